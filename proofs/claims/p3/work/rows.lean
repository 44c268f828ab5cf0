section
-- ===== PART A: goes FIRST, ahead of the names: the tables' words, and 'selects' of the private methods out of them =====
/-- a private method of a class that the tables say can be made, by its rows of tables_1 -/
def lw_okq (q : MethodName × Nat) : Prop := (q.1.cls ≠ "java/lang/invoke/MethodHandle" ∧ q.1.cls ≠ "java/lang/invoke/VarHandle") ∧ Cond.instantiable q.1.cls q.2 ∈ tables_1 ∧ Cond.privateMethod q.1 ∈ tables_1 ∧ Cond.instanceMethod q.1 ∈ tables_1
theorem lw_p0 : lw_okq (⟨"ProbeConsole$Texts", "parameters", "()I"⟩, 3) := ⟨⟨by decide +kernel, by decide +kernel⟩, List.mem_of_getElem? (i := 86) (by decide +kernel), List.mem_of_getElem? (i := 399) (by decide +kernel), List.mem_of_getElem? (i := 400) (by decide +kernel)⟩
theorem lw_p1 : lw_okq (⟨"ProbeConsole$Expressions", "expression", "()V"⟩, 7) := ⟨⟨by decide +kernel, by decide +kernel⟩, List.mem_of_getElem? (i := 92) (by decide +kernel), List.mem_of_getElem? (i := 413) (by decide +kernel), List.mem_of_getElem? (i := 414) (by decide +kernel)⟩
theorem lw_p2 : lw_okq (⟨"ProbeConsole$Expressions", "choice", "()V"⟩, 7) := ⟨⟨by decide +kernel, by decide +kernel⟩, List.mem_of_getElem? (i := 92) (by decide +kernel), List.mem_of_getElem? (i := 417) (by decide +kernel), List.mem_of_getElem? (i := 418) (by decide +kernel)⟩
theorem lw_p3 : lw_okq (⟨"ProbeConsole$Expressions", "joined", "(I)V"⟩, 7) := ⟨⟨by decide +kernel, by decide +kernel⟩, List.mem_of_getElem? (i := 92) (by decide +kernel), List.mem_of_getElem? (i := 421) (by decide +kernel), List.mem_of_getElem? (i := 422) (by decide +kernel)⟩
theorem lw_p4 : lw_okq (⟨"ProbeConsole$Expressions", "signed", "()V"⟩, 7) := ⟨⟨by decide +kernel, by decide +kernel⟩, List.mem_of_getElem? (i := 92) (by decide +kernel), List.mem_of_getElem? (i := 425) (by decide +kernel), List.mem_of_getElem? (i := 426) (by decide +kernel)⟩
theorem lw_p5 : lw_okq (⟨"ProbeConsole$Expressions", "operand", "()V"⟩, 7) := ⟨⟨by decide +kernel, by decide +kernel⟩, List.mem_of_getElem? (i := 92) (by decide +kernel), List.mem_of_getElem? (i := 430) (by decide +kernel), List.mem_of_getElem? (i := 431) (by decide +kernel)⟩
theorem lw_p6 : lw_okq (⟨"ProbeConsole$Expressions", "countNode", "(I)V"⟩, 7) := ⟨⟨by decide +kernel, by decide +kernel⟩, List.mem_of_getElem? (i := 92) (by decide +kernel), List.mem_of_getElem? (i := 449) (by decide +kernel), List.mem_of_getElem? (i := 450) (by decide +kernel)⟩
theorem lw_p7 : lw_okq (⟨"ProbeConsole$Expressions", "word", "()V"⟩, 7) := ⟨⟨by decide +kernel, by decide +kernel⟩, List.mem_of_getElem? (i := 92) (by decide +kernel), List.mem_of_getElem? (i := 465) (by decide +kernel), List.mem_of_getElem? (i := 466) (by decide +kernel)⟩
theorem lw_p8 : lw_okq (⟨"ProbeConsole$Expressions", "invocation", "()V"⟩, 7) := ⟨⟨by decide +kernel, by decide +kernel⟩, List.mem_of_getElem? (i := 92) (by decide +kernel), List.mem_of_getElem? (i := 470) (by decide +kernel), List.mem_of_getElem? (i := 471) (by decide +kernel)⟩
theorem lw_p9 : lw_okq (⟨"ProbeConsole$Expressions", "takeOpen", "()Z"⟩, 7) := ⟨⟨by decide +kernel, by decide +kernel⟩, List.mem_of_getElem? (i := 92) (by decide +kernel), List.mem_of_getElem? (i := 475) (by decide +kernel), List.mem_of_getElem? (i := 476) (by decide +kernel)⟩
theorem lw_p10 : lw_okq (⟨"ProbeConsole$Expressions", "arguments", "()I"⟩, 7) := ⟨⟨by decide +kernel, by decide +kernel⟩, List.mem_of_getElem? (i := 92) (by decide +kernel), List.mem_of_getElem? (i := 479) (by decide +kernel), List.mem_of_getElem? (i := 480) (by decide +kernel)⟩
theorem lw_p11 : lw_okq (⟨"ProbeConsole$Expressions", "variable", "()V"⟩, 7) := ⟨⟨by decide +kernel, by decide +kernel⟩, List.mem_of_getElem? (i := 92) (by decide +kernel), List.mem_of_getElem? (i := 490) (by decide +kernel), List.mem_of_getElem? (i := 491) (by decide +kernel)⟩
theorem lw_p12 : lw_okq (⟨"ProbeConsole$Expressions", "takeSign", "()I"⟩, 7) := ⟨⟨by decide +kernel, by decide +kernel⟩, List.mem_of_getElem? (i := 92) (by decide +kernel), List.mem_of_getElem? (i := 579) (by decide +kernel), List.mem_of_getElem? (i := 580) (by decide +kernel)⟩
theorem lw_p13 : lw_okq (⟨"ProbeConsole$Texts", "expectEnd", "()V"⟩, 3) := ⟨⟨by decide +kernel, by decide +kernel⟩, List.mem_of_getElem? (i := 86) (by decide +kernel), List.mem_of_getElem? (i := 595) (by decide +kernel), List.mem_of_getElem? (i := 596) (by decide +kernel)⟩
theorem lw_p14 : lw_okq (⟨"ProbeConsole$Texts", "verb", "()I"⟩, 3) := ⟨⟨by decide +kernel, by decide +kernel⟩, List.mem_of_getElem? (i := 86) (by decide +kernel), List.mem_of_getElem? (i := 660) (by decide +kernel), List.mem_of_getElem? (i := 661) (by decide +kernel)⟩
theorem lw_p15 : lw_okq (⟨"ProbeConsole$Texts", "readWatch", "(LProbeConsole$Job;)V"⟩, 3) := ⟨⟨by decide +kernel, by decide +kernel⟩, List.mem_of_getElem? (i := 86) (by decide +kernel), List.mem_of_getElem? (i := 700) (by decide +kernel), List.mem_of_getElem? (i := 701) (by decide +kernel)⟩
def lw_privs_1 : List (MethodName × Nat) := [(⟨"ProbeConsole$Texts", "parameters", "()I"⟩, 3), (⟨"ProbeConsole$Expressions", "expression", "()V"⟩, 7), (⟨"ProbeConsole$Expressions", "choice", "()V"⟩, 7), (⟨"ProbeConsole$Expressions", "joined", "(I)V"⟩, 7), (⟨"ProbeConsole$Expressions", "signed", "()V"⟩, 7), (⟨"ProbeConsole$Expressions", "operand", "()V"⟩, 7), (⟨"ProbeConsole$Expressions", "countNode", "(I)V"⟩, 7), (⟨"ProbeConsole$Expressions", "word", "()V"⟩, 7), (⟨"ProbeConsole$Expressions", "invocation", "()V"⟩, 7), (⟨"ProbeConsole$Expressions", "takeOpen", "()Z"⟩, 7), (⟨"ProbeConsole$Expressions", "arguments", "()I"⟩, 7), (⟨"ProbeConsole$Expressions", "variable", "()V"⟩, 7), (⟨"ProbeConsole$Expressions", "takeSign", "()I"⟩, 7), (⟨"ProbeConsole$Texts", "expectEnd", "()V"⟩, 3), (⟨"ProbeConsole$Texts", "verb", "()I"⟩, 3), (⟨"ProbeConsole$Texts", "readWatch", "(LProbeConsole$Job;)V"⟩, 3)]
theorem lw_r1 : ∀ q ∈ lw_privs_1, lw_okq q := List.forall_mem_cons.mpr ⟨lw_p0, List.forall_mem_cons.mpr ⟨lw_p1, List.forall_mem_cons.mpr ⟨lw_p2, List.forall_mem_cons.mpr ⟨lw_p3, List.forall_mem_cons.mpr ⟨lw_p4, List.forall_mem_cons.mpr ⟨lw_p5, List.forall_mem_cons.mpr ⟨lw_p6, List.forall_mem_cons.mpr ⟨lw_p7, List.forall_mem_cons.mpr ⟨lw_p8, List.forall_mem_cons.mpr ⟨lw_p9, List.forall_mem_cons.mpr ⟨lw_p10, List.forall_mem_cons.mpr ⟨lw_p11, List.forall_mem_cons.mpr ⟨lw_p12, List.forall_mem_cons.mpr ⟨lw_p13, List.forall_mem_cons.mpr ⟨lw_p14, List.forall_mem_cons.mpr ⟨lw_p15, fun _ h => absurd h List.not_mem_nil⟩⟩⟩⟩⟩⟩⟩⟩⟩⟩⟩⟩⟩⟩⟩⟩
theorem lw_p16 : lw_okq (⟨"ProbeConsole$Texts", "point", "()I"⟩, 3) := ⟨⟨by decide +kernel, by decide +kernel⟩, List.mem_of_getElem? (i := 86) (by decide +kernel), List.mem_of_getElem? (i := 704) (by decide +kernel), List.mem_of_getElem? (i := 705) (by decide +kernel)⟩
theorem lw_p17 : lw_okq (⟨"ProbeConsole$Texts", "pattern", "()J"⟩, 3) := ⟨⟨by decide +kernel, by decide +kernel⟩, List.mem_of_getElem? (i := 86) (by decide +kernel), List.mem_of_getElem? (i := 711) (by decide +kernel), List.mem_of_getElem? (i := 712) (by decide +kernel)⟩
theorem lw_p18 : lw_okq (⟨"ProbeConsole$Texts", "limit", "()I"⟩, 3) := ⟨⟨by decide +kernel, by decide +kernel⟩, List.mem_of_getElem? (i := 86) (by decide +kernel), List.mem_of_getElem? (i := 719) (by decide +kernel), List.mem_of_getElem? (i := 720) (by decide +kernel)⟩
theorem lw_p19 : lw_okq (⟨"java/lang/Throwable", "fillInStackTrace", "(I)Ljava/lang/Throwable;"⟩, 6) := ⟨⟨by decide +kernel, by decide +kernel⟩, List.mem_of_getElem? (i := 824) (by decide +kernel), List.mem_of_getElem? (i := 822) (by decide +kernel), List.mem_of_getElem? (i := 823) (by decide +kernel)⟩
theorem lw_p20 : lw_okq (⟨"ProbeConsole$Machine", "invoke", "(II)I"⟩, 13) := ⟨⟨by decide +kernel, by decide +kernel⟩, List.mem_of_getElem? (i := 271) (by decide +kernel), List.mem_of_getElem? (i := 891) (by decide +kernel), List.mem_of_getElem? (i := 892) (by decide +kernel)⟩
theorem lw_p21 : lw_okq (⟨"ProbeConsole$Machine", "probe", "(II[I)V"⟩, 13) := ⟨⟨by decide +kernel, by decide +kernel⟩, List.mem_of_getElem? (i := 271) (by decide +kernel), List.mem_of_getElem? (i := 895) (by decide +kernel), List.mem_of_getElem? (i := 896) (by decide +kernel)⟩
theorem lw_p22 : lw_okq (⟨"ProbeConsole$Machine", "keep", "(III[I)V"⟩, 13) := ⟨⟨by decide +kernel, by decide +kernel⟩, List.mem_of_getElem? (i := 271) (by decide +kernel), List.mem_of_getElem? (i := 907) (by decide +kernel), List.mem_of_getElem? (i := 908) (by decide +kernel)⟩
theorem lw_p23 : lw_okq (⟨"ProbeConsole$Machine", "watch", "(II[I)V"⟩, 13) := ⟨⟨by decide +kernel, by decide +kernel⟩, List.mem_of_getElem? (i := 271) (by decide +kernel), List.mem_of_getElem? (i := 923) (by decide +kernel), List.mem_of_getElem? (i := 924) (by decide +kernel)⟩
theorem lw_p24 : lw_okq (⟨"ProbeConsole$Machine", "run", "(LProbeConsole$Code;[I)I"⟩, 13) := ⟨⟨by decide +kernel, by decide +kernel⟩, List.mem_of_getElem? (i := 271) (by decide +kernel), List.mem_of_getElem? (i := 927) (by decide +kernel), List.mem_of_getElem? (i := 928) (by decide +kernel)⟩
theorem lw_p25 : lw_okq (⟨"ProbeConsole$Machine", "step", "(LProbeConsole$Code;I[I)I"⟩, 13) := ⟨⟨by decide +kernel, by decide +kernel⟩, List.mem_of_getElem? (i := 271) (by decide +kernel), List.mem_of_getElem? (i := 931) (by decide +kernel), List.mem_of_getElem? (i := 932) (by decide +kernel)⟩
theorem lw_p26 : lw_okq (⟨"ProbeConsole$Machine", "push", "(I)V"⟩, 13) := ⟨⟨by decide +kernel, by decide +kernel⟩, List.mem_of_getElem? (i := 271) (by decide +kernel), List.mem_of_getElem? (i := 935) (by decide +kernel), List.mem_of_getElem? (i := 936) (by decide +kernel)⟩
theorem lw_p27 : lw_okq (⟨"ProbeConsole$Machine", "pop", "()I"⟩, 13) := ⟨⟨by decide +kernel, by decide +kernel⟩, List.mem_of_getElem? (i := 271) (by decide +kernel), List.mem_of_getElem? (i := 940) (by decide +kernel), List.mem_of_getElem? (i := 941) (by decide +kernel)⟩
theorem lw_p28 : lw_okq (⟨"ProbeConsole$Machine", "fail", "(I)V"⟩, 13) := ⟨⟨by decide +kernel, by decide +kernel⟩, List.mem_of_getElem? (i := 271) (by decide +kernel), List.mem_of_getElem? (i := 944) (by decide +kernel), List.mem_of_getElem? (i := 945) (by decide +kernel)⟩
theorem lw_p29 : lw_okq (⟨"ProbeConsole$Machine", "invokeNamed", "(JI)V"⟩, 13) := ⟨⟨by decide +kernel, by decide +kernel⟩, List.mem_of_getElem? (i := 271) (by decide +kernel), List.mem_of_getElem? (i := 948) (by decide +kernel), List.mem_of_getElem? (i := 949) (by decide +kernel)⟩
theorem lw_p30 : lw_okq (⟨"ProbeConsole$Machine", "behindThrow", "(LProbeConsole$Code;II)I"⟩, 13) := ⟨⟨by decide +kernel, by decide +kernel⟩, List.mem_of_getElem? (i := 271) (by decide +kernel), List.mem_of_getElem? (i := 958) (by decide +kernel), List.mem_of_getElem? (i := 959) (by decide +kernel)⟩
theorem lw_p31 : lw_okq (⟨"ProbeConsoleModel", "begin", "()V"⟩, 60) := ⟨⟨by decide +kernel, by decide +kernel⟩, List.mem_of_getElem? (i := 1023) (by decide +kernel), List.mem_of_getElem? (i := 1224) (by decide +kernel), List.mem_of_getElem? (i := 1225) (by decide +kernel)⟩
def lw_privs_2 : List (MethodName × Nat) := [(⟨"ProbeConsole$Texts", "point", "()I"⟩, 3), (⟨"ProbeConsole$Texts", "pattern", "()J"⟩, 3), (⟨"ProbeConsole$Texts", "limit", "()I"⟩, 3), (⟨"java/lang/Throwable", "fillInStackTrace", "(I)Ljava/lang/Throwable;"⟩, 6), (⟨"ProbeConsole$Machine", "invoke", "(II)I"⟩, 13), (⟨"ProbeConsole$Machine", "probe", "(II[I)V"⟩, 13), (⟨"ProbeConsole$Machine", "keep", "(III[I)V"⟩, 13), (⟨"ProbeConsole$Machine", "watch", "(II[I)V"⟩, 13), (⟨"ProbeConsole$Machine", "run", "(LProbeConsole$Code;[I)I"⟩, 13), (⟨"ProbeConsole$Machine", "step", "(LProbeConsole$Code;I[I)I"⟩, 13), (⟨"ProbeConsole$Machine", "push", "(I)V"⟩, 13), (⟨"ProbeConsole$Machine", "pop", "()I"⟩, 13), (⟨"ProbeConsole$Machine", "fail", "(I)V"⟩, 13), (⟨"ProbeConsole$Machine", "invokeNamed", "(JI)V"⟩, 13), (⟨"ProbeConsole$Machine", "behindThrow", "(LProbeConsole$Code;II)I"⟩, 13), (⟨"ProbeConsoleModel", "begin", "()V"⟩, 60)]
theorem lw_r2 : ∀ q ∈ lw_privs_2, lw_okq q := List.forall_mem_cons.mpr ⟨lw_p16, List.forall_mem_cons.mpr ⟨lw_p17, List.forall_mem_cons.mpr ⟨lw_p18, List.forall_mem_cons.mpr ⟨lw_p19, List.forall_mem_cons.mpr ⟨lw_p20, List.forall_mem_cons.mpr ⟨lw_p21, List.forall_mem_cons.mpr ⟨lw_p22, List.forall_mem_cons.mpr ⟨lw_p23, List.forall_mem_cons.mpr ⟨lw_p24, List.forall_mem_cons.mpr ⟨lw_p25, List.forall_mem_cons.mpr ⟨lw_p26, List.forall_mem_cons.mpr ⟨lw_p27, List.forall_mem_cons.mpr ⟨lw_p28, List.forall_mem_cons.mpr ⟨lw_p29, List.forall_mem_cons.mpr ⟨lw_p30, List.forall_mem_cons.mpr ⟨lw_p31, fun _ h => absurd h List.not_mem_nil⟩⟩⟩⟩⟩⟩⟩⟩⟩⟩⟩⟩⟩⟩⟩⟩
theorem lw_p32 : lw_okq (⟨"ProbeConsoleModel", "rowSize", "(I)I"⟩, 60) := ⟨⟨by decide +kernel, by decide +kernel⟩, List.mem_of_getElem? (i := 1023) (by decide +kernel), List.mem_of_getElem? (i := 1228) (by decide +kernel), List.mem_of_getElem? (i := 1229) (by decide +kernel)⟩
theorem lw_p33 : lw_okq (⟨"ProbeConsoleModel", "byteAt", "(I)I"⟩, 60) := ⟨⟨by decide +kernel, by decide +kernel⟩, List.mem_of_getElem? (i := 1023) (by decide +kernel), List.mem_of_getElem? (i := 1232) (by decide +kernel), List.mem_of_getElem? (i := 1233) (by decide +kernel)⟩
theorem lw_p34 : lw_okq (⟨"ProbeConsoleModel", "fail", "(II)V"⟩, 60) := ⟨⟨by decide +kernel, by decide +kernel⟩, List.mem_of_getElem? (i := 1023) (by decide +kernel), List.mem_of_getElem? (i := 1242) (by decide +kernel), List.mem_of_getElem? (i := 1243) (by decide +kernel)⟩
theorem lw_p35 : lw_okq (⟨"ProbeConsoleModel", "isName", "(II)Z"⟩, 60) := ⟨⟨by decide +kernel, by decide +kernel⟩, List.mem_of_getElem? (i := 1023) (by decide +kernel), List.mem_of_getElem? (i := 1246) (by decide +kernel), List.mem_of_getElem? (i := 1247) (by decide +kernel)⟩
theorem lw_p36 : lw_okq (⟨"ProbeConsoleModel", "want", "(I)V"⟩, 60) := ⟨⟨by decide +kernel, by decide +kernel⟩, List.mem_of_getElem? (i := 1023) (by decide +kernel), List.mem_of_getElem? (i := 1250) (by decide +kernel), List.mem_of_getElem? (i := 1251) (by decide +kernel)⟩
theorem lw_p37 : lw_okq (⟨"ProbeConsoleModel", "readExpression", "()V"⟩, 60) := ⟨⟨by decide +kernel, by decide +kernel⟩, List.mem_of_getElem? (i := 1023) (by decide +kernel), List.mem_of_getElem? (i := 1254) (by decide +kernel), List.mem_of_getElem? (i := 1255) (by decide +kernel)⟩
theorem lw_p38 : lw_okq (⟨"ProbeConsoleModel", "ended", "()Z"⟩, 60) := ⟨⟨by decide +kernel, by decide +kernel⟩, List.mem_of_getElem? (i := 1023) (by decide +kernel), List.mem_of_getElem? (i := 1258) (by decide +kernel), List.mem_of_getElem? (i := 1259) (by decide +kernel)⟩
theorem lw_p39 : lw_okq (⟨"ProbeConsoleModel", "last", "()I"⟩, 60) := ⟨⟨by decide +kernel, by decide +kernel⟩, List.mem_of_getElem? (i := 1023) (by decide +kernel), List.mem_of_getElem? (i := 1262) (by decide +kernel), List.mem_of_getElem? (i := 1263) (by decide +kernel)⟩
theorem lw_p40 : lw_okq (⟨"ProbeConsoleModel", "readOperand", "(Z)Z"⟩, 60) := ⟨⟨by decide +kernel, by decide +kernel⟩, List.mem_of_getElem? (i := 1023) (by decide +kernel), List.mem_of_getElem? (i := 1266) (by decide +kernel), List.mem_of_getElem? (i := 1267) (by decide +kernel)⟩
theorem lw_p41 : lw_okq (⟨"ProbeConsoleModel", "close", "()V"⟩, 60) := ⟨⟨by decide +kernel, by decide +kernel⟩, List.mem_of_getElem? (i := 1023) (by decide +kernel), List.mem_of_getElem? (i := 1270) (by decide +kernel), List.mem_of_getElem? (i := 1271) (by decide +kernel)⟩
theorem lw_p42 : lw_okq (⟨"ProbeConsoleModel", "reduceAll", "()V"⟩, 60) := ⟨⟨by decide +kernel, by decide +kernel⟩, List.mem_of_getElem? (i := 1023) (by decide +kernel), List.mem_of_getElem? (i := 1274) (by decide +kernel), List.mem_of_getElem? (i := 1275) (by decide +kernel)⟩
theorem lw_p43 : lw_okq (⟨"ProbeConsoleModel", "reduceTo", "(I)V"⟩, 60) := ⟨⟨by decide +kernel, by decide +kernel⟩, List.mem_of_getElem? (i := 1023) (by decide +kernel), List.mem_of_getElem? (i := 1278) (by decide +kernel), List.mem_of_getElem? (i := 1279) (by decide +kernel)⟩
theorem lw_p44 : lw_okq (⟨"ProbeConsoleModel", "reduce", "()V"⟩, 60) := ⟨⟨by decide +kernel, by decide +kernel⟩, List.mem_of_getElem? (i := 1023) (by decide +kernel), List.mem_of_getElem? (i := 1282) (by decide +kernel), List.mem_of_getElem? (i := 1283) (by decide +kernel)⟩
theorem lw_p45 : lw_okq (⟨"ProbeConsoleModel", "put", "(IJ)V"⟩, 60) := ⟨⟨by decide +kernel, by decide +kernel⟩, List.mem_of_getElem? (i := 1023) (by decide +kernel), List.mem_of_getElem? (i := 1289) (by decide +kernel), List.mem_of_getElem? (i := 1290) (by decide +kernel)⟩
theorem lw_p46 : lw_okq (⟨"ProbeConsoleModel", "operand", "(I)V"⟩, 60) := ⟨⟨by decide +kernel, by decide +kernel⟩, List.mem_of_getElem? (i := 1023) (by decide +kernel), List.mem_of_getElem? (i := 1293) (by decide +kernel), List.mem_of_getElem? (i := 1294) (by decide +kernel)⟩
theorem lw_p47 : lw_okq (⟨"ProbeConsoleModel", "readNumber", "()V"⟩, 60) := ⟨⟨by decide +kernel, by decide +kernel⟩, List.mem_of_getElem? (i := 1023) (by decide +kernel), List.mem_of_getElem? (i := 1300) (by decide +kernel), List.mem_of_getElem? (i := 1301) (by decide +kernel)⟩
def lw_privs_3 : List (MethodName × Nat) := [(⟨"ProbeConsoleModel", "rowSize", "(I)I"⟩, 60), (⟨"ProbeConsoleModel", "byteAt", "(I)I"⟩, 60), (⟨"ProbeConsoleModel", "fail", "(II)V"⟩, 60), (⟨"ProbeConsoleModel", "isName", "(II)Z"⟩, 60), (⟨"ProbeConsoleModel", "want", "(I)V"⟩, 60), (⟨"ProbeConsoleModel", "readExpression", "()V"⟩, 60), (⟨"ProbeConsoleModel", "ended", "()Z"⟩, 60), (⟨"ProbeConsoleModel", "last", "()I"⟩, 60), (⟨"ProbeConsoleModel", "readOperand", "(Z)Z"⟩, 60), (⟨"ProbeConsoleModel", "close", "()V"⟩, 60), (⟨"ProbeConsoleModel", "reduceAll", "()V"⟩, 60), (⟨"ProbeConsoleModel", "reduceTo", "(I)V"⟩, 60), (⟨"ProbeConsoleModel", "reduce", "()V"⟩, 60), (⟨"ProbeConsoleModel", "put", "(IJ)V"⟩, 60), (⟨"ProbeConsoleModel", "operand", "(I)V"⟩, 60), (⟨"ProbeConsoleModel", "readNumber", "()V"⟩, 60)]
theorem lw_r3 : ∀ q ∈ lw_privs_3, lw_okq q := List.forall_mem_cons.mpr ⟨lw_p32, List.forall_mem_cons.mpr ⟨lw_p33, List.forall_mem_cons.mpr ⟨lw_p34, List.forall_mem_cons.mpr ⟨lw_p35, List.forall_mem_cons.mpr ⟨lw_p36, List.forall_mem_cons.mpr ⟨lw_p37, List.forall_mem_cons.mpr ⟨lw_p38, List.forall_mem_cons.mpr ⟨lw_p39, List.forall_mem_cons.mpr ⟨lw_p40, List.forall_mem_cons.mpr ⟨lw_p41, List.forall_mem_cons.mpr ⟨lw_p42, List.forall_mem_cons.mpr ⟨lw_p43, List.forall_mem_cons.mpr ⟨lw_p44, List.forall_mem_cons.mpr ⟨lw_p45, List.forall_mem_cons.mpr ⟨lw_p46, List.forall_mem_cons.mpr ⟨lw_p47, fun _ h => absurd h List.not_mem_nil⟩⟩⟩⟩⟩⟩⟩⟩⟩⟩⟩⟩⟩⟩⟩⟩
theorem lw_p48 : lw_okq (⟨"ProbeConsoleModel", "count", "(I)Z"⟩, 60) := ⟨⟨by decide +kernel, by decide +kernel⟩, List.mem_of_getElem? (i := 1023) (by decide +kernel), List.mem_of_getElem? (i := 1304) (by decide +kernel), List.mem_of_getElem? (i := 1305) (by decide +kernel)⟩
theorem lw_p49 : lw_okq (⟨"ProbeConsoleModel", "wait", "(III)V"⟩, 60) := ⟨⟨by decide +kernel, by decide +kernel⟩, List.mem_of_getElem? (i := 1023) (by decide +kernel), List.mem_of_getElem? (i := 1312) (by decide +kernel), List.mem_of_getElem? (i := 1313) (by decide +kernel)⟩
theorem lw_p50 : lw_okq (⟨"ProbeConsoleModel", "open", "(II)V"⟩, 60) := ⟨⟨by decide +kernel, by decide +kernel⟩, List.mem_of_getElem? (i := 1023) (by decide +kernel), List.mem_of_getElem? (i := 1316) (by decide +kernel), List.mem_of_getElem? (i := 1317) (by decide +kernel)⟩
theorem lw_p51 : lw_okq (⟨"ProbeConsoleModel", "readRow", "()Z"⟩, 60) := ⟨⟨by decide +kernel, by decide +kernel⟩, List.mem_of_getElem? (i := 1023) (by decide +kernel), List.mem_of_getElem? (i := 1320) (by decide +kernel), List.mem_of_getElem? (i := 1321) (by decide +kernel)⟩
theorem lw_p52 : lw_okq (⟨"ProbeConsoleModel", "variableOf", "(I)I"⟩, 60) := ⟨⟨by decide +kernel, by decide +kernel⟩, List.mem_of_getElem? (i := 1023) (by decide +kernel), List.mem_of_getElem? (i := 1324) (by decide +kernel), List.mem_of_getElem? (i := 1325) (by decide +kernel)⟩
theorem lw_p53 : lw_okq (⟨"ProbeConsoleModel", "readSign", "()Z"⟩, 60) := ⟨⟨by decide +kernel, by decide +kernel⟩, List.mem_of_getElem? (i := 1023) (by decide +kernel), List.mem_of_getElem? (i := 1328) (by decide +kernel), List.mem_of_getElem? (i := 1329) (by decide +kernel)⟩
theorem lw_p54 : lw_okq (⟨"ProbeConsoleModel", "hash", "()V"⟩, 60) := ⟨⟨by decide +kernel, by decide +kernel⟩, List.mem_of_getElem? (i := 1023) (by decide +kernel), List.mem_of_getElem? (i := 1332) (by decide +kernel), List.mem_of_getElem? (i := 1333) (by decide +kernel)⟩
theorem lw_p55 : lw_okq (⟨"ProbeConsoleModel", "question", "()V"⟩, 60) := ⟨⟨by decide +kernel, by decide +kernel⟩, List.mem_of_getElem? (i := 1023) (by decide +kernel), List.mem_of_getElem? (i := 1336) (by decide +kernel), List.mem_of_getElem? (i := 1337) (by decide +kernel)⟩
theorem lw_p56 : lw_okq (⟨"ProbeConsoleModel", "colon", "()V"⟩, 60) := ⟨⟨by decide +kernel, by decide +kernel⟩, List.mem_of_getElem? (i := 1023) (by decide +kernel), List.mem_of_getElem? (i := 1340) (by decide +kernel), List.mem_of_getElem? (i := 1341) (by decide +kernel)⟩
theorem lw_p57 : lw_okq (⟨"ProbeConsoleModel", "between", "(II)V"⟩, 60) := ⟨⟨by decide +kernel, by decide +kernel⟩, List.mem_of_getElem? (i := 1023) (by decide +kernel), List.mem_of_getElem? (i := 1344) (by decide +kernel), List.mem_of_getElem? (i := 1345) (by decide +kernel)⟩
theorem lw_p58 : lw_okq (⟨"ProbeConsoleModel", "comma", "()V"⟩, 60) := ⟨⟨by decide +kernel, by decide +kernel⟩, List.mem_of_getElem? (i := 1023) (by decide +kernel), List.mem_of_getElem? (i := 1348) (by decide +kernel), List.mem_of_getElem? (i := 1349) (by decide +kernel)⟩
theorem lw_p59 : lw_okq (⟨"ProbeConsoleModel", "findMethod", "(JI)I"⟩, 60) := ⟨⟨by decide +kernel, by decide +kernel⟩, List.mem_of_getElem? (i := 1023) (by decide +kernel), List.mem_of_getElem? (i := 1352) (by decide +kernel), List.mem_of_getElem? (i := 1353) (by decide +kernel)⟩
theorem lw_p60 : lw_okq (⟨"ProbeConsoleModel", "keepExpression", "(I)V"⟩, 60) := ⟨⟨by decide +kernel, by decide +kernel⟩, List.mem_of_getElem? (i := 1023) (by decide +kernel), List.mem_of_getElem? (i := 1356) (by decide +kernel), List.mem_of_getElem? (i := 1357) (by decide +kernel)⟩
theorem lw_p61 : lw_okq (⟨"ProbeConsoleModel", "skip", "()V"⟩, 60) := ⟨⟨by decide +kernel, by decide +kernel⟩, List.mem_of_getElem? (i := 1023) (by decide +kernel), List.mem_of_getElem? (i := 1364) (by decide +kernel), List.mem_of_getElem? (i := 1365) (by decide +kernel)⟩
theorem lw_p62 : lw_okq (⟨"ProbeConsoleModel", "rowAt", "(I)J"⟩, 60) := ⟨⟨by decide +kernel, by decide +kernel⟩, List.mem_of_getElem? (i := 1023) (by decide +kernel), List.mem_of_getElem? (i := 1368) (by decide +kernel), List.mem_of_getElem? (i := 1369) (by decide +kernel)⟩
theorem lw_p63 : lw_okq (⟨"ProbeConsoleModel", "endsAt", "(I)Z"⟩, 60) := ⟨⟨by decide +kernel, by decide +kernel⟩, List.mem_of_getElem? (i := 1023) (by decide +kernel), List.mem_of_getElem? (i := 1376) (by decide +kernel), List.mem_of_getElem? (i := 1377) (by decide +kernel)⟩
def lw_privs_4 : List (MethodName × Nat) := [(⟨"ProbeConsoleModel", "count", "(I)Z"⟩, 60), (⟨"ProbeConsoleModel", "wait", "(III)V"⟩, 60), (⟨"ProbeConsoleModel", "open", "(II)V"⟩, 60), (⟨"ProbeConsoleModel", "readRow", "()Z"⟩, 60), (⟨"ProbeConsoleModel", "variableOf", "(I)I"⟩, 60), (⟨"ProbeConsoleModel", "readSign", "()Z"⟩, 60), (⟨"ProbeConsoleModel", "hash", "()V"⟩, 60), (⟨"ProbeConsoleModel", "question", "()V"⟩, 60), (⟨"ProbeConsoleModel", "colon", "()V"⟩, 60), (⟨"ProbeConsoleModel", "between", "(II)V"⟩, 60), (⟨"ProbeConsoleModel", "comma", "()V"⟩, 60), (⟨"ProbeConsoleModel", "findMethod", "(JI)I"⟩, 60), (⟨"ProbeConsoleModel", "keepExpression", "(I)V"⟩, 60), (⟨"ProbeConsoleModel", "skip", "()V"⟩, 60), (⟨"ProbeConsoleModel", "rowAt", "(I)J"⟩, 60), (⟨"ProbeConsoleModel", "endsAt", "(I)Z"⟩, 60)]
theorem lw_r4 : ∀ q ∈ lw_privs_4, lw_okq q := List.forall_mem_cons.mpr ⟨lw_p48, List.forall_mem_cons.mpr ⟨lw_p49, List.forall_mem_cons.mpr ⟨lw_p50, List.forall_mem_cons.mpr ⟨lw_p51, List.forall_mem_cons.mpr ⟨lw_p52, List.forall_mem_cons.mpr ⟨lw_p53, List.forall_mem_cons.mpr ⟨lw_p54, List.forall_mem_cons.mpr ⟨lw_p55, List.forall_mem_cons.mpr ⟨lw_p56, List.forall_mem_cons.mpr ⟨lw_p57, List.forall_mem_cons.mpr ⟨lw_p58, List.forall_mem_cons.mpr ⟨lw_p59, List.forall_mem_cons.mpr ⟨lw_p60, List.forall_mem_cons.mpr ⟨lw_p61, List.forall_mem_cons.mpr ⟨lw_p62, List.forall_mem_cons.mpr ⟨lw_p63, fun _ h => absurd h List.not_mem_nil⟩⟩⟩⟩⟩⟩⟩⟩⟩⟩⟩⟩⟩⟩⟩⟩
theorem lw_p64 : lw_okq (⟨"ProbeConsoleModel", "watch", "()I"⟩, 60) := ⟨⟨by decide +kernel, by decide +kernel⟩, List.mem_of_getElem? (i := 1023) (by decide +kernel), List.mem_of_getElem? (i := 1380) (by decide +kernel), List.mem_of_getElem? (i := 1381) (by decide +kernel)⟩
theorem lw_p65 : lw_okq (⟨"ProbeConsoleModel", "readPoint", "()I"⟩, 60) := ⟨⟨by decide +kernel, by decide +kernel⟩, List.mem_of_getElem? (i := 1023) (by decide +kernel), List.mem_of_getElem? (i := 1384) (by decide +kernel), List.mem_of_getElem? (i := 1385) (by decide +kernel)⟩
theorem lw_p66 : lw_okq (⟨"ProbeConsoleModel", "readPattern", "()V"⟩, 60) := ⟨⟨by decide +kernel, by decide +kernel⟩, List.mem_of_getElem? (i := 1023) (by decide +kernel), List.mem_of_getElem? (i := 1388) (by decide +kernel), List.mem_of_getElem? (i := 1389) (by decide +kernel)⟩
theorem lw_p67 : lw_okq (⟨"ProbeConsoleModel", "freeJob", "()I"⟩, 60) := ⟨⟨by decide +kernel, by decide +kernel⟩, List.mem_of_getElem? (i := 1023) (by decide +kernel), List.mem_of_getElem? (i := 1392) (by decide +kernel), List.mem_of_getElem? (i := 1393) (by decide +kernel)⟩
theorem lw_p68 : lw_okq (⟨"ProbeConsoleModel", "smallNumber", "(I)I"⟩, 60) := ⟨⟨by decide +kernel, by decide +kernel⟩, List.mem_of_getElem? (i := 1023) (by decide +kernel), List.mem_of_getElem? (i := 1396) (by decide +kernel), List.mem_of_getElem? (i := 1397) (by decide +kernel)⟩
theorem lw_p69 : lw_okq (⟨"ProbeConsoleModel", "wantBlank", "()V"⟩, 60) := ⟨⟨by decide +kernel, by decide +kernel⟩, List.mem_of_getElem? (i := 1023) (by decide +kernel), List.mem_of_getElem? (i := 1400) (by decide +kernel), List.mem_of_getElem? (i := 1401) (by decide +kernel)⟩
theorem lw_p70 : lw_okq (⟨"ProbeConsoleModel", "wantEnd", "()V"⟩, 60) := ⟨⟨by decide +kernel, by decide +kernel⟩, List.mem_of_getElem? (i := 1023) (by decide +kernel), List.mem_of_getElem? (i := 1404) (by decide +kernel), List.mem_of_getElem? (i := 1405) (by decide +kernel)⟩
theorem lw_p71 : lw_okq (⟨"ProbeConsoleModel", "newJob", "(II)I"⟩, 60) := ⟨⟨by decide +kernel, by decide +kernel⟩, List.mem_of_getElem? (i := 1023) (by decide +kernel), List.mem_of_getElem? (i := 1408) (by decide +kernel), List.mem_of_getElem? (i := 1409) (by decide +kernel)⟩
theorem lw_p72 : lw_okq (⟨"ProbeConsoleModel", "simple", "(I)I"⟩, 60) := ⟨⟨by decide +kernel, by decide +kernel⟩, List.mem_of_getElem? (i := 1023) (by decide +kernel), List.mem_of_getElem? (i := 1412) (by decide +kernel), List.mem_of_getElem? (i := 1413) (by decide +kernel)⟩
theorem lw_p73 : lw_okq (⟨"ProbeConsoleModel", "kill", "()I"⟩, 60) := ⟨⟨by decide +kernel, by decide +kernel⟩, List.mem_of_getElem? (i := 1023) (by decide +kernel), List.mem_of_getElem? (i := 1416) (by decide +kernel), List.mem_of_getElem? (i := 1417) (by decide +kernel)⟩
theorem lw_p74 : lw_okq (⟨"ProbeConsoleModel", "reset", "()I"⟩, 60) := ⟨⟨by decide +kernel, by decide +kernel⟩, List.mem_of_getElem? (i := 1023) (by decide +kernel), List.mem_of_getElem? (i := 1420) (by decide +kernel), List.mem_of_getElem? (i := 1421) (by decide +kernel)⟩
theorem lw_p75 : lw_okq (⟨"ProbeConsoleModel", "play", "(IIIIZ)I"⟩, 60) := ⟨⟨by decide +kernel, by decide +kernel⟩, List.mem_of_getElem? (i := 1023) (by decide +kernel), List.mem_of_getElem? (i := 1436) (by decide +kernel), List.mem_of_getElem? (i := 1437) (by decide +kernel)⟩
theorem lw_p76 : lw_okq (⟨"ProbeConsoleModel", "enter", "(I)V"⟩, 60) := ⟨⟨by decide +kernel, by decide +kernel⟩, List.mem_of_getElem? (i := 1023) (by decide +kernel), List.mem_of_getElem? (i := 1440) (by decide +kernel), List.mem_of_getElem? (i := 1441) (by decide +kernel)⟩
theorem lw_p77 : lw_okq (⟨"ProbeConsoleModel", "probe", "(III)V"⟩, 60) := ⟨⟨by decide +kernel, by decide +kernel⟩, List.mem_of_getElem? (i := 1023) (by decide +kernel), List.mem_of_getElem? (i := 1444) (by decide +kernel), List.mem_of_getElem? (i := 1445) (by decide +kernel)⟩
theorem lw_p78 : lw_okq (⟨"ProbeConsoleModel", "fits", "(II)Z"⟩, 60) := ⟨⟨by decide +kernel, by decide +kernel⟩, List.mem_of_getElem? (i := 1023) (by decide +kernel), List.mem_of_getElem? (i := 1448) (by decide +kernel), List.mem_of_getElem? (i := 1449) (by decide +kernel)⟩
theorem lw_p79 : lw_okq (⟨"ProbeConsoleModel", "nameSize", "(I)I"⟩, 60) := ⟨⟨by decide +kernel, by decide +kernel⟩, List.mem_of_getElem? (i := 1023) (by decide +kernel), List.mem_of_getElem? (i := 1452) (by decide +kernel), List.mem_of_getElem? (i := 1453) (by decide +kernel)⟩
def lw_privs_5 : List (MethodName × Nat) := [(⟨"ProbeConsoleModel", "watch", "()I"⟩, 60), (⟨"ProbeConsoleModel", "readPoint", "()I"⟩, 60), (⟨"ProbeConsoleModel", "readPattern", "()V"⟩, 60), (⟨"ProbeConsoleModel", "freeJob", "()I"⟩, 60), (⟨"ProbeConsoleModel", "smallNumber", "(I)I"⟩, 60), (⟨"ProbeConsoleModel", "wantBlank", "()V"⟩, 60), (⟨"ProbeConsoleModel", "wantEnd", "()V"⟩, 60), (⟨"ProbeConsoleModel", "newJob", "(II)I"⟩, 60), (⟨"ProbeConsoleModel", "simple", "(I)I"⟩, 60), (⟨"ProbeConsoleModel", "kill", "()I"⟩, 60), (⟨"ProbeConsoleModel", "reset", "()I"⟩, 60), (⟨"ProbeConsoleModel", "play", "(IIIIZ)I"⟩, 60), (⟨"ProbeConsoleModel", "enter", "(I)V"⟩, 60), (⟨"ProbeConsoleModel", "probe", "(III)V"⟩, 60), (⟨"ProbeConsoleModel", "fits", "(II)Z"⟩, 60), (⟨"ProbeConsoleModel", "nameSize", "(I)I"⟩, 60)]
theorem lw_r5 : ∀ q ∈ lw_privs_5, lw_okq q := List.forall_mem_cons.mpr ⟨lw_p64, List.forall_mem_cons.mpr ⟨lw_p65, List.forall_mem_cons.mpr ⟨lw_p66, List.forall_mem_cons.mpr ⟨lw_p67, List.forall_mem_cons.mpr ⟨lw_p68, List.forall_mem_cons.mpr ⟨lw_p69, List.forall_mem_cons.mpr ⟨lw_p70, List.forall_mem_cons.mpr ⟨lw_p71, List.forall_mem_cons.mpr ⟨lw_p72, List.forall_mem_cons.mpr ⟨lw_p73, List.forall_mem_cons.mpr ⟨lw_p74, List.forall_mem_cons.mpr ⟨lw_p75, List.forall_mem_cons.mpr ⟨lw_p76, List.forall_mem_cons.mpr ⟨lw_p77, List.forall_mem_cons.mpr ⟨lw_p78, List.forall_mem_cons.mpr ⟨lw_p79, fun _ h => absurd h List.not_mem_nil⟩⟩⟩⟩⟩⟩⟩⟩⟩⟩⟩⟩⟩⟩⟩⟩
theorem lw_p80 : lw_okq (⟨"ProbeConsoleModel", "starred", "(II)I"⟩, 60) := ⟨⟨by decide +kernel, by decide +kernel⟩, List.mem_of_getElem? (i := 1023) (by decide +kernel), List.mem_of_getElem? (i := 1456) (by decide +kernel), List.mem_of_getElem? (i := 1457) (by decide +kernel)⟩
theorem lw_p81 : lw_okq (⟨"ProbeConsoleModel", "nameByte", "(III)I"⟩, 60) := ⟨⟨by decide +kernel, by decide +kernel⟩, List.mem_of_getElem? (i := 1023) (by decide +kernel), List.mem_of_getElem? (i := 1460) (by decide +kernel), List.mem_of_getElem? (i := 1461) (by decide +kernel)⟩
theorem lw_p82 : lw_okq (⟨"ProbeConsoleModel", "watchOne", "(II)V"⟩, 60) := ⟨⟨by decide +kernel, by decide +kernel⟩, List.mem_of_getElem? (i := 1023) (by decide +kernel), List.mem_of_getElem? (i := 1465) (by decide +kernel), List.mem_of_getElem? (i := 1466) (by decide +kernel)⟩
theorem lw_p83 : lw_okq (⟨"ProbeConsoleModel", "probeExpression", "(I)V"⟩, 60) := ⟨⟨by decide +kernel, by decide +kernel⟩, List.mem_of_getElem? (i := 1023) (by decide +kernel), List.mem_of_getElem? (i := 1469) (by decide +kernel), List.mem_of_getElem? (i := 1470) (by decide +kernel)⟩
theorem lw_p84 : lw_okq (⟨"ProbeConsoleModel", "record", "(III)V"⟩, 60) := ⟨⟨by decide +kernel, by decide +kernel⟩, List.mem_of_getElem? (i := 1023) (by decide +kernel), List.mem_of_getElem? (i := 1479) (by decide +kernel), List.mem_of_getElem? (i := 1480) (by decide +kernel)⟩
theorem lw_p85 : lw_okq (⟨"ProbeConsoleModel", "keepOne", "(IIII)V"⟩, 60) := ⟨⟨by decide +kernel, by decide +kernel⟩, List.mem_of_getElem? (i := 1023) (by decide +kernel), List.mem_of_getElem? (i := 1483) (by decide +kernel), List.mem_of_getElem? (i := 1484) (by decide +kernel)⟩
theorem lw_p86 : lw_okq (⟨"ProbeConsoleModel", "step", "()V"⟩, 60) := ⟨⟨by decide +kernel, by decide +kernel⟩, List.mem_of_getElem? (i := 1023) (by decide +kernel), List.mem_of_getElem? (i := 1487) (by decide +kernel), List.mem_of_getElem? (i := 1488) (by decide +kernel)⟩
theorem lw_p87 : lw_okq (⟨"ProbeConsoleModel", "leave", "()V"⟩, 60) := ⟨⟨by decide +kernel, by decide +kernel⟩, List.mem_of_getElem? (i := 1023) (by decide +kernel), List.mem_of_getElem? (i := 1491) (by decide +kernel), List.mem_of_getElem? (i := 1492) (by decide +kernel)⟩
theorem lw_p88 : lw_okq (⟨"ProbeConsoleModel", "push", "(I)V"⟩, 60) := ⟨⟨by decide +kernel, by decide +kernel⟩, List.mem_of_getElem? (i := 1023) (by decide +kernel), List.mem_of_getElem? (i := 1495) (by decide +kernel), List.mem_of_getElem? (i := 1496) (by decide +kernel)⟩
theorem lw_p89 : lw_okq (⟨"ProbeConsoleModel", "throwUp", "(I)V"⟩, 60) := ⟨⟨by decide +kernel, by decide +kernel⟩, List.mem_of_getElem? (i := 1023) (by decide +kernel), List.mem_of_getElem? (i := 1499) (by decide +kernel), List.mem_of_getElem? (i := 1500) (by decide +kernel)⟩
theorem lw_p90 : lw_okq (⟨"ProbeConsoleModel", "invoke", "(J)V"⟩, 60) := ⟨⟨by decide +kernel, by decide +kernel⟩, List.mem_of_getElem? (i := 1023) (by decide +kernel), List.mem_of_getElem? (i := 1503) (by decide +kernel), List.mem_of_getElem? (i := 1504) (by decide +kernel)⟩
theorem lw_p91 : lw_okq (⟨"ProbeConsoleModel", "throwAll", "(I)V"⟩, 60) := ⟨⟨by decide +kernel, by decide +kernel⟩, List.mem_of_getElem? (i := 1023) (by decide +kernel), List.mem_of_getElem? (i := 1508) (by decide +kernel), List.mem_of_getElem? (i := 1509) (by decide +kernel)⟩
def lw_privs_6 : List (MethodName × Nat) := [(⟨"ProbeConsoleModel", "starred", "(II)I"⟩, 60), (⟨"ProbeConsoleModel", "nameByte", "(III)I"⟩, 60), (⟨"ProbeConsoleModel", "watchOne", "(II)V"⟩, 60), (⟨"ProbeConsoleModel", "probeExpression", "(I)V"⟩, 60), (⟨"ProbeConsoleModel", "record", "(III)V"⟩, 60), (⟨"ProbeConsoleModel", "keepOne", "(IIII)V"⟩, 60), (⟨"ProbeConsoleModel", "step", "()V"⟩, 60), (⟨"ProbeConsoleModel", "leave", "()V"⟩, 60), (⟨"ProbeConsoleModel", "push", "(I)V"⟩, 60), (⟨"ProbeConsoleModel", "throwUp", "(I)V"⟩, 60), (⟨"ProbeConsoleModel", "invoke", "(J)V"⟩, 60), (⟨"ProbeConsoleModel", "throwAll", "(I)V"⟩, 60)]
theorem lw_r6 : ∀ q ∈ lw_privs_6, lw_okq q := List.forall_mem_cons.mpr ⟨lw_p80, List.forall_mem_cons.mpr ⟨lw_p81, List.forall_mem_cons.mpr ⟨lw_p82, List.forall_mem_cons.mpr ⟨lw_p83, List.forall_mem_cons.mpr ⟨lw_p84, List.forall_mem_cons.mpr ⟨lw_p85, List.forall_mem_cons.mpr ⟨lw_p86, List.forall_mem_cons.mpr ⟨lw_p87, List.forall_mem_cons.mpr ⟨lw_p88, List.forall_mem_cons.mpr ⟨lw_p89, List.forall_mem_cons.mpr ⟨lw_p90, List.forall_mem_cons.mpr ⟨lw_p91, fun _ h => absurd h List.not_mem_nil⟩⟩⟩⟩⟩⟩⟩⟩⟩⟩⟩⟩
def lw_privs : List (MethodName × Nat) := lw_privs_1 ++ (lw_privs_2 ++ (lw_privs_3 ++ (lw_privs_4 ++ (lw_privs_5 ++ (lw_privs_6)))))
def lw_tbl : List Cond := k2_sels lw_privs ++ tables_1
theorem lw_privs_ok : ∀ q ∈ lw_privs, lw_okq q := by
  show ∀ q ∈ lw_privs_1 ++ (lw_privs_2 ++ (lw_privs_3 ++ (lw_privs_4 ++ (lw_privs_5 ++ (lw_privs_6))))), lw_okq q
  exact List.forall_mem_append.mpr ⟨lw_r1, List.forall_mem_append.mpr ⟨lw_r2, List.forall_mem_append.mpr ⟨lw_r3, List.forall_mem_append.mpr ⟨lw_r4, List.forall_mem_append.mpr ⟨lw_r5, lw_r6⟩⟩⟩⟩⟩
end
section
def RX0 : String := "ProbeConsole$Code"
def TX0 : u_T := fun k => match k with
  | 0 => ("ProbeConsole$Code", "operations", "[I", true)
  | 1 => ("ProbeConsole$Code", "operands", "[J", true)
  | 2 => ("ProbeConsole$Code", "starts", "[I", true)
  | 3 => ("ProbeConsole$Code", "heights", "[I", true)
  | 4 => ("ProbeConsole$Code", "length", "I", false)
  | _ => ("ProbeConsole$Code", "height", "I", false)
def tyX0 : Nat → FieldType := fun k => match k with
  | 0 => .array .int
  | 1 => .array .long
  | 2 => .array .int
  | 3 => .array .int
  | 4 => .int
  | _ => .int
abbrev wsX00 : List Cond := u_ws RX0 TX0 6
theorem nmX0 : ∀ a, a < 6 → ∀ b, b < 6 → a ≠ b → (TX0 a).2.1 ≠ (TX0 b).2.1 := by decide +kernel
theorem tyX0_ok : ∀ k, k < 6 → parseFieldDescriptor (TX0 k).2.2.1 = some (tyX0 k) := by decide +kernel
abbrev cX0_init : ByteArray := prog_2_method_1_code
def yX0_init : MethodName := ⟨RX0, "<init>", "()V"⟩
abbrev cX0_empty : ByteArray := prog_2_method_2_code
def yX0_empty : MethodName := ⟨RX0, "empty", "()V"⟩
abbrev cX0_add : ByteArray := prog_2_method_3_code
def yX0_add : MethodName := ⟨RX0, "add", "(IJ)I"⟩
abbrev cX0_addOrElse : ByteArray := prog_2_method_4_code
def yX0_addOrElse : MethodName := ⟨RX0, "addOrElse", "(I)I"⟩
abbrev cX0_leadHere : ByteArray := prog_2_method_5_code
def yX0_leadHere : MethodName := ⟨RX0, "leadHere", "(I)V"⟩
abbrev cX0_behindThrow : ByteArray := prog_2_method_6_code
def yX0_behindThrow : MethodName := ⟨RX0, "behindThrow", "(I)I"⟩
abbrev cX0_rise : ByteArray := prog_2_method_7_code
def yX0_rise : MethodName := ⟨RX0, "rise", "(IJ)I"⟩
def RX1 : String := "ProbeConsole$Expressions"
def TX1 : u_T := fun k => match k with
  | 0 => ("ProbeConsole$Expressions", "reader", "LProbeConsole$Reader;", true)
  | 1 => ("ProbeConsole$Expressions", "code", "LProbeConsole$Code;", false)
  | 2 => ("ProbeConsole$Expressions", "known", "I", false)
  | 3 => ("ProbeConsole$Expressions", "named", "Z", false)
  | 4 => ("ProbeConsole$Expressions", "nodes", "I", false)
  | 5 => ("ProbeConsole$Expressions", "open", "I", false)
  | _ => ("ProbeConsole$Expressions", "barred", "Z", false)
def tyX1 : Nat → FieldType := fun k => match k with
  | 0 => .object "ProbeConsole$Reader"
  | 1 => .object "ProbeConsole$Code"
  | 2 => .int
  | 3 => .boolean
  | 4 => .int
  | 5 => .int
  | _ => .boolean
abbrev wsX10 : List Cond := u_ws RX1 TX1 7
theorem nmX1 : ∀ a, a < 7 → ∀ b, b < 7 → a ≠ b → (TX1 a).2.1 ≠ (TX1 b).2.1 := by decide +kernel
theorem tyX1_ok : ∀ k, k < 7 → parseFieldDescriptor (TX1 k).2.2.1 = some (tyX1 k) := by decide +kernel
abbrev cX1_init : ByteArray := prog_3_method_1_code
def yX1_init : MethodName := ⟨RX1, "<init>", "(LProbeConsole$Reader;LProbeConsole$Code;)V"⟩
abbrev cX1_read : ByteArray := prog_3_method_2_code
def yX1_read : MethodName := ⟨RX1, "read", "(LProbeConsole$Code;IZ)V"⟩
abbrev cX1_expression : ByteArray := prog_3_method_3_code
def yX1_expression : MethodName := ⟨RX1, "expression", "()V"⟩
abbrev cX1_choice : ByteArray := prog_3_method_4_code
def yX1_choice : MethodName := ⟨RX1, "choice", "()V"⟩
abbrev cX1_joined : ByteArray := prog_3_method_5_code
def yX1_joined : MethodName := ⟨RX1, "joined", "(I)V"⟩
abbrev cX1_kindOf : ByteArray := prog_3_method_6_code
def yX1_kindOf : MethodName := ⟨RX1, "kindOf", "(I)I"⟩
abbrev cX1_signed : ByteArray := prog_3_method_7_code
def yX1_signed : MethodName := ⟨RX1, "signed", "()V"⟩
abbrev cX1_operand : ByteArray := prog_3_method_8_code
def yX1_operand : MethodName := ⟨RX1, "operand", "()V"⟩
abbrev cX1_word : ByteArray := prog_3_method_9_code
def yX1_word : MethodName := ⟨RX1, "word", "()V"⟩
abbrev cX1_variable : ByteArray := prog_3_method_10_code
def yX1_variable : MethodName := ⟨RX1, "variable", "()V"⟩
abbrev cX1_invocation : ByteArray := prog_3_method_11_code
def yX1_invocation : MethodName := ⟨RX1, "invocation", "()V"⟩
abbrev cX1_arguments : ByteArray := prog_3_method_12_code
def yX1_arguments : MethodName := ⟨RX1, "arguments", "()I"⟩
abbrev cX1_takeSign : ByteArray := prog_3_method_13_code
def yX1_takeSign : MethodName := ⟨RX1, "takeSign", "()I"⟩
abbrev cX1_countNode : ByteArray := prog_3_method_14_code
def yX1_countNode : MethodName := ⟨RX1, "countNode", "(I)V"⟩
abbrev cX1_takeOpen : ByteArray := prog_3_method_15_code
def yX1_takeOpen : MethodName := ⟨RX1, "takeOpen", "()Z"⟩
def RX2 : String := "ProbeConsole$Job"
def TX2 : u_T := fun k => match k with
  | 0 => ("ProbeConsole$Job", "kind", "I", false)
  | 1 => ("ProbeConsole$Job", "point", "I", false)
  | 2 => ("ProbeConsole$Job", "pattern", "J", false)
  | 3 => ("ProbeConsole$Job", "expression", "LProbeConsole$Code;", true)
  | 4 => ("ProbeConsole$Job", "condition", "LProbeConsole$Code;", true)
  | 5 => ("ProbeConsole$Job", "conditional", "Z", false)
  | 6 => ("ProbeConsole$Job", "limit", "I", false)
  | 7 => ("ProbeConsole$Job", "made", "I", false)
  | 8 => ("ProbeConsole$Job", "counts", "[I", true)
  | _ => ("ProbeConsole$Job", "fitting", "I", false)
def tyX2 : Nat → FieldType := fun k => match k with
  | 0 => .int
  | 1 => .int
  | 2 => .long
  | 3 => .object "ProbeConsole$Code"
  | 4 => .object "ProbeConsole$Code"
  | 5 => .boolean
  | 6 => .int
  | 7 => .int
  | 8 => .array .int
  | _ => .int
abbrev wsX20 : List Cond := u_ws RX2 TX2 10
theorem nmX2 : ∀ a, a < 10 → ∀ b, b < 10 → a ≠ b → (TX2 a).2.1 ≠ (TX2 b).2.1 := by decide +kernel
theorem tyX2_ok : ∀ k, k < 10 → parseFieldDescriptor (TX2 k).2.2.1 = some (tyX2 k) := by decide +kernel
abbrev cX2_init : ByteArray := prog_4_method_1_code
def yX2_init : MethodName := ⟨RX2, "<init>", "()V"⟩
abbrev cX2_renew : ByteArray := prog_4_method_2_code
def yX2_renew : MethodName := ⟨RX2, "renew", "()V"⟩
abbrev cX2_meet : ByteArray := prog_4_method_3_code
def yX2_meet : MethodName := ⟨RX2, "meet", "(IJ)V"⟩
abbrev cX2_sees : ByteArray := prog_4_method_4_code
def yX2_sees : MethodName := ⟨RX2, "sees", "(I)Z"⟩
abbrev cX2_left : ByteArray := prog_4_method_5_code
def yX2_left : MethodName := ⟨RX2, "left", "()I"⟩
abbrev cX2_countRecord : ByteArray := prog_4_method_6_code
def yX2_countRecord : MethodName := ⟨RX2, "countRecord", "()V"⟩
def RX3 : String := "ProbeConsole$Jobs"
def TX3 : u_T := fun k => match k with
  | 0 => ("ProbeConsole$Jobs", "jobs", "[LProbeConsole$Job;", true)
  | _ => ("ProbeConsole$Jobs", "spare", "LProbeConsole$Job;", false)
def tyX3 : Nat → FieldType := fun k => match k with
  | 0 => .array (.object "ProbeConsole$Job")
  | _ => .object "ProbeConsole$Job"
abbrev wsX30 : List Cond := u_ws RX3 TX3 2
theorem nmX3 : ∀ a, a < 2 → ∀ b, b < 2 → a ≠ b → (TX3 a).2.1 ≠ (TX3 b).2.1 := by decide +kernel
theorem tyX3_ok : ∀ k, k < 2 → parseFieldDescriptor (TX3 k).2.2.1 = some (tyX3 k) := by decide +kernel
abbrev cX3_init : ByteArray := prog_5_method_1_code
def yX3_init : MethodName := ⟨RX3, "<init>", "()V"⟩
abbrev cX3_has : ByteArray := prog_5_method_2_code
def yX3_has : MethodName := ⟨RX3, "has", "(I)Z"⟩
abbrev cX3_at : ByteArray := prog_5_method_3_code
def yX3_at : MethodName := ⟨RX3, "at", "(I)LProbeConsole$Job;"⟩
abbrev cX3_begun : ByteArray := prog_5_method_4_code
def yX3_begun : MethodName := ⟨RX3, "begun", "(LProbeConsole$Methods;)I"⟩
abbrev cX3_ended : ByteArray := prog_5_method_5_code
def yX3_ended : MethodName := ⟨RX3, "ended", "(I)I"⟩
abbrev cX3_endAll : ByteArray := prog_5_method_6_code
def yX3_endAll : MethodName := ⟨RX3, "endAll", "()I"⟩
abbrev cX3_meet : ByteArray := prog_5_method_7_code
def yX3_meet : MethodName := ⟨RX3, "meet", "(IJ)V"⟩
def RX4 : String := "ProbeConsole$Machine"
def TX4 : u_T := fun k => match k with
  | 0 => ("ProbeConsole$Machine", "outcome", "I", false)
  | 1 => ("ProbeConsole$Machine", "invocations", "I", false)
  | 2 => ("ProbeConsole$Machine", "methods", "LProbeConsole$Methods;", true)
  | 3 => ("ProbeConsole$Machine", "jobs", "LProbeConsole$Jobs;", true)
  | 4 => ("ProbeConsole$Machine", "records", "LProbeConsole$Rows;", true)
  | 5 => ("ProbeConsole$Machine", "keeps", "LProbeConsole$Rows;", true)
  | 6 => ("ProbeConsole$Machine", "variables", "[[I", true)
  | 7 => ("ProbeConsole$Machine", "stack", "[I", true)
  | 8 => ("ProbeConsole$Machine", "height", "I", false)
  | 9 => ("ProbeConsole$Machine", "probed", "Z", false)
  | 10 => ("ProbeConsole$Machine", "threw", "Z", false)
  | 11 => ("ProbeConsole$Machine", "thrown", "I", false)
  | _ => ("ProbeConsole$Machine", "stopped", "Z", false)
def tyX4 : Nat → FieldType := fun k => match k with
  | 0 => .int
  | 1 => .int
  | 2 => .object "ProbeConsole$Methods"
  | 3 => .object "ProbeConsole$Jobs"
  | 4 => .object "ProbeConsole$Rows"
  | 5 => .object "ProbeConsole$Rows"
  | 6 => .array (.array .int)
  | 7 => .array .int
  | 8 => .int
  | 9 => .boolean
  | 10 => .boolean
  | 11 => .int
  | _ => .boolean
abbrev wsX40 : List Cond := u_ws RX4 TX4 13
theorem nmX4 : ∀ a, a < 13 → ∀ b, b < 13 → a ≠ b → (TX4 a).2.1 ≠ (TX4 b).2.1 := by decide +kernel
theorem tyX4_ok : ∀ k, k < 13 → parseFieldDescriptor (TX4 k).2.2.1 = some (tyX4 k) := by decide +kernel
abbrev cX4_init : ByteArray := prog_6_method_1_code
def yX4_init : MethodName := ⟨RX4, "<init>", "(LProbeConsole$Methods;LProbeConsole$Jobs;LProbeConsole$Rows;LProbeConsole$Rows;)V"⟩
abbrev cX4_setParameters : ByteArray := prog_6_method_2_code
def yX4_setParameters : MethodName := ⟨RX4, "setParameters", "(IIII)V"⟩
abbrev cX4_start : ByteArray := prog_6_method_3_code
def yX4_start : MethodName := ⟨RX4, "start", "(IZ)I"⟩
abbrev cX4_invoke : ByteArray := prog_6_method_4_code
def yX4_invoke : MethodName := ⟨RX4, "invoke", "(II)I"⟩
abbrev cX4_run : ByteArray := prog_6_method_5_code
def yX4_run : MethodName := ⟨RX4, "run", "(LProbeConsole$Code;[I)I"⟩
abbrev cX4_step : ByteArray := prog_6_method_6_code
def yX4_step : MethodName := ⟨RX4, "step", "(LProbeConsole$Code;I[I)I"⟩
abbrev cX4_fail : ByteArray := prog_6_method_7_code
def yX4_fail : MethodName := ⟨RX4, "fail", "(I)V"⟩
abbrev cX4_behindThrow : ByteArray := prog_6_method_8_code
def yX4_behindThrow : MethodName := ⟨RX4, "behindThrow", "(LProbeConsole$Code;II)I"⟩
abbrev cX4_invokeNamed : ByteArray := prog_6_method_9_code
def yX4_invokeNamed : MethodName := ⟨RX4, "invokeNamed", "(JI)V"⟩
abbrev cX4_joined : ByteArray := prog_6_method_10_code
def yX4_joined : MethodName := ⟨RX4, "joined", "(III)I"⟩
abbrev cX4_push : ByteArray := prog_6_method_11_code
def yX4_push : MethodName := ⟨RX4, "push", "(I)V"⟩
abbrev cX4_pop : ByteArray := prog_6_method_12_code
def yX4_pop : MethodName := ⟨RX4, "pop", "()I"⟩
abbrev cX4_probe : ByteArray := prog_6_method_13_code
def yX4_probe : MethodName := ⟨RX4, "probe", "(II[I)V"⟩
abbrev cX4_watch : ByteArray := prog_6_method_14_code
def yX4_watch : MethodName := ⟨RX4, "watch", "(II[I)V"⟩
abbrev cX4_keep : ByteArray := prog_6_method_15_code
def yX4_keep : MethodName := ⟨RX4, "keep", "(III[I)V"⟩
def RX5 : String := "ProbeConsole$Methods"
def TX5 : u_T := fun k => match k with
  | 0 => ("ProbeConsole$Methods", "keys", "[J", true)
  | 1 => ("ProbeConsole$Methods", "bodies", "[LProbeConsole$Code;", true)
  | _ => ("ProbeConsole$Methods", "count", "I", false)
def tyX5 : Nat → FieldType := fun k => match k with
  | 0 => .array .long
  | 1 => .array (.object "ProbeConsole$Code")
  | _ => .int
abbrev wsX50 : List Cond := u_ws RX5 TX5 3
theorem nmX5 : ∀ a, a < 3 → ∀ b, b < 3 → a ≠ b → (TX5 a).2.1 ≠ (TX5 b).2.1 := by decide +kernel
theorem tyX5_ok : ∀ k, k < 3 → parseFieldDescriptor (TX5 k).2.2.1 = some (tyX5 k) := by decide +kernel
abbrev cX5_init : ByteArray := prog_7_method_1_code
def yX5_init : MethodName := ⟨RX5, "<init>", "()V"⟩
abbrev cX5_has : ByteArray := prog_7_method_2_code
def yX5_has : MethodName := ⟨RX5, "has", "(I)Z"⟩
abbrev cX5_isFull : ByteArray := prog_7_method_3_code
def yX5_isFull : MethodName := ⟨RX5, "isFull", "()Z"⟩
abbrev cX5_size : ByteArray := prog_7_method_4_code
def yX5_size : MethodName := ⟨RX5, "size", "()I"⟩
abbrev cX5_keyOf : ByteArray := prog_7_method_5_code
def yX5_keyOf : MethodName := ⟨RX5, "keyOf", "(I)J"⟩
abbrev cX5_parametersOf : ByteArray := prog_7_method_6_code
def yX5_parametersOf : MethodName := ⟨RX5, "parametersOf", "(I)I"⟩
abbrev cX5_body : ByteArray := prog_7_method_7_code
def yX5_body : MethodName := ⟨RX5, "body", "(I)LProbeConsole$Code;"⟩
abbrev cX5_spareBody : ByteArray := prog_7_method_8_code
def yX5_spareBody : MethodName := ⟨RX5, "spareBody", "()LProbeConsole$Code;"⟩
abbrev cX5_find : ByteArray := prog_7_method_9_code
def yX5_find : MethodName := ⟨RX5, "find", "(J)I"⟩
abbrev cX5_add : ByteArray := prog_7_method_10_code
def yX5_add : MethodName := ⟨RX5, "add", "(J)I"⟩
def RX6 : String := "ProbeConsole$Packed"
def TX6 : u_T := fun k => match k with
  | _ => ("", "", "", false)
def tyX6 : Nat → FieldType := fun k => match k with
  | _ => .int
abbrev wsX60 : List Cond := u_ws RX6 TX6 0
theorem nmX6 : ∀ a, a < 0 → ∀ b, b < 0 → a ≠ b → (TX6 a).2.1 ≠ (TX6 b).2.1 := by decide +kernel
theorem tyX6_ok : ∀ k, k < 0 → parseFieldDescriptor (TX6 k).2.2.1 = some (tyX6 k) := by decide +kernel
abbrev cX6_sign : ByteArray := prog_8_method_2_code
def yX6_sign : MethodName := ⟨RX6, "sign", "(I)I"⟩
abbrev cX6_with : ByteArray := prog_8_method_3_code
def yX6_with : MethodName := ⟨RX6, "with", "(JII)J"⟩
abbrev cX6_signAt : ByteArray := prog_8_method_4_code
def yX6_signAt : MethodName := ⟨RX6, "signAt", "(JI)I"⟩
abbrev cX6_key : ByteArray := prog_8_method_5_code
def yX6_key : MethodName := ⟨RX6, "key", "(JI)J"⟩
abbrev cX6_parametersOf : ByteArray := prog_8_method_6_code
def yX6_parametersOf : MethodName := ⟨RX6, "parametersOf", "(J)I"⟩
abbrev cX6_fits : ByteArray := prog_8_method_7_code
def yX6_fits : MethodName := ⟨RX6, "fits", "(JJ)Z"⟩
abbrev cX6_pastStars : ByteArray := prog_8_method_8_code
def yX6_pastStars : MethodName := ⟨RX6, "pastStars", "(JI)I"⟩
abbrev cX6_pastSign : ByteArray := prog_8_method_9_code
def yX6_pastSign : MethodName := ⟨RX6, "pastSign", "(JII)I"⟩
def RX7 : String := "ProbeConsole$Reader"
def TX7 : u_T := fun k => match k with
  | 0 => ("ProbeConsole$Reader", "tape", "LProbeConsole$Tape;", true)
  | 1 => ("ProbeConsole$Reader", "position", "I", false)
  | 2 => ("ProbeConsole$Reader", "fault", "I", false)
  | 3 => ("ProbeConsole$Reader", "place", "I", false)
  | 4 => ("ProbeConsole$Reader", "rowLength", "I", false)
  | 5 => ("ProbeConsole$Reader", "rowIsName", "Z", false)
  | _ => ("ProbeConsole$Reader", "rowName", "J", false)
def tyX7 : Nat → FieldType := fun k => match k with
  | 0 => .object "ProbeConsole$Tape"
  | 1 => .int
  | 2 => .int
  | 3 => .int
  | 4 => .int
  | 5 => .boolean
  | _ => .long
abbrev wsX70 : List Cond := u_ws RX7 TX7 7
theorem nmX7 : ∀ a, a < 7 → ∀ b, b < 7 → a ≠ b → (TX7 a).2.1 ≠ (TX7 b).2.1 := by decide +kernel
theorem tyX7_ok : ∀ k, k < 7 → parseFieldDescriptor (TX7 k).2.2.1 = some (tyX7 k) := by decide +kernel
abbrev cX7_init : ByteArray := prog_9_method_1_code
def yX7_init : MethodName := ⟨RX7, "<init>", "(LProbeConsole$Tape;)V"⟩
abbrev cX7_begin : ByteArray := prog_9_method_2_code
def yX7_begin : MethodName := ⟨RX7, "begin", "()V"⟩
abbrev cX7_peek : ByteArray := prog_9_method_3_code
def yX7_peek : MethodName := ⟨RX7, "peek", "()I"⟩
abbrev cX7_fail : ByteArray := prog_9_method_4_code
def yX7_fail : MethodName := ⟨RX7, "fail", "(II)V"⟩
abbrev cX7_failAtEnd : ByteArray := prog_9_method_5_code
def yX7_failAtEnd : MethodName := ⟨RX7, "failAtEnd", "()V"⟩
abbrev cX7_expect : ByteArray := prog_9_method_6_code
def yX7_expect : MethodName := ⟨RX7, "expect", "(I)V"⟩
abbrev cX7_isFigure : ByteArray := prog_9_method_7_code
def yX7_isFigure : MethodName := ⟨RX7, "isFigure", "(I)Z"⟩
abbrev cX7_isRowByte : ByteArray := prog_9_method_8_code
def yX7_isRowByte : MethodName := ⟨RX7, "isRowByte", "(I)Z"⟩
abbrev cX7_isBlank : ByteArray := prog_9_method_9_code
def yX7_isBlank : MethodName := ⟨RX7, "isBlank", "(I)Z"⟩
abbrev cX7_number : ByteArray := prog_9_method_10_code
def yX7_number : MethodName := ⟨RX7, "number", "(I)I"⟩
abbrev cX7_scanRow : ByteArray := prog_9_method_11_code
def yX7_scanRow : MethodName := ⟨RX7, "scanRow", "()V"⟩
abbrev cX7_takeName : ByteArray := prog_9_method_12_code
def yX7_takeName : MethodName := ⟨RX7, "takeName", "()J"⟩
abbrev cX7_takes : ByteArray := prog_9_method_13_code
def yX7_takes : MethodName := ⟨RX7, "takes", "(Ljava/lang/String;)Z"⟩
abbrev cX7_endWord : ByteArray := prog_9_method_14_code
def yX7_endWord : MethodName := ⟨RX7, "endWord", "()V"⟩
abbrev cX7_skipBlanks : ByteArray := prog_9_method_15_code
def yX7_skipBlanks : MethodName := ⟨RX7, "skipBlanks", "()V"⟩
def RX8 : String := "ProbeConsole$Rows"
def TX8 : u_T := fun k => match k with
  | 0 => ("ProbeConsole$Rows", "most", "I", true)
  | 1 => ("ProbeConsole$Rows", "width", "I", true)
  | 2 => ("ProbeConsole$Rows", "cells", "[I", true)
  | _ => ("ProbeConsole$Rows", "size", "I", false)
def tyX8 : Nat → FieldType := fun k => match k with
  | 0 => .int
  | 1 => .int
  | 2 => .array .int
  | _ => .int
abbrev wsX80 : List Cond := u_ws RX8 TX8 4
theorem nmX8 : ∀ a, a < 4 → ∀ b, b < 4 → a ≠ b → (TX8 a).2.1 ≠ (TX8 b).2.1 := by decide +kernel
theorem tyX8_ok : ∀ k, k < 4 → parseFieldDescriptor (TX8 k).2.2.1 = some (tyX8 k) := by decide +kernel
abbrev cX8_init : ByteArray := prog_10_method_1_code
def yX8_init : MethodName := ⟨RX8, "<init>", "(II)V"⟩
abbrev cX8_isFull : ByteArray := prog_10_method_2_code
def yX8_isFull : MethodName := ⟨RX8, "isFull", "()Z"⟩
abbrev cX8_has : ByteArray := prog_10_method_3_code
def yX8_has : MethodName := ⟨RX8, "has", "(I)Z"⟩
abbrev cX8_cell : ByteArray := prog_10_method_4_code
def yX8_cell : MethodName := ⟨RX8, "cell", "(II)I"⟩
abbrev cX8_put : ByteArray := prog_10_method_5_code
def yX8_put : MethodName := ⟨RX8, "put", "(II)V"⟩
abbrev cX8_endRow : ByteArray := prog_10_method_6_code
def yX8_endRow : MethodName := ⟨RX8, "endRow", "()V"⟩
def RX9 : String := "ProbeConsole$Tape"
def TX9 : u_T := fun k => match k with
  | 0 => ("ProbeConsole$Tape", "bytes", "[I", true)
  | _ => ("ProbeConsole$Tape", "length", "I", false)
def tyX9 : Nat → FieldType := fun k => match k with
  | 0 => .array .int
  | _ => .int
abbrev wsX90 : List Cond := u_ws RX9 TX9 2
theorem nmX9 : ∀ a, a < 2 → ∀ b, b < 2 → a ≠ b → (TX9 a).2.1 ≠ (TX9 b).2.1 := by decide +kernel
theorem tyX9_ok : ∀ k, k < 2 → parseFieldDescriptor (TX9 k).2.2.1 = some (tyX9 k) := by decide +kernel
abbrev cX9_init : ByteArray := prog_11_method_1_code
def yX9_init : MethodName := ⟨RX9, "<init>", "()V"⟩
abbrev cX9_append : ByteArray := prog_11_method_2_code
def yX9_append : MethodName := ⟨RX9, "append", "(I)V"⟩
abbrev cX9_at : ByteArray := prog_11_method_3_code
def yX9_at : MethodName := ⟨RX9, "at", "(I)I"⟩
def RX10 : String := "ProbeConsole$Texts"
def TX10 : u_T := fun k => match k with
  | 0 => ("ProbeConsole$Texts", "number", "I", false)
  | 1 => ("ProbeConsole$Texts", "reader", "LProbeConsole$Reader;", true)
  | _ => ("ProbeConsole$Texts", "expressions", "LProbeConsole$Expressions;", true)
def tyX10 : Nat → FieldType := fun k => match k with
  | 0 => .int
  | 1 => .object "ProbeConsole$Reader"
  | _ => .object "ProbeConsole$Expressions"
abbrev wsX100 : List Cond := u_ws RX10 TX10 3
theorem nmX10 : ∀ a, a < 3 → ∀ b, b < 3 → a ≠ b → (TX10 a).2.1 ≠ (TX10 b).2.1 := by decide +kernel
theorem tyX10_ok : ∀ k, k < 3 → parseFieldDescriptor (TX10 k).2.2.1 = some (tyX10 k) := by decide +kernel
abbrev cX10_init : ByteArray := prog_12_method_1_code
def yX10_init : MethodName := ⟨RX10, "<init>", "(LProbeConsole$Reader;)V"⟩
abbrev cX10_readMethod : ByteArray := prog_12_method_2_code
def yX10_readMethod : MethodName := ⟨RX10, "readMethod", "(LProbeConsole$Code;)J"⟩
abbrev cX10_parameters : ByteArray := prog_12_method_3_code
def yX10_parameters : MethodName := ⟨RX10, "parameters", "()I"⟩
abbrev cX10_readCommand : ByteArray := prog_12_method_4_code
def yX10_readCommand : MethodName := ⟨RX10, "readCommand", "(LProbeConsole$Job;)I"⟩
abbrev cX10_verb : ByteArray := prog_12_method_5_code
def yX10_verb : MethodName := ⟨RX10, "verb", "()I"⟩
abbrev cX10_readWatch : ByteArray := prog_12_method_6_code
def yX10_readWatch : MethodName := ⟨RX10, "readWatch", "(LProbeConsole$Job;)V"⟩
abbrev cX10_point : ByteArray := prog_12_method_7_code
def yX10_point : MethodName := ⟨RX10, "point", "()I"⟩
abbrev cX10_pattern : ByteArray := prog_12_method_8_code
def yX10_pattern : MethodName := ⟨RX10, "pattern", "()J"⟩
abbrev cX10_limit : ByteArray := prog_12_method_9_code
def yX10_limit : MethodName := ⟨RX10, "limit", "()I"⟩
abbrev cX10_expectEnd : ByteArray := prog_12_method_10_code
def yX10_expectEnd : MethodName := ⟨RX10, "expectEnd", "()V"⟩
def RX11 : String := "ProbeConsole"
def TX11 : u_T := fun k => match k with
  | 0 => ("ProbeConsole", "tape", "LProbeConsole$Tape;", true)
  | 1 => ("ProbeConsole", "reader", "LProbeConsole$Reader;", true)
  | 2 => ("ProbeConsole", "texts", "LProbeConsole$Texts;", true)
  | 3 => ("ProbeConsole", "methods", "LProbeConsole$Methods;", true)
  | 4 => ("ProbeConsole", "jobs", "LProbeConsole$Jobs;", true)
  | 5 => ("ProbeConsole", "recordRows", "LProbeConsole$Rows;", true)
  | 6 => ("ProbeConsole", "keptRows", "LProbeConsole$Rows;", true)
  | _ => ("ProbeConsole", "machine", "LProbeConsole$Machine;", true)
def tyX11 : Nat → FieldType := fun k => match k with
  | 0 => .object "ProbeConsole$Tape"
  | 1 => .object "ProbeConsole$Reader"
  | 2 => .object "ProbeConsole$Texts"
  | 3 => .object "ProbeConsole$Methods"
  | 4 => .object "ProbeConsole$Jobs"
  | 5 => .object "ProbeConsole$Rows"
  | 6 => .object "ProbeConsole$Rows"
  | _ => .object "ProbeConsole$Machine"
abbrev wsX110 : List Cond := u_ws RX11 TX11 8
theorem nmX11 : ∀ a, a < 8 → ∀ b, b < 8 → a ≠ b → (TX11 a).2.1 ≠ (TX11 b).2.1 := by decide +kernel
theorem tyX11_ok : ∀ k, k < 8 → parseFieldDescriptor (TX11 k).2.2.1 = some (tyX11 k) := by decide +kernel
abbrev cX11_init : ByteArray := prog_1_method_1_code
def yX11_init : MethodName := ⟨RX11, "<init>", "()V"⟩
abbrev cX11_feed : ByteArray := prog_1_method_2_code
def yX11_feed : MethodName := ⟨RX11, "feed", "(IJ)I"⟩
abbrev cX11_wipe : ByteArray := prog_1_method_3_code
def yX11_wipe : MethodName := ⟨RX11, "wipe", "()I"⟩
abbrev cX11_method : ByteArray := prog_1_method_4_code
def yX11_method : MethodName := ⟨RX11, "method", "()I"⟩
abbrev cX11_command : ByteArray := prog_1_method_5_code
def yX11_command : MethodName := ⟨RX11, "command", "()I"⟩
abbrev cX11_fault : ByteArray := prog_1_method_6_code
def yX11_fault : MethodName := ⟨RX11, "fault", "()I"⟩
abbrev cX11_place : ByteArray := prog_1_method_7_code
def yX11_place : MethodName := ⟨RX11, "place", "()I"⟩
abbrev cX11_call : ByteArray := prog_1_method_8_code
def yX11_call : MethodName := ⟨RX11, "call", "(IIII)I"⟩
abbrev cX11_value : ByteArray := prog_1_method_9_code
def yX11_value : MethodName := ⟨RX11, "value", "()I"⟩
abbrev cX11_invoked : ByteArray := prog_1_method_10_code
def yX11_invoked : MethodName := ⟨RX11, "invoked", "()I"⟩
abbrev cX11_records : ByteArray := prog_1_method_11_code
def yX11_records : MethodName := ⟨RX11, "records", "()I"⟩
abbrev cX11_record : ByteArray := prog_1_method_12_code
def yX11_record : MethodName := ⟨RX11, "record", "(II)I"⟩
abbrev cX11_clear : ByteArray := prog_1_method_13_code
def yX11_clear : MethodName := ⟨RX11, "clear", "()I"⟩
abbrev cX11_job : ByteArray := prog_1_method_14_code
def yX11_job : MethodName := ⟨RX11, "job", "(II)I"⟩
abbrev cX11_counted : ByteArray := prog_1_method_15_code
def yX11_counted : MethodName := ⟨RX11, "counted", "(III)I"⟩
abbrev cX11_keeps : ByteArray := prog_1_method_16_code
def yX11_keeps : MethodName := ⟨RX11, "keeps", "()I"⟩
abbrev cX11_kept : ByteArray := prog_1_method_17_code
def yX11_kept : MethodName := ⟨RX11, "kept", "(II)I"⟩
abbrev cX11_replay : ByteArray := prog_1_method_18_code
def yX11_replay : MethodName := ⟨RX11, "replay", "(I)I"⟩
def RX12 : String := "ProbeConsoleModel"
def TX12 : u_T := fun k => match k with
  | 0 => ("ProbeConsoleModel", "thrown", "I", false)
  | 1 => ("ProbeConsoleModel", "tape", "[I", true)
  | 2 => ("ProbeConsoleModel", "size", "I", false)
  | 3 => ("ProbeConsoleModel", "fault", "I", false)
  | 4 => ("ProbeConsoleModel", "place", "I", false)
  | 5 => ("ProbeConsoleModel", "at", "I", false)
  | 6 => ("ProbeConsoleModel", "steps", "[I", true)
  | 7 => ("ProbeConsoleModel", "values", "[J", true)
  | 8 => ("ProbeConsoleModel", "lengths", "[I", true)
  | 9 => ("ProbeConsoleModel", "methods", "I", false)
  | 10 => ("ProbeConsoleModel", "names", "[J", true)
  | 11 => ("ProbeConsoleModel", "parameters", "[I", true)
  | 12 => ("ProbeConsoleModel", "length", "I", false)
  | 13 => ("ProbeConsoleModel", "nodes", "I", false)
  | 14 => ("ProbeConsoleModel", "inCommand", "Z", false)
  | 15 => ("ProbeConsoleModel", "variables", "I", false)
  | 16 => ("ProbeConsoleModel", "waits", "[I", true)
  | 17 => ("ProbeConsoleModel", "waitPlaces", "[I", true)
  | 18 => ("ProbeConsoleModel", "waitValues", "[I", true)
  | 19 => ("ProbeConsoleModel", "waitNames", "[J", true)
  | 20 => ("ProbeConsoleModel", "waiting", "I", false)
  | 21 => ("ProbeConsoleModel", "operands", "[I", true)
  | 22 => ("ProbeConsoleModel", "operandCount", "I", false)
  | 23 => ("ProbeConsoleModel", "opened", "I", false)
  | 24 => ("ProbeConsoleModel", "rowName", "J", false)
  | 25 => ("ProbeConsoleModel", "kinds", "[I", true)
  | 26 => ("ProbeConsoleModel", "points", "[I", true)
  | 27 => ("ProbeConsoleModel", "limits", "[I", true)
  | 28 => ("ProbeConsoleModel", "mades", "[I", true)
  | 29 => ("ProbeConsoleModel", "conditioned", "[Z", true)
  | 30 => ("ProbeConsoleModel", "patterns", "[I", true)
  | 31 => ("ProbeConsoleModel", "patternSizes", "[I", true)
  | 32 => ("ProbeConsoleModel", "newPattern", "[I", true)
  | 33 => ("ProbeConsoleModel", "newPatternSize", "I", false)
  | 34 => ("ProbeConsoleModel", "counts", "[I", true)
  | 35 => ("ProbeConsoleModel", "recordCount", "I", false)
  | 36 => ("ProbeConsoleModel", "records", "[I", true)
  | 37 => ("ProbeConsoleModel", "keepCount", "I", false)
  | 38 => ("ProbeConsoleModel", "keptOnes", "[I", true)
  | 39 => ("ProbeConsoleModel", "depth", "I", false)
  | 40 => ("ProbeConsoleModel", "invoked", "I", false)
  | 41 => ("ProbeConsoleModel", "value", "I", false)
  | 42 => ("ProbeConsoleModel", "quiet", "Z", false)
  | 43 => ("ProbeConsoleModel", "runMethods", "[I", true)
  | 44 => ("ProbeConsoleModel", "runParameters", "[I", true)
  | 45 => ("ProbeConsoleModel", "runPlaces", "[I", true)
  | 46 => ("ProbeConsoleModel", "stack", "[I", true)
  | 47 => ("ProbeConsoleModel", "height", "I", false)
  | 48 => ("ProbeConsoleModel", "tryPlaces", "[I", true)
  | 49 => ("ProbeConsoleModel", "tryHeights", "[I", true)
  | 50 => ("ProbeConsoleModel", "tryDepths", "[I", true)
  | 51 => ("ProbeConsoleModel", "tries", "I", false)
  | 52 => ("ProbeConsoleModel", "threw", "Z", false)
  | 53 => ("ProbeConsoleModel", "answer", "I", false)
  | 54 => ("ProbeConsoleModel", "seen", "[I", true)
  | 55 => ("ProbeConsoleModel", "probeStack", "[I", true)
  | 56 => ("ProbeConsoleModel", "probeTries", "[I", true)
  | 57 => ("ProbeConsoleModel", "probeHeights", "[I", true)
  | 58 => ("ProbeConsoleModel", "probeValue", "I", false)
  | _ => ("ProbeConsoleModel", "probeThrew", "Z", false)
def tyX12 : Nat → FieldType := fun k => match k with
  | 0 => .int
  | 1 => .array .int
  | 2 => .int
  | 3 => .int
  | 4 => .int
  | 5 => .int
  | 6 => .array .int
  | 7 => .array .long
  | 8 => .array .int
  | 9 => .int
  | 10 => .array .long
  | 11 => .array .int
  | 12 => .int
  | 13 => .int
  | 14 => .boolean
  | 15 => .int
  | 16 => .array .int
  | 17 => .array .int
  | 18 => .array .int
  | 19 => .array .long
  | 20 => .int
  | 21 => .array .int
  | 22 => .int
  | 23 => .int
  | 24 => .long
  | 25 => .array .int
  | 26 => .array .int
  | 27 => .array .int
  | 28 => .array .int
  | 29 => .array .boolean
  | 30 => .array .int
  | 31 => .array .int
  | 32 => .array .int
  | 33 => .int
  | 34 => .array .int
  | 35 => .int
  | 36 => .array .int
  | 37 => .int
  | 38 => .array .int
  | 39 => .int
  | 40 => .int
  | 41 => .int
  | 42 => .boolean
  | 43 => .array .int
  | 44 => .array .int
  | 45 => .array .int
  | 46 => .array .int
  | 47 => .int
  | 48 => .array .int
  | 49 => .array .int
  | 50 => .array .int
  | 51 => .int
  | 52 => .boolean
  | 53 => .int
  | 54 => .array .int
  | 55 => .array .int
  | 56 => .array .int
  | 57 => .array .int
  | 58 => .int
  | _ => .boolean
abbrev wsX120 : List Cond := u_ws RX12 TX12 60
theorem nmX12 : ∀ a, a < 60 → ∀ b, b < 60 → a ≠ b → (TX12 a).2.1 ≠ (TX12 b).2.1 := by decide +kernel
theorem tyX12_ok : ∀ k, k < 60 → parseFieldDescriptor (TX12 k).2.2.1 = some (tyX12 k) := by decide +kernel
abbrev cX12_init : ByteArray := prog_14_method_1_code
def yX12_init : MethodName := ⟨RX12, "<init>", "()V"⟩
abbrev cX12_feed : ByteArray := prog_14_method_3_code
def yX12_feed : MethodName := ⟨RX12, "feed", "(IJ)I"⟩
abbrev cX12_wipe : ByteArray := prog_14_method_4_code
def yX12_wipe : MethodName := ⟨RX12, "wipe", "()I"⟩
abbrev cX12_fail : ByteArray := prog_14_method_5_code
def yX12_fail : MethodName := ⟨RX12, "fail", "(II)V"⟩
abbrev cX12_byteAt : ByteArray := prog_14_method_6_code
def yX12_byteAt : MethodName := ⟨RX12, "byteAt", "(I)I"⟩
abbrev cX12_isLetter : ByteArray := prog_14_method_7_code
def yX12_isLetter : MethodName := ⟨RX12, "isLetter", "(I)Z"⟩
abbrev cX12_isFigure : ByteArray := prog_14_method_8_code
def yX12_isFigure : MethodName := ⟨RX12, "isFigure", "(I)Z"⟩
abbrev cX12_isOfRow : ByteArray := prog_14_method_9_code
def yX12_isOfRow : MethodName := ⟨RX12, "isOfRow", "(I)Z"⟩
abbrev cX12_rowSize : ByteArray := prog_14_method_10_code
def yX12_rowSize : MethodName := ⟨RX12, "rowSize", "(I)I"⟩
abbrev cX12_isName : ByteArray := prog_14_method_11_code
def yX12_isName : MethodName := ⟨RX12, "isName", "(II)Z"⟩
abbrev cX12_rowOf : ByteArray := prog_14_method_12_code
def yX12_rowOf : MethodName := ⟨RX12, "rowOf", "(I)I"⟩
abbrev cX12_put : ByteArray := prog_14_method_13_code
def yX12_put : MethodName := ⟨RX12, "put", "(IJ)V"⟩
abbrev cX12_ended : ByteArray := prog_14_method_14_code
def yX12_ended : MethodName := ⟨RX12, "ended", "()Z"⟩
abbrev cX12_count : ByteArray := prog_14_method_15_code
def yX12_count : MethodName := ⟨RX12, "count", "(I)Z"⟩
abbrev cX12_wait : ByteArray := prog_14_method_16_code
def yX12_wait : MethodName := ⟨RX12, "wait", "(III)V"⟩
abbrev cX12_operand : ByteArray := prog_14_method_17_code
def yX12_operand : MethodName := ⟨RX12, "operand", "(I)V"⟩
abbrev cX12_reduce : ByteArray := prog_14_method_18_code
def yX12_reduce : MethodName := ⟨RX12, "reduce", "()V"⟩
abbrev cX12_reduceTo : ByteArray := prog_14_method_19_code
def yX12_reduceTo : MethodName := ⟨RX12, "reduceTo", "(I)V"⟩
abbrev cX12_reduceAll : ByteArray := prog_14_method_20_code
def yX12_reduceAll : MethodName := ⟨RX12, "reduceAll", "()V"⟩
abbrev cX12_last : ByteArray := prog_14_method_21_code
def yX12_last : MethodName := ⟨RX12, "last", "()I"⟩
abbrev cX12_readNumber : ByteArray := prog_14_method_22_code
def yX12_readNumber : MethodName := ⟨RX12, "readNumber", "()V"⟩
abbrev cX12_open : ByteArray := prog_14_method_23_code
def yX12_open : MethodName := ⟨RX12, "open", "(II)V"⟩
abbrev cX12_variableOf : ByteArray := prog_14_method_24_code
def yX12_variableOf : MethodName := ⟨RX12, "variableOf", "(I)I"⟩
abbrev cX12_readRow : ByteArray := prog_14_method_25_code
def yX12_readRow : MethodName := ⟨RX12, "readRow", "()Z"⟩
abbrev cX12_readOperand : ByteArray := prog_14_method_26_code
def yX12_readOperand : MethodName := ⟨RX12, "readOperand", "(Z)Z"⟩
abbrev cX12_close : ByteArray := prog_14_method_27_code
def yX12_close : MethodName := ⟨RX12, "close", "()V"⟩
abbrev cX12_between : ByteArray := prog_14_method_28_code
def yX12_between : MethodName := ⟨RX12, "between", "(II)V"⟩
abbrev cX12_hash : ByteArray := prog_14_method_29_code
def yX12_hash : MethodName := ⟨RX12, "hash", "()V"⟩
abbrev cX12_question : ByteArray := prog_14_method_30_code
def yX12_question : MethodName := ⟨RX12, "question", "()V"⟩
abbrev cX12_colon : ByteArray := prog_14_method_31_code
def yX12_colon : MethodName := ⟨RX12, "colon", "()V"⟩
abbrev cX12_comma : ByteArray := prog_14_method_32_code
def yX12_comma : MethodName := ⟨RX12, "comma", "()V"⟩
abbrev cX12_readSign : ByteArray := prog_14_method_33_code
def yX12_readSign : MethodName := ⟨RX12, "readSign", "()Z"⟩
abbrev cX12_readExpression : ByteArray := prog_14_method_34_code
def yX12_readExpression : MethodName := ⟨RX12, "readExpression", "()V"⟩
abbrev cX12_keepExpression : ByteArray := prog_14_method_35_code
def yX12_keepExpression : MethodName := ⟨RX12, "keepExpression", "(I)V"⟩
abbrev cX12_begin : ByteArray := prog_14_method_36_code
def yX12_begin : MethodName := ⟨RX12, "begin", "()V"⟩
abbrev cX12_want : ByteArray := prog_14_method_37_code
def yX12_want : MethodName := ⟨RX12, "want", "(I)V"⟩
abbrev cX12_findMethod : ByteArray := prog_14_method_38_code
def yX12_findMethod : MethodName := ⟨RX12, "findMethod", "(JI)I"⟩
abbrev cX12_method : ByteArray := prog_14_method_39_code
def yX12_method : MethodName := ⟨RX12, "method", "()I"⟩
abbrev cX12_skip : ByteArray := prog_14_method_40_code
def yX12_skip : MethodName := ⟨RX12, "skip", "()V"⟩
abbrev cX12_word : ByteArray := prog_14_method_41_code
def yX12_word : MethodName := ⟨RX12, "word", "(IIII)J"⟩
abbrev cX12_rowAt : ByteArray := prog_14_method_42_code
def yX12_rowAt : MethodName := ⟨RX12, "rowAt", "(I)J"⟩
abbrev cX12_endsAt : ByteArray := prog_14_method_43_code
def yX12_endsAt : MethodName := ⟨RX12, "endsAt", "(I)Z"⟩
abbrev cX12_wantBlank : ByteArray := prog_14_method_44_code
def yX12_wantBlank : MethodName := ⟨RX12, "wantBlank", "()V"⟩
abbrev cX12_wantEnd : ByteArray := prog_14_method_45_code
def yX12_wantEnd : MethodName := ⟨RX12, "wantEnd", "()V"⟩
abbrev cX12_readPattern : ByteArray := prog_14_method_46_code
def yX12_readPattern : MethodName := ⟨RX12, "readPattern", "()V"⟩
abbrev cX12_smallNumber : ByteArray := prog_14_method_47_code
def yX12_smallNumber : MethodName := ⟨RX12, "smallNumber", "(I)I"⟩
abbrev cX12_freeJob : ByteArray := prog_14_method_48_code
def yX12_freeJob : MethodName := ⟨RX12, "freeJob", "()I"⟩
abbrev cX12_newJob : ByteArray := prog_14_method_49_code
def yX12_newJob : MethodName := ⟨RX12, "newJob", "(II)I"⟩
abbrev cX12_readPoint : ByteArray := prog_14_method_50_code
def yX12_readPoint : MethodName := ⟨RX12, "readPoint", "()I"⟩
abbrev cX12_watch : ByteArray := prog_14_method_51_code
def yX12_watch : MethodName := ⟨RX12, "watch", "()I"⟩
abbrev cX12_simple : ByteArray := prog_14_method_52_code
def yX12_simple : MethodName := ⟨RX12, "simple", "(I)I"⟩
abbrev cX12_kill : ByteArray := prog_14_method_53_code
def yX12_kill : MethodName := ⟨RX12, "kill", "()I"⟩
abbrev cX12_reset : ByteArray := prog_14_method_54_code
def yX12_reset : MethodName := ⟨RX12, "reset", "()I"⟩
abbrev cX12_command : ByteArray := prog_14_method_55_code
def yX12_command : MethodName := ⟨RX12, "command", "()I"⟩
abbrev cX12_fault : ByteArray := prog_14_method_56_code
def yX12_fault : MethodName := ⟨RX12, "fault", "()I"⟩
abbrev cX12_place : ByteArray := prog_14_method_57_code
def yX12_place : MethodName := ⟨RX12, "place", "()I"⟩
abbrev cX12_nameByte : ByteArray := prog_14_method_58_code
def yX12_nameByte : MethodName := ⟨RX12, "nameByte", "(III)I"⟩
abbrev cX12_nameSize : ByteArray := prog_14_method_59_code
def yX12_nameSize : MethodName := ⟨RX12, "nameSize", "(I)I"⟩
abbrev cX12_fits : ByteArray := prog_14_method_60_code
def yX12_fits : MethodName := ⟨RX12, "fits", "(II)Z"⟩
abbrev cX12_starred : ByteArray := prog_14_method_61_code
def yX12_starred : MethodName := ⟨RX12, "starred", "(II)I"⟩
abbrev cX12_isOver : ByteArray := prog_14_method_62_code
def yX12_isOver : MethodName := ⟨RX12, "isOver", "(II)Z"⟩
abbrev cX12_result : ByteArray := prog_14_method_63_code
def yX12_result : MethodName := ⟨RX12, "result", "(III)I"⟩
abbrev cX12_probeExpression : ByteArray := prog_14_method_64_code
def yX12_probeExpression : MethodName := ⟨RX12, "probeExpression", "(I)V"⟩
abbrev cX12_record : ByteArray := prog_14_method_65_code
def yX12_record : MethodName := ⟨RX12, "record", "(III)V"⟩
abbrev cX12_watchOne : ByteArray := prog_14_method_66_code
def yX12_watchOne : MethodName := ⟨RX12, "watchOne", "(II)V"⟩
abbrev cX12_keepOne : ByteArray := prog_14_method_67_code
def yX12_keepOne : MethodName := ⟨RX12, "keepOne", "(IIII)V"⟩
abbrev cX12_probe : ByteArray := prog_14_method_68_code
def yX12_probe : MethodName := ⟨RX12, "probe", "(III)V"⟩
abbrev cX12_enter : ByteArray := prog_14_method_69_code
def yX12_enter : MethodName := ⟨RX12, "enter", "(I)V"⟩
abbrev cX12_throwAll : ByteArray := prog_14_method_70_code
def yX12_throwAll : MethodName := ⟨RX12, "throwAll", "(I)V"⟩
abbrev cX12_throwUp : ByteArray := prog_14_method_71_code
def yX12_throwUp : MethodName := ⟨RX12, "throwUp", "(I)V"⟩
abbrev cX12_push : ByteArray := prog_14_method_72_code
def yX12_push : MethodName := ⟨RX12, "push", "(I)V"⟩
abbrev cX12_leave : ByteArray := prog_14_method_73_code
def yX12_leave : MethodName := ⟨RX12, "leave", "()V"⟩
abbrev cX12_invoke : ByteArray := prog_14_method_74_code
def yX12_invoke : MethodName := ⟨RX12, "invoke", "(J)V"⟩
abbrev cX12_step : ByteArray := prog_14_method_75_code
def yX12_step : MethodName := ⟨RX12, "step", "()V"⟩
abbrev cX12_play : ByteArray := prog_14_method_76_code
def yX12_play : MethodName := ⟨RX12, "play", "(IIIIZ)I"⟩
abbrev cX12_call : ByteArray := prog_14_method_77_code
def yX12_call : MethodName := ⟨RX12, "call", "(IIII)I"⟩
abbrev cX12_value : ByteArray := prog_14_method_78_code
def yX12_value : MethodName := ⟨RX12, "value", "()I"⟩
abbrev cX12_invoked : ByteArray := prog_14_method_79_code
def yX12_invoked : MethodName := ⟨RX12, "invoked", "()I"⟩
abbrev cX12_records : ByteArray := prog_14_method_80_code
def yX12_records : MethodName := ⟨RX12, "records", "()I"⟩
abbrev cX12_record_ : ByteArray := prog_14_method_81_code
def yX12_record_ : MethodName := ⟨RX12, "record", "(II)I"⟩
abbrev cX12_clear : ByteArray := prog_14_method_82_code
def yX12_clear : MethodName := ⟨RX12, "clear", "()I"⟩
abbrev cX12_job : ByteArray := prog_14_method_83_code
def yX12_job : MethodName := ⟨RX12, "job", "(II)I"⟩
abbrev cX12_counted : ByteArray := prog_14_method_84_code
def yX12_counted : MethodName := ⟨RX12, "counted", "(III)I"⟩
abbrev cX12_keeps : ByteArray := prog_14_method_85_code
def yX12_keeps : MethodName := ⟨RX12, "keeps", "()I"⟩
abbrev cX12_kept : ByteArray := prog_14_method_86_code
def yX12_kept : MethodName := ⟨RX12, "kept", "(II)I"⟩
abbrev cX12_replay : ByteArray := prog_14_method_87_code
def yX12_replay : MethodName := ⟨RX12, "replay", "(I)I"⟩
def RJ11 : String := "java/lang/Character"
def TJ11 : u_T := fun k => match k with
  | _ => ("", "", "", false)
def tyJ11 : Nat → FieldType := fun k => match k with
  | _ => .int
abbrev wsJ110 : List Cond := u_ws RJ11 TJ11 0
theorem nmJ11 : ∀ a, a < 0 → ∀ b, b < 0 → a ≠ b → (TJ11 a).2.1 ≠ (TJ11 b).2.1 := by decide +kernel
theorem tyJ11_ok : ∀ k, k < 0 → parseFieldDescriptor (TJ11 k).2.2.1 = some (tyJ11 k) := by decide +kernel
abbrev cJ11_isValidCodePoint_9a6ad : ByteArray := prog_15_method_11_code
def yJ11_isValidCodePoint_9a6ad : MethodName := ⟨RJ11, "isValidCodePoint", "(I)Z"⟩
abbrev cJ11_highSurrogate_5068e : ByteArray := prog_15_method_28_code
def yJ11_highSurrogate_5068e : MethodName := ⟨RJ11, "highSurrogate", "(I)C"⟩
abbrev cJ11_lowSurrogate_5068e : ByteArray := prog_15_method_29_code
def yJ11_lowSurrogate_5068e : MethodName := ⟨RJ11, "lowSurrogate", "(I)C"⟩
def RJ9 : String := "java/lang/Math"
def TJ9 : u_T := fun k => match k with
  | _ => ("", "", "", false)
def tyJ9 : Nat → FieldType := fun k => match k with
  | _ => .int
abbrev wsJ90 : List Cond := u_ws RJ9 TJ9 0
theorem nmJ9 : ∀ a, a < 0 → ∀ b, b < 0 → a ≠ b → (TJ9 a).2.1 ≠ (TJ9 b).2.1 := by decide +kernel
theorem tyJ9_ok : ∀ k, k < 0 → parseFieldDescriptor (TJ9 k).2.2.1 = some (tyJ9 k) := by decide +kernel
abbrev cJ9_max_7cf53 : ByteArray := prog_19_method_65_code
def yJ9_max_7cf53 : MethodName := ⟨RJ9, "max", "(II)I"⟩
abbrev cJ9_min_7cf53 : ByteArray := prog_19_method_69_code
def yJ9_min_7cf53 : MethodName := ⟨RJ9, "min", "(II)I"⟩
abbrev cJ9_min_f86c9 : ByteArray := prog_19_method_70_code
def yJ9_min_f86c9 : MethodName := ⟨RJ9, "min", "(JJ)J"⟩
def RJ0 : String := "java/lang/String"
def TJ0 : u_T := fun k => match k with
  | _ => ("", "", "", false)
def tyJ0 : Nat → FieldType := fun k => match k with
  | _ => .int
abbrev wsJ00 : List Cond := u_ws RJ0 TJ0 0
theorem nmJ0 : ∀ a, a < 0 → ∀ b, b < 0 → a ≠ b → (TJ0 a).2.1 ≠ (TJ0 b).2.1 := by decide +kernel
theorem tyJ0_ok : ∀ k, k < 0 → parseFieldDescriptor (TJ0 k).2.2.1 = some (tyJ0 k) := by decide +kernel
abbrev cJ0_length_8abf5 : ByteArray := prog_21_method_54_code
def yJ0_length_8abf5 : MethodName := ⟨RJ0, "length", "()I"⟩
abbrev cJ0_charAt_5068e : ByteArray := prog_21_method_56_code
def yJ0_charAt_5068e : MethodName := ⟨RJ0, "charAt", "(I)C"⟩
abbrev cJ0_indexOf_0f7a4 : ByteArray := prog_21_method_79_code
def yJ0_indexOf_0f7a4 : MethodName := ⟨RJ0, "indexOf", "(I)I"⟩
abbrev cJ0_indexOf_7cf53 : ByteArray := prog_21_method_80_code
def yJ0_indexOf_7cf53 : MethodName := ⟨RJ0, "indexOf", "(II)I"⟩
abbrev cJ0_coder_7d493 : ByteArray := prog_21_method_152_code
def yJ0_coder_7d493 : MethodName := ⟨RJ0, "coder", "()B"⟩
abbrev cJ0_isLatin1_aae02 : ByteArray := prog_21_method_154_code
def yJ0_isLatin1_aae02 : MethodName := ⟨RJ0, "isLatin1", "()Z"⟩
abbrev cJ0_checkIndex_df160 : ByteArray := prog_21_method_155_code
def yJ0_checkIndex_df160 : MethodName := ⟨RJ0, "checkIndex", "(II)V"⟩
abbrev cJ0_checkBoundsBeginEnd_23922 : ByteArray := prog_21_method_158_code
def yJ0_checkBoundsBeginEnd_23922 : MethodName := ⟨RJ0, "checkBoundsBeginEnd", "(III)V"⟩
def RJ1 : String := "java/lang/StringLatin1"
def TJ1 : u_T := fun k => match k with
  | _ => ("", "", "", false)
def tyJ1 : Nat → FieldType := fun k => match k with
  | _ => .int
abbrev wsJ10 : List Cond := u_ws RJ1 TJ1 0
theorem nmJ1 : ∀ a, a < 0 → ∀ b, b < 0 → a ≠ b → (TJ1 a).2.1 ≠ (TJ1 b).2.1 := by decide +kernel
theorem tyJ1_ok : ∀ k, k < 0 → parseFieldDescriptor (TJ1 k).2.2.1 = some (tyJ1 k) := by decide +kernel
abbrev cJ1_charAt_3b067 : ByteArray := prog_22_method_2_code
def yJ1_charAt_3b067 : MethodName := ⟨RJ1, "charAt", "([BI)C"⟩
abbrev cJ1_canEncode_9a6ad : ByteArray := prog_22_method_4_code
def yJ1_canEncode_9a6ad : MethodName := ⟨RJ1, "canEncode", "(I)Z"⟩
abbrev cJ1_indexOf_4cfef : ByteArray := prog_22_method_22_code
def yJ1_indexOf_4cfef : MethodName := ⟨RJ1, "indexOf", "([BIII)I"⟩
abbrev cJ1_indexOfChar_4cfef : ByteArray := prog_22_method_23_code
def yJ1_indexOfChar_4cfef : MethodName := ⟨RJ1, "indexOfChar", "([BIII)I"⟩
def RJ2 : String := "java/lang/StringUTF16"
def TJ2 : u_T := fun k => match k with
  | _ => ("", "", "", false)
def tyJ2 : Nat → FieldType := fun k => match k with
  | _ => .int
abbrev wsJ20 : List Cond := u_ws RJ2 TJ2 0
theorem nmJ2 : ∀ a, a < 0 → ∀ b, b < 0 → a ≠ b → (TJ2 a).2.1 ≠ (TJ2 b).2.1 := by decide +kernel
theorem tyJ2_ok : ∀ k, k < 0 → parseFieldDescriptor (TJ2 k).2.2.1 = some (tyJ2 k) := by decide +kernel
abbrev cJ2_getChar_3b067 : ByteArray := prog_23_method_5_code
def yJ2_getChar_3b067 : MethodName := ⟨RJ2, "getChar", "([BI)C"⟩
abbrev cJ2_length_9d52b : ByteArray := prog_23_method_6_code
def yJ2_length_9d52b : MethodName := ⟨RJ2, "length", "([B)I"⟩
abbrev cJ2_indexOf_4cfef : ByteArray := prog_23_method_40_code
def yJ2_indexOf_4cfef : MethodName := ⟨RJ2, "indexOf", "([BIII)I"⟩
abbrev cJ2_indexOfChar_4cfef : ByteArray := prog_23_method_47_code
def yJ2_indexOfChar_4cfef : MethodName := ⟨RJ2, "indexOfChar", "([BIII)I"⟩
abbrev cJ2_indexOfCharUnsafe_4cfef : ByteArray := prog_23_method_48_code
def yJ2_indexOfCharUnsafe_4cfef : MethodName := ⟨RJ2, "indexOfCharUnsafe", "([BIII)I"⟩
abbrev cJ2_indexOfSupplementary_4cfef : ByteArray := prog_23_method_49_code
def yJ2_indexOfSupplementary_4cfef : MethodName := ⟨RJ2, "indexOfSupplementary", "([BIII)I"⟩
abbrev cJ2_charAt_3b067 : ByteArray := prog_23_method_83_code
def yJ2_charAt_3b067 : MethodName := ⟨RJ2, "charAt", "([BI)C"⟩
abbrev cJ2_checkIndex_2214a : ByteArray := prog_23_method_91_code
def yJ2_checkIndex_2214a : MethodName := ⟨RJ2, "checkIndex", "(I[B)V"⟩
abbrev cJ2_checkBoundsBeginEnd_d044e : ByteArray := prog_23_method_93_code
def yJ2_checkBoundsBeginEnd_d044e : MethodName := ⟨RJ2, "checkBoundsBeginEnd", "(II[B)V"⟩
def RJ7 : String := "java/util/Arrays"
def TJ7 : u_T := fun k => match k with
  | _ => ("", "", "", false)
def tyJ7 : Nat → FieldType := fun k => match k with
  | _ => .int
abbrev wsJ70 : List Cond := u_ws RJ7 TJ7 0
theorem nmJ7 : ∀ a, a < 0 → ∀ b, b < 0 → a ≠ b → (TJ7 a).2.1 ≠ (TJ7 b).2.1 := by decide +kernel
theorem tyJ7_ok : ∀ k, k < 0 → parseFieldDescriptor (TJ7 k).2.2.1 = some (tyJ7 k) := by decide +kernel
abbrev cJ7_fill_53178 : ByteArray := prog_25_method_103_code
def yJ7_fill_53178 : MethodName := ⟨RJ7, "fill", "([II)V"⟩
def RJ3 : String := "jdk/internal/util/Preconditions"
def TJ3 : u_T := fun k => match k with
  | _ => ("", "", "", false)
def tyJ3 : Nat → FieldType := fun k => match k with
  | _ => .int
abbrev wsJ30 : List Cond := u_ws RJ3 TJ3 0
theorem nmJ3 : ∀ a, a < 0 → ∀ b, b < 0 → a ≠ b → (TJ3 a).2.1 ≠ (TJ3 b).2.1 := by decide +kernel
theorem tyJ3_ok : ∀ k, k < 0 → parseFieldDescriptor (TJ3 k).2.2.1 = some (tyJ3 k) := by decide +kernel
abbrev cJ3_checkIndex_8e157 : ByteArray := prog_26_method_11_code
def yJ3_checkIndex_8e157 : MethodName := ⟨RJ3, "checkIndex", "(IILjava/util/function/BiFunction;)I"⟩
abbrev cJ3_checkFromToIndex_8c36e : ByteArray := prog_26_method_12_code
def yJ3_checkFromToIndex_8c36e : MethodName := ⟨RJ3, "checkFromToIndex", "(IIILjava/util/function/BiFunction;)I"⟩
def RL : String := "ProbeConsoleLaw"
abbrev cL_feed : ByteArray := method_3_code
def yL_feed : MethodName := ⟨RL, "feed", "(LProbeConsole;IJ[J)I"⟩
abbrev cL_call : ByteArray := method_4_code
def yL_call : MethodName := ⟨RL, "call", "(LProbeConsole;IIII[J)I"⟩
abbrev cL_record : ByteArray := method_5_code
def yL_record : MethodName := ⟨RL, "record", "(LProbeConsole;II[J)I"⟩
abbrev cL_job : ByteArray := method_6_code
def yL_job : MethodName := ⟨RL, "job", "(LProbeConsole;II[J)I"⟩
abbrev cL_counted : ByteArray := method_7_code
def yL_counted : MethodName := ⟨RL, "counted", "(LProbeConsole;III[J)I"⟩
abbrev cL_kept : ByteArray := method_8_code
def yL_kept : MethodName := ⟨RL, "kept", "(LProbeConsole;II[J)I"⟩
abbrev cL_replay : ByteArray := method_9_code
def yL_replay : MethodName := ⟨RL, "replay", "(LProbeConsole;I[J)I"⟩
abbrev cL_law : ByteArray := code
def yL_law : MethodName := ⟨RL, "law", "([I)Z"⟩
abbrev vwCl : List vw_C := [(RX0, TX0, 6), (RX1, TX1, 7), (RX2, TX2, 10), (RX3, TX3, 2), (RX4, TX4, 13), (RX5, TX5, 3), (RX7, TX7, 7), (RX8, TX8, 4), (RX9, TX9, 2), (RX10, TX10, 3), (RX11, TX11, 8), (RX12, TX12, 60)]
/-- the words of the tables that stay good at every call -/
def gw_ : List Cond := lw_tbl.filter goodWord
theorem gw_of {w : Cond} (h : w ∈ lw_tbl) (g : goodWord w = true) : w ∈ gw_ := List.mem_filter.mpr ⟨h, g⟩
theorem gw_t {w : Cond} (i : Nat) (h : tables_1[i]? = some w) (g : goodWord w = true) : w ∈ gw_ := gw_of (List.mem_append_right _ (List.mem_of_getElem? h)) g
theorem gw_s (q : MethodName × Nat) (i : Nat) (h : lw_privs[i]? = some q) (g : goodWord (Cond.selects q.1.cls q.1 q.1) = true) : Cond.selects q.1.cls q.1 q.1 ∈ gw_ := gw_of (List.mem_append_left _ (List.mem_map.mpr ⟨q, List.mem_of_getElem? h, rfl⟩)) g
theorem gw_gg : GoodIn gw_ gw_ := fun w h => ⟨h, good_of_word (List.mem_filter.mp h).2⟩
theorem gw_gl : GoodIn lw_tbl gw_ := fun w h => ⟨(List.mem_filter.mp h).1, good_of_word (List.mem_filter.mp h).2⟩
theorem gw_hts {args : Array Value} {s : State} (h : ∀ w ∈ lw_tbl, w.before args s = true) : ∀ w ∈ gw_, w.before args s = true := fun w hw => h w (List.mem_filter.mp hw).1
end
section
/-! the cells: 0 the reference, 1 and on its arrays, by its fields in their order: 1 tape, 2 steps, 3 values, 4 lengths, 5 names, 6 parameters, 7 waits, 8 waitPlaces, 9 waitValues, 10 waitNames, 11 operands, 12 kinds, 13 points, 14 limits, 15 mades, 16 conditioned, 17 patterns, 18 patternSizes, 19 newPattern, 20 counts, 21 records, 22 keptOnes, 23 runMethods, 24 runParameters, 25 runPlaces, 26 stack, 27 tryPlaces, 28 tryHeights, 29 tryDepths, 30 seen, 31 probeStack, 32 probeTries, 33 probeHeights -/
def dr_fs : List Nat := [0, 4, 0, 0, 0, 0, 5, 6, 7, 0, 8, 9, 0, 0, 0, 0, 10, 11, 12, 13, 0, 14, 0, 0, 1, 15, 16, 17, 18, 19, 20, 21, 22, 0, 23, 0, 24, 0, 25, 0, 0, 0, 0, 26, 27, 28, 29, 0, 30, 31, 32, 0, 0, 0, 33, 34, 35, 36, 0, 0]
abbrev dd_ : Type := (Nat × Nat × Nat) ⊕ (Nat × List Nat)
def dr_ : List dd_ := [.inr (11, dr_fs), .inl (0, 200, 0), .inl (0, 2112, 0), .inl (1, 2112, 1), .inl (0, 33, 0), .inl (1, 16, 1), .inl (0, 16, 0), .inl (0, 64, 0), .inl (0, 64, 0), .inl (0, 64, 0), .inl (1, 64, 1), .inl (0, 64, 0), .inl (0, 8, 0), .inl (0, 8, 0), .inl (0, 8, 0), .inl (0, 8, 0), .inl (2, 8, 0), .inl (0, 96, 0), .inl (0, 8, 0), .inl (0, 12, 0), .inl (0, 384, 0), .inl (0, 1500, 0), .inl (0, 280, 0), .inl (0, 11, 0), .inl (0, 33, 0), .inl (0, 11, 0), .inl (0, 512, 0), .inl (0, 256, 0), .inl (0, 256, 0), .inl (0, 256, 0), .inl (0, 7, 0), .inl (0, 64, 0), .inl (0, 32, 0), .inl (0, 32, 0)]
def ds_ : List dd_ := dr_
def tl_ : List FieldType := [.int, .long, .boolean]
end
section
/-! A memory for a fixed set of cells, and the machine's rows over it. M.1: ints, M.2.1: longs, M.2.2: references, each by (cell, place).
G.1: where the cells lie; G.2.1: the arrays' kinds; G.2.2.1: kinds and slots of the objects; G.2.2.2: from which address on all may change. -/
abbrev mm_ : Type := (Nat → Nat → Int32) × (Nat → Nat → Int64) × (Nat → Nat → Option Nat)
abbrev gg_ : Type := (Nat → Nat) × (Nat → ClassId) × va_G × Nat
def fv_ (G : gg_) (M : mm_) (k j : Nat) : Nat → Value
  | 0 => .int (M.1 k j)
  | 1 => .long (M.2.1 k j)
  | 2 => va_rf ((M.2.2 k j).map G.1)
  | t + 3 => .ref (G.1 t)
def fl_ (G : gg_) (M : mm_) (k : Nat) : Nat → List Nat → List Value
  | _, [] => []
  | j, f :: fs => fv_ G M k j f :: fl_ G M k (j + 1) fs
def ce_ (G : gg_) (M : mm_) (k : Nat) : dd_ → va_E
  | .inl (t, n, 0) => .inl (G.2.1 t, n, .inl (M.1 k))
  | .inl (t, n, 1) => .inl (G.2.1 t, n, .inr (.inl (M.2.1 k)))
  | .inl (t, n, _ + 2) => .inl (G.2.1 t, n, .inr (.inr (.inr (.inr (fun i => (M.2.2 k i).map G.1)))))
  | .inr (ci, fs) => .inr (ci, fl_ G M k 0 fs)
def wk_ (G : gg_) (M : mm_) : Nat → List dd_ → va_W
  | _, [] => []
  | k, d :: ds => (G.1 k, ce_ G M k d) :: wk_ G M (k + 1) ds
abbrev wl_ (G : gg_) (M : mm_) : va_W := wk_ G M 0 ds_
def tk_ (tc : Nat → ClassId) : Nat → List FieldType → List (ClassId × FieldType)
  | _, [] => []
  | t, y :: ys => (tc t, y) :: tk_ tc (t + 1) ys
abbrev tt_ (G : gg_) : List (ClassId × FieldType) := tk_ G.2.1 0 tl_
theorem wk_get (G : gg_) (M : mm_) : ∀ (ds : List dd_) (k0 k : Nat), (wk_ G M k0 ds)[k]? = (ds[k]?).map (fun d => (G.1 (k0 + k), ce_ G M (k0 + k) d))
  | [], k0, k => by simp [wk_]
  | d :: ds, k0, 0 => by simp [wk_]
  | d :: ds, k0, k + 1 => by
    rw [wk_, List.getElem?_cons_succ, wk_get G M ds (k0 + 1) k, List.getElem?_cons_succ, Nat.add_right_comm, Nat.add_assoc]
theorem wl_at {G : gg_} {M : mm_} {k : Nat} {d : dd_} (h : ds_[k]? = some d) : (wl_ G M)[k]? = some (G.1 k, ce_ G M k d) := by
  rw [wk_get, h, Nat.zero_add]; rfl
theorem wl_set {G : gg_} {M M' : mm_} {k : Nat} {d : dd_} (h : ds_[k]? = some d) (he : ∀ (j : Nat) (d' : dd_), j ≠ k → ce_ G M' j d' = ce_ G M j d') : (wl_ G M).set k (G.1 k, ce_ G M' k d) = wl_ G M' := by
  apply List.ext_getElem?
  intro j
  by_cases hj : j = k
  · subst hj
    have hl : j < (wl_ G M).length := (List.getElem?_eq_some_iff.mp (wl_at (G := G) (M := M) h)).1
    rw [List.getElem?_set_self hl, wl_at h]
  · rw [List.getElem?_set_ne (Ne.symm hj), wk_get, wk_get]
    cases hd : ds_[j]? with
    | none => rfl
    | some d' =>
      simp only [Option.map_some, Nat.zero_add]
      rw [he j d' hj]
def sI_ (M : mm_) (a i : Nat) (v : Int32) : mm_ := (fun x j => if x = a ∧ j = i then v else M.1 x j, M.2.1, M.2.2)
def sL_ (M : mm_) (a i : Nat) (v : Int64) : mm_ := (M.1, fun x j => if x = a ∧ j = i then v else M.2.1 x j, M.2.2)
def sR_ (M : mm_) (a i : Nat) (v : Option Nat) : mm_ := (M.1, M.2.1, fun x j => if x = a ∧ j = i then v else M.2.2 x j)
theorem fl_eq {G : gg_} {M M' : mm_} {j : Nat} (h1 : M'.1 j = M.1 j) (h2 : M'.2.1 j = M.2.1 j) (h3 : M'.2.2 j = M.2.2 j) : ∀ (fs : List Nat) (n : Nat), fl_ G M' j n fs = fl_ G M j n fs
  | [], n => rfl
  | f :: fs, n => by
    rw [fl_, fl_, fl_eq h1 h2 h3 fs (n + 1)]
    match f with
    | 0 => simp only [fv_, h1]
    | 1 => simp only [fv_, h2]
    | 2 => simp only [fv_, h3]
    | t + 3 => rfl
theorem ce_eq {G : gg_} {M M' : mm_} {j : Nat} (h1 : M'.1 j = M.1 j) (h2 : M'.2.1 j = M.2.1 j) (h3 : M'.2.2 j = M.2.2 j) (d : dd_) : ce_ G M' j d = ce_ G M j d := by
  match d with
  | .inl (t, n, 0) => simp only [ce_, h1]
  | .inl (t, n, 1) => simp only [ce_, h2]
  | .inl (t, n, i + 2) => simp only [ce_, h3]
  | .inr (ci, fs) => simp only [ce_, fl_eq h1 h2 h3 fs 0]
theorem ce_sI {G : gg_} {M : mm_} {a i : Nat} {v : Int32} (j : Nat) (d : dd_) (h : j ≠ a) : ce_ G (sI_ M a i v) j d = ce_ G M j d := ce_eq (M := M) (M' := sI_ M a i v) (funext fun x => by simp [sI_, h]) rfl rfl d
theorem ce_sL {G : gg_} {M : mm_} {a i : Nat} {v : Int64} (j : Nat) (d : dd_) (h : j ≠ a) : ce_ G (sL_ M a i v) j d = ce_ G M j d := ce_eq (M := M) (M' := sL_ M a i v) rfl (funext fun x => by simp [sL_, h]) rfl d
theorem ce_sR {G : gg_} {M : mm_} {a i : Nat} {v : Option Nat} (j : Nat) (d : dd_) (h : j ≠ a) : ce_ G (sR_ M a i v) j d = ce_ G M j d := ce_eq (M := M) (M' := sR_ M a i v) rfl rfl (funext fun x => by simp [sR_, h]) d
theorem fl_get {G : gg_} {M : mm_} {k : Nat} : ∀ (fs : List Nat) (n j : Nat), (fl_ G M k n fs)[j]? = (fs[j]?).map (fv_ G M k (n + j))
  | [], n, j => by simp [fl_]
  | f :: fs, n, 0 => by simp [fl_]
  | f :: fs, n, j + 1 => by
    rw [fl_, List.getElem?_cons_succ, fl_get fs (n + 1) j, List.getElem?_cons_succ, Nat.add_right_comm, Nat.add_assoc]
theorem fl_at {G : gg_} {M : mm_} {k j f : Nat} {fs : List Nat} (h : fs[j]? = some f) : (fl_ G M k 0 fs)[j]? = some (fv_ G M k j f) := by
  rw [fl_get, h, Nat.zero_add]; rfl
theorem fl_len {G : gg_} {M : mm_} {k : Nat} : ∀ (fs : List Nat) (n : Nat), (fl_ G M k n fs).length = fs.length
  | [], _ => rfl
  | f :: fs, n => by rw [fl_, List.length_cons, fl_len fs (n + 1), List.length_cons]
theorem fl_set {G : gg_} {M M' : mm_} {k j f : Nat} {fs : List Nat} (h : fs[j]? = some f) (he : ∀ i g, i ≠ j → fv_ G M' k i g = fv_ G M k i g) : (fl_ G M k 0 fs).set j (fv_ G M' k j f) = fl_ G M' k 0 fs := by
  apply List.ext_getElem?
  intro i
  by_cases hi : i = j
  · subst hi
    have hl : i < (fl_ G M k 0 fs).length := (List.getElem?_eq_some_iff.mp (fl_at (G := G) (M := M) (k := k) h)).1
    rw [List.getElem?_set_self hl, fl_at h]
  · rw [List.getElem?_set_ne (Ne.symm hi), fl_get, fl_get]
    cases hd : fs[i]? with
    | none => rfl
    | some g => simp only [Option.map_some, Nat.zero_add]; rw [he i g hi]
theorem fv_sI {G : gg_} {M : mm_} {k j : Nat} {v : Int32} (i g : Nat) (h : i ≠ j) : fv_ G (sI_ M k j v) k i g = fv_ G M k i g := by
  match g with
  | 0 => simp [fv_, sI_, h]
  | 1 => rfl
  | 2 => rfl
  | t + 3 => rfl
theorem fv_sL {G : gg_} {M : mm_} {k j : Nat} {v : Int64} (i g : Nat) (h : i ≠ j) : fv_ G (sL_ M k j v) k i g = fv_ G M k i g := by
  match g with
  | 0 => rfl
  | 1 => simp [fv_, sL_, h]
  | 2 => rfl
  | t + 3 => rfl
def aw_ (G : gg_) : Nat → Prop := fun q => G.2.2.2 ≤ q
def gd_ (G : gg_) : Prop := (∀ i j : Nat, i < ds_.length → j < ds_.length → G.1 i = G.1 j → i = j) ∧ ∀ k : Nat, k < ds_.length → G.2.2.2 ≤ G.1 k
theorem wl_D {G : gg_} {M : mm_} (h : gd_ G) : va_D (aw_ G) (wl_ G M) := by
  have key : ∀ (k : Nat) (q : Nat × va_E), (wl_ G M)[k]? = some q → k < ds_.length ∧ q.1 = G.1 k := by
    intro k q hk
    rw [wk_get] at hk
    cases hd : ds_[k]? with
    | none => rw [hd] at hk; cases hk
    | some d =>
      rw [hd] at hk
      cases hk
      exact ⟨(List.getElem?_eq_some_iff.mp hd).1, by simp⟩
  refine ⟨fun i j x y hi hj hxy => ?_, fun k q hk => ?_⟩
  · obtain ⟨a1, a2⟩ := key i x hi
    obtain ⟨b1, b2⟩ := key j y hj
    exact h.1 i j a1 b1 (by rw [← a2, ← b2]; exact hxy)
  · obtain ⟨a1, a2⟩ := key k q hk
    rw [a2]
    exact h.2 k a1
/-! the locals: a list, none where nothing is known -/
def al_ : Nat → List (Option Value) → List (Nat × Value)
  | _, [] => []
  | i, none :: t => al_ (i + 1) t
  | i, some v :: t => (i, v) :: al_ (i + 1) t
def dp_ : Option Value → Option Value
  | some (.long _) => none
  | some (.double _) => none
  | o => o
def l1_ : List (Option Value) → Nat → Value → List (Option Value)
  | [], _, _ => []
  | _ :: t, 0, v => some v :: t
  | o :: t, 1, v => dp_ o :: l1_ t 0 v
  | o :: t, i + 2, v => o :: l1_ t (i + 1) v
def l2_ : List (Option Value) → Nat → Value → List (Option Value)
  | [], _, _ => []
  | [_], 0, v => [some v]
  | _ :: _ :: t, 0, v => some v :: none :: t
  | o :: t, 1, v => dp_ o :: l2_ t 0 v
  | o :: t, i + 2, v => o :: l2_ t (i + 1) v
theorem al_mem : ∀ (lv : List (Option Value)) (i0 : Nat) (q : Nat × Value), q ∈ al_ i0 lv ↔ ∃ i, q.1 = i0 + i ∧ lv[i]? = some (some q.2)
  | [], i0, q => by simp [al_]
  | none :: t, i0, q => by
    rw [al_, al_mem t (i0 + 1) q]
    constructor
    · rintro ⟨i, h1, h2⟩
      exact ⟨i + 1, by omega, by simpa using h2⟩
    · rintro ⟨i, h1, h2⟩
      match i, h2 with
      | 0, h2 => simp at h2
      | i + 1, h2 => exact ⟨i, by omega, by simpa using h2⟩
  | some v :: t, i0, q => by
    rw [al_, List.mem_cons, al_mem t (i0 + 1) q]
    constructor
    · rintro (h | ⟨i, h1, h2⟩)
      · subst h; exact ⟨0, rfl, rfl⟩
      · exact ⟨i + 1, by omega, by simpa using h2⟩
    · rintro ⟨i, h1, h2⟩
      match i, h2 with
      | 0, h2 =>
        left
        simp at h2
        obtain ⟨a, b⟩ := q
        simp at h1 h2
        rw [h1, ← h2]
      | i + 1, h2 => exact Or.inr ⟨i, by omega, by simpa using h2⟩
theorem dp_some {o : Option Value} {w : Value} (h : dp_ o = some w) : o = some w ∧ ¬ w.category = 2 := by
  match o, h with
  | none, h => cases h
  | some (.int x), h => cases h; exact ⟨rfl, by simp [Value.category]⟩
  | some (.long x), h => cases h
  | some (.float x), h => cases h; exact ⟨rfl, by simp [Value.category]⟩
  | some (.double x), h => cases h
  | some .null, h => cases h; exact ⟨rfl, by simp [Value.category]⟩
  | some (.ref x), h => cases h; exact ⟨rfl, by simp [Value.category]⟩
  | some (.retAddr x), h => cases h; exact ⟨rfl, by simp [Value.category]⟩
theorem l1_get : ∀ (lv : List (Option Value)) (i : Nat) (v : Value) (j : Nat) (w : Value), (l1_ lv i v)[j]? = some (some w) → (j = i ∧ w = v) ∨ (j ≠ i ∧ lv[j]? = some (some w) ∧ ¬ (j + 1 = i ∧ w.category = 2))
  | [], i, v, j, w, h => by simp [l1_] at h
  | o :: t, 0, v, j, w, h => by
    match j, h with
    | 0, h => left; simp [l1_] at h; exact ⟨rfl, h.symm⟩
    | j + 1, h => right; exact ⟨by omega, by simpa [l1_] using h, by omega⟩
  | o :: t, 1, v, j, w, h => by
    match j, h with
    | 0, h =>
      right
      simp only [l1_, List.getElem?_cons_zero, Option.some.injEq] at h
      obtain ⟨h1, h2⟩ := dp_some h
      exact ⟨by omega, by rw [h1]; rfl, fun q => h2 q.2⟩
    | j + 1, h =>
      simp only [l1_, List.getElem?_cons_succ] at h
      rcases l1_get t 0 v j w h with ⟨h1, h2⟩ | ⟨h1, h2, h3⟩
      · exact Or.inl ⟨by omega, h2⟩
      · exact Or.inr ⟨by omega, by simpa using h2, fun q => by omega⟩
  | o :: t, i + 2, v, j, w, h => by
    match j, h with
    | 0, h => right; exact ⟨by omega, by simpa [l1_] using h, by omega⟩
    | j + 1, h =>
      simp only [l1_, List.getElem?_cons_succ] at h
      rcases l1_get t (i + 1) v j w h with ⟨h1, h2⟩ | ⟨h1, h2, h3⟩
      · exact Or.inl ⟨by omega, h2⟩
      · exact Or.inr ⟨by omega, by simpa using h2, fun q => h3 ⟨by omega, q.2⟩⟩
theorem l2_get : ∀ (lv : List (Option Value)) (i : Nat) (v : Value) (j : Nat) (w : Value), (l2_ lv i v)[j]? = some (some w) → (j = i ∧ w = v) ∨ (j ≠ i ∧ j ≠ i + 1 ∧ lv[j]? = some (some w) ∧ ¬ (j + 1 = i ∧ w.category = 2))
  | [], i, v, j, w, h => by simp [l2_] at h
  | [o], 0, v, j, w, h => by
    match j, h with
    | 0, h => left; simp [l2_] at h; exact ⟨rfl, h.symm⟩
    | j + 1, h => simp [l2_] at h
  | o :: o2 :: t, 0, v, j, w, h => by
    match j, h with
    | 0, h => left; simp [l2_] at h; exact ⟨rfl, h.symm⟩
    | 1, h => simp [l2_] at h
    | j + 2, h => right; exact ⟨by omega, by omega, by simpa [l2_] using h, by omega⟩
  | o :: t, 1, v, j, w, h => by
    match j, h with
    | 0, h =>
      right
      simp only [l2_, List.getElem?_cons_zero, Option.some.injEq] at h
      obtain ⟨h1, h2⟩ := dp_some h
      exact ⟨by omega, by omega, by rw [h1]; rfl, fun q => h2 q.2⟩
    | j + 1, h =>
      simp only [l2_, List.getElem?_cons_succ] at h
      rcases l2_get t 0 v j w h with ⟨h1, h2⟩ | ⟨h1, h1', h2, h3⟩
      · exact Or.inl ⟨by omega, h2⟩
      · exact Or.inr ⟨by omega, by omega, by simpa using h2, fun q => by omega⟩
  | o :: t, i + 2, v, j, w, h => by
    match j, h with
    | 0, h => right; exact ⟨by omega, by omega, by simpa [l2_] using h, by omega⟩
    | j + 1, h =>
      simp only [l2_, List.getElem?_cons_succ] at h
      rcases l2_get t (i + 1) v j w h with ⟨h1, h2⟩ | ⟨h1, h1', h2, h3⟩
      · exact Or.inl ⟨by omega, h2⟩
      · exact Or.inr ⟨by omega, by omega, by simpa using h2, fun q => h3 ⟨by omega, q.2⟩⟩
def lh_ (n : Nat) (ls : Array Slot) (lv : List (Option Value)) : Prop := lv_has ls n (al_ 0 lv)
theorem lh_at {n : Nat} {ls : Array Slot} {lv : List (Option Value)} {i : Nat} {v : Value} (h : lh_ n ls lv) (hv : lv[i]? = some (some v)) : ls[i]? = some (.val v) := h.2.2 (i, v) ((al_mem lv 0 (i, v)).mpr ⟨i, by simp, hv⟩)
theorem lh_sub {n : Nat} {ls : Array Slot} {lv : List (Option Value)} {l : List (Nat × Value)} (h : lv_has ls n l) (hs : ∀ q ∈ al_ 0 lv, q ∈ l) : lh_ n ls lv := ⟨h.1, h.2.1, fun q hq => h.2.2 q (hs q hq)⟩
theorem lh_1 {lv : List (Option Value)} {i : Nat} {v : Value} : ∀ q ∈ al_ 0 (l1_ lv i v), q ∈ (i, v) :: (al_ 0 lv).filter (fun q => !(q.1 == i) && !(q.1 + 1 == i && q.2.category == 2)) := by
  intro q hq
  obtain ⟨j, h1, h2⟩ := (al_mem _ 0 q).mp hq
  rw [Nat.zero_add] at h1
  obtain ⟨a, b⟩ := q
  simp only at h1 h2
  subst h1
  rcases l1_get lv i v a b h2 with ⟨e1, e2⟩ | ⟨e1, e2, e3⟩
  · rw [e1, e2]; exact List.mem_cons_self
  · refine List.mem_cons_of_mem _ (List.mem_filter.mpr ⟨(al_mem lv 0 (a, b)).mpr ⟨a, by simp, e2⟩, ?_⟩)
    have e4 : (a == i) = false := by simpa using e1
    have e5 : (a + 1 == i && b.category == 2) = false := by
      cases h6 : (a + 1 == i && b.category == 2) with
      | false => rfl
      | true =>
        rw [Bool.and_eq_true, beq_iff_eq, beq_iff_eq] at h6
        exact absurd h6 e3
    simp only [e4, e5]; rfl
theorem lh_2 {lv : List (Option Value)} {i : Nat} {v : Value} : ∀ q ∈ al_ 0 (l2_ lv i v), q ∈ (i, v) :: (al_ 0 lv).filter (fun q => !(q.1 == i) && (!(q.1 == i + 1) && !(q.1 + 1 == i && q.2.category == 2))) := by
  intro q hq
  obtain ⟨j, h1, h2⟩ := (al_mem _ 0 q).mp hq
  rw [Nat.zero_add] at h1
  obtain ⟨a, b⟩ := q
  simp only at h1 h2
  subst h1
  rcases l2_get lv i v a b h2 with ⟨e1, e2⟩ | ⟨e1, e0, e2, e3⟩
  · rw [e1, e2]; exact List.mem_cons_self
  · refine List.mem_cons_of_mem _ (List.mem_filter.mpr ⟨(al_mem lv 0 (a, b)).mpr ⟨a, by simp, e2⟩, ?_⟩)
    have e4 : (a == i) = false := by simpa using e1
    have e7 : (a == i + 1) = false := by simpa using e0
    have e5 : (a + 1 == i && b.category == 2) = false := by
      cases h6 : (a + 1 == i && b.category == 2) with
      | false => rfl
      | true =>
        rw [Bool.and_eq_true, beq_iff_eq, beq_iff_eq] at h6
        exact absurd h6 e3
    simp only [e4, e5, e7]; rfl
def en_ : Nat → List Value → List (Option Value)
  | n, [] => List.replicate n none
  | n, .long x :: vs => some (.long x) :: none :: en_ (n - 2) vs
  | n, .double x :: vs => some (.double x) :: none :: en_ (n - 2) vs
  | n, v :: vs => some v :: en_ (n - 1) vs
theorem en_mem : ∀ (vs : List Value) (n i0 : Nat), ∀ q ∈ al_ i0 (en_ n vs), q ∈ lv_args i0 vs
  | [], n, i0, q, h => by
    obtain ⟨i, h1, h2⟩ := (al_mem _ i0 q).mp h
    simp only [en_] at h2
    have h3 := List.mem_of_getElem? h2
    rw [List.mem_replicate] at h3
    cases h3.2
  | .long x :: vs, n, i0, q, h => by
    simp only [en_, al_, List.mem_cons] at h
    simp only [lv_args, List.mem_cons]
    rcases h with h | h
    · exact Or.inl h
    · exact Or.inr (by simpa [Value.category] using en_mem vs (n - 2) (i0 + 1 + 1) q h)
  | .double x :: vs, n, i0, q, h => by
    simp only [en_, al_, List.mem_cons] at h
    simp only [lv_args, List.mem_cons]
    rcases h with h | h
    · exact Or.inl h
    · exact Or.inr (by simpa [Value.category] using en_mem vs (n - 2) (i0 + 1 + 1) q h)
  | .int x :: vs, n, i0, q, h => by
    simp only [en_, al_, List.mem_cons] at h
    simp only [lv_args, List.mem_cons]
    exact h.elim Or.inl (fun h => Or.inr (by simpa [Value.category] using en_mem vs (n - 1) (i0 + 1) q h))
  | .float x :: vs, n, i0, q, h => by
    simp only [en_, al_, List.mem_cons] at h
    simp only [lv_args, List.mem_cons]
    exact h.elim Or.inl (fun h => Or.inr (by simpa [Value.category] using en_mem vs (n - 1) (i0 + 1) q h))
  | .null :: vs, n, i0, q, h => by
    simp only [en_, al_, List.mem_cons] at h
    simp only [lv_args, List.mem_cons]
    exact h.elim Or.inl (fun h => Or.inr (by simpa [Value.category] using en_mem vs (n - 1) (i0 + 1) q h))
  | .ref x :: vs, n, i0, q, h => by
    simp only [en_, al_, List.mem_cons] at h
    simp only [lv_args, List.mem_cons]
    exact h.elim Or.inl (fun h => Or.inr (by simpa [Value.category] using en_mem vs (n - 1) (i0 + 1) q h))
  | .retAddr x :: vs, n, i0, q, h => by
    simp only [en_, al_, List.mem_cons] at h
    simp only [lv_args, List.mem_cons]
    exact h.elim Or.inl (fun h => Or.inr (by simpa [Value.category] using en_mem vs (n - 1) (i0 + 1) q h))
end
section
/-! the machine's rows over the memory -/
abbrev mc_ : Type := Program × Launch × Env × Room × State × MethodId × Array Value × List Frame × Method × Code × Nat × Nat
def wq_ : mc_ → gg_ → (State → Prop) → Nat → List (Option Value) → List Value → mm_ → Prop
  | (p, l, e, R, s, m, args, below, meth, c, cs, sl), G, Q, pc, lv, st, M => ∀ (H : Heap) (locs : List Loc) (ls : Array Slot), lh_ c.maxLocals ls lv → va_P G.2.2.1 vwCl (wl_ G M) H → va_S (aw_ G) s.heap H locs → W p l e R s m args below meth c H locs cs sl Q (F0 m pc ls st)
def cx_ : mc_ → gg_ → String → ByteArray → Nat → Option FieldType → Nat → Prop
  | (p, l, e, R, s, m, args, below, meth, c, cs, sl), G, own, cc, nL, ry, d => p.tables.exec = Jvm.exec ∧ c.code = cc ∧ c.maxLocals = nL ∧ meth.sig.returnType = ry ∧ s.vm.findClass own = some m.cls ∧ (∀ w ∈ gw_, w.before args s = true) ∧ va_K G.2.2.1 vwCl (tt_ G) s ∧ gd_ G ∧ G.2.2.2 ≤ s.heap.size ∧ meth.locks = false ∧ d ≤ R.frames ∧ 64 * d ≤ R.locals ∧ cs ≤ R.cells ∧ sl ≤ R.slots
section ROWS
variable {C : mc_} {G : gg_} {Q : State → Prop} {pc : Nat} {lv : List (Option Value)} {st : List Value} {M : mm_} {own : String} {cc : ByteArray} {nL : Nat} {ry : Option FieldType} {d : Nat}
theorem w_iconst {n : Int} {v : Int32} (X : cx_ C G own cc nL ry d) (hd : decode cc pc = .ok (.iconst n, 1)) (hv : Int32.ofInt n = v) (k : wq_ C G Q (pc + 1) lv (.int v :: st) M) : wq_ C G Q pc lv (st) M := by
  obtain ⟨p, l, e, R, s, m, args, below, meth, c, cs, sl⟩ := C
  obtain ⟨hx, hb, hml, hrt, hown, hts, hK, hG, hbs, hlk, hfr, hlo, hcs, hsl⟩ := X
  intro H locs ls hl hP hS
  exact lv_iconst hx hb hd hv (k H locs ls hl hP hS)
theorem w_bipush {n : Int} {v : Int32} (X : cx_ C G own cc nL ry d) (hd : decode cc pc = .ok (.bipush n, 2)) (hv : (Int8.ofInt n).toInt32 = v) (k : wq_ C G Q (pc + 2) lv (.int v :: st) M) : wq_ C G Q pc lv (st) M := by
  obtain ⟨p, l, e, R, s, m, args, below, meth, c, cs, sl⟩ := C
  obtain ⟨hx, hb, hml, hrt, hown, hts, hK, hG, hbs, hlk, hfr, hlo, hcs, hsl⟩ := X
  intro H locs ls hl hP hS
  exact lv_bipush hx hb hd hv (k H locs ls hl hP hS)
theorem w_sipush {n : Int} {v : Int32} (X : cx_ C G own cc nL ry d) (hd : decode cc pc = .ok (.sipush n, 3)) (hv : (Int16.ofInt n).toInt32 = v) (k : wq_ C G Q (pc + 3) lv (.int v :: st) M) : wq_ C G Q pc lv (st) M := by
  obtain ⟨p, l, e, R, s, m, args, below, meth, c, cs, sl⟩ := C
  obtain ⟨hx, hb, hml, hrt, hown, hts, hK, hG, hbs, hlk, hfr, hlo, hcs, hsl⟩ := X
  intro H locs ls hl hP hS
  exact lv_sipush hx hb hd hv (k H locs ls hl hP hS)
theorem w_lconst {n : Fin 2} {v : Int64} (X : cx_ C G own cc nL ry d) (hd : decode cc pc = .ok (.lconst n, 1)) (hv : Int64.ofNat (n : Nat) = v) (k : wq_ C G Q (pc + 1) lv (.long v :: st) M) : wq_ C G Q pc lv (st) M := by
  obtain ⟨p, l, e, R, s, m, args, below, meth, c, cs, sl⟩ := C
  obtain ⟨hx, hb, hml, hrt, hown, hts, hK, hG, hbs, hlk, hfr, hlo, hcs, hsl⟩ := X
  intro H locs ls hl hP hS
  exact lv_lconst hx hb hd hv (k H locs ls hl hP hS)
theorem w_iadd {x y : Int32} (X : cx_ C G own cc nL ry d) (hd : decode cc pc = .ok (.iadd, 1))  (k : wq_ C G Q (pc + 1) lv (.int (x + y) :: st) M) : wq_ C G Q pc lv (.int y :: .int x :: st) M := by
  obtain ⟨p, l, e, R, s, m, args, below, meth, c, cs, sl⟩ := C
  obtain ⟨hx, hb, hml, hrt, hown, hts, hK, hG, hbs, hlk, hfr, hlo, hcs, hsl⟩ := X
  intro H locs ls hl hP hS
  exact lv_iadd hx hb hd  (k H locs ls hl hP hS)
theorem w_isub {x y : Int32} (X : cx_ C G own cc nL ry d) (hd : decode cc pc = .ok (.isub, 1))  (k : wq_ C G Q (pc + 1) lv (.int (x - y) :: st) M) : wq_ C G Q pc lv (.int y :: .int x :: st) M := by
  obtain ⟨p, l, e, R, s, m, args, below, meth, c, cs, sl⟩ := C
  obtain ⟨hx, hb, hml, hrt, hown, hts, hK, hG, hbs, hlk, hfr, hlo, hcs, hsl⟩ := X
  intro H locs ls hl hP hS
  exact lv_isub hx hb hd  (k H locs ls hl hP hS)
theorem w_imul {x y : Int32} (X : cx_ C G own cc nL ry d) (hd : decode cc pc = .ok (.imul, 1))  (k : wq_ C G Q (pc + 1) lv (.int (x * y) :: st) M) : wq_ C G Q pc lv (.int y :: .int x :: st) M := by
  obtain ⟨p, l, e, R, s, m, args, below, meth, c, cs, sl⟩ := C
  obtain ⟨hx, hb, hml, hrt, hown, hts, hK, hG, hbs, hlk, hfr, hlo, hcs, hsl⟩ := X
  intro H locs ls hl hP hS
  exact lv_imul hx hb hd  (k H locs ls hl hP hS)
theorem w_iand {x y : Int32} (X : cx_ C G own cc nL ry d) (hd : decode cc pc = .ok (.iand, 1))  (k : wq_ C G Q (pc + 1) lv (.int (x &&& y) :: st) M) : wq_ C G Q pc lv (.int y :: .int x :: st) M := by
  obtain ⟨p, l, e, R, s, m, args, below, meth, c, cs, sl⟩ := C
  obtain ⟨hx, hb, hml, hrt, hown, hts, hK, hG, hbs, hlk, hfr, hlo, hcs, hsl⟩ := X
  intro H locs ls hl hP hS
  exact lv_iand hx hb hd  (k H locs ls hl hP hS)
theorem w_ior {x y : Int32} (X : cx_ C G own cc nL ry d) (hd : decode cc pc = .ok (.ior, 1))  (k : wq_ C G Q (pc + 1) lv (.int (x ||| y) :: st) M) : wq_ C G Q pc lv (.int y :: .int x :: st) M := by
  obtain ⟨p, l, e, R, s, m, args, below, meth, c, cs, sl⟩ := C
  obtain ⟨hx, hb, hml, hrt, hown, hts, hK, hG, hbs, hlk, hfr, hlo, hcs, hsl⟩ := X
  intro H locs ls hl hP hS
  exact lv_ior hx hb hd  (k H locs ls hl hP hS)
theorem w_ishl {x y : Int32} (X : cx_ C G own cc nL ry d) (hd : decode cc pc = .ok (.ishl, 1))  (k : wq_ C G Q (pc + 1) lv (.int (x <<< (y &&& 31)) :: st) M) : wq_ C G Q pc lv (.int y :: .int x :: st) M := by
  obtain ⟨p, l, e, R, s, m, args, below, meth, c, cs, sl⟩ := C
  obtain ⟨hx, hb, hml, hrt, hown, hts, hK, hG, hbs, hlk, hfr, hlo, hcs, hsl⟩ := X
  intro H locs ls hl hP hS
  exact lv_ishl hx hb hd  (k H locs ls hl hP hS)
theorem w_ishr {x y : Int32} (X : cx_ C G own cc nL ry d) (hd : decode cc pc = .ok (.ishr, 1))  (k : wq_ C G Q (pc + 1) lv (.int (x >>> (y &&& 31)) :: st) M) : wq_ C G Q pc lv (.int y :: .int x :: st) M := by
  obtain ⟨p, l, e, R, s, m, args, below, meth, c, cs, sl⟩ := C
  obtain ⟨hx, hb, hml, hrt, hown, hts, hK, hG, hbs, hlk, hfr, hlo, hcs, hsl⟩ := X
  intro H locs ls hl hP hS
  exact lv_ishr hx hb hd  (k H locs ls hl hP hS)
theorem w_idiv {x y : Int32} (X : cx_ C G own cc nL ry d) (hd : decode cc pc = .ok (.idiv, 1)) (hne : ¬ y = 0) (k : wq_ C G Q (pc + 1) lv (.int (x / y) :: st) M) : wq_ C G Q pc lv (.int y :: .int x :: st) M := by
  obtain ⟨p, l, e, R, s, m, args, below, meth, c, cs, sl⟩ := C
  obtain ⟨hx, hb, hml, hrt, hown, hts, hK, hG, hbs, hlk, hfr, hlo, hcs, hsl⟩ := X
  intro H locs ls hl hP hS
  exact lv_idiv hx hb hd hne (k H locs ls hl hP hS)
theorem w_irem {x y : Int32} (X : cx_ C G own cc nL ry d) (hd : decode cc pc = .ok (.irem, 1)) (hne : ¬ y = 0) (k : wq_ C G Q (pc + 1) lv (.int (x - x / y * y) :: st) M) : wq_ C G Q pc lv (.int y :: .int x :: st) M := by
  obtain ⟨p, l, e, R, s, m, args, below, meth, c, cs, sl⟩ := C
  obtain ⟨hx, hb, hml, hrt, hown, hts, hK, hG, hbs, hlk, hfr, hlo, hcs, hsl⟩ := X
  intro H locs ls hl hP hS
  exact lv_irem hx hb hd hne (k H locs ls hl hP hS)
theorem w_ineg {x : Int32} (X : cx_ C G own cc nL ry d) (hd : decode cc pc = .ok (.ineg, 1))  (k : wq_ C G Q (pc + 1) lv (.int (-x) :: st) M) : wq_ C G Q pc lv (.int x :: st) M := by
  obtain ⟨p, l, e, R, s, m, args, below, meth, c, cs, sl⟩ := C
  obtain ⟨hx, hb, hml, hrt, hown, hts, hK, hG, hbs, hlk, hfr, hlo, hcs, hsl⟩ := X
  intro H locs ls hl hP hS
  exact lv_ineg hx hb hd  (k H locs ls hl hP hS)
theorem w_ladd {x y : Int64} (X : cx_ C G own cc nL ry d) (hd : decode cc pc = .ok (.ladd, 1))  (k : wq_ C G Q (pc + 1) lv (.long (x + y) :: st) M) : wq_ C G Q pc lv (.long y :: .long x :: st) M := by
  obtain ⟨p, l, e, R, s, m, args, below, meth, c, cs, sl⟩ := C
  obtain ⟨hx, hb, hml, hrt, hown, hts, hK, hG, hbs, hlk, hfr, hlo, hcs, hsl⟩ := X
  intro H locs ls hl hP hS
  exact lv_ladd hx hb hd  (k H locs ls hl hP hS)
theorem w_lsub {x y : Int64} (X : cx_ C G own cc nL ry d) (hd : decode cc pc = .ok (.lsub, 1))  (k : wq_ C G Q (pc + 1) lv (.long (x - y) :: st) M) : wq_ C G Q pc lv (.long y :: .long x :: st) M := by
  obtain ⟨p, l, e, R, s, m, args, below, meth, c, cs, sl⟩ := C
  obtain ⟨hx, hb, hml, hrt, hown, hts, hK, hG, hbs, hlk, hfr, hlo, hcs, hsl⟩ := X
  intro H locs ls hl hP hS
  exact lv_lsub hx hb hd  (k H locs ls hl hP hS)
theorem w_lmul {x y : Int64} (X : cx_ C G own cc nL ry d) (hd : decode cc pc = .ok (.lmul, 1))  (k : wq_ C G Q (pc + 1) lv (.long (x * y) :: st) M) : wq_ C G Q pc lv (.long y :: .long x :: st) M := by
  obtain ⟨p, l, e, R, s, m, args, below, meth, c, cs, sl⟩ := C
  obtain ⟨hx, hb, hml, hrt, hown, hts, hK, hG, hbs, hlk, hfr, hlo, hcs, hsl⟩ := X
  intro H locs ls hl hP hS
  exact lv_lmul hx hb hd  (k H locs ls hl hP hS)
theorem w_land {x y : Int64} (X : cx_ C G own cc nL ry d) (hd : decode cc pc = .ok (.land, 1))  (k : wq_ C G Q (pc + 1) lv (.long (x &&& y) :: st) M) : wq_ C G Q pc lv (.long y :: .long x :: st) M := by
  obtain ⟨p, l, e, R, s, m, args, below, meth, c, cs, sl⟩ := C
  obtain ⟨hx, hb, hml, hrt, hown, hts, hK, hG, hbs, hlk, hfr, hlo, hcs, hsl⟩ := X
  intro H locs ls hl hP hS
  exact lv_land hx hb hd  (k H locs ls hl hP hS)
theorem w_lor {x y : Int64} (X : cx_ C G own cc nL ry d) (hd : decode cc pc = .ok (.lor, 1))  (k : wq_ C G Q (pc + 1) lv (.long (x ||| y) :: st) M) : wq_ C G Q pc lv (.long y :: .long x :: st) M := by
  obtain ⟨p, l, e, R, s, m, args, below, meth, c, cs, sl⟩ := C
  obtain ⟨hx, hb, hml, hrt, hown, hts, hK, hG, hbs, hlk, hfr, hlo, hcs, hsl⟩ := X
  intro H locs ls hl hP hS
  exact lv_lor hx hb hd  (k H locs ls hl hP hS)
theorem w_lshl {x : Int64} {y : Int32} (X : cx_ C G own cc nL ry d) (hd : decode cc pc = .ok (.lshl, 1))  (k : wq_ C G Q (pc + 1) lv (.long (x <<< (y.toInt64 &&& 63)) :: st) M) : wq_ C G Q pc lv (.int y :: .long x :: st) M := by
  obtain ⟨p, l, e, R, s, m, args, below, meth, c, cs, sl⟩ := C
  obtain ⟨hx, hb, hml, hrt, hown, hts, hK, hG, hbs, hlk, hfr, hlo, hcs, hsl⟩ := X
  intro H locs ls hl hP hS
  exact lv_lshl hx hb hd rfl (k H locs ls hl hP hS)
theorem w_lshr {x : Int64} {y : Int32} (X : cx_ C G own cc nL ry d) (hd : decode cc pc = .ok (.lshr, 1))  (k : wq_ C G Q (pc + 1) lv (.long (x >>> (y.toInt64 &&& 63)) :: st) M) : wq_ C G Q pc lv (.int y :: .long x :: st) M := by
  obtain ⟨p, l, e, R, s, m, args, below, meth, c, cs, sl⟩ := C
  obtain ⟨hx, hb, hml, hrt, hown, hts, hK, hG, hbs, hlk, hfr, hlo, hcs, hsl⟩ := X
  intro H locs ls hl hP hS
  exact lv_lshr hx hb hd rfl (k H locs ls hl hP hS)
theorem w_lushr {x : Int64} {y : Int32} (X : cx_ C G own cc nL ry d) (hd : decode cc pc = .ok (.lushr, 1))  (k : wq_ C G Q (pc + 1) lv (.long ((x.toUInt64 >>> (y.toInt64.toUInt64 &&& Int64.toUInt64 63)).toInt64) :: st) M) : wq_ C G Q pc lv (.int y :: .long x :: st) M := by
  obtain ⟨p, l, e, R, s, m, args, below, meth, c, cs, sl⟩ := C
  obtain ⟨hx, hb, hml, hrt, hown, hts, hK, hG, hbs, hlk, hfr, hlo, hcs, hsl⟩ := X
  intro H locs ls hl hP hS
  exact lv_lushr hx hb hd rfl (k H locs ls hl hP hS)
theorem w_iushr {x y : Int32} (X : cx_ C G own cc nL ry d) (hd : decode cc pc = .ok (.iushr, 1))  (k : wq_ C G Q (pc + 1) lv (.int ((x.toUInt32 >>> (y.toUInt32 &&& Int32.toUInt32 31)).toInt32) :: st) M) : wq_ C G Q pc lv (.int y :: .int x :: st) M := by
  obtain ⟨p, l, e, R, s, m, args, below, meth, c, cs, sl⟩ := C
  obtain ⟨hx, hb, hml, hrt, hown, hts, hK, hG, hbs, hlk, hfr, hlo, hcs, hsl⟩ := X
  intro H locs ls hl hP hS
  exact lv_iushr hx hb hd rfl (k H locs ls hl hP hS)
theorem w_i2l {x : Int32} (X : cx_ C G own cc nL ry d) (hd : decode cc pc = .ok (.i2l, 1))  (k : wq_ C G Q (pc + 1) lv (.long x.toInt64 :: st) M) : wq_ C G Q pc lv (.int x :: st) M := by
  obtain ⟨p, l, e, R, s, m, args, below, meth, c, cs, sl⟩ := C
  obtain ⟨hx, hb, hml, hrt, hown, hts, hK, hG, hbs, hlk, hfr, hlo, hcs, hsl⟩ := X
  intro H locs ls hl hP hS
  exact lv_i2l hx hb hd rfl (k H locs ls hl hP hS)
theorem w_l2i {x : Int64} (X : cx_ C G own cc nL ry d) (hd : decode cc pc = .ok (.l2i, 1))  (k : wq_ C G Q (pc + 1) lv (.int x.toInt32 :: st) M) : wq_ C G Q pc lv (.long x :: st) M := by
  obtain ⟨p, l, e, R, s, m, args, below, meth, c, cs, sl⟩ := C
  obtain ⟨hx, hb, hml, hrt, hown, hts, hK, hG, hbs, hlk, hfr, hlo, hcs, hsl⟩ := X
  intro H locs ls hl hP hS
  exact lv_l2i hx hb hd rfl (k H locs ls hl hP hS)
theorem w_i2c {x : Int32} (X : cx_ C G own cc nL ry d) (hd : decode cc pc = .ok (.i2c, 1))  (k : wq_ C G Q (pc + 1) lv (.int (x.toUInt32 % 65536).toInt32 :: st) M) : wq_ C G Q pc lv (.int x :: st) M := by
  obtain ⟨p, l, e, R, s, m, args, below, meth, c, cs, sl⟩ := C
  obtain ⟨hx, hb, hml, hrt, hown, hts, hK, hG, hbs, hlk, hfr, hlo, hcs, hsl⟩ := X
  intro H locs ls hl hP hS
  exact lv_i2c hx hb hd rfl (k H locs ls hl hP hS)
theorem w_lcmp {x y : Int64} (X : cx_ C G own cc nL ry d) (hd : decode cc pc = .ok (.lcmp, 1))  (k : wq_ C G Q (pc + 1) lv (.int (lg_cmp x y) :: st) M) : wq_ C G Q pc lv (.long y :: .long x :: st) M := by
  obtain ⟨p, l, e, R, s, m, args, below, meth, c, cs, sl⟩ := C
  obtain ⟨hx, hb, hml, hrt, hown, hts, hK, hG, hbs, hlk, hfr, hlo, hcs, hsl⟩ := X
  intro H locs ls hl hP hS
  exact W.lcmp hx hb hd  (k H locs ls hl hP hS)
theorem w_dup {va : Value} (X : cx_ C G own cc nL ry d) (hd : decode cc pc = .ok (.dup, 1)) (hva : va.category = 1) (k : wq_ C G Q (pc + 1) lv (va :: va :: st) M) : wq_ C G Q pc lv (va :: st) M := by
  obtain ⟨p, l, e, R, s, m, args, below, meth, c, cs, sl⟩ := C
  obtain ⟨hx, hb, hml, hrt, hown, hts, hK, hG, hbs, hlk, hfr, hlo, hcs, hsl⟩ := X
  intro H locs ls hl hP hS
  exact lv_dup hx hb hd hva (k H locs ls hl hP hS)
theorem w_pop {va : Value} (X : cx_ C G own cc nL ry d) (hd : decode cc pc = .ok (.pop, 1)) (hva : va.category = 1) (k : wq_ C G Q (pc + 1) lv (st) M) : wq_ C G Q pc lv (va :: st) M := by
  obtain ⟨p, l, e, R, s, m, args, below, meth, c, cs, sl⟩ := C
  obtain ⟨hx, hb, hml, hrt, hown, hts, hK, hG, hbs, hlk, hfr, hlo, hcs, hsl⟩ := X
  intro H locs ls hl hP hS
  exact lv_pop hx hb hd hva (k H locs ls hl hP hS)
theorem w_dup2 {va vb : Value} (X : cx_ C G own cc nL ry d) (hd : decode cc pc = .ok (.dup2, 1)) (hva : va.category = 1) (hvb : vb.category = 1) (k : wq_ C G Q (pc + 1) lv (va :: vb :: va :: vb :: st) M) : wq_ C G Q pc lv (va :: vb :: st) M := by
  obtain ⟨p, l, e, R, s, m, args, below, meth, c, cs, sl⟩ := C
  obtain ⟨hx, hb, hml, hrt, hown, hts, hK, hG, hbs, hlk, hfr, hlo, hcs, hsl⟩ := X
  intro H locs ls hl hP hS
  exact lv_dup2_11 hx hb hd hva hvb (k H locs ls hl hP hS)
theorem w_ldc {v : Int32} {index : Nat} (X : cx_ C G own cc nL ry d) (hd : decode cc pc = .ok (.ldc index, 2)) (hc : Cond.constant own index v ∈ gw_) (k : wq_ C G Q (pc + 2) lv (.int v :: st) M) : wq_ C G Q pc lv st M := by
  obtain ⟨p, l, e, R, s, m, args, below, meth, c, cs, sl⟩ := C
  obtain ⟨hx, hb, hml, hrt, hown, hts, hK, hG, hbs, hlk, hfr, hlo, hcs, hsl⟩ := X
  intro H locs ls hl hP hS
  exact lv_ldc hx hb hown (hts _ hc) hd (k H locs ls hl hP hS)
theorem w_ldc2 {v : Int64} {index : Nat} (X : cx_ C G own cc nL ry d) (hd : decode cc pc = .ok (.ldc2_w index, 3)) (hc : Cond.constantLong own index v ∈ gw_) (k : wq_ C G Q (pc + 3) lv (.long v :: st) M) : wq_ C G Q pc lv st M := by
  obtain ⟨p, l, e, R, s, m, args, below, meth, c, cs, sl⟩ := C
  obtain ⟨hx, hb, hml, hrt, hown, hts, hK, hG, hbs, hlk, hfr, hlo, hcs, hsl⟩ := X
  intro H locs ls hl hP hS
  exact lv_ldc2 hx hb hown (hts _ hc) hd (k H locs ls hl hP hS)
theorem w_iload_n {f : Fin 4} {i : Nat} {x : Int32} (X : cx_ C G own cc nL ry d) (hd : decode cc pc = .ok (.iload_n f, 1)) (hi : (f : Nat) = i) (hv : lv[i]? = some (some (.int x))) (k : wq_ C G Q (pc + 1) lv (.int x :: st) M) : wq_ C G Q pc lv st M := by
  obtain ⟨p, l, e, R, s, m, args, below, meth, c, cs, sl⟩ := C
  obtain ⟨hx, hb, hml, hrt, hown, hts, hK, hG, hbs, hlk, hfr, hlo, hcs, hsl⟩ := X
  intro H locs ls hl hP hS
  exact lv_iload_n hx hb hd hi (lh_at hl hv) (k H locs ls hl hP hS)
theorem w_iload {i : Nat} {x : Int32} (X : cx_ C G own cc nL ry d) (hd : decode cc pc = .ok (.iload i, 2)) (hv : lv[i]? = some (some (.int x))) (k : wq_ C G Q (pc + 2) lv (.int x :: st) M) : wq_ C G Q pc lv st M := by
  obtain ⟨p, l, e, R, s, m, args, below, meth, c, cs, sl⟩ := C
  obtain ⟨hx, hb, hml, hrt, hown, hts, hK, hG, hbs, hlk, hfr, hlo, hcs, hsl⟩ := X
  intro H locs ls hl hP hS
  exact lv_iload hx hb hd (lh_at hl hv) (k H locs ls hl hP hS)
theorem w_lload_n {f : Fin 4} {i : Nat} {x : Int64} (X : cx_ C G own cc nL ry d) (hd : decode cc pc = .ok (.lload_n f, 1)) (hi : (f : Nat) = i) (hv : lv[i]? = some (some (.long x))) (k : wq_ C G Q (pc + 1) lv (.long x :: st) M) : wq_ C G Q pc lv st M := by
  obtain ⟨p, l, e, R, s, m, args, below, meth, c, cs, sl⟩ := C
  obtain ⟨hx, hb, hml, hrt, hown, hts, hK, hG, hbs, hlk, hfr, hlo, hcs, hsl⟩ := X
  intro H locs ls hl hP hS
  exact lv_lload_n hx hb hd hi (lh_at hl hv) (k H locs ls hl hP hS)
theorem w_lload {i : Nat} {x : Int64} (X : cx_ C G own cc nL ry d) (hd : decode cc pc = .ok (.lload i, 2)) (hv : lv[i]? = some (some (.long x))) (k : wq_ C G Q (pc + 2) lv (.long x :: st) M) : wq_ C G Q pc lv st M := by
  obtain ⟨p, l, e, R, s, m, args, below, meth, c, cs, sl⟩ := C
  obtain ⟨hx, hb, hml, hrt, hown, hts, hK, hG, hbs, hlk, hfr, hlo, hcs, hsl⟩ := X
  intro H locs ls hl hP hS
  exact lv_lload hx hb hd (lh_at hl hv) (k H locs ls hl hP hS)
theorem w_aload_n {f : Fin 4} {i : Nat} {x : Nat} (X : cx_ C G own cc nL ry d) (hd : decode cc pc = .ok (.aload_n f, 1)) (hi : (f : Nat) = i) (hv : lv[i]? = some (some (.ref x))) (k : wq_ C G Q (pc + 1) lv (.ref x :: st) M) : wq_ C G Q pc lv st M := by
  obtain ⟨p, l, e, R, s, m, args, below, meth, c, cs, sl⟩ := C
  obtain ⟨hx, hb, hml, hrt, hown, hts, hK, hG, hbs, hlk, hfr, hlo, hcs, hsl⟩ := X
  intro H locs ls hl hP hS
  exact lv_aload_n hx hb hd hi (lh_at hl hv) (k H locs ls hl hP hS)
theorem w_aload {i : Nat} {x : Nat} (X : cx_ C G own cc nL ry d) (hd : decode cc pc = .ok (.aload i, 2)) (hv : lv[i]? = some (some (.ref x))) (k : wq_ C G Q (pc + 2) lv (.ref x :: st) M) : wq_ C G Q pc lv st M := by
  obtain ⟨p, l, e, R, s, m, args, below, meth, c, cs, sl⟩ := C
  obtain ⟨hx, hb, hml, hrt, hown, hts, hK, hG, hbs, hlk, hfr, hlo, hcs, hsl⟩ := X
  intro H locs ls hl hP hS
  exact lv_aload hx hb hd (lh_at hl hv) (k H locs ls hl hP hS)
theorem w_istore_n {f : Fin 4} {i : Nat} {x : Int32} (X : cx_ C G own cc nL ry d) (hd : decode cc pc = .ok (.istore_n f, 1)) (hi : (f : Nat) = i) (hn : i < nL) (k : wq_ C G Q (pc + 1) (l1_ lv i (.int x)) st M) : wq_ C G Q pc lv (.int x :: st) M := by
  obtain ⟨p, l, e, R, s, m, args, below, meth, c, cs, sl⟩ := C
  obtain ⟨hx, hb, hml, hrt, hown, hts, hK, hG, hbs, hlk, hfr, hlo, hcs, hsl⟩ := X
  intro H locs ls hl hP hS
  exact lv_istore_n hx hb hd hi hl (by rw [hml]; exact hn) rfl (fun ls2 hl2 => k H locs ls2 (lh_sub hl2 lh_1) hP hS)
theorem w_istore {i : Nat} {x : Int32} (X : cx_ C G own cc nL ry d) (hd : decode cc pc = .ok (.istore i, 2)) (hn : i < nL) (k : wq_ C G Q (pc + 2) (l1_ lv i (.int x)) st M) : wq_ C G Q pc lv (.int x :: st) M := by
  obtain ⟨p, l, e, R, s, m, args, below, meth, c, cs, sl⟩ := C
  obtain ⟨hx, hb, hml, hrt, hown, hts, hK, hG, hbs, hlk, hfr, hlo, hcs, hsl⟩ := X
  intro H locs ls hl hP hS
  exact lv_istore hx hb hd hl (by rw [hml]; exact hn) rfl (fun ls2 hl2 => k H locs ls2 (lh_sub hl2 lh_1) hP hS)
theorem w_astore_n {f : Fin 4} {i : Nat} {x : Nat} (X : cx_ C G own cc nL ry d) (hd : decode cc pc = .ok (.astore_n f, 1)) (hi : (f : Nat) = i) (hn : i < nL) (k : wq_ C G Q (pc + 1) (l1_ lv i (.ref x)) st M) : wq_ C G Q pc lv (.ref x :: st) M := by
  obtain ⟨p, l, e, R, s, m, args, below, meth, c, cs, sl⟩ := C
  obtain ⟨hx, hb, hml, hrt, hown, hts, hK, hG, hbs, hlk, hfr, hlo, hcs, hsl⟩ := X
  intro H locs ls hl hP hS
  exact lv_astore_n hx hb hd hi hl (by rw [hml]; exact hn) rfl (fun ls2 hl2 => k H locs ls2 (lh_sub hl2 lh_1) hP hS)
theorem w_astore {i : Nat} {x : Nat} (X : cx_ C G own cc nL ry d) (hd : decode cc pc = .ok (.astore i, 2)) (hn : i < nL) (k : wq_ C G Q (pc + 2) (l1_ lv i (.ref x)) st M) : wq_ C G Q pc lv (.ref x :: st) M := by
  obtain ⟨p, l, e, R, s, m, args, below, meth, c, cs, sl⟩ := C
  obtain ⟨hx, hb, hml, hrt, hown, hts, hK, hG, hbs, hlk, hfr, hlo, hcs, hsl⟩ := X
  intro H locs ls hl hP hS
  exact lv_astore hx hb hd hl (by rw [hml]; exact hn) rfl (fun ls2 hl2 => k H locs ls2 (lh_sub hl2 lh_1) hP hS)
theorem w_lstore_n {f : Fin 4} {i : Nat} {x : Int64} (X : cx_ C G own cc nL ry d) (hd : decode cc pc = .ok (.lstore_n f, 1)) (hi : (f : Nat) = i) (hn : i + 1 < nL) (k : wq_ C G Q (pc + 1) (l2_ lv i (.long x)) st M) : wq_ C G Q pc lv (.long x :: st) M := by
  obtain ⟨p, l, e, R, s, m, args, below, meth, c, cs, sl⟩ := C
  obtain ⟨hx, hb, hml, hrt, hown, hts, hK, hG, hbs, hlk, hfr, hlo, hcs, hsl⟩ := X
  intro H locs ls hl hP hS
  exact lv_lstore_n hx hb hd hi hl (by rw [hml]; exact hn) rfl (fun ls2 hl2 => k H locs ls2 (lh_sub hl2 lh_2) hP hS)
theorem w_lstore {i : Nat} {x : Int64} (X : cx_ C G own cc nL ry d) (hd : decode cc pc = .ok (.lstore i, 2)) (hn : i + 1 < nL) (k : wq_ C G Q (pc + 2) (l2_ lv i (.long x)) st M) : wq_ C G Q pc lv (.long x :: st) M := by
  obtain ⟨p, l, e, R, s, m, args, below, meth, c, cs, sl⟩ := C
  obtain ⟨hx, hb, hml, hrt, hown, hts, hK, hG, hbs, hlk, hfr, hlo, hcs, hsl⟩ := X
  intro H locs ls hl hP hS
  exact lv_lstore hx hb hd hl (by rw [hml]; exact hn) rfl (fun ls2 hl2 => k H locs ls2 (lh_sub hl2 lh_2) hP hS)
theorem al_pos {l : List (Option Value)} {i : Nat} {v : Value} (h : l[i]? = some (some v)) : ∃ k : Nat, (al_ 0 l)[k]? = some (i, v) := List.getElem?_of_mem ((al_mem l 0 (i, v)).mpr ⟨i, by simp, h⟩)
theorem w_iinc {i : Nat} {n : Int} {x v : Int32} (X : cx_ C G own cc nL ry d) (hd : decode cc pc = .ok (.iinc i n, 3)) (hv : lv[i]? = some (some (.int x))) (he : Int32.ofInt n = v) (hn : i < nL) (k : wq_ C G Q (pc + 3) (l1_ lv i (.int (x + v))) st M) : wq_ C G Q pc lv st M := by
  obtain ⟨p, l, e, R, s, m, args, below, meth, c, cs, sl⟩ := C
  obtain ⟨hx, hb, hml, hrt, hown, hts, hK, hG, hbs, hlk, hfr, hlo, hcs, hsl⟩ := X
  intro H locs ls hl hP hS
  obtain ⟨q, hq⟩ := al_pos hv
  exact lv_iinc hx hb hd hl hq (by rw [he]) (by rw [hml]; exact hn) rfl (fun ls2 hl2 => k H locs ls2 (lh_sub hl2 lh_1) hP hS)
theorem w_if_eq {x : Int32} {off : Int} {tgt : Nat} (X : cx_ C G own cc nL ry d) (hd : decode cc pc = .ok (.ifCond .eq off, 3)) (ht : (pc : Int) + off = (tgt : Int)) (kt : x = 0 → wq_ C G Q tgt lv st M) (kf : ¬ x = 0 → wq_ C G Q (pc + 3) lv st M) : wq_ C G Q pc lv (.int x :: st) M := by
  obtain ⟨p, l, e, R, s, m, args, below, meth, c, cs, sl⟩ := C
  obtain ⟨hx, hb, hml, hrt, hown, hts, hK, hG, hbs, hlk, hfr, hlo, hcs, hsl⟩ := X
  intro H locs ls hl hP hS
  exact lv_if_eq hx hb hd ht (fun h => kt h H locs ls hl hP hS) (fun h => kf h H locs ls hl hP hS)
theorem w_if_ne {x : Int32} {off : Int} {tgt : Nat} (X : cx_ C G own cc nL ry d) (hd : decode cc pc = .ok (.ifCond .ne off, 3)) (ht : (pc : Int) + off = (tgt : Int)) (kt : ¬ x = 0 → wq_ C G Q tgt lv st M) (kf : x = 0 → wq_ C G Q (pc + 3) lv st M) : wq_ C G Q pc lv (.int x :: st) M := by
  obtain ⟨p, l, e, R, s, m, args, below, meth, c, cs, sl⟩ := C
  obtain ⟨hx, hb, hml, hrt, hown, hts, hK, hG, hbs, hlk, hfr, hlo, hcs, hsl⟩ := X
  intro H locs ls hl hP hS
  exact lv_if_ne hx hb hd ht (fun h => kt h H locs ls hl hP hS) (fun h => kf h H locs ls hl hP hS)
theorem w_if_lt {x : Int32} {off : Int} {tgt : Nat} (X : cx_ C G own cc nL ry d) (hd : decode cc pc = .ok (.ifCond .lt off, 3)) (ht : (pc : Int) + off = (tgt : Int)) (kt : x < 0 → wq_ C G Q tgt lv st M) (kf : ¬ x < 0 → wq_ C G Q (pc + 3) lv st M) : wq_ C G Q pc lv (.int x :: st) M := by
  obtain ⟨p, l, e, R, s, m, args, below, meth, c, cs, sl⟩ := C
  obtain ⟨hx, hb, hml, hrt, hown, hts, hK, hG, hbs, hlk, hfr, hlo, hcs, hsl⟩ := X
  intro H locs ls hl hP hS
  exact lv_if_lt hx hb hd ht (fun h => kt h H locs ls hl hP hS) (fun h => kf h H locs ls hl hP hS)
theorem w_if_ge {x : Int32} {off : Int} {tgt : Nat} (X : cx_ C G own cc nL ry d) (hd : decode cc pc = .ok (.ifCond .ge off, 3)) (ht : (pc : Int) + off = (tgt : Int)) (kt : 0 ≤ x → wq_ C G Q tgt lv st M) (kf : ¬ 0 ≤ x → wq_ C G Q (pc + 3) lv st M) : wq_ C G Q pc lv (.int x :: st) M := by
  obtain ⟨p, l, e, R, s, m, args, below, meth, c, cs, sl⟩ := C
  obtain ⟨hx, hb, hml, hrt, hown, hts, hK, hG, hbs, hlk, hfr, hlo, hcs, hsl⟩ := X
  intro H locs ls hl hP hS
  exact lv_if_ge hx hb hd ht (fun h => kt h H locs ls hl hP hS) (fun h => kf h H locs ls hl hP hS)
theorem w_if_gt {x : Int32} {off : Int} {tgt : Nat} (X : cx_ C G own cc nL ry d) (hd : decode cc pc = .ok (.ifCond .gt off, 3)) (ht : (pc : Int) + off = (tgt : Int)) (kt : 0 < x → wq_ C G Q tgt lv st M) (kf : ¬ 0 < x → wq_ C G Q (pc + 3) lv st M) : wq_ C G Q pc lv (.int x :: st) M := by
  obtain ⟨p, l, e, R, s, m, args, below, meth, c, cs, sl⟩ := C
  obtain ⟨hx, hb, hml, hrt, hown, hts, hK, hG, hbs, hlk, hfr, hlo, hcs, hsl⟩ := X
  intro H locs ls hl hP hS
  exact lv_if_gt hx hb hd ht (fun h => kt h H locs ls hl hP hS) (fun h => kf h H locs ls hl hP hS)
theorem w_if_le {x : Int32} {off : Int} {tgt : Nat} (X : cx_ C G own cc nL ry d) (hd : decode cc pc = .ok (.ifCond .le off, 3)) (ht : (pc : Int) + off = (tgt : Int)) (kt : x ≤ 0 → wq_ C G Q tgt lv st M) (kf : ¬ x ≤ 0 → wq_ C G Q (pc + 3) lv st M) : wq_ C G Q pc lv (.int x :: st) M := by
  obtain ⟨p, l, e, R, s, m, args, below, meth, c, cs, sl⟩ := C
  obtain ⟨hx, hb, hml, hrt, hown, hts, hK, hG, hbs, hlk, hfr, hlo, hcs, hsl⟩ := X
  intro H locs ls hl hP hS
  exact lv_if_le hx hb hd ht (fun h => kt h H locs ls hl hP hS) (fun h => kf h H locs ls hl hP hS)
theorem w_icmp_eq {x y : Int32} {off : Int} {tgt : Nat} (X : cx_ C G own cc nL ry d) (hd : decode cc pc = .ok (.if_icmp .eq off, 3)) (ht : (pc : Int) + off = (tgt : Int)) (kt : x = y → wq_ C G Q tgt lv st M) (kf : ¬ x = y → wq_ C G Q (pc + 3) lv st M) : wq_ C G Q pc lv (.int y :: .int x :: st) M := by
  obtain ⟨p, l, e, R, s, m, args, below, meth, c, cs, sl⟩ := C
  obtain ⟨hx, hb, hml, hrt, hown, hts, hK, hG, hbs, hlk, hfr, hlo, hcs, hsl⟩ := X
  intro H locs ls hl hP hS
  exact lv_icmp_eq hx hb hd ht (fun h => kt h H locs ls hl hP hS) (fun h => kf h H locs ls hl hP hS)
theorem w_icmp_ne {x y : Int32} {off : Int} {tgt : Nat} (X : cx_ C G own cc nL ry d) (hd : decode cc pc = .ok (.if_icmp .ne off, 3)) (ht : (pc : Int) + off = (tgt : Int)) (kt : ¬ x = y → wq_ C G Q tgt lv st M) (kf : x = y → wq_ C G Q (pc + 3) lv st M) : wq_ C G Q pc lv (.int y :: .int x :: st) M := by
  obtain ⟨p, l, e, R, s, m, args, below, meth, c, cs, sl⟩ := C
  obtain ⟨hx, hb, hml, hrt, hown, hts, hK, hG, hbs, hlk, hfr, hlo, hcs, hsl⟩ := X
  intro H locs ls hl hP hS
  exact lv_icmp_ne hx hb hd ht (fun h => kt h H locs ls hl hP hS) (fun h => kf h H locs ls hl hP hS)
theorem w_icmp_lt {x y : Int32} {off : Int} {tgt : Nat} (X : cx_ C G own cc nL ry d) (hd : decode cc pc = .ok (.if_icmp .lt off, 3)) (ht : (pc : Int) + off = (tgt : Int)) (kt : x < y → wq_ C G Q tgt lv st M) (kf : ¬ x < y → wq_ C G Q (pc + 3) lv st M) : wq_ C G Q pc lv (.int y :: .int x :: st) M := by
  obtain ⟨p, l, e, R, s, m, args, below, meth, c, cs, sl⟩ := C
  obtain ⟨hx, hb, hml, hrt, hown, hts, hK, hG, hbs, hlk, hfr, hlo, hcs, hsl⟩ := X
  intro H locs ls hl hP hS
  exact lv_icmp_lt hx hb hd ht (fun h => kt h H locs ls hl hP hS) (fun h => kf h H locs ls hl hP hS)
theorem w_icmp_ge {x y : Int32} {off : Int} {tgt : Nat} (X : cx_ C G own cc nL ry d) (hd : decode cc pc = .ok (.if_icmp .ge off, 3)) (ht : (pc : Int) + off = (tgt : Int)) (kt : y ≤ x → wq_ C G Q tgt lv st M) (kf : ¬ y ≤ x → wq_ C G Q (pc + 3) lv st M) : wq_ C G Q pc lv (.int y :: .int x :: st) M := by
  obtain ⟨p, l, e, R, s, m, args, below, meth, c, cs, sl⟩ := C
  obtain ⟨hx, hb, hml, hrt, hown, hts, hK, hG, hbs, hlk, hfr, hlo, hcs, hsl⟩ := X
  intro H locs ls hl hP hS
  exact lv_icmp_ge hx hb hd ht (fun h => kt h H locs ls hl hP hS) (fun h => kf h H locs ls hl hP hS)
theorem w_icmp_gt {x y : Int32} {off : Int} {tgt : Nat} (X : cx_ C G own cc nL ry d) (hd : decode cc pc = .ok (.if_icmp .gt off, 3)) (ht : (pc : Int) + off = (tgt : Int)) (kt : y < x → wq_ C G Q tgt lv st M) (kf : ¬ y < x → wq_ C G Q (pc + 3) lv st M) : wq_ C G Q pc lv (.int y :: .int x :: st) M := by
  obtain ⟨p, l, e, R, s, m, args, below, meth, c, cs, sl⟩ := C
  obtain ⟨hx, hb, hml, hrt, hown, hts, hK, hG, hbs, hlk, hfr, hlo, hcs, hsl⟩ := X
  intro H locs ls hl hP hS
  exact lv_icmp_gt hx hb hd ht (fun h => kt h H locs ls hl hP hS) (fun h => kf h H locs ls hl hP hS)
theorem w_icmp_le {x y : Int32} {off : Int} {tgt : Nat} (X : cx_ C G own cc nL ry d) (hd : decode cc pc = .ok (.if_icmp .le off, 3)) (ht : (pc : Int) + off = (tgt : Int)) (kt : x ≤ y → wq_ C G Q tgt lv st M) (kf : ¬ x ≤ y → wq_ C G Q (pc + 3) lv st M) : wq_ C G Q pc lv (.int y :: .int x :: st) M := by
  obtain ⟨p, l, e, R, s, m, args, below, meth, c, cs, sl⟩ := C
  obtain ⟨hx, hb, hml, hrt, hown, hts, hK, hG, hbs, hlk, hfr, hlo, hcs, hsl⟩ := X
  intro H locs ls hl hP hS
  exact lv_icmp_le hx hb hd ht (fun h => kt h H locs ls hl hP hS) (fun h => kf h H locs ls hl hP hS)
theorem w_goto {off : Int} {tgt : Nat} (X : cx_ C G own cc nL ry d) (hd : decode cc pc = .ok (.goto off, 3)) (ht : (pc : Int) + off = (tgt : Int)) (k : wq_ C G Q tgt lv st M) : wq_ C G Q pc lv st M := by
  obtain ⟨p, l, e, R, s, m, args, below, meth, c, cs, sl⟩ := C
  obtain ⟨hx, hb, hml, hrt, hown, hts, hK, hG, hbs, hlk, hfr, hlo, hcs, hsl⟩ := X
  intro H locs ls hl hP hS
  exact lv_goto hx hb hd ht (k H locs ls hl hP hS)
theorem w_iaload {a n t : Nat} {i : Int32} (X : cx_ C G own cc nL ry d) (hd : decode cc pc = .ok (.iaload, 1)) (ha : ds_[a]? = some (.inl (t, n, 0))) (ht : (tt_ G)[t]? = some (G.2.1 t, .int)) (hin : vp_in i n) (k : wq_ C G Q (pc + 1) lv (.int (M.1 a i.toNatClampNeg) :: st) M) : wq_ C G Q pc lv (.int i :: .ref (G.1 a) :: st) M := by
  obtain ⟨p, l, e, R, s, m, args, below, meth, c, cs, sl⟩ := C
  obtain ⟨hx, hb, hml, hrt, hown, hts, hK, hG, hbs, hlk, hfr, hlo, hcs, hsl⟩ := X
  intro H locs ls hl hP hS
  exact va_iald hx hb hK hP a t (wl_at ha) ht hin hd (k H locs ls hl hP hS)
theorem w_baload {a n t : Nat} {i : Int32} (X : cx_ C G own cc nL ry d) (hd : decode cc pc = .ok (.baload, 1)) (ha : ds_[a]? = some (.inl (t, n, 0))) (ht : (tt_ G)[t]? = some (G.2.1 t, .boolean)) (hin : vp_in i n) (k : wq_ C G Q (pc + 1) lv (.int (M.1 a i.toNatClampNeg) :: st) M) : wq_ C G Q pc lv (.int i :: .ref (G.1 a) :: st) M := by
  obtain ⟨p, l, e, R, s, m, args, below, meth, c, cs, sl⟩ := C
  obtain ⟨hx, hb, hml, hrt, hown, hts, hK, hG, hbs, hlk, hfr, hlo, hcs, hsl⟩ := X
  intro H locs ls hl hP hS
  exact va_zald hx hb hK hP a t (wl_at ha) ht hin hd (k H locs ls hl hP hS)
theorem w_laload {a n t : Nat} {i : Int32} (X : cx_ C G own cc nL ry d) (hd : decode cc pc = .ok (.laload, 1)) (ha : ds_[a]? = some (.inl (t, n, 1))) (ht : (tt_ G)[t]? = some (G.2.1 t, .long)) (hin : vp_in i n) (k : wq_ C G Q (pc + 1) lv (.long (M.2.1 a i.toNatClampNeg) :: st) M) : wq_ C G Q pc lv (.int i :: .ref (G.1 a) :: st) M := by
  obtain ⟨p, l, e, R, s, m, args, below, meth, c, cs, sl⟩ := C
  obtain ⟨hx, hb, hml, hrt, hown, hts, hK, hG, hbs, hlk, hfr, hlo, hcs, hsl⟩ := X
  intro H locs ls hl hP hS
  exact va_lald hx hb hK hP a t (wl_at ha) ht hin hd (k H locs ls hl hP hS)
theorem w_iastore {a n t : Nat} {i : Int32} {x : Int32} (X : cx_ C G own cc nL ry d) (hd : decode cc pc = .ok (.iastore, 1)) (ha : ds_[a]? = some (.inl (t, n, 0))) (ht : (tt_ G)[t]? = some (G.2.1 t, .int)) (hin : vp_in i n) (k : wq_ C G Q (pc + 1) lv st (sI_ M a i.toNatClampNeg (x))) : wq_ C G Q pc lv (.int x :: .int i :: .ref (G.1 a) :: st) M := by
  obtain ⟨p, l, e, R, s, m, args, below, meth, c, cs, sl⟩ := C
  obtain ⟨hx, hb, hml, hrt, hown, hts, hK, hG, hbs, hlk, hfr, hlo, hcs, hsl⟩ := X
  intro H locs ls hl hP hS
  refine va_iast hx hb hK hP (wl_D hG) hS a t (wl_at ha) ht hin hd (fun H1 locs1 hP1 hD1 hS1 => k H1 locs1 ls hl ?_ hS1)
  rw [← wl_set (M := M) ha (fun j d9 hj => ce_sI j d9 hj)]
  have he : ce_ G (sI_ M a i.toNatClampNeg (x)) a (.inl (t, n, 0)) = .inl (G.2.1 t, n, .inl (upd (M.1 a) i.toNatClampNeg (x))) := by
    simp only [ce_, sI_, upd]
    congr; funext j; simp; rfl
  rw [he]
  exact hP1
theorem w_bastore {a n t : Nat} {i : Int32} {x : Int32} (X : cx_ C G own cc nL ry d) (hd : decode cc pc = .ok (.bastore, 1)) (ha : ds_[a]? = some (.inl (t, n, 0))) (ht : (tt_ G)[t]? = some (G.2.1 t, .boolean)) (hin : vp_in i n) (k : wq_ C G Q (pc + 1) lv st (sI_ M a i.toNatClampNeg (vp_nar .boolean x))) : wq_ C G Q pc lv (.int x :: .int i :: .ref (G.1 a) :: st) M := by
  obtain ⟨p, l, e, R, s, m, args, below, meth, c, cs, sl⟩ := C
  obtain ⟨hx, hb, hml, hrt, hown, hts, hK, hG, hbs, hlk, hfr, hlo, hcs, hsl⟩ := X
  intro H locs ls hl hP hS
  refine va_zast hx hb hK hP (wl_D hG) hS a t (wl_at ha) ht hin hd (fun H1 locs1 hP1 hD1 hS1 => k H1 locs1 ls hl ?_ hS1)
  rw [← wl_set (M := M) ha (fun j d9 hj => ce_sI j d9 hj)]
  have he : ce_ G (sI_ M a i.toNatClampNeg (vp_nar .boolean x)) a (.inl (t, n, 0)) = .inl (G.2.1 t, n, .inl (upd (M.1 a) i.toNatClampNeg (vp_nar .boolean x))) := by
    simp only [ce_, sI_, upd]
    congr; funext j; simp; rfl
  rw [he]
  exact hP1
theorem w_lastore {a n t : Nat} {i : Int32} {x : Int64} (X : cx_ C G own cc nL ry d) (hd : decode cc pc = .ok (.lastore, 1)) (ha : ds_[a]? = some (.inl (t, n, 1))) (ht : (tt_ G)[t]? = some (G.2.1 t, .long)) (hin : vp_in i n) (k : wq_ C G Q (pc + 1) lv st (sL_ M a i.toNatClampNeg (x))) : wq_ C G Q pc lv (.long x :: .int i :: .ref (G.1 a) :: st) M := by
  obtain ⟨p, l, e, R, s, m, args, below, meth, c, cs, sl⟩ := C
  obtain ⟨hx, hb, hml, hrt, hown, hts, hK, hG, hbs, hlk, hfr, hlo, hcs, hsl⟩ := X
  intro H locs ls hl hP hS
  refine va_last hx hb hK hP (wl_D hG) hS a t (wl_at ha) ht hin hd (fun H1 locs1 hP1 hD1 hS1 => k H1 locs1 ls hl ?_ hS1)
  rw [← wl_set (M := M) ha (fun j d9 hj => ce_sL j d9 hj)]
  have he : ce_ G (sL_ M a i.toNatClampNeg (x)) a (.inl (t, n, 1)) = .inl (G.2.1 t, n, .inr (.inl (vp_updL (M.2.1 a) i.toNatClampNeg (x)))) := by
    simp only [ce_, sL_, vp_updL]
    congr; funext j; simp; rfl
  rw [he]
  exact hP1
theorem w_get {ci N index j f a : Nat} {fs : List Nat} {K : String} {T : u_T} (X : cx_ C G own cc nL ry d) (hd : decode cc pc = .ok (.getfield index, 3)) (hin : ∀ w ∈ u_ws K T N, w ∈ gw_) (hc : vwCl[ci]? = some (K, T, N)) (hj : j < N) (hlink : Cond.fieldLink own index (T j).1 (T j).2.1 (T j).2.2.1 ∈ gw_) (hf : fs[j]? = some f) (ha : ds_[a]? = some (.inr (ci, fs)))
    (k : wq_ C G Q (pc + 3) lv (fv_ G M a j f :: st) M) : wq_ C G Q pc lv (.ref (G.1 a) :: st) M := by
  obtain ⟨p, l, e, R, s, m, args, below, meth, c, cs, sl⟩ := C
  obtain ⟨hx, hb, hml, hrt, hown, hts, hK, hG, hbs, hlk, hfr, hlo, hcs, hsl⟩ := X
  intro H locs ls hl hP hS
  exact va_get hx hb hts hin hown hK hP a (wl_at ha) hc j hj (hts _ hlink) (fun _ h9 => h9) (fl_at hf) hd (k H locs ls hl hP hS)
theorem w_putI {ci N index j a : Nat} {fs : List Nat} {K : String} {T : u_T} {ty0 : Nat → FieldType} {ty : FieldType} {x : Int32} (X : cx_ C G own cc nL ry d) (hd : decode cc pc = .ok (.putfield index, 3)) (hin : ∀ w ∈ u_ws K T N, w ∈ gw_) (hty : ∀ k, k < N → parseFieldDescriptor (T k).2.2.1 = some (ty0 k)) (hnm : ∀ a, a < N → ∀ b, b < N → a ≠ b → (T a).2.1 ≠ (T b).2.1) (hc : vwCl[ci]? = some (K, T, N)) (hj : j < N) (hlink : Cond.fieldLink own index (T j).1 (T j).2.1 (T j).2.2.1 ∈ gw_) (hfin : (T j).2.2.2 = false) (hdt : parseFieldDescriptor (T j).2.2.1 = some ty) (hf : fs[j]? = some 0) (ha : ds_[a]? = some (.inr (ci, fs)))
    (hnar : narrow ty (.int x) = .int x) (hfit : fits ty (.int x) = true) (k : wq_ C G Q (pc + 3) lv st (sI_ M a j x)) : wq_ C G Q pc lv (.int x :: .ref (G.1 a) :: st) M := by
  obtain ⟨p, l, e, R, s, m, args, below, meth, c, cs, sl⟩ := C
  obtain ⟨hx, hb, hml, hrt, hown, hts, hK, hG, hbs, hlk, hfr, hlo, hcs, hsl⟩ := X
  intro H locs ls hl hP hS
  have hlen : j < (fl_ G M a 0 fs).length := (List.getElem?_eq_some_iff.mp (fl_at (G := G) (M := M) (k := a) hf)).1
  refine va_put hx hb hts hin ty0 hty hnm hown hK hP (wl_D hG) hS a (wl_at ha) hc j hj (hts _ hlink) (fun _ h9 => h9) hfin hdt hnar hfit hlen hd (fun H1 locs1 hP1 hD1 hS1 => k H1 locs1 ls hl ?_ hS1)
  rw [← wl_set (M := M) ha (fun j9 d9 hj9 => ce_sI j9 d9 hj9)]
  have he : ce_ G (sI_ M a j x) a (.inr (ci, fs)) = .inr (ci, (fl_ G M a 0 fs).set j (.int x)) := by
    simp only [ce_]
    rw [← fl_set (M := M) hf (fun i g hi => fv_sI i g hi)]
    simp [fv_, sI_]
  rw [he]
  exact hP1
theorem w_putL {ci N index j a : Nat} {fs : List Nat} {K : String} {T : u_T} {ty0 : Nat → FieldType} {ty : FieldType} {x : Int64} (X : cx_ C G own cc nL ry d) (hd : decode cc pc = .ok (.putfield index, 3)) (hin : ∀ w ∈ u_ws K T N, w ∈ gw_) (hty : ∀ k, k < N → parseFieldDescriptor (T k).2.2.1 = some (ty0 k)) (hnm : ∀ a, a < N → ∀ b, b < N → a ≠ b → (T a).2.1 ≠ (T b).2.1) (hc : vwCl[ci]? = some (K, T, N)) (hj : j < N) (hlink : Cond.fieldLink own index (T j).1 (T j).2.1 (T j).2.2.1 ∈ gw_) (hfin : (T j).2.2.2 = false) (hdt : parseFieldDescriptor (T j).2.2.1 = some ty) (hf : fs[j]? = some 1) (ha : ds_[a]? = some (.inr (ci, fs)))
    (hnar : narrow ty (.long x) = .long x) (hfit : fits ty (.long x) = true) (k : wq_ C G Q (pc + 3) lv st (sL_ M a j x)) : wq_ C G Q pc lv (.long x :: .ref (G.1 a) :: st) M := by
  obtain ⟨p, l, e, R, s, m, args, below, meth, c, cs, sl⟩ := C
  obtain ⟨hx, hb, hml, hrt, hown, hts, hK, hG, hbs, hlk, hfr, hlo, hcs, hsl⟩ := X
  intro H locs ls hl hP hS
  have hlen : j < (fl_ G M a 0 fs).length := (List.getElem?_eq_some_iff.mp (fl_at (G := G) (M := M) (k := a) hf)).1
  refine va_put hx hb hts hin ty0 hty hnm hown hK hP (wl_D hG) hS a (wl_at ha) hc j hj (hts _ hlink) (fun _ h9 => h9) hfin hdt hnar hfit hlen hd (fun H1 locs1 hP1 hD1 hS1 => k H1 locs1 ls hl ?_ hS1)
  rw [← wl_set (M := M) ha (fun j9 d9 hj9 => ce_sL j9 d9 hj9)]
  have he : ce_ G (sL_ M a j x) a (.inr (ci, fs)) = .inr (ci, (fl_ G M a 0 fs).set j (.long x)) := by
    simp only [ce_]
    rw [← fl_set (M := M) hf (fun i g hi => fv_sL i g hi)]
    simp [fv_, sL_]
  rw [he]
  exact hP1
end ROWS
end
section
/-! contracts over the memory: a method that makes no cell, from memory M, returns v with memory N, and 'post v N' -/
def rm_ (d : Nat) : Room := { frames := d, cells := 0, slots := 0, locals := 64 * d }
def qg_ (G : gg_) (post : Option Value → mm_ → Prop) : Array Value → State → Outcome → State → Prop := fun _ st oc t => (∃ (v : Option Value) (N : mm_), oc = .returned v ∧ post v N ∧ va_P G.2.2.1 vwCl (wl_ G N) t.heap) ∧ va_F (aw_ G) st t
def pc_ (G : gg_) (As : List Value) (M : mm_) : Array Value → State → Prop := va_Pc As (fun U => G.2.2.2 ≤ U.heap.size ∧ va_P G.2.2.1 vwCl (wl_ G M) U.heap ∧ va_K G.2.2.1 vwCl (tt_ G) U)
def cm_ (G : gg_) (y : MethodName) (cy : ByteArray) (ny : Nat) (ry : Option FieldType) (d : Nat) (As : List Value) (M : mm_) (post : Option Value → mm_ → Prop) : Prop := ∀ l : Launch, Met l y (.code y cy ny ry :: gw_) (rm_ d) (pc_ G As M) (qg_ G post) 0 0 (aw_ G)
def qe_ : mc_ → gg_ → (Option Value → mm_ → Prop) → State → Prop
  | (_, _, _, _, s, _, args, below, _, _, cs, sl), G, post => MQ below (qg_ G post) args s cs sl (aw_ G)
theorem pc_blind {G : gg_} {As : List Value} {M : mm_} : FrameBlind (pc_ G As M) := fun a U g mk q => by
  obtain ⟨q0, q1, qP, qK⟩ := q
  exact ⟨q0, q1, qP, va_K.moved (u := U) (U := U.calling g mk a) (Vm.Alike.refl U.vm) qK⟩
theorem cm_of {G : gg_} {y : MethodName} {cy : ByteArray} {ny d : Nat} {ry : Option FieldType} {As : List Value} {M : mm_} {post : Option Value → mm_ → Prop} (hG : gd_ G) (hy : plainName y.cls = true) (hn : (lg_sl As).length ≤ ny)
    (h : ∀ C : mc_, cx_ C G y.cls cy ny ry d → wq_ C G (qe_ C G post) 0 (en_ ny As) [] M) : cm_ G y cy ny ry d As M post := by
  intro l
  refine Met.ofW (cc := cy) (maxL := ny) (ret := ry) hy rfl ?_
  intro p e s m args below meth c s₁ B hml hv
  obtain ⟨rfl, hbs, hP, hK⟩ := hv
  have hts0 := atoms_spec (ws := .code y cy ny ry :: gw_) B.pre
  have hown : s.vm.findClass y.cls = some m.cls := findClass_of_methodNamed B.named
  have hl := lv_entry As (n := ny) hn
  rw [lg_entry_eq]
  generalize (lg_sl As ++ List.replicate (ny - (lg_sl As).length) Slot.unset).toArray = ls at hl ⊢
  refine h (p, l, e, rm_ d, s, m, As.toArray, below, meth, c, 0, 0) ⟨B.exec, B.bytes, hml, B.returns, hown, fun w hw => hts0 w (List.mem_cons_of_mem _ hw), hK, hG, hbs, B.notSynchronized, Nat.le_refl _, Nat.le_refl _, Nat.le_refl _, Nat.le_refl _⟩ s.heap [] ls ?_ hP va_S.rf
  refine lh_sub (l := lv_args 0 As) ?_ (en_mem As ny 0)
  rw [hml]
  exact hl
theorem cm_post {G : gg_} {y : MethodName} {cy : ByteArray} {ny d : Nat} {ry : Option FieldType} {As : List Value} {M : mm_} {post post2 : Option Value → mm_ → Prop} (h : cm_ G y cy ny ry d As M post) (hp : ∀ v N, post v N → post2 v N) : cm_ G y cy ny ry d As M post2 := by
  intro l p e ha hc hk s m args below hf happ hP hK
  obtain ⟨k, o, h1, h2, h3, ⟨⟨v, N, e1, e2, e3⟩, e4⟩, h5⟩ := h l p e ha hc hk s m args below hf happ hP hK
  exact ⟨k, o, h1, h2, h3, ⟨⟨v, N, e1, hp v N e2, e3⟩, e4⟩, h5⟩
section CALLS
variable {C : mc_} {G : gg_} {Q : State → Prop} {pc : Nat} {lv : List (Option Value)} {st : List Value} {M : mm_} {own : String} {cc : ByteArray} {nL : Nat} {ry : Option FieldType} {d : Nat} {post : Option Value → mm_ → Prop}
theorem w_ireturn {x : Int32} (X : cx_ C G own cc nL (some .int) d) (hd : decode cc pc = .ok (.ireturn, 1))  (hp : post (some (.int x)) M) : wq_ C G (qe_ C G post) pc lv [.int x] M := by
  obtain ⟨p, l, e, R, s, m, args, below, meth, c, cs, sl⟩ := C
  obtain ⟨hx, hb, hml, hrt, hown, hts, hK, hG, hbs, hlk, hfr, hlo, hcs, hsl⟩ := X
  intro H locs ls hl hP hS
  exact W.iret hx hb hrt  (fun t ht hW => ⟨⟨_, M, rfl, hp, by rw [ht]; exact hP⟩, hS.F ht⟩) hS.2.2 hd hlk
theorem w_zreturn {x : Int32} (X : cx_ C G own cc nL (some .boolean) d) (hd : decode cc pc = .ok (.ireturn, 1)) (hn : narrow .boolean (.int x) = .int x) (hp : post (some (.int x)) M) : wq_ C G (qe_ C G post) pc lv [.int x] M := by
  obtain ⟨p, l, e, R, s, m, args, below, meth, c, cs, sl⟩ := C
  obtain ⟨hx, hb, hml, hrt, hown, hts, hK, hG, hbs, hlk, hfr, hlo, hcs, hsl⟩ := X
  intro H locs ls hl hP hS
  exact W.zret hx hb hrt hn (fun t ht hW => ⟨⟨_, M, rfl, hp, by rw [ht]; exact hP⟩, hS.F ht⟩) hS.2.2 hd hlk
theorem w_lreturn {x : Int64} (X : cx_ C G own cc nL (some .long) d) (hd : decode cc pc = .ok (.lreturn, 1))  (hp : post (some (.long x)) M) : wq_ C G (qe_ C G post) pc lv [.long x] M := by
  obtain ⟨p, l, e, R, s, m, args, below, meth, c, cs, sl⟩ := C
  obtain ⟨hx, hb, hml, hrt, hown, hts, hK, hG, hbs, hlk, hfr, hlo, hcs, hsl⟩ := X
  intro H locs ls hl hP hS
  exact W.lret hx hb hrt  (fun t ht hW => ⟨⟨_, M, rfl, hp, by rw [ht]; exact hP⟩, hS.F ht⟩) hS.2.2 hd hlk
theorem w_vreturn  (X : cx_ C G own cc nL none d) (hd : decode cc pc = .ok (.return_, 1))  (hp : post (none) M) : wq_ C G (qe_ C G post) pc lv [] M := by
  obtain ⟨p, l, e, R, s, m, args, below, meth, c, cs, sl⟩ := C
  obtain ⟨hx, hb, hml, hrt, hown, hts, hK, hG, hbs, hlk, hfr, hlo, hcs, hsl⟩ := X
  intro H locs ls hl hP hS
  exact W.vret hx hb hrt  (fun t ht hW => ⟨⟨_, M, rfl, hp, by rw [ht]; exact hP⟩, hS.F ht⟩) hS.2.2 hd hlk
/-- what the tables say of a call of a method on an object, of a static one -/
def lk_ (own : String) (idx : Nat) (y : MethodName) (cy : ByteArray) (ny : Nat) (ry : Option FieldType) (n : Nat) : Prop := Cond.methodLink own idx y ∈ gw_ ∧ Cond.instanceMethod y ∈ gw_ ∧ Cond.selects y.cls y y ∈ gw_ ∧ Cond.initialized y.cls ∈ gw_ ∧ Cond.code y cy ny ry ∈ gw_ ∧ (y.cls ≠ "java/lang/invoke/MethodHandle" ∧ y.cls ≠ "java/lang/invoke/VarHandle" ∧ (parseMethodDescriptor y.desc).map (fun d => d.parameters.length) = some n) ∧ ny ≤ 45
def ls_ (own : String) (idx : Nat) (y : MethodName) (cy : ByteArray) (ny : Nat) (ry : Option FieldType) (n : Nat) : Prop := Cond.methodLink own idx y ∈ gw_ ∧ Cond.static y ∈ gw_ ∧ Cond.initialized y.cls ∈ gw_ ∧ Cond.code y cy ny ry ∈ gw_ ∧ (y.cls ≠ "java/lang/invoke/MethodHandle" ∧ y.cls ≠ "java/lang/invoke/VarHandle" ∧ (parseMethodDescriptor y.desc).map (fun d => d.parameters.length) = some n) ∧ ny ≤ 45
theorem w_run {p : Program} {l : Launch} {e : Env} {R : Room} {s : State} {m : MethodId} {args : Array Value} {below : List Frame} {meth : Method} {c : Code} {H : Heap} {locs : List Loc} {cs sl : Nat} {ls : Array Slot} {st0 rest : List Value} {a : Array Value} (hr : va_Run p l e R s m args below meth c H locs cs sl 0 0 (F0 m pc ls st0) rest (qg_ G post a) (aw_ G)) (hS : va_S (aw_ G) s.heap H locs)
    (kk : ∀ (v : Option Value) (N : mm_) (H1 : Heap) (locs1 : List Loc), post v N → va_P G.2.2.1 vwCl (wl_ G N) H1 → va_S (aw_ G) s.heap H1 locs1 → W p l e R s m args below meth c H1 locs1 cs sl Q (F0 m (pc + 3) ls (v.toList ++ rest))) : W p l e R s m args below meth c H locs cs sl Q (F0 m pc ls st0) := by
  intro T hT X
  obtain ⟨v, st₀, t, T', L, h0, X', hL, e1, e2, ⟨⟨v', N, hv, hp, hb⟩, hz, hk⟩, st⟩ := hr T hT X
  cases hv
  rw [h0] at hz hk
  obtain ⟨t2, a1, b1⟩ := kk v N T'.heap (locs ++ L) hp (by rw [e1]; exact hb)
    ⟨Nat.le_trans hS.1 (by rw [e1]; exact hz), fun q h1 h2 => by rw [e1, hk q (Nat.lt_of_lt_of_le h1 hS.1) h2]; exact hS.2.1 q h1 h2, fun q hq => by
      rcases List.mem_append.mp hq with h | h
      · exact hS.2.2 q h
      · exact hL q h⟩ T' rfl X'
  exact ⟨t2, st t2 a1, b1⟩
theorem w_callV (As : List Value) {y : MethodName} {cy : ByteArray} {ny idx a ci N : Nat} {fs : List Nat} {T : u_T} {ry2 : Option FieldType} (X : cx_ C G own cc nL ry (d + 1)) (hd : decode cc pc = .ok (.invokevirtual idx, 3)) (hk : lk_ own idx y cy ny ry2 As.length) (hc : vwCl[ci]? = some (y.cls, T, N)) (ha : ds_[a]? = some (.inr (ci, fs))) (hM : cm_ G y cy ny ry2 d (.ref (G.1 a) :: As) M post) (hr : (st.map fun v => v.category).sum ≤ 8)
    (k : ∀ (v : Option Value) (N : mm_), post v N → wq_ C G Q (pc + 3) lv (v.toList ++ st) N) : wq_ C G Q pc lv (As.reverse ++ .ref (G.1 a) :: st) M := by
  obtain ⟨p, l, e, R, s, m, args, below, meth, c, cs, sl⟩ := C
  obtain ⟨hx, hb, hml, hrt, hown, hts, hK, hG, hbs, hlk, hfr, hlo, hcs, hsl⟩ := X
  obtain ⟨k1, k2, k3, k4, k5, k6, k7⟩ := hk
  intro H locs ls hl hP hS
  have hgood : GoodIn gw_ (wsV own idx y.cls y (.code y cy ny ry2 :: gw_)) := fun w hw => by
    simp only [wsV, List.cons_append, List.nil_append, List.mem_cons] at hw
    rcases hw with rfl | rfl | rfl | rfl | rfl | h
    · exact gw_gg _ k1
    · exact gw_gg _ k2
    · exact gw_gg _ k3
    · exact gw_gg _ k4
    · exact gw_gg _ k5
    · exact gw_gg _ h
  refine w_run (va_runV (As := As) (rest := st) ⟨hx, hb, hml, hown, hts⟩ (hM l) (cwV As.length hts hgood rfl rfl rfl ⟨rfl, k6⟩ ⟨hfr, by show 8 + (ny + 11) + 64 * d ≤ R.locals; omega⟩) ⟨pc_blind, va_recv hK hP hc (wl_at ha), fun U hU hW => ⟨rfl, by rw [hU]; exact Nat.le_trans hbs hS.1, by rw [hU]; exact hP, va_K.moved hW.alike hK⟩⟩ rfl rfl (hl.1.trans hml) rfl (lv_room hr) hd ⟨hcs, hsl⟩) hS (fun v N H1 locs1 hp hP1 hS1 => k v N hp H1 locs1 ls hl hP1 hS1)
theorem w_callS (As : List Value) {y : MethodName} {cy : ByteArray} {ny idx : Nat} {ry2 : Option FieldType} (X : cx_ C G own cc nL ry (d + 1)) (hd : decode cc pc = .ok (.invokestatic idx, 3)) (hk : ls_ own idx y cy ny ry2 As.length) (hM : cm_ G y cy ny ry2 d As M post) (hr : (st.map fun v => v.category).sum ≤ 8)
    (k : ∀ (v : Option Value) (N : mm_), post v N → wq_ C G Q (pc + 3) lv (v.toList ++ st) N) : wq_ C G Q pc lv (As.reverse ++ st) M := by
  obtain ⟨p, l, e, R, s, m, args, below, meth, c, cs, sl⟩ := C
  obtain ⟨hx, hb, hml, hrt, hown, hts, hK, hG, hbs, hlk, hfr, hlo, hcs, hsl⟩ := X
  obtain ⟨k1, k2, k4, k5, k6, k7⟩ := hk
  intro H locs ls hl hP hS
  have hc5 : Cond.code y cy ny ry2 ∈ (.code y cy ny ry2 :: gw_ : List Cond) := List.mem_cons_self
  have hgood : GoodIn gw_ (.code y cy ny ry2 :: gw_) := fun w hw => by
    rcases List.mem_cons.mp hw with rfl | h
    · exact gw_gg _ k5
    · exact gw_gg _ h
  refine w_run (va_runS (As := As) (rest := st) ⟨hx, hb, hml, hown, hts⟩ (hM l) ⟨callB_of As.length hts hgood rfl rfl rfl (hts _ k4) (hts _ k1) k6 ⟨hfr, by show 8 + (ny + 11) + 64 * d ≤ R.locals; omega⟩, hts _ k2⟩ ⟨pc_blind, fun U hU hW => ⟨rfl, by rw [hU]; exact Nat.le_trans hbs hS.1, by rw [hU]; exact hP, va_K.moved hW.alike hK⟩⟩ rfl rfl (hl.1.trans hml) rfl (lv_room hr) hd ⟨hcs, hsl⟩) hS (fun v N H1 locs1 hp hP1 hS1 => k v N hp H1 locs1 ls hl hP1 hS1)
theorem w_v0 {y : MethodName} {cy : ByteArray} {ny idx a ci N : Nat} {fs : List Nat} {T : u_T} {ry2 : Option FieldType} (X : cx_ C G own cc nL ry (d + 1)) (hd : decode cc pc = .ok (.invokevirtual idx, 3)) (hk : lk_ own idx y cy ny ry2 0) (hc : vwCl[ci]? = some (y.cls, T, N)) (ha : ds_[a]? = some (.inr (ci, fs))) (hM : cm_ G y cy ny ry2 d (.ref (G.1 a) :: []) M post) (hr : (st.map fun v => v.category).sum ≤ 8) (k : ∀ (v : Option Value) (N : mm_), post v N → wq_ C G Q (pc + 3) lv (v.toList ++ st) N) : wq_ C G Q pc lv (.ref (G.1 a) :: st) M := w_callV [] X hd hk hc ha hM hr k
theorem w_v1 {a1 : Value} {y : MethodName} {cy : ByteArray} {ny idx a ci N : Nat} {fs : List Nat} {T : u_T} {ry2 : Option FieldType} (X : cx_ C G own cc nL ry (d + 1)) (hd : decode cc pc = .ok (.invokevirtual idx, 3)) (hk : lk_ own idx y cy ny ry2 1) (hc : vwCl[ci]? = some (y.cls, T, N)) (ha : ds_[a]? = some (.inr (ci, fs))) (hM : cm_ G y cy ny ry2 d (.ref (G.1 a) :: [a1]) M post) (hr : (st.map fun v => v.category).sum ≤ 8) (k : ∀ (v : Option Value) (N : mm_), post v N → wq_ C G Q (pc + 3) lv (v.toList ++ st) N) : wq_ C G Q pc lv (a1 :: .ref (G.1 a) :: st) M := w_callV [a1] X hd hk hc ha hM hr k
theorem w_v2 {a1 a2 : Value} {y : MethodName} {cy : ByteArray} {ny idx a ci N : Nat} {fs : List Nat} {T : u_T} {ry2 : Option FieldType} (X : cx_ C G own cc nL ry (d + 1)) (hd : decode cc pc = .ok (.invokevirtual idx, 3)) (hk : lk_ own idx y cy ny ry2 2) (hc : vwCl[ci]? = some (y.cls, T, N)) (ha : ds_[a]? = some (.inr (ci, fs))) (hM : cm_ G y cy ny ry2 d (.ref (G.1 a) :: [a1, a2]) M post) (hr : (st.map fun v => v.category).sum ≤ 8) (k : ∀ (v : Option Value) (N : mm_), post v N → wq_ C G Q (pc + 3) lv (v.toList ++ st) N) : wq_ C G Q pc lv (a2 :: a1 :: .ref (G.1 a) :: st) M := w_callV [a1, a2] X hd hk hc ha hM hr k
theorem w_v3 {a1 a2 a3 : Value} {y : MethodName} {cy : ByteArray} {ny idx a ci N : Nat} {fs : List Nat} {T : u_T} {ry2 : Option FieldType} (X : cx_ C G own cc nL ry (d + 1)) (hd : decode cc pc = .ok (.invokevirtual idx, 3)) (hk : lk_ own idx y cy ny ry2 3) (hc : vwCl[ci]? = some (y.cls, T, N)) (ha : ds_[a]? = some (.inr (ci, fs))) (hM : cm_ G y cy ny ry2 d (.ref (G.1 a) :: [a1, a2, a3]) M post) (hr : (st.map fun v => v.category).sum ≤ 8) (k : ∀ (v : Option Value) (N : mm_), post v N → wq_ C G Q (pc + 3) lv (v.toList ++ st) N) : wq_ C G Q pc lv (a3 :: a2 :: a1 :: .ref (G.1 a) :: st) M := w_callV [a1, a2, a3] X hd hk hc ha hM hr k
theorem w_v4 {a1 a2 a3 a4 : Value} {y : MethodName} {cy : ByteArray} {ny idx a ci N : Nat} {fs : List Nat} {T : u_T} {ry2 : Option FieldType} (X : cx_ C G own cc nL ry (d + 1)) (hd : decode cc pc = .ok (.invokevirtual idx, 3)) (hk : lk_ own idx y cy ny ry2 4) (hc : vwCl[ci]? = some (y.cls, T, N)) (ha : ds_[a]? = some (.inr (ci, fs))) (hM : cm_ G y cy ny ry2 d (.ref (G.1 a) :: [a1, a2, a3, a4]) M post) (hr : (st.map fun v => v.category).sum ≤ 8) (k : ∀ (v : Option Value) (N : mm_), post v N → wq_ C G Q (pc + 3) lv (v.toList ++ st) N) : wq_ C G Q pc lv (a4 :: a3 :: a2 :: a1 :: .ref (G.1 a) :: st) M := w_callV [a1, a2, a3, a4] X hd hk hc ha hM hr k
theorem w_v5 {a1 a2 a3 a4 a5 : Value} {y : MethodName} {cy : ByteArray} {ny idx a ci N : Nat} {fs : List Nat} {T : u_T} {ry2 : Option FieldType} (X : cx_ C G own cc nL ry (d + 1)) (hd : decode cc pc = .ok (.invokevirtual idx, 3)) (hk : lk_ own idx y cy ny ry2 5) (hc : vwCl[ci]? = some (y.cls, T, N)) (ha : ds_[a]? = some (.inr (ci, fs))) (hM : cm_ G y cy ny ry2 d (.ref (G.1 a) :: [a1, a2, a3, a4, a5]) M post) (hr : (st.map fun v => v.category).sum ≤ 8) (k : ∀ (v : Option Value) (N : mm_), post v N → wq_ C G Q (pc + 3) lv (v.toList ++ st) N) : wq_ C G Q pc lv (a5 :: a4 :: a3 :: a2 :: a1 :: .ref (G.1 a) :: st) M := w_callV [a1, a2, a3, a4, a5] X hd hk hc ha hM hr k
theorem w_s0 {y : MethodName} {cy : ByteArray} {ny idx : Nat} {ry2 : Option FieldType} (X : cx_ C G own cc nL ry (d + 1)) (hd : decode cc pc = .ok (.invokestatic idx, 3)) (hk : ls_ own idx y cy ny ry2 0) (hM : cm_ G y cy ny ry2 d [] M post) (hr : (st.map fun v => v.category).sum ≤ 8) (k : ∀ (v : Option Value) (N : mm_), post v N → wq_ C G Q (pc + 3) lv (v.toList ++ st) N) : wq_ C G Q pc lv (st) M := w_callS [] X hd hk hM hr k
theorem w_s1 {a1 : Value} {y : MethodName} {cy : ByteArray} {ny idx : Nat} {ry2 : Option FieldType} (X : cx_ C G own cc nL ry (d + 1)) (hd : decode cc pc = .ok (.invokestatic idx, 3)) (hk : ls_ own idx y cy ny ry2 1) (hM : cm_ G y cy ny ry2 d [a1] M post) (hr : (st.map fun v => v.category).sum ≤ 8) (k : ∀ (v : Option Value) (N : mm_), post v N → wq_ C G Q (pc + 3) lv (v.toList ++ st) N) : wq_ C G Q pc lv (a1 :: st) M := w_callS [a1] X hd hk hM hr k
theorem w_s2 {a1 a2 : Value} {y : MethodName} {cy : ByteArray} {ny idx : Nat} {ry2 : Option FieldType} (X : cx_ C G own cc nL ry (d + 1)) (hd : decode cc pc = .ok (.invokestatic idx, 3)) (hk : ls_ own idx y cy ny ry2 2) (hM : cm_ G y cy ny ry2 d [a1, a2] M post) (hr : (st.map fun v => v.category).sum ≤ 8) (k : ∀ (v : Option Value) (N : mm_), post v N → wq_ C G Q (pc + 3) lv (v.toList ++ st) N) : wq_ C G Q pc lv (a2 :: a1 :: st) M := w_callS [a1, a2] X hd hk hM hr k
theorem w_s3 {a1 a2 a3 : Value} {y : MethodName} {cy : ByteArray} {ny idx : Nat} {ry2 : Option FieldType} (X : cx_ C G own cc nL ry (d + 1)) (hd : decode cc pc = .ok (.invokestatic idx, 3)) (hk : ls_ own idx y cy ny ry2 3) (hM : cm_ G y cy ny ry2 d [a1, a2, a3] M post) (hr : (st.map fun v => v.category).sum ≤ 8) (k : ∀ (v : Option Value) (N : mm_), post v N → wq_ C G Q (pc + 3) lv (v.toList ++ st) N) : wq_ C G Q pc lv (a3 :: a2 :: a1 :: st) M := w_callS [a1, a2, a3] X hd hk hM hr k
theorem w_s4 {a1 a2 a3 a4 : Value} {y : MethodName} {cy : ByteArray} {ny idx : Nat} {ry2 : Option FieldType} (X : cx_ C G own cc nL ry (d + 1)) (hd : decode cc pc = .ok (.invokestatic idx, 3)) (hk : ls_ own idx y cy ny ry2 4) (hM : cm_ G y cy ny ry2 d [a1, a2, a3, a4] M post) (hr : (st.map fun v => v.category).sum ≤ 8) (k : ∀ (v : Option Value) (N : mm_), post v N → wq_ C G Q (pc + 3) lv (v.toList ++ st) N) : wq_ C G Q pc lv (a4 :: a3 :: a2 :: a1 :: st) M := w_callS [a1, a2, a3, a4] X hd hk hM hr k
theorem w_s5 {a1 a2 a3 a4 a5 : Value} {y : MethodName} {cy : ByteArray} {ny idx : Nat} {ry2 : Option FieldType} (X : cx_ C G own cc nL ry (d + 1)) (hd : decode cc pc = .ok (.invokestatic idx, 3)) (hk : ls_ own idx y cy ny ry2 5) (hM : cm_ G y cy ny ry2 d [a1, a2, a3, a4, a5] M post) (hr : (st.map fun v => v.category).sum ≤ 8) (k : ∀ (v : Option Value) (N : mm_), post v N → wq_ C G Q (pc + 3) lv (v.toList ++ st) N) : wq_ C G Q pc lv (a5 :: a4 :: a3 :: a2 :: a1 :: st) M := w_callS [a1, a2, a3, a4, a5] X hd hk hM hr k
end CALLS
end
section
set_option maxRecDepth 100000 in
theorem inG12_e : wsX120 = ([1088, 1090, 1092, 1094, 1096, 1098, 1100, 1102, 1104, 1106, 1108, 1110, 1112, 1114, 1116, 1118, 1120, 1122, 1124, 1126, 1128, 1130, 1132, 1134, 1136, 1138, 1140, 1142, 1144, 1146, 1148, 1150, 1152, 1154, 1156, 1158, 1160, 1162, 1164, 1166, 1168, 1170, 1172, 1174, 1176, 1178, 1180, 1182, 1184, 1186, 1188, 1190, 1192, 1194, 1196, 1198, 1200, 1202, 1204, 1206] : List Nat).filterMap (fun i => tables_1[i]?) := by decide +kernel
theorem inG12_g : (u_ws RX12 TX12 60).all goodWord = true := by decide +kernel
theorem inG12 : ∀ w ∈ u_ws RX12 TX12 60, w ∈ gw_ := by
  intro w hw
  have h1 := List.all_eq_true.mp inG12_g w hw
  have e : u_ws RX12 TX12 60 = _ := inG12_e
  rw [e] at hw
  obtain ⟨i, -, hi⟩ := List.mem_filterMap.mp hw
  exact gw_t i hi h1
theorem zb_ {x : Int32} (h : x = 0 ∨ x = 1) : narrow .boolean (.int x) = .int x ∧ fits .boolean (.int x) = true := by
  rcases h with rfl | rfl <;> exact ⟨by decide +kernel, by decide +kernel⟩
section LINKS
variable {C : mc_} {G : gg_} {Q : State → Prop} {pc : Nat} {lv : List (Option Value)} {st : List Value} {M : mm_} {cc : ByteArray} {nL : Nat} {ry : Option FieldType} {d : Nat}
theorem f12_thrown : Cond.fieldLink RX12 115 (TX12 0).1 (TX12 0).2.1 (TX12 0).2.2.1 ∈ gw_ := gw_t 1028 (by decide +kernel) rfl
theorem g12_thrown (X : cx_ C G RX12 cc nL ry d) (hd : decode cc pc = .ok (.getfield 115, 3)) (k : wq_ C G Q (pc + 3) lv (.int (M.1 0 0) :: st) M) : wq_ C G Q pc lv (.ref (G.1 0) :: st) M := w_get (j := 0) (f := 0) (a := 0) (ci := 11) (fs := dr_fs) X hd inG12 rfl (by decide) f12_thrown rfl rfl k
theorem p12_thrown {x : Int32} (X : cx_ C G RX12 cc nL ry d) (hd : decode cc pc = .ok (.putfield 115, 3)) (k : wq_ C G Q (pc + 3) lv st (sI_ M 0 0 x)) : wq_ C G Q pc lv (.int x :: .ref (G.1 0) :: st) M := w_putI (j := 0) (a := 0) (ci := 11) (fs := dr_fs) (ty := .int) X hd inG12 tyX12_ok nmX12 rfl (by decide) f12_thrown rfl (by decide +kernel) rfl rfl rfl rfl k
theorem f12_tape : Cond.fieldLink RX12 7 (TX12 1).1 (TX12 1).2.1 (TX12 1).2.2.1 ∈ gw_ := gw_t 1029 (by decide +kernel) rfl
theorem g12_tape (X : cx_ C G RX12 cc nL ry d) (hd : decode cc pc = .ok (.getfield 7, 3)) (k : wq_ C G Q (pc + 3) lv (.ref (G.1 1) :: st) M) : wq_ C G Q pc lv (.ref (G.1 0) :: st) M := w_get (j := 1) (f := 4) (a := 0) (ci := 11) (fs := dr_fs) X hd inG12 rfl (by decide) f12_tape rfl rfl k
theorem f12_size : Cond.fieldLink RX12 118 (TX12 2).1 (TX12 2).2.1 (TX12 2).2.2.1 ∈ gw_ := gw_t 1030 (by decide +kernel) rfl
theorem g12_size (X : cx_ C G RX12 cc nL ry d) (hd : decode cc pc = .ok (.getfield 118, 3)) (k : wq_ C G Q (pc + 3) lv (.int (M.1 0 2) :: st) M) : wq_ C G Q pc lv (.ref (G.1 0) :: st) M := w_get (j := 2) (f := 0) (a := 0) (ci := 11) (fs := dr_fs) X hd inG12 rfl (by decide) f12_size rfl rfl k
theorem p12_size {x : Int32} (X : cx_ C G RX12 cc nL ry d) (hd : decode cc pc = .ok (.putfield 118, 3)) (k : wq_ C G Q (pc + 3) lv st (sI_ M 0 2 x)) : wq_ C G Q pc lv (.int x :: .ref (G.1 0) :: st) M := w_putI (j := 2) (a := 0) (ci := 11) (fs := dr_fs) (ty := .int) X hd inG12 tyX12_ok nmX12 rfl (by decide) f12_size rfl (by decide +kernel) rfl rfl rfl rfl k
theorem f12_fault : Cond.fieldLink RX12 123 (TX12 3).1 (TX12 3).2.1 (TX12 3).2.2.1 ∈ gw_ := gw_t 1031 (by decide +kernel) rfl
theorem g12_fault (X : cx_ C G RX12 cc nL ry d) (hd : decode cc pc = .ok (.getfield 123, 3)) (k : wq_ C G Q (pc + 3) lv (.int (M.1 0 3) :: st) M) : wq_ C G Q pc lv (.ref (G.1 0) :: st) M := w_get (j := 3) (f := 0) (a := 0) (ci := 11) (fs := dr_fs) X hd inG12 rfl (by decide) f12_fault rfl rfl k
theorem p12_fault {x : Int32} (X : cx_ C G RX12 cc nL ry d) (hd : decode cc pc = .ok (.putfield 123, 3)) (k : wq_ C G Q (pc + 3) lv st (sI_ M 0 3 x)) : wq_ C G Q pc lv (.int x :: .ref (G.1 0) :: st) M := w_putI (j := 3) (a := 0) (ci := 11) (fs := dr_fs) (ty := .int) X hd inG12 tyX12_ok nmX12 rfl (by decide) f12_fault rfl (by decide +kernel) rfl rfl rfl rfl k
theorem f12_place : Cond.fieldLink RX12 13 (TX12 4).1 (TX12 4).2.1 (TX12 4).2.2.1 ∈ gw_ := gw_t 1032 (by decide +kernel) rfl
theorem g12_place (X : cx_ C G RX12 cc nL ry d) (hd : decode cc pc = .ok (.getfield 13, 3)) (k : wq_ C G Q (pc + 3) lv (.int (M.1 0 4) :: st) M) : wq_ C G Q pc lv (.ref (G.1 0) :: st) M := w_get (j := 4) (f := 0) (a := 0) (ci := 11) (fs := dr_fs) X hd inG12 rfl (by decide) f12_place rfl rfl k
theorem p12_place {x : Int32} (X : cx_ C G RX12 cc nL ry d) (hd : decode cc pc = .ok (.putfield 13, 3)) (k : wq_ C G Q (pc + 3) lv st (sI_ M 0 4 x)) : wq_ C G Q pc lv (.int x :: .ref (G.1 0) :: st) M := w_putI (j := 4) (a := 0) (ci := 11) (fs := dr_fs) (ty := .int) X hd inG12 tyX12_ok nmX12 rfl (by decide) f12_place rfl (by decide +kernel) rfl rfl rfl rfl k
theorem f12_at : Cond.fieldLink RX12 147 (TX12 5).1 (TX12 5).2.1 (TX12 5).2.2.1 ∈ gw_ := gw_t 1033 (by decide +kernel) rfl
theorem g12_at (X : cx_ C G RX12 cc nL ry d) (hd : decode cc pc = .ok (.getfield 147, 3)) (k : wq_ C G Q (pc + 3) lv (.int (M.1 0 5) :: st) M) : wq_ C G Q pc lv (.ref (G.1 0) :: st) M := w_get (j := 5) (f := 0) (a := 0) (ci := 11) (fs := dr_fs) X hd inG12 rfl (by decide) f12_at rfl rfl k
theorem p12_at {x : Int32} (X : cx_ C G RX12 cc nL ry d) (hd : decode cc pc = .ok (.putfield 147, 3)) (k : wq_ C G Q (pc + 3) lv st (sI_ M 0 5 x)) : wq_ C G Q pc lv (.int x :: .ref (G.1 0) :: st) M := w_putI (j := 5) (a := 0) (ci := 11) (fs := dr_fs) (ty := .int) X hd inG12 tyX12_ok nmX12 rfl (by decide) f12_at rfl (by decide +kernel) rfl rfl rfl rfl k
theorem f12_steps : Cond.fieldLink RX12 17 (TX12 6).1 (TX12 6).2.1 (TX12 6).2.2.1 ∈ gw_ := gw_t 1034 (by decide +kernel) rfl
theorem g12_steps (X : cx_ C G RX12 cc nL ry d) (hd : decode cc pc = .ok (.getfield 17, 3)) (k : wq_ C G Q (pc + 3) lv (.ref (G.1 2) :: st) M) : wq_ C G Q pc lv (.ref (G.1 0) :: st) M := w_get (j := 6) (f := 5) (a := 0) (ci := 11) (fs := dr_fs) X hd inG12 rfl (by decide) f12_steps rfl rfl k
theorem f12_values : Cond.fieldLink RX12 20 (TX12 7).1 (TX12 7).2.1 (TX12 7).2.2.1 ∈ gw_ := gw_t 1035 (by decide +kernel) rfl
theorem g12_values (X : cx_ C G RX12 cc nL ry d) (hd : decode cc pc = .ok (.getfield 20, 3)) (k : wq_ C G Q (pc + 3) lv (.ref (G.1 3) :: st) M) : wq_ C G Q pc lv (.ref (G.1 0) :: st) M := w_get (j := 7) (f := 6) (a := 0) (ci := 11) (fs := dr_fs) X hd inG12 rfl (by decide) f12_values rfl rfl k
theorem f12_lengths : Cond.fieldLink RX12 24 (TX12 8).1 (TX12 8).2.1 (TX12 8).2.2.1 ∈ gw_ := gw_t 1036 (by decide +kernel) rfl
theorem g12_lengths (X : cx_ C G RX12 cc nL ry d) (hd : decode cc pc = .ok (.getfield 24, 3)) (k : wq_ C G Q (pc + 3) lv (.ref (G.1 4) :: st) M) : wq_ C G Q pc lv (.ref (G.1 0) :: st) M := w_get (j := 8) (f := 7) (a := 0) (ci := 11) (fs := dr_fs) X hd inG12 rfl (by decide) f12_lengths rfl rfl k
theorem f12_methods : Cond.fieldLink RX12 260 (TX12 9).1 (TX12 9).2.1 (TX12 9).2.2.1 ∈ gw_ := gw_t 1037 (by decide +kernel) rfl
theorem g12_methods (X : cx_ C G RX12 cc nL ry d) (hd : decode cc pc = .ok (.getfield 260, 3)) (k : wq_ C G Q (pc + 3) lv (.int (M.1 0 9) :: st) M) : wq_ C G Q pc lv (.ref (G.1 0) :: st) M := w_get (j := 9) (f := 0) (a := 0) (ci := 11) (fs := dr_fs) X hd inG12 rfl (by decide) f12_methods rfl rfl k
theorem p12_methods {x : Int32} (X : cx_ C G RX12 cc nL ry d) (hd : decode cc pc = .ok (.putfield 260, 3)) (k : wq_ C G Q (pc + 3) lv st (sI_ M 0 9 x)) : wq_ C G Q pc lv (.int x :: .ref (G.1 0) :: st) M := w_putI (j := 9) (a := 0) (ci := 11) (fs := dr_fs) (ty := .int) X hd inG12 tyX12_ok nmX12 rfl (by decide) f12_methods rfl (by decide +kernel) rfl rfl rfl rfl k
theorem f12_names : Cond.fieldLink RX12 27 (TX12 10).1 (TX12 10).2.1 (TX12 10).2.2.1 ∈ gw_ := gw_t 1038 (by decide +kernel) rfl
theorem g12_names (X : cx_ C G RX12 cc nL ry d) (hd : decode cc pc = .ok (.getfield 27, 3)) (k : wq_ C G Q (pc + 3) lv (.ref (G.1 5) :: st) M) : wq_ C G Q pc lv (.ref (G.1 0) :: st) M := w_get (j := 10) (f := 8) (a := 0) (ci := 11) (fs := dr_fs) X hd inG12 rfl (by decide) f12_names rfl rfl k
theorem f12_parameters : Cond.fieldLink RX12 30 (TX12 11).1 (TX12 11).2.1 (TX12 11).2.2.1 ∈ gw_ := gw_t 1039 (by decide +kernel) rfl
theorem g12_parameters (X : cx_ C G RX12 cc nL ry d) (hd : decode cc pc = .ok (.getfield 30, 3)) (k : wq_ C G Q (pc + 3) lv (.ref (G.1 6) :: st) M) : wq_ C G Q pc lv (.ref (G.1 0) :: st) M := w_get (j := 11) (f := 9) (a := 0) (ci := 11) (fs := dr_fs) X hd inG12 rfl (by decide) f12_parameters rfl rfl k
theorem f12_length : Cond.fieldLink RX12 144 (TX12 12).1 (TX12 12).2.1 (TX12 12).2.2.1 ∈ gw_ := gw_t 1040 (by decide +kernel) rfl
theorem g12_length (X : cx_ C G RX12 cc nL ry d) (hd : decode cc pc = .ok (.getfield 144, 3)) (k : wq_ C G Q (pc + 3) lv (.int (M.1 0 12) :: st) M) : wq_ C G Q pc lv (.ref (G.1 0) :: st) M := w_get (j := 12) (f := 0) (a := 0) (ci := 11) (fs := dr_fs) X hd inG12 rfl (by decide) f12_length rfl rfl k
theorem p12_length {x : Int32} (X : cx_ C G RX12 cc nL ry d) (hd : decode cc pc = .ok (.putfield 144, 3)) (k : wq_ C G Q (pc + 3) lv st (sI_ M 0 12 x)) : wq_ C G Q pc lv (.int x :: .ref (G.1 0) :: st) M := w_putI (j := 12) (a := 0) (ci := 11) (fs := dr_fs) (ty := .int) X hd inG12 tyX12_ok nmX12 rfl (by decide) f12_length rfl (by decide +kernel) rfl rfl rfl rfl k
theorem f12_nodes : Cond.fieldLink RX12 154 (TX12 13).1 (TX12 13).2.1 (TX12 13).2.2.1 ∈ gw_ := gw_t 1041 (by decide +kernel) rfl
theorem g12_nodes (X : cx_ C G RX12 cc nL ry d) (hd : decode cc pc = .ok (.getfield 154, 3)) (k : wq_ C G Q (pc + 3) lv (.int (M.1 0 13) :: st) M) : wq_ C G Q pc lv (.ref (G.1 0) :: st) M := w_get (j := 13) (f := 0) (a := 0) (ci := 11) (fs := dr_fs) X hd inG12 rfl (by decide) f12_nodes rfl rfl k
theorem p12_nodes {x : Int32} (X : cx_ C G RX12 cc nL ry d) (hd : decode cc pc = .ok (.putfield 154, 3)) (k : wq_ C G Q (pc + 3) lv st (sI_ M 0 13 x)) : wq_ C G Q pc lv (.int x :: .ref (G.1 0) :: st) M := w_putI (j := 13) (a := 0) (ci := 11) (fs := dr_fs) (ty := .int) X hd inG12 tyX12_ok nmX12 rfl (by decide) f12_nodes rfl (by decide +kernel) rfl rfl rfl rfl k
theorem f12_inCommand : Cond.fieldLink RX12 150 (TX12 14).1 (TX12 14).2.1 (TX12 14).2.2.1 ∈ gw_ := gw_t 1042 (by decide +kernel) rfl
theorem g12_inCommand (X : cx_ C G RX12 cc nL ry d) (hd : decode cc pc = .ok (.getfield 150, 3)) (k : wq_ C G Q (pc + 3) lv (.int (M.1 0 14) :: st) M) : wq_ C G Q pc lv (.ref (G.1 0) :: st) M := w_get (j := 14) (f := 0) (a := 0) (ci := 11) (fs := dr_fs) X hd inG12 rfl (by decide) f12_inCommand rfl rfl k
theorem p12_inCommand {x : Int32} (X : cx_ C G RX12 cc nL ry d) (hd : decode cc pc = .ok (.putfield 150, 3)) (hz : x = 0 ∨ x = 1) (k : wq_ C G Q (pc + 3) lv st (sI_ M 0 14 x)) : wq_ C G Q pc lv (.int x :: .ref (G.1 0) :: st) M := w_putI (j := 14) (a := 0) (ci := 11) (fs := dr_fs) (ty := .boolean) X hd inG12 tyX12_ok nmX12 rfl (by decide) f12_inCommand rfl (by decide +kernel) rfl rfl (zb_ hz).1 (zb_ hz).2 k
theorem f12_variables : Cond.fieldLink RX12 202 (TX12 15).1 (TX12 15).2.1 (TX12 15).2.2.1 ∈ gw_ := gw_t 1043 (by decide +kernel) rfl
theorem g12_variables (X : cx_ C G RX12 cc nL ry d) (hd : decode cc pc = .ok (.getfield 202, 3)) (k : wq_ C G Q (pc + 3) lv (.int (M.1 0 15) :: st) M) : wq_ C G Q pc lv (.ref (G.1 0) :: st) M := w_get (j := 15) (f := 0) (a := 0) (ci := 11) (fs := dr_fs) X hd inG12 rfl (by decide) f12_variables rfl rfl k
theorem p12_variables {x : Int32} (X : cx_ C G RX12 cc nL ry d) (hd : decode cc pc = .ok (.putfield 202, 3)) (k : wq_ C G Q (pc + 3) lv st (sI_ M 0 15 x)) : wq_ C G Q pc lv (.int x :: .ref (G.1 0) :: st) M := w_putI (j := 15) (a := 0) (ci := 11) (fs := dr_fs) (ty := .int) X hd inG12 tyX12_ok nmX12 rfl (by decide) f12_variables rfl (by decide +kernel) rfl rfl rfl rfl k
theorem f12_waits : Cond.fieldLink RX12 33 (TX12 16).1 (TX12 16).2.1 (TX12 16).2.2.1 ∈ gw_ := gw_t 1044 (by decide +kernel) rfl
theorem g12_waits (X : cx_ C G RX12 cc nL ry d) (hd : decode cc pc = .ok (.getfield 33, 3)) (k : wq_ C G Q (pc + 3) lv (.ref (G.1 7) :: st) M) : wq_ C G Q pc lv (.ref (G.1 0) :: st) M := w_get (j := 16) (f := 10) (a := 0) (ci := 11) (fs := dr_fs) X hd inG12 rfl (by decide) f12_waits rfl rfl k
theorem f12_waitPlaces : Cond.fieldLink RX12 36 (TX12 17).1 (TX12 17).2.1 (TX12 17).2.2.1 ∈ gw_ := gw_t 1045 (by decide +kernel) rfl
theorem g12_waitPlaces (X : cx_ C G RX12 cc nL ry d) (hd : decode cc pc = .ok (.getfield 36, 3)) (k : wq_ C G Q (pc + 3) lv (.ref (G.1 8) :: st) M) : wq_ C G Q pc lv (.ref (G.1 0) :: st) M := w_get (j := 17) (f := 11) (a := 0) (ci := 11) (fs := dr_fs) X hd inG12 rfl (by decide) f12_waitPlaces rfl rfl k
theorem f12_waitValues : Cond.fieldLink RX12 39 (TX12 18).1 (TX12 18).2.1 (TX12 18).2.2.1 ∈ gw_ := gw_t 1046 (by decide +kernel) rfl
theorem g12_waitValues (X : cx_ C G RX12 cc nL ry d) (hd : decode cc pc = .ok (.getfield 39, 3)) (k : wq_ C G Q (pc + 3) lv (.ref (G.1 9) :: st) M) : wq_ C G Q pc lv (.ref (G.1 0) :: st) M := w_get (j := 18) (f := 12) (a := 0) (ci := 11) (fs := dr_fs) X hd inG12 rfl (by decide) f12_waitValues rfl rfl k
theorem f12_waitNames : Cond.fieldLink RX12 42 (TX12 19).1 (TX12 19).2.1 (TX12 19).2.2.1 ∈ gw_ := gw_t 1047 (by decide +kernel) rfl
theorem g12_waitNames (X : cx_ C G RX12 cc nL ry d) (hd : decode cc pc = .ok (.getfield 42, 3)) (k : wq_ C G Q (pc + 3) lv (.ref (G.1 10) :: st) M) : wq_ C G Q pc lv (.ref (G.1 0) :: st) M := w_get (j := 19) (f := 13) (a := 0) (ci := 11) (fs := dr_fs) X hd inG12 rfl (by decide) f12_waitNames rfl rfl k
theorem f12_waiting : Cond.fieldLink RX12 161 (TX12 20).1 (TX12 20).2.1 (TX12 20).2.2.1 ∈ gw_ := gw_t 1048 (by decide +kernel) rfl
theorem g12_waiting (X : cx_ C G RX12 cc nL ry d) (hd : decode cc pc = .ok (.getfield 161, 3)) (k : wq_ C G Q (pc + 3) lv (.int (M.1 0 20) :: st) M) : wq_ C G Q pc lv (.ref (G.1 0) :: st) M := w_get (j := 20) (f := 0) (a := 0) (ci := 11) (fs := dr_fs) X hd inG12 rfl (by decide) f12_waiting rfl rfl k
theorem p12_waiting {x : Int32} (X : cx_ C G RX12 cc nL ry d) (hd : decode cc pc = .ok (.putfield 161, 3)) (k : wq_ C G Q (pc + 3) lv st (sI_ M 0 20 x)) : wq_ C G Q pc lv (.int x :: .ref (G.1 0) :: st) M := w_putI (j := 20) (a := 0) (ci := 11) (fs := dr_fs) (ty := .int) X hd inG12 tyX12_ok nmX12 rfl (by decide) f12_waiting rfl (by decide +kernel) rfl rfl rfl rfl k
theorem f12_operands : Cond.fieldLink RX12 45 (TX12 21).1 (TX12 21).2.1 (TX12 21).2.2.1 ∈ gw_ := gw_t 1049 (by decide +kernel) rfl
theorem g12_operands (X : cx_ C G RX12 cc nL ry d) (hd : decode cc pc = .ok (.getfield 45, 3)) (k : wq_ C G Q (pc + 3) lv (.ref (G.1 11) :: st) M) : wq_ C G Q pc lv (.ref (G.1 0) :: st) M := w_get (j := 21) (f := 14) (a := 0) (ci := 11) (fs := dr_fs) X hd inG12 rfl (by decide) f12_operands rfl rfl k
theorem f12_operandCount : Cond.fieldLink RX12 164 (TX12 22).1 (TX12 22).2.1 (TX12 22).2.2.1 ∈ gw_ := gw_t 1050 (by decide +kernel) rfl
theorem g12_operandCount (X : cx_ C G RX12 cc nL ry d) (hd : decode cc pc = .ok (.getfield 164, 3)) (k : wq_ C G Q (pc + 3) lv (.int (M.1 0 22) :: st) M) : wq_ C G Q pc lv (.ref (G.1 0) :: st) M := w_get (j := 22) (f := 0) (a := 0) (ci := 11) (fs := dr_fs) X hd inG12 rfl (by decide) f12_operandCount rfl rfl k
theorem p12_operandCount {x : Int32} (X : cx_ C G RX12 cc nL ry d) (hd : decode cc pc = .ok (.putfield 164, 3)) (k : wq_ C G Q (pc + 3) lv st (sI_ M 0 22 x)) : wq_ C G Q pc lv (.int x :: .ref (G.1 0) :: st) M := w_putI (j := 22) (a := 0) (ci := 11) (fs := dr_fs) (ty := .int) X hd inG12 tyX12_ok nmX12 rfl (by decide) f12_operandCount rfl (by decide +kernel) rfl rfl rfl rfl k
theorem f12_opened : Cond.fieldLink RX12 195 (TX12 23).1 (TX12 23).2.1 (TX12 23).2.2.1 ∈ gw_ := gw_t 1051 (by decide +kernel) rfl
theorem g12_opened (X : cx_ C G RX12 cc nL ry d) (hd : decode cc pc = .ok (.getfield 195, 3)) (k : wq_ C G Q (pc + 3) lv (.int (M.1 0 23) :: st) M) : wq_ C G Q pc lv (.ref (G.1 0) :: st) M := w_get (j := 23) (f := 0) (a := 0) (ci := 11) (fs := dr_fs) X hd inG12 rfl (by decide) f12_opened rfl rfl k
theorem p12_opened {x : Int32} (X : cx_ C G RX12 cc nL ry d) (hd : decode cc pc = .ok (.putfield 195, 3)) (k : wq_ C G Q (pc + 3) lv st (sI_ M 0 23 x)) : wq_ C G Q pc lv (.int x :: .ref (G.1 0) :: st) M := w_putI (j := 23) (a := 0) (ci := 11) (fs := dr_fs) (ty := .int) X hd inG12 tyX12_ok nmX12 rfl (by decide) f12_opened rfl (by decide +kernel) rfl rfl rfl rfl k
theorem f12_rowName : Cond.fieldLink RX12 137 (TX12 24).1 (TX12 24).2.1 (TX12 24).2.2.1 ∈ gw_ := gw_t 1052 (by decide +kernel) rfl
theorem g12_rowName (X : cx_ C G RX12 cc nL ry d) (hd : decode cc pc = .ok (.getfield 137, 3)) (k : wq_ C G Q (pc + 3) lv (.long (M.2.1 0 24) :: st) M) : wq_ C G Q pc lv (.ref (G.1 0) :: st) M := w_get (j := 24) (f := 1) (a := 0) (ci := 11) (fs := dr_fs) X hd inG12 rfl (by decide) f12_rowName rfl rfl k
theorem p12_rowName {x : Int64} (X : cx_ C G RX12 cc nL ry d) (hd : decode cc pc = .ok (.putfield 137, 3)) (k : wq_ C G Q (pc + 3) lv st (sL_ M 0 24 x)) : wq_ C G Q pc lv (.long x :: .ref (G.1 0) :: st) M := w_putL (j := 24) (a := 0) (ci := 11) (fs := dr_fs) (ty := .long) X hd inG12 tyX12_ok nmX12 rfl (by decide) f12_rowName rfl (by decide +kernel) rfl rfl rfl rfl k
theorem f12_kinds : Cond.fieldLink RX12 48 (TX12 25).1 (TX12 25).2.1 (TX12 25).2.2.1 ∈ gw_ := gw_t 1053 (by decide +kernel) rfl
theorem g12_kinds (X : cx_ C G RX12 cc nL ry d) (hd : decode cc pc = .ok (.getfield 48, 3)) (k : wq_ C G Q (pc + 3) lv (.ref (G.1 12) :: st) M) : wq_ C G Q pc lv (.ref (G.1 0) :: st) M := w_get (j := 25) (f := 15) (a := 0) (ci := 11) (fs := dr_fs) X hd inG12 rfl (by decide) f12_kinds rfl rfl k
theorem f12_points : Cond.fieldLink RX12 51 (TX12 26).1 (TX12 26).2.1 (TX12 26).2.2.1 ∈ gw_ := gw_t 1054 (by decide +kernel) rfl
theorem g12_points (X : cx_ C G RX12 cc nL ry d) (hd : decode cc pc = .ok (.getfield 51, 3)) (k : wq_ C G Q (pc + 3) lv (.ref (G.1 13) :: st) M) : wq_ C G Q pc lv (.ref (G.1 0) :: st) M := w_get (j := 26) (f := 16) (a := 0) (ci := 11) (fs := dr_fs) X hd inG12 rfl (by decide) f12_points rfl rfl k
theorem f12_limits : Cond.fieldLink RX12 54 (TX12 27).1 (TX12 27).2.1 (TX12 27).2.2.1 ∈ gw_ := gw_t 1055 (by decide +kernel) rfl
theorem g12_limits (X : cx_ C G RX12 cc nL ry d) (hd : decode cc pc = .ok (.getfield 54, 3)) (k : wq_ C G Q (pc + 3) lv (.ref (G.1 14) :: st) M) : wq_ C G Q pc lv (.ref (G.1 0) :: st) M := w_get (j := 27) (f := 17) (a := 0) (ci := 11) (fs := dr_fs) X hd inG12 rfl (by decide) f12_limits rfl rfl k
theorem f12_mades : Cond.fieldLink RX12 57 (TX12 28).1 (TX12 28).2.1 (TX12 28).2.2.1 ∈ gw_ := gw_t 1056 (by decide +kernel) rfl
theorem g12_mades (X : cx_ C G RX12 cc nL ry d) (hd : decode cc pc = .ok (.getfield 57, 3)) (k : wq_ C G Q (pc + 3) lv (.ref (G.1 15) :: st) M) : wq_ C G Q pc lv (.ref (G.1 0) :: st) M := w_get (j := 28) (f := 18) (a := 0) (ci := 11) (fs := dr_fs) X hd inG12 rfl (by decide) f12_mades rfl rfl k
theorem f12_conditioned : Cond.fieldLink RX12 60 (TX12 29).1 (TX12 29).2.1 (TX12 29).2.2.1 ∈ gw_ := gw_t 1057 (by decide +kernel) rfl
theorem g12_conditioned (X : cx_ C G RX12 cc nL ry d) (hd : decode cc pc = .ok (.getfield 60, 3)) (k : wq_ C G Q (pc + 3) lv (.ref (G.1 16) :: st) M) : wq_ C G Q pc lv (.ref (G.1 0) :: st) M := w_get (j := 29) (f := 19) (a := 0) (ci := 11) (fs := dr_fs) X hd inG12 rfl (by decide) f12_conditioned rfl rfl k
theorem f12_patterns : Cond.fieldLink RX12 64 (TX12 30).1 (TX12 30).2.1 (TX12 30).2.2.1 ∈ gw_ := gw_t 1058 (by decide +kernel) rfl
theorem g12_patterns (X : cx_ C G RX12 cc nL ry d) (hd : decode cc pc = .ok (.getfield 64, 3)) (k : wq_ C G Q (pc + 3) lv (.ref (G.1 17) :: st) M) : wq_ C G Q pc lv (.ref (G.1 0) :: st) M := w_get (j := 30) (f := 20) (a := 0) (ci := 11) (fs := dr_fs) X hd inG12 rfl (by decide) f12_patterns rfl rfl k
theorem f12_patternSizes : Cond.fieldLink RX12 67 (TX12 31).1 (TX12 31).2.1 (TX12 31).2.2.1 ∈ gw_ := gw_t 1059 (by decide +kernel) rfl
theorem g12_patternSizes (X : cx_ C G RX12 cc nL ry d) (hd : decode cc pc = .ok (.getfield 67, 3)) (k : wq_ C G Q (pc + 3) lv (.ref (G.1 18) :: st) M) : wq_ C G Q pc lv (.ref (G.1 0) :: st) M := w_get (j := 31) (f := 21) (a := 0) (ci := 11) (fs := dr_fs) X hd inG12 rfl (by decide) f12_patternSizes rfl rfl k
theorem f12_newPattern : Cond.fieldLink RX12 70 (TX12 32).1 (TX12 32).2.1 (TX12 32).2.2.1 ∈ gw_ := gw_t 1060 (by decide +kernel) rfl
theorem g12_newPattern (X : cx_ C G RX12 cc nL ry d) (hd : decode cc pc = .ok (.getfield 70, 3)) (k : wq_ C G Q (pc + 3) lv (.ref (G.1 19) :: st) M) : wq_ C G Q pc lv (.ref (G.1 0) :: st) M := w_get (j := 32) (f := 22) (a := 0) (ci := 11) (fs := dr_fs) X hd inG12 rfl (by decide) f12_newPattern rfl rfl k
theorem f12_newPatternSize : Cond.fieldLink RX12 284 (TX12 33).1 (TX12 33).2.1 (TX12 33).2.2.1 ∈ gw_ := gw_t 1061 (by decide +kernel) rfl
theorem g12_newPatternSize (X : cx_ C G RX12 cc nL ry d) (hd : decode cc pc = .ok (.getfield 284, 3)) (k : wq_ C G Q (pc + 3) lv (.int (M.1 0 33) :: st) M) : wq_ C G Q pc lv (.ref (G.1 0) :: st) M := w_get (j := 33) (f := 0) (a := 0) (ci := 11) (fs := dr_fs) X hd inG12 rfl (by decide) f12_newPatternSize rfl rfl k
theorem p12_newPatternSize {x : Int32} (X : cx_ C G RX12 cc nL ry d) (hd : decode cc pc = .ok (.putfield 284, 3)) (k : wq_ C G Q (pc + 3) lv st (sI_ M 0 33 x)) : wq_ C G Q pc lv (.int x :: .ref (G.1 0) :: st) M := w_putI (j := 33) (a := 0) (ci := 11) (fs := dr_fs) (ty := .int) X hd inG12 tyX12_ok nmX12 rfl (by decide) f12_newPatternSize rfl (by decide +kernel) rfl rfl rfl rfl k
theorem f12_counts : Cond.fieldLink RX12 73 (TX12 34).1 (TX12 34).2.1 (TX12 34).2.2.1 ∈ gw_ := gw_t 1062 (by decide +kernel) rfl
theorem g12_counts (X : cx_ C G RX12 cc nL ry d) (hd : decode cc pc = .ok (.getfield 73, 3)) (k : wq_ C G Q (pc + 3) lv (.ref (G.1 20) :: st) M) : wq_ C G Q pc lv (.ref (G.1 0) :: st) M := w_get (j := 34) (f := 23) (a := 0) (ci := 11) (fs := dr_fs) X hd inG12 rfl (by decide) f12_counts rfl rfl k
theorem f12_recordCount : Cond.fieldLink RX12 356 (TX12 35).1 (TX12 35).2.1 (TX12 35).2.2.1 ∈ gw_ := gw_t 1063 (by decide +kernel) rfl
theorem g12_recordCount (X : cx_ C G RX12 cc nL ry d) (hd : decode cc pc = .ok (.getfield 356, 3)) (k : wq_ C G Q (pc + 3) lv (.int (M.1 0 35) :: st) M) : wq_ C G Q pc lv (.ref (G.1 0) :: st) M := w_get (j := 35) (f := 0) (a := 0) (ci := 11) (fs := dr_fs) X hd inG12 rfl (by decide) f12_recordCount rfl rfl k
theorem p12_recordCount {x : Int32} (X : cx_ C G RX12 cc nL ry d) (hd : decode cc pc = .ok (.putfield 356, 3)) (k : wq_ C G Q (pc + 3) lv st (sI_ M 0 35 x)) : wq_ C G Q pc lv (.int x :: .ref (G.1 0) :: st) M := w_putI (j := 35) (a := 0) (ci := 11) (fs := dr_fs) (ty := .int) X hd inG12 tyX12_ok nmX12 rfl (by decide) f12_recordCount rfl (by decide +kernel) rfl rfl rfl rfl k
theorem f12_records : Cond.fieldLink RX12 76 (TX12 36).1 (TX12 36).2.1 (TX12 36).2.2.1 ∈ gw_ := gw_t 1064 (by decide +kernel) rfl
theorem g12_records (X : cx_ C G RX12 cc nL ry d) (hd : decode cc pc = .ok (.getfield 76, 3)) (k : wq_ C G Q (pc + 3) lv (.ref (G.1 21) :: st) M) : wq_ C G Q pc lv (.ref (G.1 0) :: st) M := w_get (j := 36) (f := 24) (a := 0) (ci := 11) (fs := dr_fs) X hd inG12 rfl (by decide) f12_records rfl rfl k
theorem f12_keepCount : Cond.fieldLink RX12 365 (TX12 37).1 (TX12 37).2.1 (TX12 37).2.2.1 ∈ gw_ := gw_t 1065 (by decide +kernel) rfl
theorem g12_keepCount (X : cx_ C G RX12 cc nL ry d) (hd : decode cc pc = .ok (.getfield 365, 3)) (k : wq_ C G Q (pc + 3) lv (.int (M.1 0 37) :: st) M) : wq_ C G Q pc lv (.ref (G.1 0) :: st) M := w_get (j := 37) (f := 0) (a := 0) (ci := 11) (fs := dr_fs) X hd inG12 rfl (by decide) f12_keepCount rfl rfl k
theorem p12_keepCount {x : Int32} (X : cx_ C G RX12 cc nL ry d) (hd : decode cc pc = .ok (.putfield 365, 3)) (k : wq_ C G Q (pc + 3) lv st (sI_ M 0 37 x)) : wq_ C G Q pc lv (.int x :: .ref (G.1 0) :: st) M := w_putI (j := 37) (a := 0) (ci := 11) (fs := dr_fs) (ty := .int) X hd inG12 tyX12_ok nmX12 rfl (by decide) f12_keepCount rfl (by decide +kernel) rfl rfl rfl rfl k
theorem f12_keptOnes : Cond.fieldLink RX12 79 (TX12 38).1 (TX12 38).2.1 (TX12 38).2.2.1 ∈ gw_ := gw_t 1066 (by decide +kernel) rfl
theorem g12_keptOnes (X : cx_ C G RX12 cc nL ry d) (hd : decode cc pc = .ok (.getfield 79, 3)) (k : wq_ C G Q (pc + 3) lv (.ref (G.1 22) :: st) M) : wq_ C G Q pc lv (.ref (G.1 0) :: st) M := w_get (j := 38) (f := 25) (a := 0) (ci := 11) (fs := dr_fs) X hd inG12 rfl (by decide) f12_keptOnes rfl rfl k
theorem f12_depth : Cond.fieldLink RX12 381 (TX12 39).1 (TX12 39).2.1 (TX12 39).2.2.1 ∈ gw_ := gw_t 1067 (by decide +kernel) rfl
theorem g12_depth (X : cx_ C G RX12 cc nL ry d) (hd : decode cc pc = .ok (.getfield 381, 3)) (k : wq_ C G Q (pc + 3) lv (.int (M.1 0 39) :: st) M) : wq_ C G Q pc lv (.ref (G.1 0) :: st) M := w_get (j := 39) (f := 0) (a := 0) (ci := 11) (fs := dr_fs) X hd inG12 rfl (by decide) f12_depth rfl rfl k
theorem p12_depth {x : Int32} (X : cx_ C G RX12 cc nL ry d) (hd : decode cc pc = .ok (.putfield 381, 3)) (k : wq_ C G Q (pc + 3) lv st (sI_ M 0 39 x)) : wq_ C G Q pc lv (.int x :: .ref (G.1 0) :: st) M := w_putI (j := 39) (a := 0) (ci := 11) (fs := dr_fs) (ty := .int) X hd inG12 tyX12_ok nmX12 rfl (by decide) f12_depth rfl (by decide +kernel) rfl rfl rfl rfl k
theorem f12_invoked : Cond.fieldLink RX12 384 (TX12 40).1 (TX12 40).2.1 (TX12 40).2.2.1 ∈ gw_ := gw_t 1068 (by decide +kernel) rfl
theorem g12_invoked (X : cx_ C G RX12 cc nL ry d) (hd : decode cc pc = .ok (.getfield 384, 3)) (k : wq_ C G Q (pc + 3) lv (.int (M.1 0 40) :: st) M) : wq_ C G Q pc lv (.ref (G.1 0) :: st) M := w_get (j := 40) (f := 0) (a := 0) (ci := 11) (fs := dr_fs) X hd inG12 rfl (by decide) f12_invoked rfl rfl k
theorem p12_invoked {x : Int32} (X : cx_ C G RX12 cc nL ry d) (hd : decode cc pc = .ok (.putfield 384, 3)) (k : wq_ C G Q (pc + 3) lv st (sI_ M 0 40 x)) : wq_ C G Q pc lv (.int x :: .ref (G.1 0) :: st) M := w_putI (j := 40) (a := 0) (ci := 11) (fs := dr_fs) (ty := .int) X hd inG12 tyX12_ok nmX12 rfl (by decide) f12_invoked rfl (by decide +kernel) rfl rfl rfl rfl k
theorem f12_value : Cond.fieldLink RX12 426 (TX12 41).1 (TX12 41).2.1 (TX12 41).2.2.1 ∈ gw_ := gw_t 1069 (by decide +kernel) rfl
theorem g12_value (X : cx_ C G RX12 cc nL ry d) (hd : decode cc pc = .ok (.getfield 426, 3)) (k : wq_ C G Q (pc + 3) lv (.int (M.1 0 41) :: st) M) : wq_ C G Q pc lv (.ref (G.1 0) :: st) M := w_get (j := 41) (f := 0) (a := 0) (ci := 11) (fs := dr_fs) X hd inG12 rfl (by decide) f12_value rfl rfl k
theorem p12_value {x : Int32} (X : cx_ C G RX12 cc nL ry d) (hd : decode cc pc = .ok (.putfield 426, 3)) (k : wq_ C G Q (pc + 3) lv st (sI_ M 0 41 x)) : wq_ C G Q pc lv (.int x :: .ref (G.1 0) :: st) M := w_putI (j := 41) (a := 0) (ci := 11) (fs := dr_fs) (ty := .int) X hd inG12 tyX12_ok nmX12 rfl (by decide) f12_value rfl (by decide +kernel) rfl rfl rfl rfl k
theorem f12_quiet : Cond.fieldLink RX12 368 (TX12 42).1 (TX12 42).2.1 (TX12 42).2.2.1 ∈ gw_ := gw_t 1070 (by decide +kernel) rfl
theorem g12_quiet (X : cx_ C G RX12 cc nL ry d) (hd : decode cc pc = .ok (.getfield 368, 3)) (k : wq_ C G Q (pc + 3) lv (.int (M.1 0 42) :: st) M) : wq_ C G Q pc lv (.ref (G.1 0) :: st) M := w_get (j := 42) (f := 0) (a := 0) (ci := 11) (fs := dr_fs) X hd inG12 rfl (by decide) f12_quiet rfl rfl k
theorem p12_quiet {x : Int32} (X : cx_ C G RX12 cc nL ry d) (hd : decode cc pc = .ok (.putfield 368, 3)) (hz : x = 0 ∨ x = 1) (k : wq_ C G Q (pc + 3) lv st (sI_ M 0 42 x)) : wq_ C G Q pc lv (.int x :: .ref (G.1 0) :: st) M := w_putI (j := 42) (a := 0) (ci := 11) (fs := dr_fs) (ty := .boolean) X hd inG12 tyX12_ok nmX12 rfl (by decide) f12_quiet rfl (by decide +kernel) rfl rfl (zb_ hz).1 (zb_ hz).2 k
theorem f12_runMethods : Cond.fieldLink RX12 82 (TX12 43).1 (TX12 43).2.1 (TX12 43).2.2.1 ∈ gw_ := gw_t 1071 (by decide +kernel) rfl
theorem g12_runMethods (X : cx_ C G RX12 cc nL ry d) (hd : decode cc pc = .ok (.getfield 82, 3)) (k : wq_ C G Q (pc + 3) lv (.ref (G.1 23) :: st) M) : wq_ C G Q pc lv (.ref (G.1 0) :: st) M := w_get (j := 43) (f := 26) (a := 0) (ci := 11) (fs := dr_fs) X hd inG12 rfl (by decide) f12_runMethods rfl rfl k
theorem f12_runParameters : Cond.fieldLink RX12 85 (TX12 44).1 (TX12 44).2.1 (TX12 44).2.2.1 ∈ gw_ := gw_t 1072 (by decide +kernel) rfl
theorem g12_runParameters (X : cx_ C G RX12 cc nL ry d) (hd : decode cc pc = .ok (.getfield 85, 3)) (k : wq_ C G Q (pc + 3) lv (.ref (G.1 24) :: st) M) : wq_ C G Q pc lv (.ref (G.1 0) :: st) M := w_get (j := 44) (f := 27) (a := 0) (ci := 11) (fs := dr_fs) X hd inG12 rfl (by decide) f12_runParameters rfl rfl k
theorem f12_runPlaces : Cond.fieldLink RX12 88 (TX12 45).1 (TX12 45).2.1 (TX12 45).2.2.1 ∈ gw_ := gw_t 1073 (by decide +kernel) rfl
theorem g12_runPlaces (X : cx_ C G RX12 cc nL ry d) (hd : decode cc pc = .ok (.getfield 88, 3)) (k : wq_ C G Q (pc + 3) lv (.ref (G.1 25) :: st) M) : wq_ C G Q pc lv (.ref (G.1 0) :: st) M := w_get (j := 45) (f := 28) (a := 0) (ci := 11) (fs := dr_fs) X hd inG12 rfl (by decide) f12_runPlaces rfl rfl k
theorem f12_stack : Cond.fieldLink RX12 91 (TX12 46).1 (TX12 46).2.1 (TX12 46).2.2.1 ∈ gw_ := gw_t 1074 (by decide +kernel) rfl
theorem g12_stack (X : cx_ C G RX12 cc nL ry d) (hd : decode cc pc = .ok (.getfield 91, 3)) (k : wq_ C G Q (pc + 3) lv (.ref (G.1 26) :: st) M) : wq_ C G Q pc lv (.ref (G.1 0) :: st) M := w_get (j := 46) (f := 29) (a := 0) (ci := 11) (fs := dr_fs) X hd inG12 rfl (by decide) f12_stack rfl rfl k
theorem f12_height : Cond.fieldLink RX12 399 (TX12 47).1 (TX12 47).2.1 (TX12 47).2.2.1 ∈ gw_ := gw_t 1075 (by decide +kernel) rfl
theorem g12_height (X : cx_ C G RX12 cc nL ry d) (hd : decode cc pc = .ok (.getfield 399, 3)) (k : wq_ C G Q (pc + 3) lv (.int (M.1 0 47) :: st) M) : wq_ C G Q pc lv (.ref (G.1 0) :: st) M := w_get (j := 47) (f := 0) (a := 0) (ci := 11) (fs := dr_fs) X hd inG12 rfl (by decide) f12_height rfl rfl k
theorem p12_height {x : Int32} (X : cx_ C G RX12 cc nL ry d) (hd : decode cc pc = .ok (.putfield 399, 3)) (k : wq_ C G Q (pc + 3) lv st (sI_ M 0 47 x)) : wq_ C G Q pc lv (.int x :: .ref (G.1 0) :: st) M := w_putI (j := 47) (a := 0) (ci := 11) (fs := dr_fs) (ty := .int) X hd inG12 tyX12_ok nmX12 rfl (by decide) f12_height rfl (by decide +kernel) rfl rfl rfl rfl k
theorem f12_tryPlaces : Cond.fieldLink RX12 94 (TX12 48).1 (TX12 48).2.1 (TX12 48).2.2.1 ∈ gw_ := gw_t 1076 (by decide +kernel) rfl
theorem g12_tryPlaces (X : cx_ C G RX12 cc nL ry d) (hd : decode cc pc = .ok (.getfield 94, 3)) (k : wq_ C G Q (pc + 3) lv (.ref (G.1 27) :: st) M) : wq_ C G Q pc lv (.ref (G.1 0) :: st) M := w_get (j := 48) (f := 30) (a := 0) (ci := 11) (fs := dr_fs) X hd inG12 rfl (by decide) f12_tryPlaces rfl rfl k
theorem f12_tryHeights : Cond.fieldLink RX12 97 (TX12 49).1 (TX12 49).2.1 (TX12 49).2.2.1 ∈ gw_ := gw_t 1077 (by decide +kernel) rfl
theorem g12_tryHeights (X : cx_ C G RX12 cc nL ry d) (hd : decode cc pc = .ok (.getfield 97, 3)) (k : wq_ C G Q (pc + 3) lv (.ref (G.1 28) :: st) M) : wq_ C G Q pc lv (.ref (G.1 0) :: st) M := w_get (j := 49) (f := 31) (a := 0) (ci := 11) (fs := dr_fs) X hd inG12 rfl (by decide) f12_tryHeights rfl rfl k
theorem f12_tryDepths : Cond.fieldLink RX12 100 (TX12 50).1 (TX12 50).2.1 (TX12 50).2.2.1 ∈ gw_ := gw_t 1078 (by decide +kernel) rfl
theorem g12_tryDepths (X : cx_ C G RX12 cc nL ry d) (hd : decode cc pc = .ok (.getfield 100, 3)) (k : wq_ C G Q (pc + 3) lv (.ref (G.1 29) :: st) M) : wq_ C G Q pc lv (.ref (G.1 0) :: st) M := w_get (j := 50) (f := 32) (a := 0) (ci := 11) (fs := dr_fs) X hd inG12 rfl (by decide) f12_tryDepths rfl rfl k
theorem f12_tries : Cond.fieldLink RX12 396 (TX12 51).1 (TX12 51).2.1 (TX12 51).2.2.1 ∈ gw_ := gw_t 1079 (by decide +kernel) rfl
theorem g12_tries (X : cx_ C G RX12 cc nL ry d) (hd : decode cc pc = .ok (.getfield 396, 3)) (k : wq_ C G Q (pc + 3) lv (.int (M.1 0 51) :: st) M) : wq_ C G Q pc lv (.ref (G.1 0) :: st) M := w_get (j := 51) (f := 0) (a := 0) (ci := 11) (fs := dr_fs) X hd inG12 rfl (by decide) f12_tries rfl rfl k
theorem p12_tries {x : Int32} (X : cx_ C G RX12 cc nL ry d) (hd : decode cc pc = .ok (.putfield 396, 3)) (k : wq_ C G Q (pc + 3) lv st (sI_ M 0 51 x)) : wq_ C G Q pc lv (.int x :: .ref (G.1 0) :: st) M := w_putI (j := 51) (a := 0) (ci := 11) (fs := dr_fs) (ty := .int) X hd inG12 tyX12_ok nmX12 rfl (by decide) f12_tries rfl (by decide +kernel) rfl rfl rfl rfl k
theorem f12_threw : Cond.fieldLink RX12 390 (TX12 52).1 (TX12 52).2.1 (TX12 52).2.2.1 ∈ gw_ := gw_t 1080 (by decide +kernel) rfl
theorem g12_threw (X : cx_ C G RX12 cc nL ry d) (hd : decode cc pc = .ok (.getfield 390, 3)) (k : wq_ C G Q (pc + 3) lv (.int (M.1 0 52) :: st) M) : wq_ C G Q pc lv (.ref (G.1 0) :: st) M := w_get (j := 52) (f := 0) (a := 0) (ci := 11) (fs := dr_fs) X hd inG12 rfl (by decide) f12_threw rfl rfl k
theorem p12_threw {x : Int32} (X : cx_ C G RX12 cc nL ry d) (hd : decode cc pc = .ok (.putfield 390, 3)) (hz : x = 0 ∨ x = 1) (k : wq_ C G Q (pc + 3) lv st (sI_ M 0 52 x)) : wq_ C G Q pc lv (.int x :: .ref (G.1 0) :: st) M := w_putI (j := 52) (a := 0) (ci := 11) (fs := dr_fs) (ty := .boolean) X hd inG12 tyX12_ok nmX12 rfl (by decide) f12_threw rfl (by decide +kernel) rfl rfl (zb_ hz).1 (zb_ hz).2 k
theorem f12_answer : Cond.fieldLink RX12 393 (TX12 53).1 (TX12 53).2.1 (TX12 53).2.2.1 ∈ gw_ := gw_t 1081 (by decide +kernel) rfl
theorem g12_answer (X : cx_ C G RX12 cc nL ry d) (hd : decode cc pc = .ok (.getfield 393, 3)) (k : wq_ C G Q (pc + 3) lv (.int (M.1 0 53) :: st) M) : wq_ C G Q pc lv (.ref (G.1 0) :: st) M := w_get (j := 53) (f := 0) (a := 0) (ci := 11) (fs := dr_fs) X hd inG12 rfl (by decide) f12_answer rfl rfl k
theorem p12_answer {x : Int32} (X : cx_ C G RX12 cc nL ry d) (hd : decode cc pc = .ok (.putfield 393, 3)) (k : wq_ C G Q (pc + 3) lv st (sI_ M 0 53 x)) : wq_ C G Q pc lv (.int x :: .ref (G.1 0) :: st) M := w_putI (j := 53) (a := 0) (ci := 11) (fs := dr_fs) (ty := .int) X hd inG12 tyX12_ok nmX12 rfl (by decide) f12_answer rfl (by decide +kernel) rfl rfl rfl rfl k
theorem f12_seen : Cond.fieldLink RX12 103 (TX12 54).1 (TX12 54).2.1 (TX12 54).2.2.1 ∈ gw_ := gw_t 1082 (by decide +kernel) rfl
theorem g12_seen (X : cx_ C G RX12 cc nL ry d) (hd : decode cc pc = .ok (.getfield 103, 3)) (k : wq_ C G Q (pc + 3) lv (.ref (G.1 30) :: st) M) : wq_ C G Q pc lv (.ref (G.1 0) :: st) M := w_get (j := 54) (f := 33) (a := 0) (ci := 11) (fs := dr_fs) X hd inG12 rfl (by decide) f12_seen rfl rfl k
theorem f12_probeStack : Cond.fieldLink RX12 106 (TX12 55).1 (TX12 55).2.1 (TX12 55).2.2.1 ∈ gw_ := gw_t 1083 (by decide +kernel) rfl
theorem g12_probeStack (X : cx_ C G RX12 cc nL ry d) (hd : decode cc pc = .ok (.getfield 106, 3)) (k : wq_ C G Q (pc + 3) lv (.ref (G.1 31) :: st) M) : wq_ C G Q pc lv (.ref (G.1 0) :: st) M := w_get (j := 55) (f := 34) (a := 0) (ci := 11) (fs := dr_fs) X hd inG12 rfl (by decide) f12_probeStack rfl rfl k
theorem f12_probeTries : Cond.fieldLink RX12 109 (TX12 56).1 (TX12 56).2.1 (TX12 56).2.2.1 ∈ gw_ := gw_t 1084 (by decide +kernel) rfl
theorem g12_probeTries (X : cx_ C G RX12 cc nL ry d) (hd : decode cc pc = .ok (.getfield 109, 3)) (k : wq_ C G Q (pc + 3) lv (.ref (G.1 32) :: st) M) : wq_ C G Q pc lv (.ref (G.1 0) :: st) M := w_get (j := 56) (f := 35) (a := 0) (ci := 11) (fs := dr_fs) X hd inG12 rfl (by decide) f12_probeTries rfl rfl k
theorem f12_probeHeights : Cond.fieldLink RX12 112 (TX12 57).1 (TX12 57).2.1 (TX12 57).2.2.1 ∈ gw_ := gw_t 1085 (by decide +kernel) rfl
theorem g12_probeHeights (X : cx_ C G RX12 cc nL ry d) (hd : decode cc pc = .ok (.getfield 112, 3)) (k : wq_ C G Q (pc + 3) lv (.ref (G.1 33) :: st) M) : wq_ C G Q pc lv (.ref (G.1 0) :: st) M := w_get (j := 57) (f := 36) (a := 0) (ci := 11) (fs := dr_fs) X hd inG12 rfl (by decide) f12_probeHeights rfl rfl k
theorem f12_probeValue : Cond.fieldLink RX12 347 (TX12 58).1 (TX12 58).2.1 (TX12 58).2.2.1 ∈ gw_ := gw_t 1086 (by decide +kernel) rfl
theorem g12_probeValue (X : cx_ C G RX12 cc nL ry d) (hd : decode cc pc = .ok (.getfield 347, 3)) (k : wq_ C G Q (pc + 3) lv (.int (M.1 0 58) :: st) M) : wq_ C G Q pc lv (.ref (G.1 0) :: st) M := w_get (j := 58) (f := 0) (a := 0) (ci := 11) (fs := dr_fs) X hd inG12 rfl (by decide) f12_probeValue rfl rfl k
theorem p12_probeValue {x : Int32} (X : cx_ C G RX12 cc nL ry d) (hd : decode cc pc = .ok (.putfield 347, 3)) (k : wq_ C G Q (pc + 3) lv st (sI_ M 0 58 x)) : wq_ C G Q pc lv (.int x :: .ref (G.1 0) :: st) M := w_putI (j := 58) (a := 0) (ci := 11) (fs := dr_fs) (ty := .int) X hd inG12 tyX12_ok nmX12 rfl (by decide) f12_probeValue rfl (by decide +kernel) rfl rfl rfl rfl k
theorem f12_probeThrew : Cond.fieldLink RX12 344 (TX12 59).1 (TX12 59).2.1 (TX12 59).2.2.1 ∈ gw_ := gw_t 1087 (by decide +kernel) rfl
theorem g12_probeThrew (X : cx_ C G RX12 cc nL ry d) (hd : decode cc pc = .ok (.getfield 344, 3)) (k : wq_ C G Q (pc + 3) lv (.int (M.1 0 59) :: st) M) : wq_ C G Q pc lv (.ref (G.1 0) :: st) M := w_get (j := 59) (f := 0) (a := 0) (ci := 11) (fs := dr_fs) X hd inG12 rfl (by decide) f12_probeThrew rfl rfl k
theorem p12_probeThrew {x : Int32} (X : cx_ C G RX12 cc nL ry d) (hd : decode cc pc = .ok (.putfield 344, 3)) (hz : x = 0 ∨ x = 1) (k : wq_ C G Q (pc + 3) lv st (sI_ M 0 59 x)) : wq_ C G Q pc lv (.int x :: .ref (G.1 0) :: st) M := w_putI (j := 59) (a := 0) (ci := 11) (fs := dr_fs) (ty := .boolean) X hd inG12 tyX12_ok nmX12 rfl (by decide) f12_probeThrew rfl (by decide +kernel) rfl rfl (zb_ hz).1 (zb_ hz).2 k
end LINKS
theorem in12_ : Cond.initialized RX12 ∈ gw_ := gw_t 12 (by decide +kernel) rfl
theorem k12_begin : lk_ RX12 263 yX12_begin cX12_begin 1 none 0 := ⟨gw_t 1223 (by decide +kernel) rfl, gw_t 1225 (by decide +kernel) rfl, (gw_s (⟨"ProbeConsoleModel", "begin", "()V"⟩, 60) 31 (by decide +kernel) rfl), in12_, gw_t 1226 (by decide +kernel) rfl, by decide +kernel, by decide⟩
theorem k12_rowSize : lk_ RX12 205 yX12_rowSize cX12_rowSize 3 (some .int) 1 := ⟨gw_t 1227 (by decide +kernel) rfl, gw_t 1229 (by decide +kernel) rfl, (gw_s (⟨"ProbeConsoleModel", "rowSize", "(I)I"⟩, 60) 32 (by decide +kernel) rfl), in12_, gw_t 1230 (by decide +kernel) rfl, by decide +kernel, by decide⟩
theorem k12_byteAt : lk_ RX12 130 yX12_byteAt cX12_byteAt 2 (some .int) 1 := ⟨gw_t 1231 (by decide +kernel) rfl, gw_t 1233 (by decide +kernel) rfl, (gw_s (⟨"ProbeConsoleModel", "byteAt", "(I)I"⟩, 60) 33 (by decide +kernel) rfl), in12_, gw_t 1234 (by decide +kernel) rfl, by decide +kernel, by decide⟩
theorem k12_isOfRow : ls_ RX12 134 yX12_isOfRow cX12_isOfRow 1 (some .boolean) 1 := ⟨gw_t 1235 (by decide +kernel) rfl, gw_t 1236 (by decide +kernel) rfl, in12_, gw_t 1237 (by decide +kernel) rfl, by decide +kernel, by decide⟩
theorem k12_isLetter : ls_ RX12 126 yX12_isLetter cX12_isLetter 1 (some .boolean) 1 := ⟨gw_t 1238 (by decide +kernel) rfl, gw_t 1239 (by decide +kernel) rfl, in12_, gw_t 1240 (by decide +kernel) rfl, by decide +kernel, by decide⟩
theorem k12_fail : lk_ RX12 157 yX12_fail cX12_fail 3 none 2 := ⟨gw_t 1241 (by decide +kernel) rfl, gw_t 1243 (by decide +kernel) rfl, (gw_s (⟨"ProbeConsoleModel", "fail", "(II)V"⟩, 60) 34 (by decide +kernel) rfl), in12_, gw_t 1244 (by decide +kernel) rfl, by decide +kernel, by decide⟩
theorem k12_isName : lk_ RX12 211 yX12_isName cX12_isName 6 (some .boolean) 2 := ⟨gw_t 1245 (by decide +kernel) rfl, gw_t 1247 (by decide +kernel) rfl, (gw_s (⟨"ProbeConsoleModel", "isName", "(II)Z"⟩, 60) 35 (by decide +kernel) rfl), in12_, gw_t 1248 (by decide +kernel) rfl, by decide +kernel, by decide⟩
theorem k12_want : lk_ RX12 266 yX12_want cX12_want 2 none 1 := ⟨gw_t 1249 (by decide +kernel) rfl, gw_t 1251 (by decide +kernel) rfl, (gw_s (⟨"ProbeConsoleModel", "want", "(I)V"⟩, 60) 36 (by decide +kernel) rfl), in12_, gw_t 1252 (by decide +kernel) rfl, by decide +kernel, by decide⟩
theorem k12_readExpression : lk_ RX12 269 yX12_readExpression cX12_readExpression 4 none 0 := ⟨gw_t 1253 (by decide +kernel) rfl, gw_t 1255 (by decide +kernel) rfl, (gw_s (⟨"ProbeConsoleModel", "readExpression", "()V"⟩, 60) 37 (by decide +kernel) rfl), in12_, gw_t 1256 (by decide +kernel) rfl, by decide +kernel, by decide⟩
theorem k12_ended : lk_ RX12 222 yX12_ended cX12_ended 2 (some .boolean) 0 := ⟨gw_t 1257 (by decide +kernel) rfl, gw_t 1259 (by decide +kernel) rfl, (gw_s (⟨"ProbeConsoleModel", "ended", "()Z"⟩, 60) 38 (by decide +kernel) rfl), in12_, gw_t 1260 (by decide +kernel) rfl, by decide +kernel, by decide⟩
theorem k12_last : lk_ RX12 218 yX12_last cX12_last 1 (some .int) 0 := ⟨gw_t 1261 (by decide +kernel) rfl, gw_t 1263 (by decide +kernel) rfl, (gw_s (⟨"ProbeConsoleModel", "last", "()I"⟩, 60) 39 (by decide +kernel) rfl), in12_, gw_t 1264 (by decide +kernel) rfl, by decide +kernel, by decide⟩
theorem k12_readOperand : lk_ RX12 253 yX12_readOperand cX12_readOperand 4 (some .boolean) 1 := ⟨gw_t 1265 (by decide +kernel) rfl, gw_t 1267 (by decide +kernel) rfl, (gw_s (⟨"ProbeConsoleModel", "readOperand", "(Z)Z"⟩, 60) 40 (by decide +kernel) rfl), in12_, gw_t 1268 (by decide +kernel) rfl, by decide +kernel, by decide⟩
theorem k12_close : lk_ RX12 226 yX12_close cX12_close 3 none 0 := ⟨gw_t 1269 (by decide +kernel) rfl, gw_t 1271 (by decide +kernel) rfl, (gw_s (⟨"ProbeConsoleModel", "close", "()V"⟩, 60) 41 (by decide +kernel) rfl), in12_, gw_t 1272 (by decide +kernel) rfl, by decide +kernel, by decide⟩
theorem k12_reduceAll : lk_ RX12 235 yX12_reduceAll cX12_reduceAll 1 none 0 := ⟨gw_t 1273 (by decide +kernel) rfl, gw_t 1275 (by decide +kernel) rfl, (gw_s (⟨"ProbeConsoleModel", "reduceAll", "()V"⟩, 60) 42 (by decide +kernel) rfl), in12_, gw_t 1276 (by decide +kernel) rfl, by decide +kernel, by decide⟩
theorem k12_reduceTo : lk_ RX12 174 yX12_reduceTo cX12_reduceTo 2 none 1 := ⟨gw_t 1277 (by decide +kernel) rfl, gw_t 1279 (by decide +kernel) rfl, (gw_s (⟨"ProbeConsoleModel", "reduceTo", "(I)V"⟩, 60) 43 (by decide +kernel) rfl), in12_, gw_t 1280 (by decide +kernel) rfl, by decide +kernel, by decide⟩
theorem k12_reduce : lk_ RX12 171 yX12_reduce cX12_reduce 4 none 0 := ⟨gw_t 1281 (by decide +kernel) rfl, gw_t 1283 (by decide +kernel) rfl, (gw_s (⟨"ProbeConsoleModel", "reduce", "()V"⟩, 60) 44 (by decide +kernel) rfl), in12_, gw_t 1284 (by decide +kernel) rfl, by decide +kernel, by decide⟩
theorem k12_rowOf : ls_ RX12 141 yX12_rowOf cX12_rowOf 1 (some .int) 1 := ⟨gw_t 1285 (by decide +kernel) rfl, gw_t 1286 (by decide +kernel) rfl, in12_, gw_t 1287 (by decide +kernel) rfl, by decide +kernel, by decide⟩
theorem k12_put : lk_ RX12 167 yX12_put cX12_put 4 none 2 := ⟨gw_t 1288 (by decide +kernel) rfl, gw_t 1290 (by decide +kernel) rfl, (gw_s (⟨"ProbeConsoleModel", "put", "(IJ)V"⟩, 60) 45 (by decide +kernel) rfl), in12_, gw_t 1291 (by decide +kernel) rfl, by decide +kernel, by decide⟩
theorem k12_operand : lk_ RX12 192 yX12_operand cX12_operand 2 none 1 := ⟨gw_t 1292 (by decide +kernel) rfl, gw_t 1294 (by decide +kernel) rfl, (gw_s (⟨"ProbeConsoleModel", "operand", "(I)V"⟩, 60) 46 (by decide +kernel) rfl), in12_, gw_t 1295 (by decide +kernel) rfl, by decide +kernel, by decide⟩
theorem k12_isFigure : ls_ RX12 181 yX12_isFigure cX12_isFigure 1 (some .boolean) 1 := ⟨gw_t 1296 (by decide +kernel) rfl, gw_t 1297 (by decide +kernel) rfl, in12_, gw_t 1298 (by decide +kernel) rfl, by decide +kernel, by decide⟩
theorem k12_readNumber : lk_ RX12 229 yX12_readNumber cX12_readNumber 4 none 0 := ⟨gw_t 1299 (by decide +kernel) rfl, gw_t 1301 (by decide +kernel) rfl, (gw_s (⟨"ProbeConsoleModel", "readNumber", "()V"⟩, 60) 47 (by decide +kernel) rfl), in12_, gw_t 1302 (by decide +kernel) rfl, by decide +kernel, by decide⟩
theorem k12_count : lk_ RX12 178 yX12_count cX12_count 2 (some .boolean) 1 := ⟨gw_t 1303 (by decide +kernel) rfl, gw_t 1305 (by decide +kernel) rfl, (gw_s (⟨"ProbeConsoleModel", "count", "(I)Z"⟩, 60) 48 (by decide +kernel) rfl), in12_, gw_t 1306 (by decide +kernel) rfl, by decide +kernel, by decide⟩
theorem k12_wait : lk_ RX12 198 yX12_wait cX12_wait 4 none 3 := ⟨gw_t 1311 (by decide +kernel) rfl, gw_t 1313 (by decide +kernel) rfl, (gw_s (⟨"ProbeConsoleModel", "wait", "(III)V"⟩, 60) 49 (by decide +kernel) rfl), in12_, gw_t 1314 (by decide +kernel) rfl, by decide +kernel, by decide⟩
theorem k12_open : lk_ RX12 215 yX12_open cX12_open 3 none 2 := ⟨gw_t 1315 (by decide +kernel) rfl, gw_t 1317 (by decide +kernel) rfl, (gw_s (⟨"ProbeConsoleModel", "open", "(II)V"⟩, 60) 50 (by decide +kernel) rfl), in12_, gw_t 1318 (by decide +kernel) rfl, by decide +kernel, by decide⟩
theorem k12_readRow : lk_ RX12 232 yX12_readRow cX12_readRow 4 (some .boolean) 0 := ⟨gw_t 1319 (by decide +kernel) rfl, gw_t 1321 (by decide +kernel) rfl, (gw_s (⟨"ProbeConsoleModel", "readRow", "()Z"⟩, 60) 51 (by decide +kernel) rfl), in12_, gw_t 1322 (by decide +kernel) rfl, by decide +kernel, by decide⟩
theorem k12_variableOf : lk_ RX12 208 yX12_variableOf cX12_variableOf 4 (some .int) 1 := ⟨gw_t 1323 (by decide +kernel) rfl, gw_t 1325 (by decide +kernel) rfl, (gw_s (⟨"ProbeConsoleModel", "variableOf", "(I)I"⟩, 60) 52 (by decide +kernel) rfl), in12_, gw_t 1326 (by decide +kernel) rfl, by decide +kernel, by decide⟩
theorem k12_readSign : lk_ RX12 257 yX12_readSign cX12_readSign 2 (some .boolean) 0 := ⟨gw_t 1327 (by decide +kernel) rfl, gw_t 1329 (by decide +kernel) rfl, (gw_s (⟨"ProbeConsoleModel", "readSign", "()Z"⟩, 60) 53 (by decide +kernel) rfl), in12_, gw_t 1330 (by decide +kernel) rfl, by decide +kernel, by decide⟩
theorem k12_hash : lk_ RX12 238 yX12_hash cX12_hash 4 none 0 := ⟨gw_t 1331 (by decide +kernel) rfl, gw_t 1333 (by decide +kernel) rfl, (gw_s (⟨"ProbeConsoleModel", "hash", "()V"⟩, 60) 54 (by decide +kernel) rfl), in12_, gw_t 1334 (by decide +kernel) rfl, by decide +kernel, by decide⟩
theorem k12_question : lk_ RX12 241 yX12_question cX12_question 1 none 0 := ⟨gw_t 1335 (by decide +kernel) rfl, gw_t 1337 (by decide +kernel) rfl, (gw_s (⟨"ProbeConsoleModel", "question", "()V"⟩, 60) 55 (by decide +kernel) rfl), in12_, gw_t 1338 (by decide +kernel) rfl, by decide +kernel, by decide⟩
theorem k12_colon : lk_ RX12 244 yX12_colon cX12_colon 3 none 0 := ⟨gw_t 1339 (by decide +kernel) rfl, gw_t 1341 (by decide +kernel) rfl, (gw_s (⟨"ProbeConsoleModel", "colon", "()V"⟩, 60) 56 (by decide +kernel) rfl), in12_, gw_t 1342 (by decide +kernel) rfl, by decide +kernel, by decide⟩
theorem k12_between : lk_ RX12 247 yX12_between cX12_between 3 none 2 := ⟨gw_t 1343 (by decide +kernel) rfl, gw_t 1345 (by decide +kernel) rfl, (gw_s (⟨"ProbeConsoleModel", "between", "(II)V"⟩, 60) 57 (by decide +kernel) rfl), in12_, gw_t 1346 (by decide +kernel) rfl, by decide +kernel, by decide⟩
theorem k12_comma : lk_ RX12 250 yX12_comma cX12_comma 1 none 0 := ⟨gw_t 1347 (by decide +kernel) rfl, gw_t 1349 (by decide +kernel) rfl, (gw_s (⟨"ProbeConsoleModel", "comma", "()V"⟩, 60) 58 (by decide +kernel) rfl), in12_, gw_t 1350 (by decide +kernel) rfl, by decide +kernel, by decide⟩
theorem k12_findMethod : lk_ RX12 272 yX12_findMethod cX12_findMethod 5 (some .int) 2 := ⟨gw_t 1351 (by decide +kernel) rfl, gw_t 1353 (by decide +kernel) rfl, (gw_s (⟨"ProbeConsoleModel", "findMethod", "(JI)I"⟩, 60) 59 (by decide +kernel) rfl), in12_, gw_t 1354 (by decide +kernel) rfl, by decide +kernel, by decide⟩
theorem k12_keepExpression : lk_ RX12 276 yX12_keepExpression cX12_keepExpression 3 none 1 := ⟨gw_t 1355 (by decide +kernel) rfl, gw_t 1357 (by decide +kernel) rfl, (gw_s (⟨"ProbeConsoleModel", "keepExpression", "(I)V"⟩, 60) 60 (by decide +kernel) rfl), in12_, gw_t 1358 (by decide +kernel) rfl, by decide +kernel, by decide⟩
theorem k12_skip : lk_ RX12 281 yX12_skip cX12_skip 1 none 0 := ⟨gw_t 1363 (by decide +kernel) rfl, gw_t 1365 (by decide +kernel) rfl, (gw_s (⟨"ProbeConsoleModel", "skip", "()V"⟩, 60) 61 (by decide +kernel) rfl), in12_, gw_t 1366 (by decide +kernel) rfl, by decide +kernel, by decide⟩
theorem k12_rowAt : lk_ RX12 290 yX12_rowAt cX12_rowAt 4 (some .long) 1 := ⟨gw_t 1367 (by decide +kernel) rfl, gw_t 1369 (by decide +kernel) rfl, (gw_s (⟨"ProbeConsoleModel", "rowAt", "(I)J"⟩, 60) 62 (by decide +kernel) rfl), in12_, gw_t 1370 (by decide +kernel) rfl, by decide +kernel, by decide⟩
theorem k12_word : ls_ RX12 294 yX12_word cX12_word 4 (some .long) 4 := ⟨gw_t 1371 (by decide +kernel) rfl, gw_t 1372 (by decide +kernel) rfl, in12_, gw_t 1373 (by decide +kernel) rfl, by decide +kernel, by decide⟩
theorem k12_endsAt : lk_ RX12 298 yX12_endsAt cX12_endsAt 2 (some .boolean) 1 := ⟨gw_t 1375 (by decide +kernel) rfl, gw_t 1377 (by decide +kernel) rfl, (gw_s (⟨"ProbeConsoleModel", "endsAt", "(I)Z"⟩, 60) 63 (by decide +kernel) rfl), in12_, gw_t 1378 (by decide +kernel) rfl, by decide +kernel, by decide⟩
theorem k12_watch : lk_ RX12 320 yX12_watch cX12_watch 5 (some .int) 0 := ⟨gw_t 1379 (by decide +kernel) rfl, gw_t 1381 (by decide +kernel) rfl, (gw_s (⟨"ProbeConsoleModel", "watch", "()I"⟩, 60) 64 (by decide +kernel) rfl), in12_, gw_t 1382 (by decide +kernel) rfl, by decide +kernel, by decide⟩
theorem k12_readPoint : lk_ RX12 301 yX12_readPoint cX12_readPoint 6 (some .int) 0 := ⟨gw_t 1383 (by decide +kernel) rfl, gw_t 1385 (by decide +kernel) rfl, (gw_s (⟨"ProbeConsoleModel", "readPoint", "()I"⟩, 60) 65 (by decide +kernel) rfl), in12_, gw_t 1386 (by decide +kernel) rfl, by decide +kernel, by decide⟩
theorem k12_readPattern : lk_ RX12 304 yX12_readPattern cX12_readPattern 2 none 0 := ⟨gw_t 1387 (by decide +kernel) rfl, gw_t 1389 (by decide +kernel) rfl, (gw_s (⟨"ProbeConsoleModel", "readPattern", "()V"⟩, 60) 66 (by decide +kernel) rfl), in12_, gw_t 1390 (by decide +kernel) rfl, by decide +kernel, by decide⟩
theorem k12_freeJob : lk_ RX12 307 yX12_freeJob cX12_freeJob 2 (some .int) 0 := ⟨gw_t 1391 (by decide +kernel) rfl, gw_t 1393 (by decide +kernel) rfl, (gw_s (⟨"ProbeConsoleModel", "freeJob", "()I"⟩, 60) 67 (by decide +kernel) rfl), in12_, gw_t 1394 (by decide +kernel) rfl, by decide +kernel, by decide⟩
theorem k12_smallNumber : lk_ RX12 310 yX12_smallNumber cX12_smallNumber 4 (some .int) 1 := ⟨gw_t 1395 (by decide +kernel) rfl, gw_t 1397 (by decide +kernel) rfl, (gw_s (⟨"ProbeConsoleModel", "smallNumber", "(I)I"⟩, 60) 68 (by decide +kernel) rfl), in12_, gw_t 1398 (by decide +kernel) rfl, by decide +kernel, by decide⟩
theorem k12_wantBlank : lk_ RX12 287 yX12_wantBlank cX12_wantBlank 1 none 0 := ⟨gw_t 1399 (by decide +kernel) rfl, gw_t 1401 (by decide +kernel) rfl, (gw_s (⟨"ProbeConsoleModel", "wantBlank", "()V"⟩, 60) 69 (by decide +kernel) rfl), in12_, gw_t 1402 (by decide +kernel) rfl, by decide +kernel, by decide⟩
theorem k12_wantEnd : lk_ RX12 313 yX12_wantEnd cX12_wantEnd 1 none 0 := ⟨gw_t 1403 (by decide +kernel) rfl, gw_t 1405 (by decide +kernel) rfl, (gw_s (⟨"ProbeConsoleModel", "wantEnd", "()V"⟩, 60) 70 (by decide +kernel) rfl), in12_, gw_t 1406 (by decide +kernel) rfl, by decide +kernel, by decide⟩
theorem k12_newJob : lk_ RX12 316 yX12_newJob cX12_newJob 4 (some .int) 2 := ⟨gw_t 1407 (by decide +kernel) rfl, gw_t 1409 (by decide +kernel) rfl, (gw_s (⟨"ProbeConsoleModel", "newJob", "(II)I"⟩, 60) 71 (by decide +kernel) rfl), in12_, gw_t 1410 (by decide +kernel) rfl, by decide +kernel, by decide⟩
theorem k12_simple : lk_ RX12 323 yX12_simple cX12_simple 3 (some .int) 1 := ⟨gw_t 1411 (by decide +kernel) rfl, gw_t 1413 (by decide +kernel) rfl, (gw_s (⟨"ProbeConsoleModel", "simple", "(I)I"⟩, 60) 72 (by decide +kernel) rfl), in12_, gw_t 1414 (by decide +kernel) rfl, by decide +kernel, by decide⟩
theorem k12_kill : lk_ RX12 326 yX12_kill cX12_kill 2 (some .int) 0 := ⟨gw_t 1415 (by decide +kernel) rfl, gw_t 1417 (by decide +kernel) rfl, (gw_s (⟨"ProbeConsoleModel", "kill", "()I"⟩, 60) 73 (by decide +kernel) rfl), in12_, gw_t 1418 (by decide +kernel) rfl, by decide +kernel, by decide⟩
theorem k12_reset : lk_ RX12 329 yX12_reset cX12_reset 3 (some .int) 0 := ⟨gw_t 1419 (by decide +kernel) rfl, gw_t 1421 (by decide +kernel) rfl, (gw_s (⟨"ProbeConsoleModel", "reset", "()I"⟩, 60) 74 (by decide +kernel) rfl), in12_, gw_t 1422 (by decide +kernel) rfl, by decide +kernel, by decide⟩
theorem k12_play : lk_ RX12 429 yX12_play cX12_play 6 (some .int) 5 := ⟨gw_t 1435 (by decide +kernel) rfl, gw_t 1437 (by decide +kernel) rfl, (gw_s (⟨"ProbeConsoleModel", "play", "(IIIIZ)I"⟩, 60) 75 (by decide +kernel) rfl), in12_, gw_t 1438 (by decide +kernel) rfl, by decide +kernel, by decide⟩
theorem k12_enter : lk_ RX12 413 yX12_enter cX12_enter 3 none 1 := ⟨gw_t 1439 (by decide +kernel) rfl, gw_t 1441 (by decide +kernel) rfl, (gw_s (⟨"ProbeConsoleModel", "enter", "(I)V"⟩, 60) 76 (by decide +kernel) rfl), in12_, gw_t 1442 (by decide +kernel) rfl, by decide +kernel, by decide⟩
theorem k12_probe : lk_ RX12 387 yX12_probe cX12_probe 6 none 3 := ⟨gw_t 1443 (by decide +kernel) rfl, gw_t 1445 (by decide +kernel) rfl, (gw_s (⟨"ProbeConsoleModel", "probe", "(III)V"⟩, 60) 77 (by decide +kernel) rfl), in12_, gw_t 1446 (by decide +kernel) rfl, by decide +kernel, by decide⟩
theorem k12_fits : lk_ RX12 371 yX12_fits cX12_fits 10 (some .boolean) 2 := ⟨gw_t 1447 (by decide +kernel) rfl, gw_t 1449 (by decide +kernel) rfl, (gw_s (⟨"ProbeConsoleModel", "fits", "(II)Z"⟩, 60) 78 (by decide +kernel) rfl), in12_, gw_t 1450 (by decide +kernel) rfl, by decide +kernel, by decide⟩
theorem k12_nameSize : lk_ RX12 334 yX12_nameSize cX12_nameSize 3 (some .int) 1 := ⟨gw_t 1451 (by decide +kernel) rfl, gw_t 1453 (by decide +kernel) rfl, (gw_s (⟨"ProbeConsoleModel", "nameSize", "(I)I"⟩, 60) 79 (by decide +kernel) rfl), in12_, gw_t 1454 (by decide +kernel) rfl, by decide +kernel, by decide⟩
theorem k12_starred : lk_ RX12 337 yX12_starred cX12_starred 5 (some .int) 2 := ⟨gw_t 1455 (by decide +kernel) rfl, gw_t 1457 (by decide +kernel) rfl, (gw_s (⟨"ProbeConsoleModel", "starred", "(II)I"⟩, 60) 80 (by decide +kernel) rfl), in12_, gw_t 1458 (by decide +kernel) rfl, by decide +kernel, by decide⟩
theorem k12_nameByte : lk_ RX12 340 yX12_nameByte cX12_nameByte 5 (some .int) 3 := ⟨gw_t 1459 (by decide +kernel) rfl, gw_t 1461 (by decide +kernel) rfl, (gw_s (⟨"ProbeConsoleModel", "nameByte", "(III)I"⟩, 60) 81 (by decide +kernel) rfl), in12_, gw_t 1462 (by decide +kernel) rfl, by decide +kernel, by decide⟩
theorem k12_watchOne : lk_ RX12 374 yX12_watchOne cX12_watchOne 3 none 2 := ⟨gw_t 1464 (by decide +kernel) rfl, gw_t 1466 (by decide +kernel) rfl, (gw_s (⟨"ProbeConsoleModel", "watchOne", "(II)V"⟩, 60) 82 (by decide +kernel) rfl), in12_, gw_t 1467 (by decide +kernel) rfl, by decide +kernel, by decide⟩
theorem k12_probeExpression : lk_ RX12 359 yX12_probeExpression cX12_probeExpression 9 none 1 := ⟨gw_t 1468 (by decide +kernel) rfl, gw_t 1470 (by decide +kernel) rfl, (gw_s (⟨"ProbeConsoleModel", "probeExpression", "(I)V"⟩, 60) 83 (by decide +kernel) rfl), in12_, gw_t 1471 (by decide +kernel) rfl, by decide +kernel, by decide⟩
theorem k12_isOver : ls_ RX12 350 yX12_isOver cX12_isOver 2 (some .boolean) 2 := ⟨gw_t 1472 (by decide +kernel) rfl, gw_t 1473 (by decide +kernel) rfl, in12_, gw_t 1474 (by decide +kernel) rfl, by decide +kernel, by decide⟩
theorem k12_result : ls_ RX12 353 yX12_result cX12_result 3 (some .int) 3 := ⟨gw_t 1475 (by decide +kernel) rfl, gw_t 1476 (by decide +kernel) rfl, in12_, gw_t 1477 (by decide +kernel) rfl, by decide +kernel, by decide⟩
theorem k12_record : lk_ RX12 362 yX12_record cX12_record 5 none 3 := ⟨gw_t 1478 (by decide +kernel) rfl, gw_t 1480 (by decide +kernel) rfl, (gw_s (⟨"ProbeConsoleModel", "record", "(III)V"⟩, 60) 84 (by decide +kernel) rfl), in12_, gw_t 1481 (by decide +kernel) rfl, by decide +kernel, by decide⟩
theorem k12_keepOne : lk_ RX12 377 yX12_keepOne cX12_keepOne 7 none 4 := ⟨gw_t 1482 (by decide +kernel) rfl, gw_t 1484 (by decide +kernel) rfl, (gw_s (⟨"ProbeConsoleModel", "keepOne", "(IIII)V"⟩, 60) 85 (by decide +kernel) rfl), in12_, gw_t 1485 (by decide +kernel) rfl, by decide +kernel, by decide⟩
theorem k12_step : lk_ RX12 423 yX12_step cX12_step 7 none 0 := ⟨gw_t 1486 (by decide +kernel) rfl, gw_t 1488 (by decide +kernel) rfl, (gw_s (⟨"ProbeConsoleModel", "step", "()V"⟩, 60) 86 (by decide +kernel) rfl), in12_, gw_t 1489 (by decide +kernel) rfl, by decide +kernel, by decide⟩
theorem k12_leave : lk_ RX12 416 yX12_leave cX12_leave 2 none 0 := ⟨gw_t 1490 (by decide +kernel) rfl, gw_t 1492 (by decide +kernel) rfl, (gw_s (⟨"ProbeConsoleModel", "leave", "()V"⟩, 60) 87 (by decide +kernel) rfl), in12_, gw_t 1493 (by decide +kernel) rfl, by decide +kernel, by decide⟩
theorem k12_push : lk_ RX12 402 yX12_push cX12_push 2 none 1 := ⟨gw_t 1494 (by decide +kernel) rfl, gw_t 1496 (by decide +kernel) rfl, (gw_s (⟨"ProbeConsoleModel", "push", "(I)V"⟩, 60) 88 (by decide +kernel) rfl), in12_, gw_t 1497 (by decide +kernel) rfl, by decide +kernel, by decide⟩
theorem k12_throwUp : lk_ RX12 407 yX12_throwUp cX12_throwUp 2 none 1 := ⟨gw_t 1498 (by decide +kernel) rfl, gw_t 1500 (by decide +kernel) rfl, (gw_s (⟨"ProbeConsoleModel", "throwUp", "(I)V"⟩, 60) 89 (by decide +kernel) rfl), in12_, gw_t 1501 (by decide +kernel) rfl, by decide +kernel, by decide⟩
theorem k12_invoke : lk_ RX12 419 yX12_invoke cX12_invoke 6 none 1 := ⟨gw_t 1502 (by decide +kernel) rfl, gw_t 1504 (by decide +kernel) rfl, (gw_s (⟨"ProbeConsoleModel", "invoke", "(J)V"⟩, 60) 90 (by decide +kernel) rfl), in12_, gw_t 1505 (by decide +kernel) rfl, by decide +kernel, by decide⟩
theorem k12_throwAll : lk_ RX12 410 yX12_throwAll cX12_throwAll 2 none 1 := ⟨gw_t 1507 (by decide +kernel) rfl, gw_t 1509 (by decide +kernel) rfl, (gw_s (⟨"ProbeConsoleModel", "throwAll", "(I)V"⟩, 60) 91 (by decide +kernel) rfl), in12_, gw_t 1510 (by decide +kernel) rfl, by decide +kernel, by decide⟩
theorem q12_121 : Cond.constantLong RX12 121 (255) ∈ gw_ := gw_t 1214 (by decide +kernel) rfl
theorem q12_184 : Cond.constantLong RX12 184 (10) ∈ gw_ := gw_t 1307 (by decide +kernel) rfl
theorem q12_186 : Cond.constantLong RX12 186 (48) ∈ gw_ := gw_t 1308 (by decide +kernel) rfl
theorem q12_188 : Cond.constantLong RX12 188 (9999999999) ∈ gw_ := gw_t 1309 (by decide +kernel) rfl
theorem q12_190 : Cond.constantLong RX12 190 (2147483647) ∈ gw_ := gw_t 1310 (by decide +kernel) rfl
theorem q12_279 : Cond.constantLong RX12 279 (1048575) ∈ gw_ := gw_t 1374 (by decide +kernel) rfl
theorem q12_332 : Cond.constantLong RX12 332 (31) ∈ gw_ := gw_t 1463 (by decide +kernel) rfl
theorem q12_405 : Cond.constantLong RX12 405 (3) ∈ gw_ := gw_t 1506 (by decide +kernel) rfl
end
section
theorem dX12_feed_0 : decode cX12_feed 0 = .ok (.aload_n 0, 1) := by decide +kernel
theorem dX12_feed_1 : decode cX12_feed 1 = .ok (.iload_n 1, 1) := by decide +kernel
theorem dX12_feed_2 : decode cX12_feed 2 = .ok (.iconst 1, 1) := by decide +kernel
theorem dX12_feed_3 : decode cX12_feed 3 = .ok (.if_icmp .lt 9, 3) := by decide +kernel
theorem dX12_feed_6 : decode cX12_feed 6 = .ok (.iload_n 1, 1) := by decide +kernel
theorem dX12_feed_7 : decode cX12_feed 7 = .ok (.bipush 8, 2) := by decide +kernel
theorem dX12_feed_9 : decode cX12_feed 9 = .ok (.if_icmp .le 7, 3) := by decide +kernel
theorem dX12_feed_12 : decode cX12_feed 12 = .ok (.iconst 1, 1) := by decide +kernel
theorem dX12_feed_13 : decode cX12_feed 13 = .ok (.goto 4, 3) := by decide +kernel
theorem dX12_feed_16 : decode cX12_feed 16 = .ok (.iconst 0, 1) := by decide +kernel
theorem dX12_feed_17 : decode cX12_feed 17 = .ok (.putfield 115, 3) := by decide +kernel
theorem dX12_feed_20 : decode cX12_feed 20 = .ok (.aload_n 0, 1) := by decide +kernel
theorem dX12_feed_21 : decode cX12_feed 21 = .ok (.getfield 115, 3) := by decide +kernel
theorem dX12_feed_24 : decode cX12_feed 24 = .ok (.ifCond .le 5, 3) := by decide +kernel
theorem dX12_feed_27 : decode cX12_feed 27 = .ok (.iconst 0, 1) := by decide +kernel
theorem dX12_feed_28 : decode cX12_feed 28 = .ok (.ireturn, 1) := by decide +kernel
theorem dX12_feed_29 : decode cX12_feed 29 = .ok (.aload_n 0, 1) := by decide +kernel
theorem dX12_feed_30 : decode cX12_feed 30 = .ok (.getfield 118, 3) := by decide +kernel
theorem dX12_feed_33 : decode cX12_feed 33 = .ok (.iload_n 1, 1) := by decide +kernel
theorem dX12_feed_34 : decode cX12_feed 34 = .ok (.iadd, 1) := by decide +kernel
theorem dX12_feed_35 : decode cX12_feed 35 = .ok (.sipush 200, 3) := by decide +kernel
theorem dX12_feed_38 : decode cX12_feed 38 = .ok (.if_icmp .le 5, 3) := by decide +kernel
theorem dX12_feed_41 : decode cX12_feed 41 = .ok (.iconst (-1), 1) := by decide +kernel
theorem dX12_feed_42 : decode cX12_feed 42 = .ok (.ireturn, 1) := by decide +kernel
theorem dX12_feed_43 : decode cX12_feed 43 = .ok (.iconst 0, 1) := by decide +kernel
theorem dX12_feed_44 : decode cX12_feed 44 = .ok (.istore 4, 2) := by decide +kernel
theorem dX12_feed_46 : decode cX12_feed 46 = .ok (.iload 4, 2) := by decide +kernel
theorem dX12_feed_48 : decode cX12_feed 48 = .ok (.iload_n 1, 1) := by decide +kernel
theorem dX12_feed_49 : decode cX12_feed 49 = .ok (.if_icmp .ge 40, 3) := by decide +kernel
theorem dX12_feed_52 : decode cX12_feed 52 = .ok (.aload_n 0, 1) := by decide +kernel
theorem dX12_feed_53 : decode cX12_feed 53 = .ok (.getfield 7, 3) := by decide +kernel
theorem dX12_feed_56 : decode cX12_feed 56 = .ok (.aload_n 0, 1) := by decide +kernel
theorem dX12_feed_57 : decode cX12_feed 57 = .ok (.getfield 118, 3) := by decide +kernel
theorem dX12_feed_60 : decode cX12_feed 60 = .ok (.lload_n 2, 1) := by decide +kernel
theorem dX12_feed_61 : decode cX12_feed 61 = .ok (.bipush 8, 2) := by decide +kernel
theorem dX12_feed_63 : decode cX12_feed 63 = .ok (.iload 4, 2) := by decide +kernel
theorem dX12_feed_65 : decode cX12_feed 65 = .ok (.imul, 1) := by decide +kernel
theorem dX12_feed_66 : decode cX12_feed 66 = .ok (.lshr, 1) := by decide +kernel
theorem dX12_feed_67 : decode cX12_feed 67 = .ok (.ldc2_w 121, 3) := by decide +kernel
theorem dX12_feed_70 : decode cX12_feed 70 = .ok (.land, 1) := by decide +kernel
theorem dX12_feed_71 : decode cX12_feed 71 = .ok (.l2i, 1) := by decide +kernel
theorem dX12_feed_72 : decode cX12_feed 72 = .ok (.iastore, 1) := by decide +kernel
theorem dX12_feed_73 : decode cX12_feed 73 = .ok (.aload_n 0, 1) := by decide +kernel
theorem dX12_feed_74 : decode cX12_feed 74 = .ok (.dup, 1) := by decide +kernel
theorem dX12_feed_75 : decode cX12_feed 75 = .ok (.getfield 118, 3) := by decide +kernel
theorem dX12_feed_78 : decode cX12_feed 78 = .ok (.iconst 1, 1) := by decide +kernel
theorem dX12_feed_79 : decode cX12_feed 79 = .ok (.iadd, 1) := by decide +kernel
theorem dX12_feed_80 : decode cX12_feed 80 = .ok (.putfield 118, 3) := by decide +kernel
theorem dX12_feed_83 : decode cX12_feed 83 = .ok (.iinc 4 1, 3) := by decide +kernel
theorem dX12_feed_86 : decode cX12_feed 86 = .ok (.goto (-40), 3) := by decide +kernel
theorem dX12_feed_89 : decode cX12_feed 89 = .ok (.aload_n 0, 1) := by decide +kernel
theorem dX12_feed_90 : decode cX12_feed 90 = .ok (.getfield 118, 3) := by decide +kernel
theorem dX12_feed_93 : decode cX12_feed 93 = .ok (.ireturn, 1) := by decide +kernel
theorem dX12_wipe_0 : decode cX12_wipe 0 = .ok (.aload_n 0, 1) := by decide +kernel
theorem dX12_wipe_1 : decode cX12_wipe 1 = .ok (.iconst 0, 1) := by decide +kernel
theorem dX12_wipe_2 : decode cX12_wipe 2 = .ok (.putfield 115, 3) := by decide +kernel
theorem dX12_wipe_5 : decode cX12_wipe 5 = .ok (.aload_n 0, 1) := by decide +kernel
theorem dX12_wipe_6 : decode cX12_wipe 6 = .ok (.getfield 118, 3) := by decide +kernel
theorem dX12_wipe_9 : decode cX12_wipe 9 = .ok (.istore_n 1, 1) := by decide +kernel
theorem dX12_wipe_10 : decode cX12_wipe 10 = .ok (.aload_n 0, 1) := by decide +kernel
theorem dX12_wipe_11 : decode cX12_wipe 11 = .ok (.iconst 0, 1) := by decide +kernel
theorem dX12_wipe_12 : decode cX12_wipe 12 = .ok (.putfield 118, 3) := by decide +kernel
theorem dX12_wipe_15 : decode cX12_wipe 15 = .ok (.iload_n 1, 1) := by decide +kernel
theorem dX12_wipe_16 : decode cX12_wipe 16 = .ok (.ireturn, 1) := by decide +kernel
theorem dX12_fail_0 : decode cX12_fail 0 = .ok (.aload_n 0, 1) := by decide +kernel
theorem dX12_fail_1 : decode cX12_fail 1 = .ok (.getfield 123, 3) := by decide +kernel
theorem dX12_fail_4 : decode cX12_fail 4 = .ok (.ifCond .ne 13, 3) := by decide +kernel
theorem dX12_fail_7 : decode cX12_fail 7 = .ok (.aload_n 0, 1) := by decide +kernel
theorem dX12_fail_8 : decode cX12_fail 8 = .ok (.iload_n 1, 1) := by decide +kernel
theorem dX12_fail_9 : decode cX12_fail 9 = .ok (.putfield 123, 3) := by decide +kernel
theorem dX12_fail_12 : decode cX12_fail 12 = .ok (.aload_n 0, 1) := by decide +kernel
theorem dX12_fail_13 : decode cX12_fail 13 = .ok (.iload_n 2, 1) := by decide +kernel
theorem dX12_fail_14 : decode cX12_fail 14 = .ok (.putfield 13, 3) := by decide +kernel
theorem dX12_fail_17 : decode cX12_fail 17 = .ok (.return_, 1) := by decide +kernel
theorem dX12_byteAt_0 : decode cX12_byteAt 0 = .ok (.iload_n 1, 1) := by decide +kernel
theorem dX12_byteAt_1 : decode cX12_byteAt 1 = .ok (.aload_n 0, 1) := by decide +kernel
theorem dX12_byteAt_2 : decode cX12_byteAt 2 = .ok (.getfield 118, 3) := by decide +kernel
theorem dX12_byteAt_5 : decode cX12_byteAt 5 = .ok (.if_icmp .ge 12, 3) := by decide +kernel
theorem dX12_byteAt_8 : decode cX12_byteAt 8 = .ok (.aload_n 0, 1) := by decide +kernel
theorem dX12_byteAt_9 : decode cX12_byteAt 9 = .ok (.getfield 7, 3) := by decide +kernel
theorem dX12_byteAt_12 : decode cX12_byteAt 12 = .ok (.iload_n 1, 1) := by decide +kernel
theorem dX12_byteAt_13 : decode cX12_byteAt 13 = .ok (.iaload, 1) := by decide +kernel
theorem dX12_byteAt_14 : decode cX12_byteAt 14 = .ok (.goto 4, 3) := by decide +kernel
theorem dX12_byteAt_17 : decode cX12_byteAt 17 = .ok (.iconst (-1), 1) := by decide +kernel
theorem dX12_byteAt_18 : decode cX12_byteAt 18 = .ok (.ireturn, 1) := by decide +kernel
theorem dX12_isLetter_0 : decode cX12_isLetter 0 = .ok (.iload_n 0, 1) := by decide +kernel
theorem dX12_isLetter_1 : decode cX12_isLetter 1 = .ok (.bipush 97, 2) := by decide +kernel
theorem dX12_isLetter_3 : decode cX12_isLetter 3 = .ok (.if_icmp .lt 13, 3) := by decide +kernel
theorem dX12_isLetter_6 : decode cX12_isLetter 6 = .ok (.iload_n 0, 1) := by decide +kernel
theorem dX12_isLetter_7 : decode cX12_isLetter 7 = .ok (.bipush 122, 2) := by decide +kernel
theorem dX12_isLetter_9 : decode cX12_isLetter 9 = .ok (.if_icmp .gt 7, 3) := by decide +kernel
theorem dX12_isLetter_12 : decode cX12_isLetter 12 = .ok (.iconst 1, 1) := by decide +kernel
theorem dX12_isLetter_13 : decode cX12_isLetter 13 = .ok (.goto 4, 3) := by decide +kernel
theorem dX12_isLetter_16 : decode cX12_isLetter 16 = .ok (.iconst 0, 1) := by decide +kernel
theorem dX12_isLetter_17 : decode cX12_isLetter 17 = .ok (.ireturn, 1) := by decide +kernel
theorem dX12_isFigure_0 : decode cX12_isFigure 0 = .ok (.iload_n 0, 1) := by decide +kernel
theorem dX12_isFigure_1 : decode cX12_isFigure 1 = .ok (.bipush 48, 2) := by decide +kernel
theorem dX12_isFigure_3 : decode cX12_isFigure 3 = .ok (.if_icmp .lt 13, 3) := by decide +kernel
theorem dX12_isFigure_6 : decode cX12_isFigure 6 = .ok (.iload_n 0, 1) := by decide +kernel
theorem dX12_isFigure_7 : decode cX12_isFigure 7 = .ok (.bipush 57, 2) := by decide +kernel
theorem dX12_isFigure_9 : decode cX12_isFigure 9 = .ok (.if_icmp .gt 7, 3) := by decide +kernel
theorem dX12_isFigure_12 : decode cX12_isFigure 12 = .ok (.iconst 1, 1) := by decide +kernel
theorem dX12_isFigure_13 : decode cX12_isFigure 13 = .ok (.goto 4, 3) := by decide +kernel
theorem dX12_isFigure_16 : decode cX12_isFigure 16 = .ok (.iconst 0, 1) := by decide +kernel
theorem dX12_isFigure_17 : decode cX12_isFigure 17 = .ok (.ireturn, 1) := by decide +kernel
theorem dX12_isOfRow_0 : decode cX12_isOfRow 0 = .ok (.iload_n 0, 1) := by decide +kernel
theorem dX12_isOfRow_1 : decode cX12_isOfRow 1 = .ok (.invokestatic 126, 3) := by decide +kernel
theorem dX12_isOfRow_4 : decode cX12_isOfRow 4 = .ok (.ifCond .ne 9, 3) := by decide +kernel
theorem dX12_isOfRow_7 : decode cX12_isOfRow 7 = .ok (.iload_n 0, 1) := by decide +kernel
theorem dX12_isOfRow_8 : decode cX12_isOfRow 8 = .ok (.bipush 46, 2) := by decide +kernel
theorem dX12_isOfRow_10 : decode cX12_isOfRow 10 = .ok (.if_icmp .ne 7, 3) := by decide +kernel
theorem dX12_isOfRow_13 : decode cX12_isOfRow 13 = .ok (.iconst 1, 1) := by decide +kernel
theorem dX12_isOfRow_14 : decode cX12_isOfRow 14 = .ok (.goto 4, 3) := by decide +kernel
theorem dX12_isOfRow_17 : decode cX12_isOfRow 17 = .ok (.iconst 0, 1) := by decide +kernel
theorem dX12_isOfRow_18 : decode cX12_isOfRow 18 = .ok (.ireturn, 1) := by decide +kernel
theorem dX12_rowSize_0 : decode cX12_rowSize 0 = .ok (.iconst 0, 1) := by decide +kernel
theorem dX12_rowSize_1 : decode cX12_rowSize 1 = .ok (.istore_n 2, 1) := by decide +kernel
theorem dX12_rowSize_2 : decode cX12_rowSize 2 = .ok (.aload_n 0, 1) := by decide +kernel
theorem dX12_rowSize_3 : decode cX12_rowSize 3 = .ok (.iload_n 1, 1) := by decide +kernel
theorem dX12_rowSize_4 : decode cX12_rowSize 4 = .ok (.iload_n 2, 1) := by decide +kernel
theorem dX12_rowSize_5 : decode cX12_rowSize 5 = .ok (.iadd, 1) := by decide +kernel
theorem dX12_rowSize_6 : decode cX12_rowSize 6 = .ok (.invokevirtual 130, 3) := by decide +kernel
theorem dX12_rowSize_9 : decode cX12_rowSize 9 = .ok (.invokestatic 134, 3) := by decide +kernel
theorem dX12_rowSize_12 : decode cX12_rowSize 12 = .ok (.ifCond .eq 9, 3) := by decide +kernel
theorem dX12_rowSize_15 : decode cX12_rowSize 15 = .ok (.iinc 2 1, 3) := by decide +kernel
theorem dX12_rowSize_18 : decode cX12_rowSize 18 = .ok (.goto (-16), 3) := by decide +kernel
theorem dX12_rowSize_21 : decode cX12_rowSize 21 = .ok (.iload_n 2, 1) := by decide +kernel
theorem dX12_rowSize_22 : decode cX12_rowSize 22 = .ok (.ireturn, 1) := by decide +kernel
theorem dX12_isName_0 : decode cX12_isName 0 = .ok (.iconst 0, 1) := by decide +kernel
theorem dX12_isName_1 : decode cX12_isName 1 = .ok (.istore_n 3, 1) := by decide +kernel
theorem dX12_isName_2 : decode cX12_isName 2 = .ok (.aload_n 0, 1) := by decide +kernel
theorem dX12_isName_3 : decode cX12_isName 3 = .ok (.lconst 0, 1) := by decide +kernel
theorem dX12_isName_4 : decode cX12_isName 4 = .ok (.putfield 137, 3) := by decide +kernel
theorem dX12_isName_7 : decode cX12_isName 7 = .ok (.iconst 0, 1) := by decide +kernel
theorem dX12_isName_8 : decode cX12_isName 8 = .ok (.istore 4, 2) := by decide +kernel
theorem dX12_isName_10 : decode cX12_isName 10 = .ok (.iload 4, 2) := by decide +kernel
theorem dX12_isName_12 : decode cX12_isName 12 = .ok (.iload_n 2, 1) := by decide +kernel
theorem dX12_isName_13 : decode cX12_isName 13 = .ok (.if_icmp .ge 63, 3) := by decide +kernel
theorem dX12_isName_16 : decode cX12_isName 16 = .ok (.aload_n 0, 1) := by decide +kernel
theorem dX12_isName_17 : decode cX12_isName 17 = .ok (.iload_n 1, 1) := by decide +kernel
theorem dX12_isName_18 : decode cX12_isName 18 = .ok (.iload 4, 2) := by decide +kernel
theorem dX12_isName_20 : decode cX12_isName 20 = .ok (.iadd, 1) := by decide +kernel
theorem dX12_isName_21 : decode cX12_isName 21 = .ok (.invokevirtual 130, 3) := by decide +kernel
theorem dX12_isName_24 : decode cX12_isName 24 = .ok (.istore 5, 2) := by decide +kernel
theorem dX12_isName_26 : decode cX12_isName 26 = .ok (.iload 5, 2) := by decide +kernel
theorem dX12_isName_28 : decode cX12_isName 28 = .ok (.bipush 46, 2) := by decide +kernel
theorem dX12_isName_30 : decode cX12_isName 30 = .ok (.if_icmp .ne 9, 3) := by decide +kernel
theorem dX12_isName_33 : decode cX12_isName 33 = .ok (.iload_n 3, 1) := by decide +kernel
theorem dX12_isName_34 : decode cX12_isName 34 = .ok (.iconst 1, 1) := by decide +kernel
theorem dX12_isName_35 : decode cX12_isName 35 = .ok (.iadd, 1) := by decide +kernel
theorem dX12_isName_36 : decode cX12_isName 36 = .ok (.goto 4, 3) := by decide +kernel
theorem dX12_isName_39 : decode cX12_isName 39 = .ok (.iload_n 3, 1) := by decide +kernel
theorem dX12_isName_40 : decode cX12_isName 40 = .ok (.istore_n 3, 1) := by decide +kernel
theorem dX12_isName_41 : decode cX12_isName 41 = .ok (.aload_n 0, 1) := by decide +kernel
theorem dX12_isName_42 : decode cX12_isName 42 = .ok (.aload_n 0, 1) := by decide +kernel
theorem dX12_isName_43 : decode cX12_isName 43 = .ok (.getfield 137, 3) := by decide +kernel
theorem dX12_isName_46 : decode cX12_isName 46 = .ok (.iconst 5, 1) := by decide +kernel
theorem dX12_isName_47 : decode cX12_isName 47 = .ok (.lshl, 1) := by decide +kernel
theorem dX12_isName_48 : decode cX12_isName 48 = .ok (.iload 5, 2) := by decide +kernel
theorem dX12_isName_50 : decode cX12_isName 50 = .ok (.bipush 46, 2) := by decide +kernel
theorem dX12_isName_52 : decode cX12_isName 52 = .ok (.if_icmp .ne 8, 3) := by decide +kernel
theorem dX12_isName_55 : decode cX12_isName 55 = .ok (.bipush 27, 2) := by decide +kernel
theorem dX12_isName_57 : decode cX12_isName 57 = .ok (.goto 8, 3) := by decide +kernel
theorem dX12_isName_60 : decode cX12_isName 60 = .ok (.iload 5, 2) := by decide +kernel
theorem dX12_isName_62 : decode cX12_isName 62 = .ok (.bipush 96, 2) := by decide +kernel
theorem dX12_isName_64 : decode cX12_isName 64 = .ok (.isub, 1) := by decide +kernel
theorem dX12_isName_65 : decode cX12_isName 65 = .ok (.i2l, 1) := by decide +kernel
theorem dX12_isName_66 : decode cX12_isName 66 = .ok (.lor, 1) := by decide +kernel
theorem dX12_isName_67 : decode cX12_isName 67 = .ok (.putfield 137, 3) := by decide +kernel
theorem dX12_isName_70 : decode cX12_isName 70 = .ok (.iinc 4 1, 3) := by decide +kernel
theorem dX12_isName_73 : decode cX12_isName 73 = .ok (.goto (-63), 3) := by decide +kernel
theorem dX12_isName_76 : decode cX12_isName 76 = .ok (.iload_n 2, 1) := by decide +kernel
theorem dX12_isName_77 : decode cX12_isName 77 = .ok (.iconst 2, 1) := by decide +kernel
theorem dX12_isName_78 : decode cX12_isName 78 = .ok (.if_icmp .le 36, 3) := by decide +kernel
theorem dX12_isName_81 : decode cX12_isName 81 = .ok (.iload_n 3, 1) := by decide +kernel
theorem dX12_isName_82 : decode cX12_isName 82 = .ok (.iconst 1, 1) := by decide +kernel
theorem dX12_isName_83 : decode cX12_isName 83 = .ok (.if_icmp .ne 31, 3) := by decide +kernel
theorem dX12_isName_86 : decode cX12_isName 86 = .ok (.aload_n 0, 1) := by decide +kernel
theorem dX12_isName_87 : decode cX12_isName 87 = .ok (.iload_n 1, 1) := by decide +kernel
theorem dX12_isName_88 : decode cX12_isName 88 = .ok (.invokevirtual 130, 3) := by decide +kernel
theorem dX12_isName_91 : decode cX12_isName 91 = .ok (.bipush 46, 2) := by decide +kernel
theorem dX12_isName_93 : decode cX12_isName 93 = .ok (.if_icmp .eq 21, 3) := by decide +kernel
theorem dX12_isName_96 : decode cX12_isName 96 = .ok (.aload_n 0, 1) := by decide +kernel
theorem dX12_isName_97 : decode cX12_isName 97 = .ok (.iload_n 1, 1) := by decide +kernel
theorem dX12_isName_98 : decode cX12_isName 98 = .ok (.iload_n 2, 1) := by decide +kernel
theorem dX12_isName_99 : decode cX12_isName 99 = .ok (.iadd, 1) := by decide +kernel
theorem dX12_isName_100 : decode cX12_isName 100 = .ok (.iconst 1, 1) := by decide +kernel
theorem dX12_isName_101 : decode cX12_isName 101 = .ok (.isub, 1) := by decide +kernel
theorem dX12_isName_102 : decode cX12_isName 102 = .ok (.invokevirtual 130, 3) := by decide +kernel
theorem dX12_isName_105 : decode cX12_isName 105 = .ok (.bipush 46, 2) := by decide +kernel
theorem dX12_isName_107 : decode cX12_isName 107 = .ok (.if_icmp .eq 7, 3) := by decide +kernel
theorem dX12_isName_110 : decode cX12_isName 110 = .ok (.iconst 1, 1) := by decide +kernel
theorem dX12_isName_111 : decode cX12_isName 111 = .ok (.goto 4, 3) := by decide +kernel
theorem dX12_isName_114 : decode cX12_isName 114 = .ok (.iconst 0, 1) := by decide +kernel
theorem dX12_isName_115 : decode cX12_isName 115 = .ok (.ireturn, 1) := by decide +kernel
theorem dX12_rowOf_0 : decode cX12_rowOf 0 = .ok (.bipush 64, 2) := by decide +kernel
theorem dX12_rowOf_2 : decode cX12_rowOf 2 = .ok (.iload_n 0, 1) := by decide +kernel
theorem dX12_rowOf_3 : decode cX12_rowOf 3 = .ok (.imul, 1) := by decide +kernel
theorem dX12_rowOf_4 : decode cX12_rowOf 4 = .ok (.ireturn, 1) := by decide +kernel
theorem dX12_put_0 : decode cX12_put 0 = .ok (.aload_n 0, 1) := by decide +kernel
theorem dX12_put_1 : decode cX12_put 1 = .ok (.getfield 17, 3) := by decide +kernel
theorem dX12_put_4 : decode cX12_put 4 = .ok (.bipush 32, 2) := by decide +kernel
theorem dX12_put_6 : decode cX12_put 6 = .ok (.invokestatic 141, 3) := by decide +kernel
theorem dX12_put_9 : decode cX12_put 9 = .ok (.aload_n 0, 1) := by decide +kernel
theorem dX12_put_10 : decode cX12_put 10 = .ok (.getfield 144, 3) := by decide +kernel
theorem dX12_put_13 : decode cX12_put 13 = .ok (.iadd, 1) := by decide +kernel
theorem dX12_put_14 : decode cX12_put 14 = .ok (.iload_n 1, 1) := by decide +kernel
theorem dX12_put_15 : decode cX12_put 15 = .ok (.iastore, 1) := by decide +kernel
theorem dX12_put_16 : decode cX12_put 16 = .ok (.aload_n 0, 1) := by decide +kernel
theorem dX12_put_17 : decode cX12_put 17 = .ok (.getfield 20, 3) := by decide +kernel
theorem dX12_put_20 : decode cX12_put 20 = .ok (.bipush 32, 2) := by decide +kernel
theorem dX12_put_22 : decode cX12_put 22 = .ok (.invokestatic 141, 3) := by decide +kernel
theorem dX12_put_25 : decode cX12_put 25 = .ok (.aload_n 0, 1) := by decide +kernel
theorem dX12_put_26 : decode cX12_put 26 = .ok (.getfield 144, 3) := by decide +kernel
theorem dX12_put_29 : decode cX12_put 29 = .ok (.iadd, 1) := by decide +kernel
theorem dX12_put_30 : decode cX12_put 30 = .ok (.lload_n 2, 1) := by decide +kernel
theorem dX12_put_31 : decode cX12_put 31 = .ok (.lastore, 1) := by decide +kernel
theorem dX12_put_32 : decode cX12_put 32 = .ok (.aload_n 0, 1) := by decide +kernel
theorem dX12_put_33 : decode cX12_put 33 = .ok (.dup, 1) := by decide +kernel
theorem dX12_put_34 : decode cX12_put 34 = .ok (.getfield 144, 3) := by decide +kernel
theorem dX12_put_37 : decode cX12_put 37 = .ok (.iconst 1, 1) := by decide +kernel
theorem dX12_put_38 : decode cX12_put 38 = .ok (.iadd, 1) := by decide +kernel
theorem dX12_put_39 : decode cX12_put 39 = .ok (.putfield 144, 3) := by decide +kernel
theorem dX12_put_42 : decode cX12_put 42 = .ok (.return_, 1) := by decide +kernel
theorem dX12_ended_0 : decode cX12_ended 0 = .ok (.aload_n 0, 1) := by decide +kernel
theorem dX12_ended_1 : decode cX12_ended 1 = .ok (.aload_n 0, 1) := by decide +kernel
theorem dX12_ended_2 : decode cX12_ended 2 = .ok (.getfield 147, 3) := by decide +kernel
theorem dX12_ended_5 : decode cX12_ended 5 = .ok (.invokevirtual 130, 3) := by decide +kernel
theorem dX12_ended_8 : decode cX12_ended 8 = .ok (.istore_n 1, 1) := by decide +kernel
theorem dX12_ended_9 : decode cX12_ended 9 = .ok (.iload_n 1, 1) := by decide +kernel
theorem dX12_ended_10 : decode cX12_ended 10 = .ok (.ifCond .lt 16, 3) := by decide +kernel
theorem dX12_ended_13 : decode cX12_ended 13 = .ok (.aload_n 0, 1) := by decide +kernel
theorem dX12_ended_14 : decode cX12_ended 14 = .ok (.getfield 150, 3) := by decide +kernel
theorem dX12_ended_17 : decode cX12_ended 17 = .ok (.ifCond .eq 13, 3) := by decide +kernel
theorem dX12_ended_20 : decode cX12_ended 20 = .ok (.iload_n 1, 1) := by decide +kernel
theorem dX12_ended_21 : decode cX12_ended 21 = .ok (.bipush 32, 2) := by decide +kernel
theorem dX12_ended_23 : decode cX12_ended 23 = .ok (.if_icmp .gt 7, 3) := by decide +kernel
theorem dX12_ended_26 : decode cX12_ended 26 = .ok (.iconst 1, 1) := by decide +kernel
theorem dX12_ended_27 : decode cX12_ended 27 = .ok (.goto 4, 3) := by decide +kernel
theorem dX12_ended_30 : decode cX12_ended 30 = .ok (.iconst 0, 1) := by decide +kernel
theorem dX12_ended_31 : decode cX12_ended 31 = .ok (.ireturn, 1) := by decide +kernel
theorem dX12_count_0 : decode cX12_count 0 = .ok (.aload_n 0, 1) := by decide +kernel
theorem dX12_count_1 : decode cX12_count 1 = .ok (.getfield 154, 3) := by decide +kernel
theorem dX12_count_4 : decode cX12_count 4 = .ok (.bipush 20, 2) := by decide +kernel
theorem dX12_count_6 : decode cX12_count 6 = .ok (.if_icmp .ne 11, 3) := by decide +kernel
theorem dX12_count_9 : decode cX12_count 9 = .ok (.aload_n 0, 1) := by decide +kernel
theorem dX12_count_10 : decode cX12_count 10 = .ok (.iconst 3, 1) := by decide +kernel
theorem dX12_count_11 : decode cX12_count 11 = .ok (.iload_n 1, 1) := by decide +kernel
theorem dX12_count_12 : decode cX12_count 12 = .ok (.invokevirtual 157, 3) := by decide +kernel
theorem dX12_count_15 : decode cX12_count 15 = .ok (.iconst 0, 1) := by decide +kernel
theorem dX12_count_16 : decode cX12_count 16 = .ok (.ireturn, 1) := by decide +kernel
theorem dX12_count_17 : decode cX12_count 17 = .ok (.aload_n 0, 1) := by decide +kernel
theorem dX12_count_18 : decode cX12_count 18 = .ok (.dup, 1) := by decide +kernel
theorem dX12_count_19 : decode cX12_count 19 = .ok (.getfield 154, 3) := by decide +kernel
theorem dX12_count_22 : decode cX12_count 22 = .ok (.iconst 1, 1) := by decide +kernel
theorem dX12_count_23 : decode cX12_count 23 = .ok (.iadd, 1) := by decide +kernel
theorem dX12_count_24 : decode cX12_count 24 = .ok (.putfield 154, 3) := by decide +kernel
theorem dX12_count_27 : decode cX12_count 27 = .ok (.iconst 1, 1) := by decide +kernel
theorem dX12_count_28 : decode cX12_count 28 = .ok (.ireturn, 1) := by decide +kernel
theorem dX12_wait_0 : decode cX12_wait 0 = .ok (.aload_n 0, 1) := by decide +kernel
theorem dX12_wait_1 : decode cX12_wait 1 = .ok (.getfield 33, 3) := by decide +kernel
theorem dX12_wait_4 : decode cX12_wait 4 = .ok (.aload_n 0, 1) := by decide +kernel
theorem dX12_wait_5 : decode cX12_wait 5 = .ok (.getfield 161, 3) := by decide +kernel
theorem dX12_wait_8 : decode cX12_wait 8 = .ok (.iload_n 1, 1) := by decide +kernel
theorem dX12_wait_9 : decode cX12_wait 9 = .ok (.iastore, 1) := by decide +kernel
theorem dX12_wait_10 : decode cX12_wait 10 = .ok (.aload_n 0, 1) := by decide +kernel
theorem dX12_wait_11 : decode cX12_wait 11 = .ok (.getfield 36, 3) := by decide +kernel
theorem dX12_wait_14 : decode cX12_wait 14 = .ok (.aload_n 0, 1) := by decide +kernel
theorem dX12_wait_15 : decode cX12_wait 15 = .ok (.getfield 161, 3) := by decide +kernel
theorem dX12_wait_18 : decode cX12_wait 18 = .ok (.iload_n 2, 1) := by decide +kernel
theorem dX12_wait_19 : decode cX12_wait 19 = .ok (.iastore, 1) := by decide +kernel
theorem dX12_wait_20 : decode cX12_wait 20 = .ok (.aload_n 0, 1) := by decide +kernel
theorem dX12_wait_21 : decode cX12_wait 21 = .ok (.getfield 39, 3) := by decide +kernel
theorem dX12_wait_24 : decode cX12_wait 24 = .ok (.aload_n 0, 1) := by decide +kernel
theorem dX12_wait_25 : decode cX12_wait 25 = .ok (.getfield 161, 3) := by decide +kernel
theorem dX12_wait_28 : decode cX12_wait 28 = .ok (.iload_n 3, 1) := by decide +kernel
theorem dX12_wait_29 : decode cX12_wait 29 = .ok (.iastore, 1) := by decide +kernel
theorem dX12_wait_30 : decode cX12_wait 30 = .ok (.aload_n 0, 1) := by decide +kernel
theorem dX12_wait_31 : decode cX12_wait 31 = .ok (.dup, 1) := by decide +kernel
theorem dX12_wait_32 : decode cX12_wait 32 = .ok (.getfield 161, 3) := by decide +kernel
theorem dX12_wait_35 : decode cX12_wait 35 = .ok (.iconst 1, 1) := by decide +kernel
theorem dX12_wait_36 : decode cX12_wait 36 = .ok (.iadd, 1) := by decide +kernel
theorem dX12_wait_37 : decode cX12_wait 37 = .ok (.putfield 161, 3) := by decide +kernel
theorem dX12_wait_40 : decode cX12_wait 40 = .ok (.return_, 1) := by decide +kernel
theorem dX12_operand_0 : decode cX12_operand 0 = .ok (.aload_n 0, 1) := by decide +kernel
theorem dX12_operand_1 : decode cX12_operand 1 = .ok (.getfield 45, 3) := by decide +kernel
theorem dX12_operand_4 : decode cX12_operand 4 = .ok (.aload_n 0, 1) := by decide +kernel
theorem dX12_operand_5 : decode cX12_operand 5 = .ok (.getfield 164, 3) := by decide +kernel
theorem dX12_operand_8 : decode cX12_operand 8 = .ok (.iload_n 1, 1) := by decide +kernel
theorem dX12_operand_9 : decode cX12_operand 9 = .ok (.iastore, 1) := by decide +kernel
theorem dX12_operand_10 : decode cX12_operand 10 = .ok (.aload_n 0, 1) := by decide +kernel
theorem dX12_operand_11 : decode cX12_operand 11 = .ok (.dup, 1) := by decide +kernel
theorem dX12_operand_12 : decode cX12_operand 12 = .ok (.getfield 164, 3) := by decide +kernel
theorem dX12_operand_15 : decode cX12_operand 15 = .ok (.iconst 1, 1) := by decide +kernel
theorem dX12_operand_16 : decode cX12_operand 16 = .ok (.iadd, 1) := by decide +kernel
theorem dX12_operand_17 : decode cX12_operand 17 = .ok (.putfield 164, 3) := by decide +kernel
theorem dX12_operand_20 : decode cX12_operand 20 = .ok (.return_, 1) := by decide +kernel
theorem dX12_reduce_0 : decode cX12_reduce 0 = .ok (.aload_n 0, 1) := by decide +kernel
theorem dX12_reduce_1 : decode cX12_reduce 1 = .ok (.dup, 1) := by decide +kernel
theorem dX12_reduce_2 : decode cX12_reduce 2 = .ok (.getfield 161, 3) := by decide +kernel
theorem dX12_reduce_5 : decode cX12_reduce 5 = .ok (.iconst 1, 1) := by decide +kernel
theorem dX12_reduce_6 : decode cX12_reduce 6 = .ok (.isub, 1) := by decide +kernel
theorem dX12_reduce_7 : decode cX12_reduce 7 = .ok (.putfield 161, 3) := by decide +kernel
theorem dX12_reduce_10 : decode cX12_reduce 10 = .ok (.aload_n 0, 1) := by decide +kernel
theorem dX12_reduce_11 : decode cX12_reduce 11 = .ok (.getfield 33, 3) := by decide +kernel
theorem dX12_reduce_14 : decode cX12_reduce 14 = .ok (.aload_n 0, 1) := by decide +kernel
theorem dX12_reduce_15 : decode cX12_reduce 15 = .ok (.getfield 161, 3) := by decide +kernel
theorem dX12_reduce_18 : decode cX12_reduce 18 = .ok (.iaload, 1) := by decide +kernel
theorem dX12_reduce_19 : decode cX12_reduce 19 = .ok (.istore_n 1, 1) := by decide +kernel
theorem dX12_reduce_20 : decode cX12_reduce 20 = .ok (.aload_n 0, 1) := by decide +kernel
theorem dX12_reduce_21 : decode cX12_reduce 21 = .ok (.getfield 36, 3) := by decide +kernel
theorem dX12_reduce_24 : decode cX12_reduce 24 = .ok (.aload_n 0, 1) := by decide +kernel
theorem dX12_reduce_25 : decode cX12_reduce 25 = .ok (.getfield 161, 3) := by decide +kernel
theorem dX12_reduce_28 : decode cX12_reduce 28 = .ok (.iaload, 1) := by decide +kernel
theorem dX12_reduce_29 : decode cX12_reduce 29 = .ok (.istore_n 2, 1) := by decide +kernel
theorem dX12_reduce_30 : decode cX12_reduce 30 = .ok (.aload_n 0, 1) := by decide +kernel
theorem dX12_reduce_31 : decode cX12_reduce 31 = .ok (.getfield 39, 3) := by decide +kernel
theorem dX12_reduce_34 : decode cX12_reduce 34 = .ok (.aload_n 0, 1) := by decide +kernel
theorem dX12_reduce_35 : decode cX12_reduce 35 = .ok (.getfield 161, 3) := by decide +kernel
theorem dX12_reduce_38 : decode cX12_reduce 38 = .ok (.iaload, 1) := by decide +kernel
theorem dX12_reduce_39 : decode cX12_reduce 39 = .ok (.istore_n 3, 1) := by decide +kernel
theorem dX12_reduce_40 : decode cX12_reduce 40 = .ok (.iload_n 1, 1) := by decide +kernel
theorem dX12_reduce_41 : decode cX12_reduce 41 = .ok (.iconst 1, 1) := by decide +kernel
theorem dX12_reduce_42 : decode cX12_reduce 42 = .ok (.if_icmp .ne 37, 3) := by decide +kernel
theorem dX12_reduce_45 : decode cX12_reduce 45 = .ok (.aload_n 0, 1) := by decide +kernel
theorem dX12_reduce_46 : decode cX12_reduce 46 = .ok (.getfield 20, 3) := by decide +kernel
theorem dX12_reduce_49 : decode cX12_reduce 49 = .ok (.bipush 32, 2) := by decide +kernel
theorem dX12_reduce_51 : decode cX12_reduce 51 = .ok (.invokestatic 141, 3) := by decide +kernel
theorem dX12_reduce_54 : decode cX12_reduce 54 = .ok (.iload_n 2, 1) := by decide +kernel
theorem dX12_reduce_55 : decode cX12_reduce 55 = .ok (.iadd, 1) := by decide +kernel
theorem dX12_reduce_56 : decode cX12_reduce 56 = .ok (.aload_n 0, 1) := by decide +kernel
theorem dX12_reduce_57 : decode cX12_reduce 57 = .ok (.getfield 144, 3) := by decide +kernel
theorem dX12_reduce_60 : decode cX12_reduce 60 = .ok (.iload_n 2, 1) := by decide +kernel
theorem dX12_reduce_61 : decode cX12_reduce 61 = .ok (.isub, 1) := by decide +kernel
theorem dX12_reduce_62 : decode cX12_reduce 62 = .ok (.iconst 1, 1) := by decide +kernel
theorem dX12_reduce_63 : decode cX12_reduce 63 = .ok (.isub, 1) := by decide +kernel
theorem dX12_reduce_64 : decode cX12_reduce 64 = .ok (.i2l, 1) := by decide +kernel
theorem dX12_reduce_65 : decode cX12_reduce 65 = .ok (.lastore, 1) := by decide +kernel
theorem dX12_reduce_66 : decode cX12_reduce 66 = .ok (.aload_n 0, 1) := by decide +kernel
theorem dX12_reduce_67 : decode cX12_reduce 67 = .ok (.dup, 1) := by decide +kernel
theorem dX12_reduce_68 : decode cX12_reduce 68 = .ok (.getfield 164, 3) := by decide +kernel
theorem dX12_reduce_71 : decode cX12_reduce 71 = .ok (.iconst 1, 1) := by decide +kernel
theorem dX12_reduce_72 : decode cX12_reduce 72 = .ok (.isub, 1) := by decide +kernel
theorem dX12_reduce_73 : decode cX12_reduce 73 = .ok (.putfield 164, 3) := by decide +kernel
theorem dX12_reduce_76 : decode cX12_reduce 76 = .ok (.goto 86, 3) := by decide +kernel
theorem dX12_reduce_79 : decode cX12_reduce 79 = .ok (.iload_n 1, 1) := by decide +kernel
theorem dX12_reduce_80 : decode cX12_reduce 80 = .ok (.iconst 2, 1) := by decide +kernel
theorem dX12_reduce_81 : decode cX12_reduce 81 = .ok (.if_icmp .ne 39, 3) := by decide +kernel
theorem dX12_reduce_84 : decode cX12_reduce 84 = .ok (.aload_n 0, 1) := by decide +kernel
theorem dX12_reduce_85 : decode cX12_reduce 85 = .ok (.getfield 20, 3) := by decide +kernel
theorem dX12_reduce_88 : decode cX12_reduce 88 = .ok (.bipush 32, 2) := by decide +kernel
theorem dX12_reduce_90 : decode cX12_reduce 90 = .ok (.invokestatic 141, 3) := by decide +kernel
theorem dX12_reduce_93 : decode cX12_reduce 93 = .ok (.iload_n 2, 1) := by decide +kernel
theorem dX12_reduce_94 : decode cX12_reduce 94 = .ok (.iadd, 1) := by decide +kernel
theorem dX12_reduce_95 : decode cX12_reduce 95 = .ok (.aload_n 0, 1) := by decide +kernel
theorem dX12_reduce_96 : decode cX12_reduce 96 = .ok (.getfield 144, 3) := by decide +kernel
theorem dX12_reduce_99 : decode cX12_reduce 99 = .ok (.iload_n 2, 1) := by decide +kernel
theorem dX12_reduce_100 : decode cX12_reduce 100 = .ok (.isub, 1) := by decide +kernel
theorem dX12_reduce_101 : decode cX12_reduce 101 = .ok (.iconst 1, 1) := by decide +kernel
theorem dX12_reduce_102 : decode cX12_reduce 102 = .ok (.isub, 1) := by decide +kernel
theorem dX12_reduce_103 : decode cX12_reduce 103 = .ok (.i2l, 1) := by decide +kernel
theorem dX12_reduce_104 : decode cX12_reduce 104 = .ok (.lastore, 1) := by decide +kernel
theorem dX12_reduce_105 : decode cX12_reduce 105 = .ok (.aload_n 0, 1) := by decide +kernel
theorem dX12_reduce_106 : decode cX12_reduce 106 = .ok (.getfield 45, 3) := by decide +kernel
theorem dX12_reduce_109 : decode cX12_reduce 109 = .ok (.aload_n 0, 1) := by decide +kernel
theorem dX12_reduce_110 : decode cX12_reduce 110 = .ok (.getfield 164, 3) := by decide +kernel
theorem dX12_reduce_113 : decode cX12_reduce 113 = .ok (.iconst 1, 1) := by decide +kernel
theorem dX12_reduce_114 : decode cX12_reduce 114 = .ok (.isub, 1) := by decide +kernel
theorem dX12_reduce_115 : decode cX12_reduce 115 = .ok (.iload_n 3, 1) := by decide +kernel
theorem dX12_reduce_116 : decode cX12_reduce 116 = .ok (.iastore, 1) := by decide +kernel
theorem dX12_reduce_117 : decode cX12_reduce 117 = .ok (.goto 45, 3) := by decide +kernel
theorem dX12_reduce_120 : decode cX12_reduce 120 = .ok (.iload_n 1, 1) := by decide +kernel
theorem dX12_reduce_121 : decode cX12_reduce 121 = .ok (.bipush 6, 2) := by decide +kernel
theorem dX12_reduce_123 : decode cX12_reduce 123 = .ok (.if_icmp .ne 22, 3) := by decide +kernel
theorem dX12_reduce_126 : decode cX12_reduce 126 = .ok (.aload_n 0, 1) := by decide +kernel
theorem dX12_reduce_127 : decode cX12_reduce 127 = .ok (.iload_n 3, 1) := by decide +kernel
theorem dX12_reduce_128 : decode cX12_reduce 128 = .ok (.bipush 45, 2) := by decide +kernel
theorem dX12_reduce_130 : decode cX12_reduce 130 = .ok (.if_icmp .ne 7, 3) := by decide +kernel
theorem dX12_reduce_133 : decode cX12_reduce 133 = .ok (.iconst 3, 1) := by decide +kernel
theorem dX12_reduce_134 : decode cX12_reduce 134 = .ok (.goto 4, 3) := by decide +kernel
theorem dX12_reduce_137 : decode cX12_reduce 137 = .ok (.iconst 4, 1) := by decide +kernel
theorem dX12_reduce_138 : decode cX12_reduce 138 = .ok (.lconst 0, 1) := by decide +kernel
theorem dX12_reduce_139 : decode cX12_reduce 139 = .ok (.invokevirtual 167, 3) := by decide +kernel
theorem dX12_reduce_142 : decode cX12_reduce 142 = .ok (.goto 20, 3) := by decide +kernel
theorem dX12_reduce_145 : decode cX12_reduce 145 = .ok (.aload_n 0, 1) := by decide +kernel
theorem dX12_reduce_146 : decode cX12_reduce 146 = .ok (.iconst 2, 1) := by decide +kernel
theorem dX12_reduce_147 : decode cX12_reduce 147 = .ok (.iload_n 3, 1) := by decide +kernel
theorem dX12_reduce_148 : decode cX12_reduce 148 = .ok (.i2l, 1) := by decide +kernel
theorem dX12_reduce_149 : decode cX12_reduce 149 = .ok (.invokevirtual 167, 3) := by decide +kernel
theorem dX12_reduce_152 : decode cX12_reduce 152 = .ok (.aload_n 0, 1) := by decide +kernel
theorem dX12_reduce_153 : decode cX12_reduce 153 = .ok (.dup, 1) := by decide +kernel
theorem dX12_reduce_154 : decode cX12_reduce 154 = .ok (.getfield 164, 3) := by decide +kernel
theorem dX12_reduce_157 : decode cX12_reduce 157 = .ok (.iconst 1, 1) := by decide +kernel
theorem dX12_reduce_158 : decode cX12_reduce 158 = .ok (.isub, 1) := by decide +kernel
theorem dX12_reduce_159 : decode cX12_reduce 159 = .ok (.putfield 164, 3) := by decide +kernel
theorem dX12_reduce_162 : decode cX12_reduce 162 = .ok (.return_, 1) := by decide +kernel
theorem dX12_reduceTo_0 : decode cX12_reduceTo 0 = .ok (.aload_n 0, 1) := by decide +kernel
theorem dX12_reduceTo_1 : decode cX12_reduceTo 1 = .ok (.getfield 161, 3) := by decide +kernel
theorem dX12_reduceTo_4 : decode cX12_reduceTo 4 = .ok (.ifCond .le 41, 3) := by decide +kernel
theorem dX12_reduceTo_7 : decode cX12_reduceTo 7 = .ok (.aload_n 0, 1) := by decide +kernel
theorem dX12_reduceTo_8 : decode cX12_reduceTo 8 = .ok (.getfield 33, 3) := by decide +kernel
theorem dX12_reduceTo_11 : decode cX12_reduceTo 11 = .ok (.aload_n 0, 1) := by decide +kernel
theorem dX12_reduceTo_12 : decode cX12_reduceTo 12 = .ok (.getfield 161, 3) := by decide +kernel
theorem dX12_reduceTo_15 : decode cX12_reduceTo 15 = .ok (.iconst 1, 1) := by decide +kernel
theorem dX12_reduceTo_16 : decode cX12_reduceTo 16 = .ok (.isub, 1) := by decide +kernel
theorem dX12_reduceTo_17 : decode cX12_reduceTo 17 = .ok (.iaload, 1) := by decide +kernel
theorem dX12_reduceTo_18 : decode cX12_reduceTo 18 = .ok (.iload_n 1, 1) := by decide +kernel
theorem dX12_reduceTo_19 : decode cX12_reduceTo 19 = .ok (.if_icmp .lt 26, 3) := by decide +kernel
theorem dX12_reduceTo_22 : decode cX12_reduceTo 22 = .ok (.aload_n 0, 1) := by decide +kernel
theorem dX12_reduceTo_23 : decode cX12_reduceTo 23 = .ok (.getfield 33, 3) := by decide +kernel
theorem dX12_reduceTo_26 : decode cX12_reduceTo 26 = .ok (.aload_n 0, 1) := by decide +kernel
theorem dX12_reduceTo_27 : decode cX12_reduceTo 27 = .ok (.getfield 161, 3) := by decide +kernel
theorem dX12_reduceTo_30 : decode cX12_reduceTo 30 = .ok (.iconst 1, 1) := by decide +kernel
theorem dX12_reduceTo_31 : decode cX12_reduceTo 31 = .ok (.isub, 1) := by decide +kernel
theorem dX12_reduceTo_32 : decode cX12_reduceTo 32 = .ok (.iaload, 1) := by decide +kernel
theorem dX12_reduceTo_33 : decode cX12_reduceTo 33 = .ok (.bipush 6, 2) := by decide +kernel
theorem dX12_reduceTo_35 : decode cX12_reduceTo 35 = .ok (.if_icmp .gt 10, 3) := by decide +kernel
theorem dX12_reduceTo_38 : decode cX12_reduceTo 38 = .ok (.aload_n 0, 1) := by decide +kernel
theorem dX12_reduceTo_39 : decode cX12_reduceTo 39 = .ok (.invokevirtual 171, 3) := by decide +kernel
theorem dX12_reduceTo_42 : decode cX12_reduceTo 42 = .ok (.goto (-42), 3) := by decide +kernel
theorem dX12_reduceTo_45 : decode cX12_reduceTo 45 = .ok (.return_, 1) := by decide +kernel
theorem dX12_reduceAll_0 : decode cX12_reduceAll 0 = .ok (.aload_n 0, 1) := by decide +kernel
theorem dX12_reduceAll_1 : decode cX12_reduceAll 1 = .ok (.iconst 1, 1) := by decide +kernel
theorem dX12_reduceAll_2 : decode cX12_reduceAll 2 = .ok (.invokevirtual 174, 3) := by decide +kernel
theorem dX12_reduceAll_5 : decode cX12_reduceAll 5 = .ok (.return_, 1) := by decide +kernel
theorem dX12_last_0 : decode cX12_last 0 = .ok (.aload_n 0, 1) := by decide +kernel
theorem dX12_last_1 : decode cX12_last 1 = .ok (.getfield 161, 3) := by decide +kernel
theorem dX12_last_4 : decode cX12_last 4 = .ok (.ifCond .ne 7, 3) := by decide +kernel
theorem dX12_last_7 : decode cX12_last 7 = .ok (.iconst (-1), 1) := by decide +kernel
theorem dX12_last_8 : decode cX12_last 8 = .ok (.goto 14, 3) := by decide +kernel
theorem dX12_last_11 : decode cX12_last 11 = .ok (.aload_n 0, 1) := by decide +kernel
theorem dX12_last_12 : decode cX12_last 12 = .ok (.getfield 33, 3) := by decide +kernel
theorem dX12_last_15 : decode cX12_last 15 = .ok (.aload_n 0, 1) := by decide +kernel
theorem dX12_last_16 : decode cX12_last 16 = .ok (.getfield 161, 3) := by decide +kernel
theorem dX12_last_19 : decode cX12_last 19 = .ok (.iconst 1, 1) := by decide +kernel
theorem dX12_last_20 : decode cX12_last 20 = .ok (.isub, 1) := by decide +kernel
theorem dX12_last_21 : decode cX12_last 21 = .ok (.iaload, 1) := by decide +kernel
theorem dX12_last_22 : decode cX12_last 22 = .ok (.ireturn, 1) := by decide +kernel
theorem dX12_readNumber_0 : decode cX12_readNumber 0 = .ok (.aload_n 0, 1) := by decide +kernel
theorem dX12_readNumber_1 : decode cX12_readNumber 1 = .ok (.getfield 147, 3) := by decide +kernel
theorem dX12_readNumber_4 : decode cX12_readNumber 4 = .ok (.istore_n 1, 1) := by decide +kernel
theorem dX12_readNumber_5 : decode cX12_readNumber 5 = .ok (.aload_n 0, 1) := by decide +kernel
theorem dX12_readNumber_6 : decode cX12_readNumber 6 = .ok (.iload_n 1, 1) := by decide +kernel
theorem dX12_readNumber_7 : decode cX12_readNumber 7 = .ok (.invokevirtual 178, 3) := by decide +kernel
theorem dX12_readNumber_10 : decode cX12_readNumber 10 = .ok (.ifCond .ne 4, 3) := by decide +kernel
theorem dX12_readNumber_13 : decode cX12_readNumber 13 = .ok (.return_, 1) := by decide +kernel
theorem dX12_readNumber_14 : decode cX12_readNumber 14 = .ok (.lconst 0, 1) := by decide +kernel
theorem dX12_readNumber_15 : decode cX12_readNumber 15 = .ok (.lstore_n 2, 1) := by decide +kernel
theorem dX12_readNumber_16 : decode cX12_readNumber 16 = .ok (.aload_n 0, 1) := by decide +kernel
theorem dX12_readNumber_17 : decode cX12_readNumber 17 = .ok (.aload_n 0, 1) := by decide +kernel
theorem dX12_readNumber_18 : decode cX12_readNumber 18 = .ok (.getfield 147, 3) := by decide +kernel
theorem dX12_readNumber_21 : decode cX12_readNumber 21 = .ok (.invokevirtual 130, 3) := by decide +kernel
theorem dX12_readNumber_24 : decode cX12_readNumber 24 = .ok (.invokestatic 181, 3) := by decide +kernel
theorem dX12_readNumber_27 : decode cX12_readNumber 27 = .ok (.ifCond .eq 52, 3) := by decide +kernel
theorem dX12_readNumber_30 : decode cX12_readNumber 30 = .ok (.lload_n 2, 1) := by decide +kernel
theorem dX12_readNumber_31 : decode cX12_readNumber 31 = .ok (.ldc2_w 184, 3) := by decide +kernel
theorem dX12_readNumber_34 : decode cX12_readNumber 34 = .ok (.lmul, 1) := by decide +kernel
theorem dX12_readNumber_35 : decode cX12_readNumber 35 = .ok (.aload_n 0, 1) := by decide +kernel
theorem dX12_readNumber_36 : decode cX12_readNumber 36 = .ok (.aload_n 0, 1) := by decide +kernel
theorem dX12_readNumber_37 : decode cX12_readNumber 37 = .ok (.getfield 147, 3) := by decide +kernel
theorem dX12_readNumber_40 : decode cX12_readNumber 40 = .ok (.invokevirtual 130, 3) := by decide +kernel
theorem dX12_readNumber_43 : decode cX12_readNumber 43 = .ok (.i2l, 1) := by decide +kernel
theorem dX12_readNumber_44 : decode cX12_readNumber 44 = .ok (.ladd, 1) := by decide +kernel
theorem dX12_readNumber_45 : decode cX12_readNumber 45 = .ok (.ldc2_w 186, 3) := by decide +kernel
theorem dX12_readNumber_48 : decode cX12_readNumber 48 = .ok (.lsub, 1) := by decide +kernel
theorem dX12_readNumber_49 : decode cX12_readNumber 49 = .ok (.lstore_n 2, 1) := by decide +kernel
theorem dX12_readNumber_50 : decode cX12_readNumber 50 = .ok (.lload_n 2, 1) := by decide +kernel
theorem dX12_readNumber_51 : decode cX12_readNumber 51 = .ok (.ldc2_w 188, 3) := by decide +kernel
theorem dX12_readNumber_54 : decode cX12_readNumber 54 = .ok (.lcmp, 1) := by decide +kernel
theorem dX12_readNumber_55 : decode cX12_readNumber 55 = .ok (.ifCond .le 9, 3) := by decide +kernel
theorem dX12_readNumber_58 : decode cX12_readNumber 58 = .ok (.ldc2_w 188, 3) := by decide +kernel
theorem dX12_readNumber_61 : decode cX12_readNumber 61 = .ok (.goto 4, 3) := by decide +kernel
theorem dX12_readNumber_64 : decode cX12_readNumber 64 = .ok (.lload_n 2, 1) := by decide +kernel
theorem dX12_readNumber_65 : decode cX12_readNumber 65 = .ok (.lstore_n 2, 1) := by decide +kernel
theorem dX12_readNumber_66 : decode cX12_readNumber 66 = .ok (.aload_n 0, 1) := by decide +kernel
theorem dX12_readNumber_67 : decode cX12_readNumber 67 = .ok (.dup, 1) := by decide +kernel
theorem dX12_readNumber_68 : decode cX12_readNumber 68 = .ok (.getfield 147, 3) := by decide +kernel
theorem dX12_readNumber_71 : decode cX12_readNumber 71 = .ok (.iconst 1, 1) := by decide +kernel
theorem dX12_readNumber_72 : decode cX12_readNumber 72 = .ok (.iadd, 1) := by decide +kernel
theorem dX12_readNumber_73 : decode cX12_readNumber 73 = .ok (.putfield 147, 3) := by decide +kernel
theorem dX12_readNumber_76 : decode cX12_readNumber 76 = .ok (.goto (-60), 3) := by decide +kernel
theorem dX12_readNumber_79 : decode cX12_readNumber 79 = .ok (.lload_n 2, 1) := by decide +kernel
theorem dX12_readNumber_80 : decode cX12_readNumber 80 = .ok (.ldc2_w 190, 3) := by decide +kernel
theorem dX12_readNumber_83 : decode cX12_readNumber 83 = .ok (.lcmp, 1) := by decide +kernel
theorem dX12_readNumber_84 : decode cX12_readNumber 84 = .ok (.ifCond .le 9, 3) := by decide +kernel
theorem dX12_readNumber_87 : decode cX12_readNumber 87 = .ok (.aload_n 0, 1) := by decide +kernel
theorem dX12_readNumber_88 : decode cX12_readNumber 88 = .ok (.iconst 2, 1) := by decide +kernel
theorem dX12_readNumber_89 : decode cX12_readNumber 89 = .ok (.iload_n 1, 1) := by decide +kernel
theorem dX12_readNumber_90 : decode cX12_readNumber 90 = .ok (.invokevirtual 157, 3) := by decide +kernel
theorem dX12_readNumber_93 : decode cX12_readNumber 93 = .ok (.aload_n 0, 1) := by decide +kernel
theorem dX12_readNumber_94 : decode cX12_readNumber 94 = .ok (.aload_n 0, 1) := by decide +kernel
theorem dX12_readNumber_95 : decode cX12_readNumber 95 = .ok (.getfield 144, 3) := by decide +kernel
theorem dX12_readNumber_98 : decode cX12_readNumber 98 = .ok (.invokevirtual 192, 3) := by decide +kernel
theorem dX12_readNumber_101 : decode cX12_readNumber 101 = .ok (.aload_n 0, 1) := by decide +kernel
theorem dX12_readNumber_102 : decode cX12_readNumber 102 = .ok (.iconst 0, 1) := by decide +kernel
theorem dX12_readNumber_103 : decode cX12_readNumber 103 = .ok (.lload_n 2, 1) := by decide +kernel
theorem dX12_readNumber_104 : decode cX12_readNumber 104 = .ok (.invokevirtual 167, 3) := by decide +kernel
theorem dX12_readNumber_107 : decode cX12_readNumber 107 = .ok (.return_, 1) := by decide +kernel
theorem dX12_open_0 : decode cX12_open 0 = .ok (.aload_n 0, 1) := by decide +kernel
theorem dX12_open_1 : decode cX12_open 1 = .ok (.getfield 195, 3) := by decide +kernel
theorem dX12_open_4 : decode cX12_open 4 = .ok (.bipush 12, 2) := by decide +kernel
theorem dX12_open_6 : decode cX12_open 6 = .ok (.if_icmp .ne 13, 3) := by decide +kernel
theorem dX12_open_9 : decode cX12_open 9 = .ok (.aload_n 0, 1) := by decide +kernel
theorem dX12_open_10 : decode cX12_open 10 = .ok (.iconst 3, 1) := by decide +kernel
theorem dX12_open_11 : decode cX12_open 11 = .ok (.aload_n 0, 1) := by decide +kernel
theorem dX12_open_12 : decode cX12_open 12 = .ok (.getfield 147, 3) := by decide +kernel
theorem dX12_open_15 : decode cX12_open 15 = .ok (.invokevirtual 157, 3) := by decide +kernel
theorem dX12_open_18 : decode cX12_open 18 = .ok (.return_, 1) := by decide +kernel
theorem dX12_open_19 : decode cX12_open 19 = .ok (.aload_n 0, 1) := by decide +kernel
theorem dX12_open_20 : decode cX12_open 20 = .ok (.dup, 1) := by decide +kernel
theorem dX12_open_21 : decode cX12_open 21 = .ok (.getfield 195, 3) := by decide +kernel
theorem dX12_open_24 : decode cX12_open 24 = .ok (.iconst 1, 1) := by decide +kernel
theorem dX12_open_25 : decode cX12_open 25 = .ok (.iadd, 1) := by decide +kernel
theorem dX12_open_26 : decode cX12_open 26 = .ok (.putfield 195, 3) := by decide +kernel
theorem dX12_open_29 : decode cX12_open 29 = .ok (.aload_n 0, 1) := by decide +kernel
theorem dX12_open_30 : decode cX12_open 30 = .ok (.iload_n 1, 1) := by decide +kernel
theorem dX12_open_31 : decode cX12_open 31 = .ok (.iload_n 2, 1) := by decide +kernel
theorem dX12_open_32 : decode cX12_open 32 = .ok (.iconst 0, 1) := by decide +kernel
theorem dX12_open_33 : decode cX12_open 33 = .ok (.invokevirtual 198, 3) := by decide +kernel
theorem dX12_open_36 : decode cX12_open 36 = .ok (.aload_n 0, 1) := by decide +kernel
theorem dX12_open_37 : decode cX12_open 37 = .ok (.getfield 42, 3) := by decide +kernel
theorem dX12_open_40 : decode cX12_open 40 = .ok (.aload_n 0, 1) := by decide +kernel
theorem dX12_open_41 : decode cX12_open 41 = .ok (.getfield 161, 3) := by decide +kernel
theorem dX12_open_44 : decode cX12_open 44 = .ok (.iconst 1, 1) := by decide +kernel
theorem dX12_open_45 : decode cX12_open 45 = .ok (.isub, 1) := by decide +kernel
theorem dX12_open_46 : decode cX12_open 46 = .ok (.aload_n 0, 1) := by decide +kernel
theorem dX12_open_47 : decode cX12_open 47 = .ok (.getfield 137, 3) := by decide +kernel
theorem dX12_open_50 : decode cX12_open 50 = .ok (.lastore, 1) := by decide +kernel
theorem dX12_open_51 : decode cX12_open 51 = .ok (.aload_n 0, 1) := by decide +kernel
theorem dX12_open_52 : decode cX12_open 52 = .ok (.dup, 1) := by decide +kernel
theorem dX12_open_53 : decode cX12_open 53 = .ok (.getfield 147, 3) := by decide +kernel
theorem dX12_open_56 : decode cX12_open 56 = .ok (.iconst 1, 1) := by decide +kernel
theorem dX12_open_57 : decode cX12_open 57 = .ok (.iadd, 1) := by decide +kernel
theorem dX12_open_58 : decode cX12_open 58 = .ok (.putfield 147, 3) := by decide +kernel
theorem dX12_open_61 : decode cX12_open 61 = .ok (.return_, 1) := by decide +kernel
theorem dX12_variableOf_0 : decode cX12_variableOf 0 = .ok (.iload_n 1, 1) := by decide +kernel
theorem dX12_variableOf_1 : decode cX12_variableOf 1 = .ok (.bipush 114, 2) := by decide +kernel
theorem dX12_variableOf_3 : decode cX12_variableOf 3 = .ok (.if_icmp .ne 7, 3) := by decide +kernel
theorem dX12_variableOf_6 : decode cX12_variableOf 6 = .ok (.iconst 3, 1) := by decide +kernel
theorem dX12_variableOf_7 : decode cX12_variableOf 7 = .ok (.goto 38, 3) := by decide +kernel
theorem dX12_variableOf_10 : decode cX12_variableOf 10 = .ok (.iload_n 1, 1) := by decide +kernel
theorem dX12_variableOf_11 : decode cX12_variableOf 11 = .ok (.bipush 120, 2) := by decide +kernel
theorem dX12_variableOf_13 : decode cX12_variableOf 13 = .ok (.if_icmp .ne 7, 3) := by decide +kernel
theorem dX12_variableOf_16 : decode cX12_variableOf 16 = .ok (.iconst 4, 1) := by decide +kernel
theorem dX12_variableOf_17 : decode cX12_variableOf 17 = .ok (.goto 28, 3) := by decide +kernel
theorem dX12_variableOf_20 : decode cX12_variableOf 20 = .ok (.iload_n 1, 1) := by decide +kernel
theorem dX12_variableOf_21 : decode cX12_variableOf 21 = .ok (.bipush 110, 2) := by decide +kernel
theorem dX12_variableOf_23 : decode cX12_variableOf 23 = .ok (.if_icmp .ne 7, 3) := by decide +kernel
theorem dX12_variableOf_26 : decode cX12_variableOf 26 = .ok (.iconst 5, 1) := by decide +kernel
theorem dX12_variableOf_27 : decode cX12_variableOf 27 = .ok (.goto 18, 3) := by decide +kernel
theorem dX12_variableOf_30 : decode cX12_variableOf 30 = .ok (.iload_n 1, 1) := by decide +kernel
theorem dX12_variableOf_31 : decode cX12_variableOf 31 = .ok (.bipush 107, 2) := by decide +kernel
theorem dX12_variableOf_33 : decode cX12_variableOf 33 = .ok (.if_icmp .ne 8, 3) := by decide +kernel
theorem dX12_variableOf_36 : decode cX12_variableOf 36 = .ok (.bipush 6, 2) := by decide +kernel
theorem dX12_variableOf_38 : decode cX12_variableOf 38 = .ok (.goto 7, 3) := by decide +kernel
theorem dX12_variableOf_41 : decode cX12_variableOf 41 = .ok (.iload_n 1, 1) := by decide +kernel
theorem dX12_variableOf_42 : decode cX12_variableOf 42 = .ok (.bipush 97, 2) := by decide +kernel
theorem dX12_variableOf_44 : decode cX12_variableOf 44 = .ok (.isub, 1) := by decide +kernel
theorem dX12_variableOf_45 : decode cX12_variableOf 45 = .ok (.istore_n 2, 1) := by decide +kernel
theorem dX12_variableOf_46 : decode cX12_variableOf 46 = .ok (.iload_n 1, 1) := by decide +kernel
theorem dX12_variableOf_47 : decode cX12_variableOf 47 = .ok (.bipush 97, 2) := by decide +kernel
theorem dX12_variableOf_49 : decode cX12_variableOf 49 = .ok (.if_icmp .lt 13, 3) := by decide +kernel
theorem dX12_variableOf_52 : decode cX12_variableOf 52 = .ok (.iload_n 1, 1) := by decide +kernel
theorem dX12_variableOf_53 : decode cX12_variableOf 53 = .ok (.bipush 99, 2) := by decide +kernel
theorem dX12_variableOf_55 : decode cX12_variableOf 55 = .ok (.if_icmp .gt 7, 3) := by decide +kernel
theorem dX12_variableOf_58 : decode cX12_variableOf 58 = .ok (.iconst 1, 1) := by decide +kernel
theorem dX12_variableOf_59 : decode cX12_variableOf 59 = .ok (.goto 4, 3) := by decide +kernel
theorem dX12_variableOf_62 : decode cX12_variableOf 62 = .ok (.iconst 0, 1) := by decide +kernel
theorem dX12_variableOf_63 : decode cX12_variableOf 63 = .ok (.istore_n 3, 1) := by decide +kernel
theorem dX12_variableOf_64 : decode cX12_variableOf 64 = .ok (.iload_n 3, 1) := by decide +kernel
theorem dX12_variableOf_65 : decode cX12_variableOf 65 = .ok (.ifCond .eq 11, 3) := by decide +kernel
theorem dX12_variableOf_68 : decode cX12_variableOf 68 = .ok (.iload_n 2, 1) := by decide +kernel
theorem dX12_variableOf_69 : decode cX12_variableOf 69 = .ok (.aload_n 0, 1) := by decide +kernel
theorem dX12_variableOf_70 : decode cX12_variableOf 70 = .ok (.getfield 202, 3) := by decide +kernel
theorem dX12_variableOf_73 : decode cX12_variableOf 73 = .ok (.if_icmp .lt 49, 3) := by decide +kernel
theorem dX12_variableOf_76 : decode cX12_variableOf 76 = .ok (.aload_n 0, 1) := by decide +kernel
theorem dX12_variableOf_77 : decode cX12_variableOf 77 = .ok (.getfield 150, 3) := by decide +kernel
theorem dX12_variableOf_80 : decode cX12_variableOf 80 = .ok (.ifCond .eq 46, 3) := by decide +kernel
theorem dX12_variableOf_83 : decode cX12_variableOf 83 = .ok (.iload_n 3, 1) := by decide +kernel
theorem dX12_variableOf_84 : decode cX12_variableOf 84 = .ok (.ifCond .ne 38, 3) := by decide +kernel
theorem dX12_variableOf_87 : decode cX12_variableOf 87 = .ok (.iload_n 2, 1) := by decide +kernel
theorem dX12_variableOf_88 : decode cX12_variableOf 88 = .ok (.iconst 3, 1) := by decide +kernel
theorem dX12_variableOf_89 : decode cX12_variableOf 89 = .ok (.if_icmp .lt 37, 3) := by decide +kernel
theorem dX12_variableOf_92 : decode cX12_variableOf 92 = .ok (.iload_n 2, 1) := by decide +kernel
theorem dX12_variableOf_93 : decode cX12_variableOf 93 = .ok (.bipush 6, 2) := by decide +kernel
theorem dX12_variableOf_95 : decode cX12_variableOf 95 = .ok (.if_icmp .gt 31, 3) := by decide +kernel
theorem dX12_variableOf_98 : decode cX12_variableOf 98 = .ok (.iload_n 1, 1) := by decide +kernel
theorem dX12_variableOf_99 : decode cX12_variableOf 99 = .ok (.bipush 100, 2) := by decide +kernel
theorem dX12_variableOf_101 : decode cX12_variableOf 101 = .ok (.if_icmp .eq 25, 3) := by decide +kernel
theorem dX12_variableOf_104 : decode cX12_variableOf 104 = .ok (.iload_n 1, 1) := by decide +kernel
theorem dX12_variableOf_105 : decode cX12_variableOf 105 = .ok (.bipush 101, 2) := by decide +kernel
theorem dX12_variableOf_107 : decode cX12_variableOf 107 = .ok (.if_icmp .eq 19, 3) := by decide +kernel
theorem dX12_variableOf_110 : decode cX12_variableOf 110 = .ok (.iload_n 1, 1) := by decide +kernel
theorem dX12_variableOf_111 : decode cX12_variableOf 111 = .ok (.bipush 102, 2) := by decide +kernel
theorem dX12_variableOf_113 : decode cX12_variableOf 113 = .ok (.if_icmp .eq 13, 3) := by decide +kernel
theorem dX12_variableOf_116 : decode cX12_variableOf 116 = .ok (.iload_n 1, 1) := by decide +kernel
theorem dX12_variableOf_117 : decode cX12_variableOf 117 = .ok (.bipush 103, 2) := by decide +kernel
theorem dX12_variableOf_119 : decode cX12_variableOf 119 = .ok (.if_icmp .eq 7, 3) := by decide +kernel
theorem dX12_variableOf_122 : decode cX12_variableOf 122 = .ok (.iload_n 2, 1) := by decide +kernel
theorem dX12_variableOf_123 : decode cX12_variableOf 123 = .ok (.goto 4, 3) := by decide +kernel
theorem dX12_variableOf_126 : decode cX12_variableOf 126 = .ok (.iconst (-1), 1) := by decide +kernel
theorem dX12_variableOf_127 : decode cX12_variableOf 127 = .ok (.ireturn, 1) := by decide +kernel
theorem dX12_readRow_0 : decode cX12_readRow 0 = .ok (.aload_n 0, 1) := by decide +kernel
theorem dX12_readRow_1 : decode cX12_readRow 1 = .ok (.getfield 147, 3) := by decide +kernel
theorem dX12_readRow_4 : decode cX12_readRow 4 = .ok (.istore_n 1, 1) := by decide +kernel
theorem dX12_readRow_5 : decode cX12_readRow 5 = .ok (.aload_n 0, 1) := by decide +kernel
theorem dX12_readRow_6 : decode cX12_readRow 6 = .ok (.aload_n 0, 1) := by decide +kernel
theorem dX12_readRow_7 : decode cX12_readRow 7 = .ok (.getfield 147, 3) := by decide +kernel
theorem dX12_readRow_10 : decode cX12_readRow 10 = .ok (.invokevirtual 205, 3) := by decide +kernel
theorem dX12_readRow_13 : decode cX12_readRow 13 = .ok (.istore_n 2, 1) := by decide +kernel
theorem dX12_readRow_14 : decode cX12_readRow 14 = .ok (.iload_n 2, 1) := by decide +kernel
theorem dX12_readRow_15 : decode cX12_readRow 15 = .ok (.iconst 1, 1) := by decide +kernel
theorem dX12_readRow_16 : decode cX12_readRow 16 = .ok (.if_icmp .ne 75, 3) := by decide +kernel
theorem dX12_readRow_19 : decode cX12_readRow 19 = .ok (.aload_n 0, 1) := by decide +kernel
theorem dX12_readRow_20 : decode cX12_readRow 20 = .ok (.aload_n 0, 1) := by decide +kernel
theorem dX12_readRow_21 : decode cX12_readRow 21 = .ok (.getfield 147, 3) := by decide +kernel
theorem dX12_readRow_24 : decode cX12_readRow 24 = .ok (.invokevirtual 130, 3) := by decide +kernel
theorem dX12_readRow_27 : decode cX12_readRow 27 = .ok (.invokestatic 126, 3) := by decide +kernel
theorem dX12_readRow_30 : decode cX12_readRow 30 = .ok (.ifCond .eq 61, 3) := by decide +kernel
theorem dX12_readRow_33 : decode cX12_readRow 33 = .ok (.aload_n 0, 1) := by decide +kernel
theorem dX12_readRow_34 : decode cX12_readRow 34 = .ok (.iload_n 1, 1) := by decide +kernel
theorem dX12_readRow_35 : decode cX12_readRow 35 = .ok (.invokevirtual 178, 3) := by decide +kernel
theorem dX12_readRow_38 : decode cX12_readRow 38 = .ok (.ifCond .eq 51, 3) := by decide +kernel
theorem dX12_readRow_41 : decode cX12_readRow 41 = .ok (.aload_n 0, 1) := by decide +kernel
theorem dX12_readRow_42 : decode cX12_readRow 42 = .ok (.aload_n 0, 1) := by decide +kernel
theorem dX12_readRow_43 : decode cX12_readRow 43 = .ok (.aload_n 0, 1) := by decide +kernel
theorem dX12_readRow_44 : decode cX12_readRow 44 = .ok (.getfield 147, 3) := by decide +kernel
theorem dX12_readRow_47 : decode cX12_readRow 47 = .ok (.invokevirtual 130, 3) := by decide +kernel
theorem dX12_readRow_50 : decode cX12_readRow 50 = .ok (.invokevirtual 208, 3) := by decide +kernel
theorem dX12_readRow_53 : decode cX12_readRow 53 = .ok (.istore_n 3, 1) := by decide +kernel
theorem dX12_readRow_54 : decode cX12_readRow 54 = .ok (.iload_n 3, 1) := by decide +kernel
theorem dX12_readRow_55 : decode cX12_readRow 55 = .ok (.ifCond .ge 9, 3) := by decide +kernel
theorem dX12_readRow_58 : decode cX12_readRow 58 = .ok (.aload_n 0, 1) := by decide +kernel
theorem dX12_readRow_59 : decode cX12_readRow 59 = .ok (.iconst 4, 1) := by decide +kernel
theorem dX12_readRow_60 : decode cX12_readRow 60 = .ok (.iload_n 1, 1) := by decide +kernel
theorem dX12_readRow_61 : decode cX12_readRow 61 = .ok (.invokevirtual 157, 3) := by decide +kernel
theorem dX12_readRow_64 : decode cX12_readRow 64 = .ok (.aload_n 0, 1) := by decide +kernel
theorem dX12_readRow_65 : decode cX12_readRow 65 = .ok (.aload_n 0, 1) := by decide +kernel
theorem dX12_readRow_66 : decode cX12_readRow 66 = .ok (.getfield 144, 3) := by decide +kernel
theorem dX12_readRow_69 : decode cX12_readRow 69 = .ok (.invokevirtual 192, 3) := by decide +kernel
theorem dX12_readRow_72 : decode cX12_readRow 72 = .ok (.aload_n 0, 1) := by decide +kernel
theorem dX12_readRow_73 : decode cX12_readRow 73 = .ok (.iconst 1, 1) := by decide +kernel
theorem dX12_readRow_74 : decode cX12_readRow 74 = .ok (.iload_n 3, 1) := by decide +kernel
theorem dX12_readRow_75 : decode cX12_readRow 75 = .ok (.i2l, 1) := by decide +kernel
theorem dX12_readRow_76 : decode cX12_readRow 76 = .ok (.invokevirtual 167, 3) := by decide +kernel
theorem dX12_readRow_79 : decode cX12_readRow 79 = .ok (.aload_n 0, 1) := by decide +kernel
theorem dX12_readRow_80 : decode cX12_readRow 80 = .ok (.dup, 1) := by decide +kernel
theorem dX12_readRow_81 : decode cX12_readRow 81 = .ok (.getfield 147, 3) := by decide +kernel
theorem dX12_readRow_84 : decode cX12_readRow 84 = .ok (.iconst 1, 1) := by decide +kernel
theorem dX12_readRow_85 : decode cX12_readRow 85 = .ok (.iadd, 1) := by decide +kernel
theorem dX12_readRow_86 : decode cX12_readRow 86 = .ok (.putfield 147, 3) := by decide +kernel
theorem dX12_readRow_89 : decode cX12_readRow 89 = .ok (.iconst 1, 1) := by decide +kernel
theorem dX12_readRow_90 : decode cX12_readRow 90 = .ok (.ireturn, 1) := by decide +kernel
theorem dX12_readRow_91 : decode cX12_readRow 91 = .ok (.aload_n 0, 1) := by decide +kernel
theorem dX12_readRow_92 : decode cX12_readRow 92 = .ok (.getfield 154, 3) := by decide +kernel
theorem dX12_readRow_95 : decode cX12_readRow 95 = .ok (.bipush 20, 2) := by decide +kernel
theorem dX12_readRow_97 : decode cX12_readRow 97 = .ok (.if_icmp .ne 11, 3) := by decide +kernel
theorem dX12_readRow_100 : decode cX12_readRow 100 = .ok (.aload_n 0, 1) := by decide +kernel
theorem dX12_readRow_101 : decode cX12_readRow 101 = .ok (.iconst 3, 1) := by decide +kernel
theorem dX12_readRow_102 : decode cX12_readRow 102 = .ok (.iload_n 1, 1) := by decide +kernel
theorem dX12_readRow_103 : decode cX12_readRow 103 = .ok (.invokevirtual 157, 3) := by decide +kernel
theorem dX12_readRow_106 : decode cX12_readRow 106 = .ok (.iconst 1, 1) := by decide +kernel
theorem dX12_readRow_107 : decode cX12_readRow 107 = .ok (.ireturn, 1) := by decide +kernel
theorem dX12_readRow_108 : decode cX12_readRow 108 = .ok (.iload_n 2, 1) := by decide +kernel
theorem dX12_readRow_109 : decode cX12_readRow 109 = .ok (.bipush 12, 2) := by decide +kernel
theorem dX12_readRow_111 : decode cX12_readRow 111 = .ok (.if_icmp .le 14, 3) := by decide +kernel
theorem dX12_readRow_114 : decode cX12_readRow 114 = .ok (.aload_n 0, 1) := by decide +kernel
theorem dX12_readRow_115 : decode cX12_readRow 115 = .ok (.iconst 3, 1) := by decide +kernel
theorem dX12_readRow_116 : decode cX12_readRow 116 = .ok (.iload_n 1, 1) := by decide +kernel
theorem dX12_readRow_117 : decode cX12_readRow 117 = .ok (.bipush 12, 2) := by decide +kernel
theorem dX12_readRow_119 : decode cX12_readRow 119 = .ok (.iadd, 1) := by decide +kernel
theorem dX12_readRow_120 : decode cX12_readRow 120 = .ok (.invokevirtual 157, 3) := by decide +kernel
theorem dX12_readRow_123 : decode cX12_readRow 123 = .ok (.iconst 1, 1) := by decide +kernel
theorem dX12_readRow_124 : decode cX12_readRow 124 = .ok (.ireturn, 1) := by decide +kernel
theorem dX12_readRow_125 : decode cX12_readRow 125 = .ok (.aload_n 0, 1) := by decide +kernel
theorem dX12_readRow_126 : decode cX12_readRow 126 = .ok (.iload_n 1, 1) := by decide +kernel
theorem dX12_readRow_127 : decode cX12_readRow 127 = .ok (.iload_n 2, 1) := by decide +kernel
theorem dX12_readRow_128 : decode cX12_readRow 128 = .ok (.invokevirtual 211, 3) := by decide +kernel
theorem dX12_readRow_131 : decode cX12_readRow 131 = .ok (.ifCond .ne 11, 3) := by decide +kernel
theorem dX12_readRow_134 : decode cX12_readRow 134 = .ok (.aload_n 0, 1) := by decide +kernel
theorem dX12_readRow_135 : decode cX12_readRow 135 = .ok (.iconst 1, 1) := by decide +kernel
theorem dX12_readRow_136 : decode cX12_readRow 136 = .ok (.iload_n 1, 1) := by decide +kernel
theorem dX12_readRow_137 : decode cX12_readRow 137 = .ok (.invokevirtual 157, 3) := by decide +kernel
theorem dX12_readRow_140 : decode cX12_readRow 140 = .ok (.iconst 1, 1) := by decide +kernel
theorem dX12_readRow_141 : decode cX12_readRow 141 = .ok (.ireturn, 1) := by decide +kernel
theorem dX12_readRow_142 : decode cX12_readRow 142 = .ok (.aload_n 0, 1) := by decide +kernel
theorem dX12_readRow_143 : decode cX12_readRow 143 = .ok (.getfield 150, 3) := by decide +kernel
theorem dX12_readRow_146 : decode cX12_readRow 146 = .ok (.ifCond .eq 11, 3) := by decide +kernel
theorem dX12_readRow_149 : decode cX12_readRow 149 = .ok (.aload_n 0, 1) := by decide +kernel
theorem dX12_readRow_150 : decode cX12_readRow 150 = .ok (.iconst 4, 1) := by decide +kernel
theorem dX12_readRow_151 : decode cX12_readRow 151 = .ok (.iload_n 1, 1) := by decide +kernel
theorem dX12_readRow_152 : decode cX12_readRow 152 = .ok (.invokevirtual 157, 3) := by decide +kernel
theorem dX12_readRow_155 : decode cX12_readRow 155 = .ok (.iconst 1, 1) := by decide +kernel
theorem dX12_readRow_156 : decode cX12_readRow 156 = .ok (.ireturn, 1) := by decide +kernel
theorem dX12_readRow_157 : decode cX12_readRow 157 = .ok (.aload_n 0, 1) := by decide +kernel
theorem dX12_readRow_158 : decode cX12_readRow 158 = .ok (.dup, 1) := by decide +kernel
theorem dX12_readRow_159 : decode cX12_readRow 159 = .ok (.getfield 154, 3) := by decide +kernel
theorem dX12_readRow_162 : decode cX12_readRow 162 = .ok (.iconst 1, 1) := by decide +kernel
theorem dX12_readRow_163 : decode cX12_readRow 163 = .ok (.iadd, 1) := by decide +kernel
theorem dX12_readRow_164 : decode cX12_readRow 164 = .ok (.putfield 154, 3) := by decide +kernel
theorem dX12_readRow_167 : decode cX12_readRow 167 = .ok (.aload_n 0, 1) := by decide +kernel
theorem dX12_readRow_168 : decode cX12_readRow 168 = .ok (.iload_n 1, 1) := by decide +kernel
theorem dX12_readRow_169 : decode cX12_readRow 169 = .ok (.iload_n 2, 1) := by decide +kernel
theorem dX12_readRow_170 : decode cX12_readRow 170 = .ok (.iadd, 1) := by decide +kernel
theorem dX12_readRow_171 : decode cX12_readRow 171 = .ok (.putfield 147, 3) := by decide +kernel
theorem dX12_readRow_174 : decode cX12_readRow 174 = .ok (.aload_n 0, 1) := by decide +kernel
theorem dX12_readRow_175 : decode cX12_readRow 175 = .ok (.aload_n 0, 1) := by decide +kernel
theorem dX12_readRow_176 : decode cX12_readRow 176 = .ok (.getfield 147, 3) := by decide +kernel
theorem dX12_readRow_179 : decode cX12_readRow 179 = .ok (.invokevirtual 130, 3) := by decide +kernel
theorem dX12_readRow_182 : decode cX12_readRow 182 = .ok (.bipush 40, 2) := by decide +kernel
theorem dX12_readRow_184 : decode cX12_readRow 184 = .ok (.if_icmp .eq 14, 3) := by decide +kernel
theorem dX12_readRow_187 : decode cX12_readRow 187 = .ok (.aload_n 0, 1) := by decide +kernel
theorem dX12_readRow_188 : decode cX12_readRow 188 = .ok (.iconst 1, 1) := by decide +kernel
theorem dX12_readRow_189 : decode cX12_readRow 189 = .ok (.aload_n 0, 1) := by decide +kernel
theorem dX12_readRow_190 : decode cX12_readRow 190 = .ok (.getfield 147, 3) := by decide +kernel
theorem dX12_readRow_193 : decode cX12_readRow 193 = .ok (.invokevirtual 157, 3) := by decide +kernel
theorem dX12_readRow_196 : decode cX12_readRow 196 = .ok (.iconst 1, 1) := by decide +kernel
theorem dX12_readRow_197 : decode cX12_readRow 197 = .ok (.ireturn, 1) := by decide +kernel
theorem dX12_readRow_198 : decode cX12_readRow 198 = .ok (.aload_n 0, 1) := by decide +kernel
theorem dX12_readRow_199 : decode cX12_readRow 199 = .ok (.bipush 8, 2) := by decide +kernel
theorem dX12_readRow_201 : decode cX12_readRow 201 = .ok (.aload_n 0, 1) := by decide +kernel
theorem dX12_readRow_202 : decode cX12_readRow 202 = .ok (.getfield 144, 3) := by decide +kernel
theorem dX12_readRow_205 : decode cX12_readRow 205 = .ok (.invokevirtual 215, 3) := by decide +kernel
theorem dX12_readRow_208 : decode cX12_readRow 208 = .ok (.iconst 0, 1) := by decide +kernel
theorem dX12_readRow_209 : decode cX12_readRow 209 = .ok (.ireturn, 1) := by decide +kernel
theorem dX12_readOperand_0 : decode cX12_readOperand 0 = .ok (.aload_n 0, 1) := by decide +kernel
theorem dX12_readOperand_1 : decode cX12_readOperand 1 = .ok (.aload_n 0, 1) := by decide +kernel
theorem dX12_readOperand_2 : decode cX12_readOperand 2 = .ok (.getfield 147, 3) := by decide +kernel
theorem dX12_readOperand_5 : decode cX12_readOperand 5 = .ok (.invokevirtual 130, 3) := by decide +kernel
theorem dX12_readOperand_8 : decode cX12_readOperand 8 = .ok (.istore_n 2, 1) := by decide +kernel
theorem dX12_readOperand_9 : decode cX12_readOperand 9 = .ok (.iload_n 1, 1) := by decide +kernel
theorem dX12_readOperand_10 : decode cX12_readOperand 10 = .ok (.ifCond .eq 16, 3) := by decide +kernel
theorem dX12_readOperand_13 : decode cX12_readOperand 13 = .ok (.aload_n 0, 1) := by decide +kernel
theorem dX12_readOperand_14 : decode cX12_readOperand 14 = .ok (.invokevirtual 218, 3) := by decide +kernel
theorem dX12_readOperand_17 : decode cX12_readOperand 17 = .ok (.bipush 8, 2) := by decide +kernel
theorem dX12_readOperand_19 : decode cX12_readOperand 19 = .ok (.if_icmp .ne 7, 3) := by decide +kernel
theorem dX12_readOperand_22 : decode cX12_readOperand 22 = .ok (.iconst 1, 1) := by decide +kernel
theorem dX12_readOperand_23 : decode cX12_readOperand 23 = .ok (.goto 4, 3) := by decide +kernel
theorem dX12_readOperand_26 : decode cX12_readOperand 26 = .ok (.iconst 0, 1) := by decide +kernel
theorem dX12_readOperand_27 : decode cX12_readOperand 27 = .ok (.istore_n 3, 1) := by decide +kernel
theorem dX12_readOperand_28 : decode cX12_readOperand 28 = .ok (.aload_n 0, 1) := by decide +kernel
theorem dX12_readOperand_29 : decode cX12_readOperand 29 = .ok (.invokevirtual 222, 3) := by decide +kernel
theorem dX12_readOperand_32 : decode cX12_readOperand 32 = .ok (.ifCond .eq 15, 3) := by decide +kernel
theorem dX12_readOperand_35 : decode cX12_readOperand 35 = .ok (.aload_n 0, 1) := by decide +kernel
theorem dX12_readOperand_36 : decode cX12_readOperand 36 = .ok (.iconst 1, 1) := by decide +kernel
theorem dX12_readOperand_37 : decode cX12_readOperand 37 = .ok (.aload_n 0, 1) := by decide +kernel
theorem dX12_readOperand_38 : decode cX12_readOperand 38 = .ok (.getfield 147, 3) := by decide +kernel
theorem dX12_readOperand_41 : decode cX12_readOperand 41 = .ok (.invokevirtual 157, 3) := by decide +kernel
theorem dX12_readOperand_44 : decode cX12_readOperand 44 = .ok (.goto 148, 3) := by decide +kernel
theorem dX12_readOperand_47 : decode cX12_readOperand 47 = .ok (.iload_n 3, 1) := by decide +kernel
theorem dX12_readOperand_48 : decode cX12_readOperand 48 = .ok (.ifCond .eq 15, 3) := by decide +kernel
theorem dX12_readOperand_51 : decode cX12_readOperand 51 = .ok (.iload_n 2, 1) := by decide +kernel
theorem dX12_readOperand_52 : decode cX12_readOperand 52 = .ok (.bipush 41, 2) := by decide +kernel
theorem dX12_readOperand_54 : decode cX12_readOperand 54 = .ok (.if_icmp .ne 9, 3) := by decide +kernel
theorem dX12_readOperand_57 : decode cX12_readOperand 57 = .ok (.aload_n 0, 1) := by decide +kernel
theorem dX12_readOperand_58 : decode cX12_readOperand 58 = .ok (.invokevirtual 226, 3) := by decide +kernel
theorem dX12_readOperand_61 : decode cX12_readOperand 61 = .ok (.iconst 1, 1) := by decide +kernel
theorem dX12_readOperand_62 : decode cX12_readOperand 62 = .ok (.ireturn, 1) := by decide +kernel
theorem dX12_readOperand_63 : decode cX12_readOperand 63 = .ok (.aload_n 0, 1) := by decide +kernel
theorem dX12_readOperand_64 : decode cX12_readOperand 64 = .ok (.invokevirtual 218, 3) := by decide +kernel
theorem dX12_readOperand_67 : decode cX12_readOperand 67 = .ok (.bipush 8, 2) := by decide +kernel
theorem dX12_readOperand_69 : decode cX12_readOperand 69 = .ok (.if_icmp .ne 30, 3) := by decide +kernel
theorem dX12_readOperand_72 : decode cX12_readOperand 72 = .ok (.aload_n 0, 1) := by decide +kernel
theorem dX12_readOperand_73 : decode cX12_readOperand 73 = .ok (.getfield 39, 3) := by decide +kernel
theorem dX12_readOperand_76 : decode cX12_readOperand 76 = .ok (.aload_n 0, 1) := by decide +kernel
theorem dX12_readOperand_77 : decode cX12_readOperand 77 = .ok (.getfield 161, 3) := by decide +kernel
theorem dX12_readOperand_80 : decode cX12_readOperand 80 = .ok (.iconst 1, 1) := by decide +kernel
theorem dX12_readOperand_81 : decode cX12_readOperand 81 = .ok (.isub, 1) := by decide +kernel
theorem dX12_readOperand_82 : decode cX12_readOperand 82 = .ok (.iaload, 1) := by decide +kernel
theorem dX12_readOperand_83 : decode cX12_readOperand 83 = .ok (.iconst 3, 1) := by decide +kernel
theorem dX12_readOperand_84 : decode cX12_readOperand 84 = .ok (.if_icmp .ne 15, 3) := by decide +kernel
theorem dX12_readOperand_87 : decode cX12_readOperand 87 = .ok (.aload_n 0, 1) := by decide +kernel
theorem dX12_readOperand_88 : decode cX12_readOperand 88 = .ok (.iconst 3, 1) := by decide +kernel
theorem dX12_readOperand_89 : decode cX12_readOperand 89 = .ok (.aload_n 0, 1) := by decide +kernel
theorem dX12_readOperand_90 : decode cX12_readOperand 90 = .ok (.getfield 147, 3) := by decide +kernel
theorem dX12_readOperand_93 : decode cX12_readOperand 93 = .ok (.invokevirtual 157, 3) := by decide +kernel
theorem dX12_readOperand_96 : decode cX12_readOperand 96 = .ok (.goto 96, 3) := by decide +kernel
theorem dX12_readOperand_99 : decode cX12_readOperand 99 = .ok (.iload_n 2, 1) := by decide +kernel
theorem dX12_readOperand_100 : decode cX12_readOperand 100 = .ok (.invokestatic 181, 3) := by decide +kernel
theorem dX12_readOperand_103 : decode cX12_readOperand 103 = .ok (.ifCond .eq 9, 3) := by decide +kernel
theorem dX12_readOperand_106 : decode cX12_readOperand 106 = .ok (.aload_n 0, 1) := by decide +kernel
theorem dX12_readOperand_107 : decode cX12_readOperand 107 = .ok (.invokevirtual 229, 3) := by decide +kernel
theorem dX12_readOperand_110 : decode cX12_readOperand 110 = .ok (.iconst 1, 1) := by decide +kernel
theorem dX12_readOperand_111 : decode cX12_readOperand 111 = .ok (.ireturn, 1) := by decide +kernel
theorem dX12_readOperand_112 : decode cX12_readOperand 112 = .ok (.iload_n 2, 1) := by decide +kernel
theorem dX12_readOperand_113 : decode cX12_readOperand 113 = .ok (.bipush 45, 2) := by decide +kernel
theorem dX12_readOperand_115 : decode cX12_readOperand 115 = .ok (.if_icmp .eq 9, 3) := by decide +kernel
theorem dX12_readOperand_118 : decode cX12_readOperand 118 = .ok (.iload_n 2, 1) := by decide +kernel
theorem dX12_readOperand_119 : decode cX12_readOperand 119 = .ok (.bipush 33, 2) := by decide +kernel
theorem dX12_readOperand_121 : decode cX12_readOperand 121 = .ok (.if_icmp .ne 35, 3) := by decide +kernel
theorem dX12_readOperand_124 : decode cX12_readOperand 124 = .ok (.aload_n 0, 1) := by decide +kernel
theorem dX12_readOperand_125 : decode cX12_readOperand 125 = .ok (.aload_n 0, 1) := by decide +kernel
theorem dX12_readOperand_126 : decode cX12_readOperand 126 = .ok (.getfield 147, 3) := by decide +kernel
theorem dX12_readOperand_129 : decode cX12_readOperand 129 = .ok (.invokevirtual 178, 3) := by decide +kernel
theorem dX12_readOperand_132 : decode cX12_readOperand 132 = .ok (.ifCond .eq 60, 3) := by decide +kernel
theorem dX12_readOperand_135 : decode cX12_readOperand 135 = .ok (.aload_n 0, 1) := by decide +kernel
theorem dX12_readOperand_136 : decode cX12_readOperand 136 = .ok (.bipush 6, 2) := by decide +kernel
theorem dX12_readOperand_138 : decode cX12_readOperand 138 = .ok (.iconst 0, 1) := by decide +kernel
theorem dX12_readOperand_139 : decode cX12_readOperand 139 = .ok (.iload_n 2, 1) := by decide +kernel
theorem dX12_readOperand_140 : decode cX12_readOperand 140 = .ok (.invokevirtual 198, 3) := by decide +kernel
theorem dX12_readOperand_143 : decode cX12_readOperand 143 = .ok (.aload_n 0, 1) := by decide +kernel
theorem dX12_readOperand_144 : decode cX12_readOperand 144 = .ok (.dup, 1) := by decide +kernel
theorem dX12_readOperand_145 : decode cX12_readOperand 145 = .ok (.getfield 147, 3) := by decide +kernel
theorem dX12_readOperand_148 : decode cX12_readOperand 148 = .ok (.iconst 1, 1) := by decide +kernel
theorem dX12_readOperand_149 : decode cX12_readOperand 149 = .ok (.iadd, 1) := by decide +kernel
theorem dX12_readOperand_150 : decode cX12_readOperand 150 = .ok (.putfield 147, 3) := by decide +kernel
theorem dX12_readOperand_153 : decode cX12_readOperand 153 = .ok (.goto 39, 3) := by decide +kernel
theorem dX12_readOperand_156 : decode cX12_readOperand 156 = .ok (.iload_n 2, 1) := by decide +kernel
theorem dX12_readOperand_157 : decode cX12_readOperand 157 = .ok (.bipush 40, 2) := by decide +kernel
theorem dX12_readOperand_159 : decode cX12_readOperand 159 = .ok (.if_icmp .ne 12, 3) := by decide +kernel
theorem dX12_readOperand_162 : decode cX12_readOperand 162 = .ok (.aload_n 0, 1) := by decide +kernel
theorem dX12_readOperand_163 : decode cX12_readOperand 163 = .ok (.iconst 0, 1) := by decide +kernel
theorem dX12_readOperand_164 : decode cX12_readOperand 164 = .ok (.iconst 0, 1) := by decide +kernel
theorem dX12_readOperand_165 : decode cX12_readOperand 165 = .ok (.invokevirtual 215, 3) := by decide +kernel
theorem dX12_readOperand_168 : decode cX12_readOperand 168 = .ok (.goto 24, 3) := by decide +kernel
theorem dX12_readOperand_171 : decode cX12_readOperand 171 = .ok (.iload_n 2, 1) := by decide +kernel
theorem dX12_readOperand_172 : decode cX12_readOperand 172 = .ok (.invokestatic 134, 3) := by decide +kernel
theorem dX12_readOperand_175 : decode cX12_readOperand 175 = .ok (.ifCond .eq 8, 3) := by decide +kernel
theorem dX12_readOperand_178 : decode cX12_readOperand 178 = .ok (.aload_n 0, 1) := by decide +kernel
theorem dX12_readOperand_179 : decode cX12_readOperand 179 = .ok (.invokevirtual 232, 3) := by decide +kernel
theorem dX12_readOperand_182 : decode cX12_readOperand 182 = .ok (.ireturn, 1) := by decide +kernel
theorem dX12_readOperand_183 : decode cX12_readOperand 183 = .ok (.aload_n 0, 1) := by decide +kernel
theorem dX12_readOperand_184 : decode cX12_readOperand 184 = .ok (.iconst 1, 1) := by decide +kernel
theorem dX12_readOperand_185 : decode cX12_readOperand 185 = .ok (.aload_n 0, 1) := by decide +kernel
theorem dX12_readOperand_186 : decode cX12_readOperand 186 = .ok (.getfield 147, 3) := by decide +kernel
theorem dX12_readOperand_189 : decode cX12_readOperand 189 = .ok (.invokevirtual 157, 3) := by decide +kernel
theorem dX12_readOperand_192 : decode cX12_readOperand 192 = .ok (.iconst 0, 1) := by decide +kernel
theorem dX12_readOperand_193 : decode cX12_readOperand 193 = .ok (.ireturn, 1) := by decide +kernel
theorem dX12_close_0 : decode cX12_close 0 = .ok (.aload_n 0, 1) := by decide +kernel
theorem dX12_close_1 : decode cX12_close 1 = .ok (.invokevirtual 235, 3) := by decide +kernel
theorem dX12_close_4 : decode cX12_close 4 = .ok (.aload_n 0, 1) := by decide +kernel
theorem dX12_close_5 : decode cX12_close 5 = .ok (.invokevirtual 218, 3) := by decide +kernel
theorem dX12_close_8 : decode cX12_close 8 = .ok (.ifCond .ne 36, 3) := by decide +kernel
theorem dX12_close_11 : decode cX12_close 11 = .ok (.aload_n 0, 1) := by decide +kernel
theorem dX12_close_12 : decode cX12_close 12 = .ok (.dup, 1) := by decide +kernel
theorem dX12_close_13 : decode cX12_close 13 = .ok (.getfield 161, 3) := by decide +kernel
theorem dX12_close_16 : decode cX12_close 16 = .ok (.iconst 1, 1) := by decide +kernel
theorem dX12_close_17 : decode cX12_close 17 = .ok (.isub, 1) := by decide +kernel
theorem dX12_close_18 : decode cX12_close 18 = .ok (.putfield 161, 3) := by decide +kernel
theorem dX12_close_21 : decode cX12_close 21 = .ok (.aload_n 0, 1) := by decide +kernel
theorem dX12_close_22 : decode cX12_close 22 = .ok (.dup, 1) := by decide +kernel
theorem dX12_close_23 : decode cX12_close 23 = .ok (.getfield 195, 3) := by decide +kernel
theorem dX12_close_26 : decode cX12_close 26 = .ok (.iconst 1, 1) := by decide +kernel
theorem dX12_close_27 : decode cX12_close 27 = .ok (.isub, 1) := by decide +kernel
theorem dX12_close_28 : decode cX12_close 28 = .ok (.putfield 195, 3) := by decide +kernel
theorem dX12_close_31 : decode cX12_close 31 = .ok (.aload_n 0, 1) := by decide +kernel
theorem dX12_close_32 : decode cX12_close 32 = .ok (.dup, 1) := by decide +kernel
theorem dX12_close_33 : decode cX12_close 33 = .ok (.getfield 147, 3) := by decide +kernel
theorem dX12_close_36 : decode cX12_close 36 = .ok (.iconst 1, 1) := by decide +kernel
theorem dX12_close_37 : decode cX12_close 37 = .ok (.iadd, 1) := by decide +kernel
theorem dX12_close_38 : decode cX12_close 38 = .ok (.putfield 147, 3) := by decide +kernel
theorem dX12_close_41 : decode cX12_close 41 = .ok (.goto 123, 3) := by decide +kernel
theorem dX12_close_44 : decode cX12_close 44 = .ok (.aload_n 0, 1) := by decide +kernel
theorem dX12_close_45 : decode cX12_close 45 = .ok (.invokevirtual 218, 3) := by decide +kernel
theorem dX12_close_48 : decode cX12_close 48 = .ok (.bipush 8, 2) := by decide +kernel
theorem dX12_close_50 : decode cX12_close 50 = .ok (.if_icmp .ne 105, 3) := by decide +kernel
theorem dX12_close_53 : decode cX12_close 53 = .ok (.aload_n 0, 1) := by decide +kernel
theorem dX12_close_54 : decode cX12_close 54 = .ok (.dup, 1) := by decide +kernel
theorem dX12_close_55 : decode cX12_close 55 = .ok (.getfield 161, 3) := by decide +kernel
theorem dX12_close_58 : decode cX12_close 58 = .ok (.iconst 1, 1) := by decide +kernel
theorem dX12_close_59 : decode cX12_close 59 = .ok (.isub, 1) := by decide +kernel
theorem dX12_close_60 : decode cX12_close 60 = .ok (.putfield 161, 3) := by decide +kernel
theorem dX12_close_63 : decode cX12_close 63 = .ok (.aload_n 0, 1) := by decide +kernel
theorem dX12_close_64 : decode cX12_close 64 = .ok (.dup, 1) := by decide +kernel
theorem dX12_close_65 : decode cX12_close 65 = .ok (.getfield 195, 3) := by decide +kernel
theorem dX12_close_68 : decode cX12_close 68 = .ok (.iconst 1, 1) := by decide +kernel
theorem dX12_close_69 : decode cX12_close 69 = .ok (.isub, 1) := by decide +kernel
theorem dX12_close_70 : decode cX12_close 70 = .ok (.putfield 195, 3) := by decide +kernel
theorem dX12_close_73 : decode cX12_close 73 = .ok (.aload_n 0, 1) := by decide +kernel
theorem dX12_close_74 : decode cX12_close 74 = .ok (.getfield 36, 3) := by decide +kernel
theorem dX12_close_77 : decode cX12_close 77 = .ok (.aload_n 0, 1) := by decide +kernel
theorem dX12_close_78 : decode cX12_close 78 = .ok (.getfield 161, 3) := by decide +kernel
theorem dX12_close_81 : decode cX12_close 81 = .ok (.iaload, 1) := by decide +kernel
theorem dX12_close_82 : decode cX12_close 82 = .ok (.istore_n 1, 1) := by decide +kernel
theorem dX12_close_83 : decode cX12_close 83 = .ok (.aload_n 0, 1) := by decide +kernel
theorem dX12_close_84 : decode cX12_close 84 = .ok (.getfield 144, 3) := by decide +kernel
theorem dX12_close_87 : decode cX12_close 87 = .ok (.iload_n 1, 1) := by decide +kernel
theorem dX12_close_88 : decode cX12_close 88 = .ok (.if_icmp .ne 7, 3) := by decide +kernel
theorem dX12_close_91 : decode cX12_close 91 = .ok (.iconst 0, 1) := by decide +kernel
theorem dX12_close_92 : decode cX12_close 92 = .ok (.goto 14, 3) := by decide +kernel
theorem dX12_close_95 : decode cX12_close 95 = .ok (.aload_n 0, 1) := by decide +kernel
theorem dX12_close_96 : decode cX12_close 96 = .ok (.getfield 39, 3) := by decide +kernel
theorem dX12_close_99 : decode cX12_close 99 = .ok (.aload_n 0, 1) := by decide +kernel
theorem dX12_close_100 : decode cX12_close 100 = .ok (.getfield 161, 3) := by decide +kernel
theorem dX12_close_103 : decode cX12_close 103 = .ok (.iaload, 1) := by decide +kernel
theorem dX12_close_104 : decode cX12_close 104 = .ok (.iconst 1, 1) := by decide +kernel
theorem dX12_close_105 : decode cX12_close 105 = .ok (.iadd, 1) := by decide +kernel
theorem dX12_close_106 : decode cX12_close 106 = .ok (.istore_n 2, 1) := by decide +kernel
theorem dX12_close_107 : decode cX12_close 107 = .ok (.aload_n 0, 1) := by decide +kernel
theorem dX12_close_108 : decode cX12_close 108 = .ok (.aload_n 0, 1) := by decide +kernel
theorem dX12_close_109 : decode cX12_close 109 = .ok (.getfield 164, 3) := by decide +kernel
theorem dX12_close_112 : decode cX12_close 112 = .ok (.iload_n 2, 1) := by decide +kernel
theorem dX12_close_113 : decode cX12_close 113 = .ok (.isub, 1) := by decide +kernel
theorem dX12_close_114 : decode cX12_close 114 = .ok (.putfield 164, 3) := by decide +kernel
theorem dX12_close_117 : decode cX12_close 117 = .ok (.aload_n 0, 1) := by decide +kernel
theorem dX12_close_118 : decode cX12_close 118 = .ok (.iload_n 1, 1) := by decide +kernel
theorem dX12_close_119 : decode cX12_close 119 = .ok (.invokevirtual 192, 3) := by decide +kernel
theorem dX12_close_122 : decode cX12_close 122 = .ok (.aload_n 0, 1) := by decide +kernel
theorem dX12_close_123 : decode cX12_close 123 = .ok (.bipush 9, 2) := by decide +kernel
theorem dX12_close_125 : decode cX12_close 125 = .ok (.aload_n 0, 1) := by decide +kernel
end
section
theorem dX12_close_126 : decode cX12_close 126 = .ok (.getfield 42, 3) := by decide +kernel
theorem dX12_close_129 : decode cX12_close 129 = .ok (.aload_n 0, 1) := by decide +kernel
theorem dX12_close_130 : decode cX12_close 130 = .ok (.getfield 161, 3) := by decide +kernel
theorem dX12_close_133 : decode cX12_close 133 = .ok (.laload, 1) := by decide +kernel
theorem dX12_close_134 : decode cX12_close 134 = .ok (.iconst 2, 1) := by decide +kernel
theorem dX12_close_135 : decode cX12_close 135 = .ok (.lshl, 1) := by decide +kernel
theorem dX12_close_136 : decode cX12_close 136 = .ok (.iload_n 2, 1) := by decide +kernel
theorem dX12_close_137 : decode cX12_close 137 = .ok (.i2l, 1) := by decide +kernel
theorem dX12_close_138 : decode cX12_close 138 = .ok (.lor, 1) := by decide +kernel
theorem dX12_close_139 : decode cX12_close 139 = .ok (.invokevirtual 167, 3) := by decide +kernel
theorem dX12_close_142 : decode cX12_close 142 = .ok (.aload_n 0, 1) := by decide +kernel
theorem dX12_close_143 : decode cX12_close 143 = .ok (.dup, 1) := by decide +kernel
theorem dX12_close_144 : decode cX12_close 144 = .ok (.getfield 147, 3) := by decide +kernel
theorem dX12_close_147 : decode cX12_close 147 = .ok (.iconst 1, 1) := by decide +kernel
theorem dX12_close_148 : decode cX12_close 148 = .ok (.iadd, 1) := by decide +kernel
theorem dX12_close_149 : decode cX12_close 149 = .ok (.putfield 147, 3) := by decide +kernel
theorem dX12_close_152 : decode cX12_close 152 = .ok (.goto 12, 3) := by decide +kernel
theorem dX12_close_155 : decode cX12_close 155 = .ok (.aload_n 0, 1) := by decide +kernel
theorem dX12_close_156 : decode cX12_close 156 = .ok (.iconst 1, 1) := by decide +kernel
theorem dX12_close_157 : decode cX12_close 157 = .ok (.aload_n 0, 1) := by decide +kernel
theorem dX12_close_158 : decode cX12_close 158 = .ok (.getfield 147, 3) := by decide +kernel
theorem dX12_close_161 : decode cX12_close 161 = .ok (.invokevirtual 157, 3) := by decide +kernel
theorem dX12_close_164 : decode cX12_close 164 = .ok (.return_, 1) := by decide +kernel
theorem dX12_between_0 : decode cX12_between 0 = .ok (.iload_n 1, 1) := by decide +kernel
theorem dX12_between_1 : decode cX12_between 1 = .ok (.iconst 3, 1) := by decide +kernel
theorem dX12_between_2 : decode cX12_between 2 = .ok (.if_icmp .ne 26, 3) := by decide +kernel
theorem dX12_between_5 : decode cX12_between 5 = .ok (.aload_n 0, 1) := by decide +kernel
theorem dX12_between_6 : decode cX12_between 6 = .ok (.iconst 4, 1) := by decide +kernel
theorem dX12_between_7 : decode cX12_between 7 = .ok (.invokevirtual 174, 3) := by decide +kernel
theorem dX12_between_10 : decode cX12_between 10 = .ok (.aload_n 0, 1) := by decide +kernel
theorem dX12_between_11 : decode cX12_between 11 = .ok (.invokevirtual 218, 3) := by decide +kernel
theorem dX12_between_14 : decode cX12_between 14 = .ok (.iconst 3, 1) := by decide +kernel
theorem dX12_between_15 : decode cX12_between 15 = .ok (.if_icmp .ne 18, 3) := by decide +kernel
theorem dX12_between_18 : decode cX12_between 18 = .ok (.aload_n 0, 1) := by decide +kernel
theorem dX12_between_19 : decode cX12_between 19 = .ok (.iconst 1, 1) := by decide +kernel
theorem dX12_between_20 : decode cX12_between 20 = .ok (.aload_n 0, 1) := by decide +kernel
theorem dX12_between_21 : decode cX12_between 21 = .ok (.getfield 147, 3) := by decide +kernel
theorem dX12_between_24 : decode cX12_between 24 = .ok (.invokevirtual 157, 3) := by decide +kernel
theorem dX12_between_27 : decode cX12_between 27 = .ok (.return_, 1) := by decide +kernel
theorem dX12_between_28 : decode cX12_between 28 = .ok (.aload_n 0, 1) := by decide +kernel
theorem dX12_between_29 : decode cX12_between 29 = .ok (.iload_n 1, 1) := by decide +kernel
theorem dX12_between_30 : decode cX12_between 30 = .ok (.invokevirtual 174, 3) := by decide +kernel
theorem dX12_between_33 : decode cX12_between 33 = .ok (.aload_n 0, 1) := by decide +kernel
theorem dX12_between_34 : decode cX12_between 34 = .ok (.aload_n 0, 1) := by decide +kernel
theorem dX12_between_35 : decode cX12_between 35 = .ok (.getfield 147, 3) := by decide +kernel
theorem dX12_between_38 : decode cX12_between 38 = .ok (.invokevirtual 178, 3) := by decide +kernel
theorem dX12_between_41 : decode cX12_between 41 = .ok (.ifCond .eq 20, 3) := by decide +kernel
theorem dX12_between_44 : decode cX12_between 44 = .ok (.aload_n 0, 1) := by decide +kernel
theorem dX12_between_45 : decode cX12_between 45 = .ok (.iload_n 1, 1) := by decide +kernel
theorem dX12_between_46 : decode cX12_between 46 = .ok (.iconst 0, 1) := by decide +kernel
theorem dX12_between_47 : decode cX12_between 47 = .ok (.iload_n 2, 1) := by decide +kernel
theorem dX12_between_48 : decode cX12_between 48 = .ok (.invokevirtual 198, 3) := by decide +kernel
theorem dX12_between_51 : decode cX12_between 51 = .ok (.aload_n 0, 1) := by decide +kernel
theorem dX12_between_52 : decode cX12_between 52 = .ok (.dup, 1) := by decide +kernel
theorem dX12_between_53 : decode cX12_between 53 = .ok (.getfield 147, 3) := by decide +kernel
theorem dX12_between_56 : decode cX12_between 56 = .ok (.iconst 1, 1) := by decide +kernel
theorem dX12_between_57 : decode cX12_between 57 = .ok (.iadd, 1) := by decide +kernel
theorem dX12_between_58 : decode cX12_between 58 = .ok (.putfield 147, 3) := by decide +kernel
theorem dX12_between_61 : decode cX12_between 61 = .ok (.return_, 1) := by decide +kernel
theorem dX12_hash_0 : decode cX12_hash 0 = .ok (.aload_n 0, 1) := by decide +kernel
theorem dX12_hash_1 : decode cX12_hash 1 = .ok (.iconst 1, 1) := by decide +kernel
theorem dX12_hash_2 : decode cX12_hash 2 = .ok (.invokevirtual 174, 3) := by decide +kernel
theorem dX12_hash_5 : decode cX12_hash 5 = .ok (.aload_n 0, 1) := by decide +kernel
theorem dX12_hash_6 : decode cX12_hash 6 = .ok (.aload_n 0, 1) := by decide +kernel
theorem dX12_hash_7 : decode cX12_hash 7 = .ok (.getfield 147, 3) := by decide +kernel
theorem dX12_hash_10 : decode cX12_hash 10 = .ok (.invokevirtual 178, 3) := by decide +kernel
theorem dX12_hash_13 : decode cX12_hash 13 = .ok (.ifCond .ne 4, 3) := by decide +kernel
theorem dX12_hash_16 : decode cX12_hash 16 = .ok (.return_, 1) := by decide +kernel
theorem dX12_hash_17 : decode cX12_hash 17 = .ok (.aload_n 0, 1) := by decide +kernel
theorem dX12_hash_18 : decode cX12_hash 18 = .ok (.getfield 45, 3) := by decide +kernel
theorem dX12_hash_21 : decode cX12_hash 21 = .ok (.aload_n 0, 1) := by decide +kernel
theorem dX12_hash_22 : decode cX12_hash 22 = .ok (.getfield 164, 3) := by decide +kernel
theorem dX12_hash_25 : decode cX12_hash 25 = .ok (.iconst 1, 1) := by decide +kernel
theorem dX12_hash_26 : decode cX12_hash 26 = .ok (.isub, 1) := by decide +kernel
theorem dX12_hash_27 : decode cX12_hash 27 = .ok (.iaload, 1) := by decide +kernel
theorem dX12_hash_28 : decode cX12_hash 28 = .ok (.istore_n 1, 1) := by decide +kernel
theorem dX12_hash_29 : decode cX12_hash 29 = .ok (.bipush 32, 2) := by decide +kernel
theorem dX12_hash_31 : decode cX12_hash 31 = .ok (.invokestatic 141, 3) := by decide +kernel
theorem dX12_hash_34 : decode cX12_hash 34 = .ok (.istore_n 2, 1) := by decide +kernel
theorem dX12_hash_35 : decode cX12_hash 35 = .ok (.aload_n 0, 1) := by decide +kernel
theorem dX12_hash_36 : decode cX12_hash 36 = .ok (.getfield 144, 3) := by decide +kernel
theorem dX12_hash_39 : decode cX12_hash 39 = .ok (.istore_n 3, 1) := by decide +kernel
theorem dX12_hash_40 : decode cX12_hash 40 = .ok (.iload_n 3, 1) := by decide +kernel
theorem dX12_hash_41 : decode cX12_hash 41 = .ok (.iload_n 1, 1) := by decide +kernel
theorem dX12_hash_42 : decode cX12_hash 42 = .ok (.if_icmp .le 45, 3) := by decide +kernel
theorem dX12_hash_45 : decode cX12_hash 45 = .ok (.aload_n 0, 1) := by decide +kernel
theorem dX12_hash_46 : decode cX12_hash 46 = .ok (.getfield 17, 3) := by decide +kernel
theorem dX12_hash_49 : decode cX12_hash 49 = .ok (.iload_n 2, 1) := by decide +kernel
theorem dX12_hash_50 : decode cX12_hash 50 = .ok (.iload_n 3, 1) := by decide +kernel
theorem dX12_hash_51 : decode cX12_hash 51 = .ok (.iadd, 1) := by decide +kernel
theorem dX12_hash_52 : decode cX12_hash 52 = .ok (.aload_n 0, 1) := by decide +kernel
theorem dX12_hash_53 : decode cX12_hash 53 = .ok (.getfield 17, 3) := by decide +kernel
theorem dX12_hash_56 : decode cX12_hash 56 = .ok (.iload_n 2, 1) := by decide +kernel
theorem dX12_hash_57 : decode cX12_hash 57 = .ok (.iload_n 3, 1) := by decide +kernel
theorem dX12_hash_58 : decode cX12_hash 58 = .ok (.iadd, 1) := by decide +kernel
theorem dX12_hash_59 : decode cX12_hash 59 = .ok (.iconst 1, 1) := by decide +kernel
theorem dX12_hash_60 : decode cX12_hash 60 = .ok (.isub, 1) := by decide +kernel
theorem dX12_hash_61 : decode cX12_hash 61 = .ok (.iaload, 1) := by decide +kernel
theorem dX12_hash_62 : decode cX12_hash 62 = .ok (.iastore, 1) := by decide +kernel
theorem dX12_hash_63 : decode cX12_hash 63 = .ok (.aload_n 0, 1) := by decide +kernel
theorem dX12_hash_64 : decode cX12_hash 64 = .ok (.getfield 20, 3) := by decide +kernel
theorem dX12_hash_67 : decode cX12_hash 67 = .ok (.iload_n 2, 1) := by decide +kernel
theorem dX12_hash_68 : decode cX12_hash 68 = .ok (.iload_n 3, 1) := by decide +kernel
theorem dX12_hash_69 : decode cX12_hash 69 = .ok (.iadd, 1) := by decide +kernel
theorem dX12_hash_70 : decode cX12_hash 70 = .ok (.aload_n 0, 1) := by decide +kernel
theorem dX12_hash_71 : decode cX12_hash 71 = .ok (.getfield 20, 3) := by decide +kernel
theorem dX12_hash_74 : decode cX12_hash 74 = .ok (.iload_n 2, 1) := by decide +kernel
theorem dX12_hash_75 : decode cX12_hash 75 = .ok (.iload_n 3, 1) := by decide +kernel
theorem dX12_hash_76 : decode cX12_hash 76 = .ok (.iadd, 1) := by decide +kernel
theorem dX12_hash_77 : decode cX12_hash 77 = .ok (.iconst 1, 1) := by decide +kernel
theorem dX12_hash_78 : decode cX12_hash 78 = .ok (.isub, 1) := by decide +kernel
theorem dX12_hash_79 : decode cX12_hash 79 = .ok (.laload, 1) := by decide +kernel
theorem dX12_hash_80 : decode cX12_hash 80 = .ok (.lastore, 1) := by decide +kernel
theorem dX12_hash_81 : decode cX12_hash 81 = .ok (.iinc 3 (-1), 3) := by decide +kernel
theorem dX12_hash_84 : decode cX12_hash 84 = .ok (.goto (-44), 3) := by decide +kernel
theorem dX12_hash_87 : decode cX12_hash 87 = .ok (.aload_n 0, 1) := by decide +kernel
theorem dX12_hash_88 : decode cX12_hash 88 = .ok (.dup, 1) := by decide +kernel
theorem dX12_hash_89 : decode cX12_hash 89 = .ok (.getfield 144, 3) := by decide +kernel
theorem dX12_hash_92 : decode cX12_hash 92 = .ok (.iconst 1, 1) := by decide +kernel
theorem dX12_hash_93 : decode cX12_hash 93 = .ok (.iadd, 1) := by decide +kernel
theorem dX12_hash_94 : decode cX12_hash 94 = .ok (.putfield 144, 3) := by decide +kernel
theorem dX12_hash_97 : decode cX12_hash 97 = .ok (.aload_n 0, 1) := by decide +kernel
theorem dX12_hash_98 : decode cX12_hash 98 = .ok (.getfield 17, 3) := by decide +kernel
theorem dX12_hash_101 : decode cX12_hash 101 = .ok (.iload_n 2, 1) := by decide +kernel
theorem dX12_hash_102 : decode cX12_hash 102 = .ok (.iload_n 1, 1) := by decide +kernel
theorem dX12_hash_103 : decode cX12_hash 103 = .ok (.iadd, 1) := by decide +kernel
theorem dX12_hash_104 : decode cX12_hash 104 = .ok (.bipush 7, 2) := by decide +kernel
theorem dX12_hash_106 : decode cX12_hash 106 = .ok (.iastore, 1) := by decide +kernel
theorem dX12_hash_107 : decode cX12_hash 107 = .ok (.aload_n 0, 1) := by decide +kernel
theorem dX12_hash_108 : decode cX12_hash 108 = .ok (.getfield 20, 3) := by decide +kernel
theorem dX12_hash_111 : decode cX12_hash 111 = .ok (.iload_n 2, 1) := by decide +kernel
theorem dX12_hash_112 : decode cX12_hash 112 = .ok (.iload_n 1, 1) := by decide +kernel
theorem dX12_hash_113 : decode cX12_hash 113 = .ok (.iadd, 1) := by decide +kernel
theorem dX12_hash_114 : decode cX12_hash 114 = .ok (.aload_n 0, 1) := by decide +kernel
theorem dX12_hash_115 : decode cX12_hash 115 = .ok (.getfield 144, 3) := by decide +kernel
theorem dX12_hash_118 : decode cX12_hash 118 = .ok (.iload_n 1, 1) := by decide +kernel
theorem dX12_hash_119 : decode cX12_hash 119 = .ok (.isub, 1) := by decide +kernel
theorem dX12_hash_120 : decode cX12_hash 120 = .ok (.i2l, 1) := by decide +kernel
theorem dX12_hash_121 : decode cX12_hash 121 = .ok (.lastore, 1) := by decide +kernel
theorem dX12_hash_122 : decode cX12_hash 122 = .ok (.aload_n 0, 1) := by decide +kernel
theorem dX12_hash_123 : decode cX12_hash 123 = .ok (.iconst 1, 1) := by decide +kernel
theorem dX12_hash_124 : decode cX12_hash 124 = .ok (.aload_n 0, 1) := by decide +kernel
theorem dX12_hash_125 : decode cX12_hash 125 = .ok (.getfield 144, 3) := by decide +kernel
theorem dX12_hash_128 : decode cX12_hash 128 = .ok (.iconst 0, 1) := by decide +kernel
theorem dX12_hash_129 : decode cX12_hash 129 = .ok (.invokevirtual 198, 3) := by decide +kernel
theorem dX12_hash_132 : decode cX12_hash 132 = .ok (.aload_n 0, 1) := by decide +kernel
theorem dX12_hash_133 : decode cX12_hash 133 = .ok (.bipush 8, 2) := by decide +kernel
theorem dX12_hash_135 : decode cX12_hash 135 = .ok (.lconst 0, 1) := by decide +kernel
theorem dX12_hash_136 : decode cX12_hash 136 = .ok (.invokevirtual 167, 3) := by decide +kernel
theorem dX12_hash_139 : decode cX12_hash 139 = .ok (.aload_n 0, 1) := by decide +kernel
theorem dX12_hash_140 : decode cX12_hash 140 = .ok (.dup, 1) := by decide +kernel
theorem dX12_hash_141 : decode cX12_hash 141 = .ok (.getfield 147, 3) := by decide +kernel
theorem dX12_hash_144 : decode cX12_hash 144 = .ok (.iconst 1, 1) := by decide +kernel
theorem dX12_hash_145 : decode cX12_hash 145 = .ok (.iadd, 1) := by decide +kernel
theorem dX12_hash_146 : decode cX12_hash 146 = .ok (.putfield 147, 3) := by decide +kernel
theorem dX12_hash_149 : decode cX12_hash 149 = .ok (.return_, 1) := by decide +kernel
theorem dX12_question_0 : decode cX12_question 0 = .ok (.aload_n 0, 1) := by decide +kernel
theorem dX12_question_1 : decode cX12_question 1 = .ok (.iconst 3, 1) := by decide +kernel
theorem dX12_question_2 : decode cX12_question 2 = .ok (.invokevirtual 174, 3) := by decide +kernel
theorem dX12_question_5 : decode cX12_question 5 = .ok (.aload_n 0, 1) := by decide +kernel
theorem dX12_question_6 : decode cX12_question 6 = .ok (.aload_n 0, 1) := by decide +kernel
theorem dX12_question_7 : decode cX12_question 7 = .ok (.getfield 147, 3) := by decide +kernel
theorem dX12_question_10 : decode cX12_question 10 = .ok (.invokevirtual 178, 3) := by decide +kernel
theorem dX12_question_13 : decode cX12_question 13 = .ok (.ifCond .ne 4, 3) := by decide +kernel
theorem dX12_question_16 : decode cX12_question 16 = .ok (.return_, 1) := by decide +kernel
theorem dX12_question_17 : decode cX12_question 17 = .ok (.aload_n 0, 1) := by decide +kernel
theorem dX12_question_18 : decode cX12_question 18 = .ok (.dup, 1) := by decide +kernel
theorem dX12_question_19 : decode cX12_question 19 = .ok (.getfield 164, 3) := by decide +kernel
theorem dX12_question_22 : decode cX12_question 22 = .ok (.iconst 1, 1) := by decide +kernel
theorem dX12_question_23 : decode cX12_question 23 = .ok (.isub, 1) := by decide +kernel
theorem dX12_question_24 : decode cX12_question 24 = .ok (.putfield 164, 3) := by decide +kernel
theorem dX12_question_27 : decode cX12_question 27 = .ok (.aload_n 0, 1) := by decide +kernel
theorem dX12_question_28 : decode cX12_question 28 = .ok (.bipush 7, 2) := by decide +kernel
theorem dX12_question_30 : decode cX12_question 30 = .ok (.aload_n 0, 1) := by decide +kernel
theorem dX12_question_31 : decode cX12_question 31 = .ok (.getfield 144, 3) := by decide +kernel
theorem dX12_question_34 : decode cX12_question 34 = .ok (.aload_n 0, 1) := by decide +kernel
theorem dX12_question_35 : decode cX12_question 35 = .ok (.getfield 45, 3) := by decide +kernel
theorem dX12_question_38 : decode cX12_question 38 = .ok (.aload_n 0, 1) := by decide +kernel
theorem dX12_question_39 : decode cX12_question 39 = .ok (.getfield 164, 3) := by decide +kernel
theorem dX12_question_42 : decode cX12_question 42 = .ok (.iaload, 1) := by decide +kernel
theorem dX12_question_43 : decode cX12_question 43 = .ok (.invokevirtual 198, 3) := by decide +kernel
theorem dX12_question_46 : decode cX12_question 46 = .ok (.aload_n 0, 1) := by decide +kernel
theorem dX12_question_47 : decode cX12_question 47 = .ok (.iconst 5, 1) := by decide +kernel
theorem dX12_question_48 : decode cX12_question 48 = .ok (.lconst 0, 1) := by decide +kernel
theorem dX12_question_49 : decode cX12_question 49 = .ok (.invokevirtual 167, 3) := by decide +kernel
theorem dX12_question_52 : decode cX12_question 52 = .ok (.aload_n 0, 1) := by decide +kernel
theorem dX12_question_53 : decode cX12_question 53 = .ok (.dup, 1) := by decide +kernel
theorem dX12_question_54 : decode cX12_question 54 = .ok (.getfield 147, 3) := by decide +kernel
theorem dX12_question_57 : decode cX12_question 57 = .ok (.iconst 1, 1) := by decide +kernel
theorem dX12_question_58 : decode cX12_question 58 = .ok (.iadd, 1) := by decide +kernel
theorem dX12_question_59 : decode cX12_question 59 = .ok (.putfield 147, 3) := by decide +kernel
theorem dX12_question_62 : decode cX12_question 62 = .ok (.return_, 1) := by decide +kernel
theorem dX12_colon_0 : decode cX12_colon 0 = .ok (.aload_n 0, 1) := by decide +kernel
theorem dX12_colon_1 : decode cX12_colon 1 = .ok (.invokevirtual 235, 3) := by decide +kernel
theorem dX12_colon_4 : decode cX12_colon 4 = .ok (.aload_n 0, 1) := by decide +kernel
theorem dX12_colon_5 : decode cX12_colon 5 = .ok (.invokevirtual 218, 3) := by decide +kernel
theorem dX12_colon_8 : decode cX12_colon 8 = .ok (.bipush 7, 2) := by decide +kernel
theorem dX12_colon_10 : decode cX12_colon 10 = .ok (.if_icmp .eq 13, 3) := by decide +kernel
theorem dX12_colon_13 : decode cX12_colon 13 = .ok (.aload_n 0, 1) := by decide +kernel
theorem dX12_colon_14 : decode cX12_colon 14 = .ok (.iconst 1, 1) := by decide +kernel
theorem dX12_colon_15 : decode cX12_colon 15 = .ok (.aload_n 0, 1) := by decide +kernel
theorem dX12_colon_16 : decode cX12_colon 16 = .ok (.getfield 147, 3) := by decide +kernel
theorem dX12_colon_19 : decode cX12_colon 19 = .ok (.invokevirtual 157, 3) := by decide +kernel
theorem dX12_colon_22 : decode cX12_colon 22 = .ok (.return_, 1) := by decide +kernel
theorem dX12_colon_23 : decode cX12_colon 23 = .ok (.aload_n 0, 1) := by decide +kernel
theorem dX12_colon_24 : decode cX12_colon 24 = .ok (.dup, 1) := by decide +kernel
theorem dX12_colon_25 : decode cX12_colon 25 = .ok (.getfield 161, 3) := by decide +kernel
theorem dX12_colon_28 : decode cX12_colon 28 = .ok (.iconst 1, 1) := by decide +kernel
theorem dX12_colon_29 : decode cX12_colon 29 = .ok (.isub, 1) := by decide +kernel
theorem dX12_colon_30 : decode cX12_colon 30 = .ok (.putfield 161, 3) := by decide +kernel
theorem dX12_colon_33 : decode cX12_colon 33 = .ok (.aload_n 0, 1) := by decide +kernel
theorem dX12_colon_34 : decode cX12_colon 34 = .ok (.getfield 36, 3) := by decide +kernel
theorem dX12_colon_37 : decode cX12_colon 37 = .ok (.aload_n 0, 1) := by decide +kernel
theorem dX12_colon_38 : decode cX12_colon 38 = .ok (.getfield 161, 3) := by decide +kernel
theorem dX12_colon_41 : decode cX12_colon 41 = .ok (.iaload, 1) := by decide +kernel
theorem dX12_colon_42 : decode cX12_colon 42 = .ok (.istore_n 1, 1) := by decide +kernel
theorem dX12_colon_43 : decode cX12_colon 43 = .ok (.aload_n 0, 1) := by decide +kernel
theorem dX12_colon_44 : decode cX12_colon 44 = .ok (.getfield 39, 3) := by decide +kernel
theorem dX12_colon_47 : decode cX12_colon 47 = .ok (.aload_n 0, 1) := by decide +kernel
theorem dX12_colon_48 : decode cX12_colon 48 = .ok (.getfield 161, 3) := by decide +kernel
theorem dX12_colon_51 : decode cX12_colon 51 = .ok (.iaload, 1) := by decide +kernel
theorem dX12_colon_52 : decode cX12_colon 52 = .ok (.istore_n 2, 1) := by decide +kernel
theorem dX12_colon_53 : decode cX12_colon 53 = .ok (.aload_n 0, 1) := by decide +kernel
theorem dX12_colon_54 : decode cX12_colon 54 = .ok (.dup, 1) := by decide +kernel
theorem dX12_colon_55 : decode cX12_colon 55 = .ok (.getfield 164, 3) := by decide +kernel
theorem dX12_colon_58 : decode cX12_colon 58 = .ok (.iconst 1, 1) := by decide +kernel
theorem dX12_colon_59 : decode cX12_colon 59 = .ok (.isub, 1) := by decide +kernel
theorem dX12_colon_60 : decode cX12_colon 60 = .ok (.putfield 164, 3) := by decide +kernel
theorem dX12_colon_63 : decode cX12_colon 63 = .ok (.aload_n 0, 1) := by decide +kernel
theorem dX12_colon_64 : decode cX12_colon 64 = .ok (.iconst 2, 1) := by decide +kernel
theorem dX12_colon_65 : decode cX12_colon 65 = .ok (.aload_n 0, 1) := by decide +kernel
theorem dX12_colon_66 : decode cX12_colon 66 = .ok (.getfield 144, 3) := by decide +kernel
theorem dX12_colon_69 : decode cX12_colon 69 = .ok (.iload_n 2, 1) := by decide +kernel
theorem dX12_colon_70 : decode cX12_colon 70 = .ok (.invokevirtual 198, 3) := by decide +kernel
theorem dX12_colon_73 : decode cX12_colon 73 = .ok (.aload_n 0, 1) := by decide +kernel
theorem dX12_colon_74 : decode cX12_colon 74 = .ok (.bipush 6, 2) := by decide +kernel
theorem dX12_colon_76 : decode cX12_colon 76 = .ok (.lconst 0, 1) := by decide +kernel
theorem dX12_colon_77 : decode cX12_colon 77 = .ok (.invokevirtual 167, 3) := by decide +kernel
theorem dX12_colon_80 : decode cX12_colon 80 = .ok (.aload_n 0, 1) := by decide +kernel
theorem dX12_colon_81 : decode cX12_colon 81 = .ok (.getfield 20, 3) := by decide +kernel
theorem dX12_colon_84 : decode cX12_colon 84 = .ok (.bipush 32, 2) := by decide +kernel
theorem dX12_colon_86 : decode cX12_colon 86 = .ok (.invokestatic 141, 3) := by decide +kernel
theorem dX12_colon_89 : decode cX12_colon 89 = .ok (.iload_n 1, 1) := by decide +kernel
theorem dX12_colon_90 : decode cX12_colon 90 = .ok (.iadd, 1) := by decide +kernel
theorem dX12_colon_91 : decode cX12_colon 91 = .ok (.aload_n 0, 1) := by decide +kernel
theorem dX12_colon_92 : decode cX12_colon 92 = .ok (.getfield 144, 3) := by decide +kernel
theorem dX12_colon_95 : decode cX12_colon 95 = .ok (.iload_n 1, 1) := by decide +kernel
theorem dX12_colon_96 : decode cX12_colon 96 = .ok (.isub, 1) := by decide +kernel
theorem dX12_colon_97 : decode cX12_colon 97 = .ok (.iconst 1, 1) := by decide +kernel
theorem dX12_colon_98 : decode cX12_colon 98 = .ok (.isub, 1) := by decide +kernel
theorem dX12_colon_99 : decode cX12_colon 99 = .ok (.i2l, 1) := by decide +kernel
theorem dX12_colon_100 : decode cX12_colon 100 = .ok (.lastore, 1) := by decide +kernel
theorem dX12_colon_101 : decode cX12_colon 101 = .ok (.aload_n 0, 1) := by decide +kernel
theorem dX12_colon_102 : decode cX12_colon 102 = .ok (.dup, 1) := by decide +kernel
theorem dX12_colon_103 : decode cX12_colon 103 = .ok (.getfield 147, 3) := by decide +kernel
theorem dX12_colon_106 : decode cX12_colon 106 = .ok (.iconst 1, 1) := by decide +kernel
theorem dX12_colon_107 : decode cX12_colon 107 = .ok (.iadd, 1) := by decide +kernel
theorem dX12_colon_108 : decode cX12_colon 108 = .ok (.putfield 147, 3) := by decide +kernel
theorem dX12_colon_111 : decode cX12_colon 111 = .ok (.return_, 1) := by decide +kernel
theorem dX12_comma_0 : decode cX12_comma 0 = .ok (.aload_n 0, 1) := by decide +kernel
theorem dX12_comma_1 : decode cX12_comma 1 = .ok (.invokevirtual 235, 3) := by decide +kernel
theorem dX12_comma_4 : decode cX12_comma 4 = .ok (.aload_n 0, 1) := by decide +kernel
theorem dX12_comma_5 : decode cX12_comma 5 = .ok (.invokevirtual 218, 3) := by decide +kernel
theorem dX12_comma_8 : decode cX12_comma 8 = .ok (.bipush 8, 2) := by decide +kernel
theorem dX12_comma_10 : decode cX12_comma 10 = .ok (.if_icmp .eq 13, 3) := by decide +kernel
theorem dX12_comma_13 : decode cX12_comma 13 = .ok (.aload_n 0, 1) := by decide +kernel
theorem dX12_comma_14 : decode cX12_comma 14 = .ok (.iconst 1, 1) := by decide +kernel
theorem dX12_comma_15 : decode cX12_comma 15 = .ok (.aload_n 0, 1) := by decide +kernel
theorem dX12_comma_16 : decode cX12_comma 16 = .ok (.getfield 147, 3) := by decide +kernel
theorem dX12_comma_19 : decode cX12_comma 19 = .ok (.invokevirtual 157, 3) := by decide +kernel
theorem dX12_comma_22 : decode cX12_comma 22 = .ok (.return_, 1) := by decide +kernel
theorem dX12_comma_23 : decode cX12_comma 23 = .ok (.aload_n 0, 1) := by decide +kernel
theorem dX12_comma_24 : decode cX12_comma 24 = .ok (.getfield 39, 3) := by decide +kernel
theorem dX12_comma_27 : decode cX12_comma 27 = .ok (.aload_n 0, 1) := by decide +kernel
theorem dX12_comma_28 : decode cX12_comma 28 = .ok (.getfield 161, 3) := by decide +kernel
theorem dX12_comma_31 : decode cX12_comma 31 = .ok (.iconst 1, 1) := by decide +kernel
theorem dX12_comma_32 : decode cX12_comma 32 = .ok (.isub, 1) := by decide +kernel
theorem dX12_comma_33 : decode cX12_comma 33 = .ok (.dup2, 1) := by decide +kernel
theorem dX12_comma_34 : decode cX12_comma 34 = .ok (.iaload, 1) := by decide +kernel
theorem dX12_comma_35 : decode cX12_comma 35 = .ok (.iconst 1, 1) := by decide +kernel
theorem dX12_comma_36 : decode cX12_comma 36 = .ok (.iadd, 1) := by decide +kernel
theorem dX12_comma_37 : decode cX12_comma 37 = .ok (.iastore, 1) := by decide +kernel
theorem dX12_comma_38 : decode cX12_comma 38 = .ok (.aload_n 0, 1) := by decide +kernel
theorem dX12_comma_39 : decode cX12_comma 39 = .ok (.dup, 1) := by decide +kernel
theorem dX12_comma_40 : decode cX12_comma 40 = .ok (.getfield 147, 3) := by decide +kernel
theorem dX12_comma_43 : decode cX12_comma 43 = .ok (.iconst 1, 1) := by decide +kernel
theorem dX12_comma_44 : decode cX12_comma 44 = .ok (.iadd, 1) := by decide +kernel
theorem dX12_comma_45 : decode cX12_comma 45 = .ok (.putfield 147, 3) := by decide +kernel
theorem dX12_comma_48 : decode cX12_comma 48 = .ok (.return_, 1) := by decide +kernel
theorem dX12_readSign_0 : decode cX12_readSign 0 = .ok (.aload_n 0, 1) := by decide +kernel
theorem dX12_readSign_1 : decode cX12_readSign 1 = .ok (.aload_n 0, 1) := by decide +kernel
theorem dX12_readSign_2 : decode cX12_readSign 2 = .ok (.getfield 147, 3) := by decide +kernel
theorem dX12_readSign_5 : decode cX12_readSign 5 = .ok (.invokevirtual 130, 3) := by decide +kernel
theorem dX12_readSign_8 : decode cX12_readSign 8 = .ok (.istore_n 1, 1) := by decide +kernel
theorem dX12_readSign_9 : decode cX12_readSign 9 = .ok (.iload_n 1, 1) := by decide +kernel
theorem dX12_readSign_10 : decode cX12_readSign 10 = .ok (.bipush 35, 2) := by decide +kernel
theorem dX12_readSign_12 : decode cX12_readSign 12 = .ok (.if_icmp .ne 10, 3) := by decide +kernel
theorem dX12_readSign_15 : decode cX12_readSign 15 = .ok (.aload_n 0, 1) := by decide +kernel
theorem dX12_readSign_16 : decode cX12_readSign 16 = .ok (.invokevirtual 238, 3) := by decide +kernel
theorem dX12_readSign_19 : decode cX12_readSign 19 = .ok (.goto 138, 3) := by decide +kernel
theorem dX12_readSign_22 : decode cX12_readSign 22 = .ok (.iload_n 1, 1) := by decide +kernel
theorem dX12_readSign_23 : decode cX12_readSign 23 = .ok (.bipush 63, 2) := by decide +kernel
theorem dX12_readSign_25 : decode cX12_readSign 25 = .ok (.if_icmp .ne 10, 3) := by decide +kernel
theorem dX12_readSign_28 : decode cX12_readSign 28 = .ok (.aload_n 0, 1) := by decide +kernel
theorem dX12_readSign_29 : decode cX12_readSign 29 = .ok (.invokevirtual 241, 3) := by decide +kernel
theorem dX12_readSign_32 : decode cX12_readSign 32 = .ok (.goto 125, 3) := by decide +kernel
theorem dX12_readSign_35 : decode cX12_readSign 35 = .ok (.iload_n 1, 1) := by decide +kernel
theorem dX12_readSign_36 : decode cX12_readSign 36 = .ok (.bipush 58, 2) := by decide +kernel
theorem dX12_readSign_38 : decode cX12_readSign 38 = .ok (.if_icmp .ne 10, 3) := by decide +kernel
theorem dX12_readSign_41 : decode cX12_readSign 41 = .ok (.aload_n 0, 1) := by decide +kernel
theorem dX12_readSign_42 : decode cX12_readSign 42 = .ok (.invokevirtual 244, 3) := by decide +kernel
theorem dX12_readSign_45 : decode cX12_readSign 45 = .ok (.goto 112, 3) := by decide +kernel
theorem dX12_readSign_48 : decode cX12_readSign 48 = .ok (.iload_n 1, 1) := by decide +kernel
theorem dX12_readSign_49 : decode cX12_readSign 49 = .ok (.bipush 60, 2) := by decide +kernel
theorem dX12_readSign_51 : decode cX12_readSign 51 = .ok (.if_icmp .eq 15, 3) := by decide +kernel
theorem dX12_readSign_54 : decode cX12_readSign 54 = .ok (.iload_n 1, 1) := by decide +kernel
theorem dX12_readSign_55 : decode cX12_readSign 55 = .ok (.bipush 61, 2) := by decide +kernel
theorem dX12_readSign_57 : decode cX12_readSign 57 = .ok (.if_icmp .eq 9, 3) := by decide +kernel
theorem dX12_readSign_60 : decode cX12_readSign 60 = .ok (.iload_n 1, 1) := by decide +kernel
theorem dX12_readSign_61 : decode cX12_readSign 61 = .ok (.bipush 62, 2) := by decide +kernel
theorem dX12_readSign_63 : decode cX12_readSign 63 = .ok (.if_icmp .ne 12, 3) := by decide +kernel
theorem dX12_readSign_66 : decode cX12_readSign 66 = .ok (.aload_n 0, 1) := by decide +kernel
theorem dX12_readSign_67 : decode cX12_readSign 67 = .ok (.iconst 3, 1) := by decide +kernel
theorem dX12_readSign_68 : decode cX12_readSign 68 = .ok (.iload_n 1, 1) := by decide +kernel
theorem dX12_readSign_69 : decode cX12_readSign 69 = .ok (.invokevirtual 247, 3) := by decide +kernel
theorem dX12_readSign_72 : decode cX12_readSign 72 = .ok (.goto 85, 3) := by decide +kernel
theorem dX12_readSign_75 : decode cX12_readSign 75 = .ok (.iload_n 1, 1) := by decide +kernel
theorem dX12_readSign_76 : decode cX12_readSign 76 = .ok (.bipush 43, 2) := by decide +kernel
theorem dX12_readSign_78 : decode cX12_readSign 78 = .ok (.if_icmp .eq 9, 3) := by decide +kernel
theorem dX12_readSign_81 : decode cX12_readSign 81 = .ok (.iload_n 1, 1) := by decide +kernel
theorem dX12_readSign_82 : decode cX12_readSign 82 = .ok (.bipush 45, 2) := by decide +kernel
theorem dX12_readSign_84 : decode cX12_readSign 84 = .ok (.if_icmp .ne 12, 3) := by decide +kernel
theorem dX12_readSign_87 : decode cX12_readSign 87 = .ok (.aload_n 0, 1) := by decide +kernel
theorem dX12_readSign_88 : decode cX12_readSign 88 = .ok (.iconst 4, 1) := by decide +kernel
theorem dX12_readSign_89 : decode cX12_readSign 89 = .ok (.iload_n 1, 1) := by decide +kernel
theorem dX12_readSign_90 : decode cX12_readSign 90 = .ok (.invokevirtual 247, 3) := by decide +kernel
theorem dX12_readSign_93 : decode cX12_readSign 93 = .ok (.goto 64, 3) := by decide +kernel
theorem dX12_readSign_96 : decode cX12_readSign 96 = .ok (.iload_n 1, 1) := by decide +kernel
theorem dX12_readSign_97 : decode cX12_readSign 97 = .ok (.bipush 42, 2) := by decide +kernel
theorem dX12_readSign_99 : decode cX12_readSign 99 = .ok (.if_icmp .eq 15, 3) := by decide +kernel
theorem dX12_readSign_102 : decode cX12_readSign 102 = .ok (.iload_n 1, 1) := by decide +kernel
theorem dX12_readSign_103 : decode cX12_readSign 103 = .ok (.bipush 47, 2) := by decide +kernel
theorem dX12_readSign_105 : decode cX12_readSign 105 = .ok (.if_icmp .eq 9, 3) := by decide +kernel
theorem dX12_readSign_108 : decode cX12_readSign 108 = .ok (.iload_n 1, 1) := by decide +kernel
theorem dX12_readSign_109 : decode cX12_readSign 109 = .ok (.bipush 37, 2) := by decide +kernel
theorem dX12_readSign_111 : decode cX12_readSign 111 = .ok (.if_icmp .ne 12, 3) := by decide +kernel
theorem dX12_readSign_114 : decode cX12_readSign 114 = .ok (.aload_n 0, 1) := by decide +kernel
theorem dX12_readSign_115 : decode cX12_readSign 115 = .ok (.iconst 5, 1) := by decide +kernel
theorem dX12_readSign_116 : decode cX12_readSign 116 = .ok (.iload_n 1, 1) := by decide +kernel
theorem dX12_readSign_117 : decode cX12_readSign 117 = .ok (.invokevirtual 247, 3) := by decide +kernel
theorem dX12_readSign_120 : decode cX12_readSign 120 = .ok (.goto 37, 3) := by decide +kernel
theorem dX12_readSign_123 : decode cX12_readSign 123 = .ok (.iload_n 1, 1) := by decide +kernel
theorem dX12_readSign_124 : decode cX12_readSign 124 = .ok (.bipush 44, 2) := by decide +kernel
theorem dX12_readSign_126 : decode cX12_readSign 126 = .ok (.if_icmp .ne 10, 3) := by decide +kernel
theorem dX12_readSign_129 : decode cX12_readSign 129 = .ok (.aload_n 0, 1) := by decide +kernel
theorem dX12_readSign_130 : decode cX12_readSign 130 = .ok (.invokevirtual 250, 3) := by decide +kernel
theorem dX12_readSign_133 : decode cX12_readSign 133 = .ok (.goto 24, 3) := by decide +kernel
theorem dX12_readSign_136 : decode cX12_readSign 136 = .ok (.iload_n 1, 1) := by decide +kernel
theorem dX12_readSign_137 : decode cX12_readSign 137 = .ok (.bipush 41, 2) := by decide +kernel
theorem dX12_readSign_139 : decode cX12_readSign 139 = .ok (.if_icmp .ne 9, 3) := by decide +kernel
theorem dX12_readSign_142 : decode cX12_readSign 142 = .ok (.aload_n 0, 1) := by decide +kernel
theorem dX12_readSign_143 : decode cX12_readSign 143 = .ok (.invokevirtual 226, 3) := by decide +kernel
theorem dX12_readSign_146 : decode cX12_readSign 146 = .ok (.iconst 0, 1) := by decide +kernel
theorem dX12_readSign_147 : decode cX12_readSign 147 = .ok (.ireturn, 1) := by decide +kernel
theorem dX12_readSign_148 : decode cX12_readSign 148 = .ok (.aload_n 0, 1) := by decide +kernel
theorem dX12_readSign_149 : decode cX12_readSign 149 = .ok (.iconst 1, 1) := by decide +kernel
theorem dX12_readSign_150 : decode cX12_readSign 150 = .ok (.aload_n 0, 1) := by decide +kernel
theorem dX12_readSign_151 : decode cX12_readSign 151 = .ok (.getfield 147, 3) := by decide +kernel
theorem dX12_readSign_154 : decode cX12_readSign 154 = .ok (.invokevirtual 157, 3) := by decide +kernel
theorem dX12_readSign_157 : decode cX12_readSign 157 = .ok (.iconst 1, 1) := by decide +kernel
theorem dX12_readSign_158 : decode cX12_readSign 158 = .ok (.ireturn, 1) := by decide +kernel
theorem dX12_readExpression_0 : decode cX12_readExpression 0 = .ok (.aload_n 0, 1) := by decide +kernel
theorem dX12_readExpression_1 : decode cX12_readExpression 1 = .ok (.iconst 0, 1) := by decide +kernel
theorem dX12_readExpression_2 : decode cX12_readExpression 2 = .ok (.putfield 144, 3) := by decide +kernel
theorem dX12_readExpression_5 : decode cX12_readExpression 5 = .ok (.aload_n 0, 1) := by decide +kernel
theorem dX12_readExpression_6 : decode cX12_readExpression 6 = .ok (.iconst 0, 1) := by decide +kernel
theorem dX12_readExpression_7 : decode cX12_readExpression 7 = .ok (.putfield 154, 3) := by decide +kernel
theorem dX12_readExpression_10 : decode cX12_readExpression 10 = .ok (.aload_n 0, 1) := by decide +kernel
theorem dX12_readExpression_11 : decode cX12_readExpression 11 = .ok (.iconst 0, 1) := by decide +kernel
theorem dX12_readExpression_12 : decode cX12_readExpression 12 = .ok (.putfield 161, 3) := by decide +kernel
theorem dX12_readExpression_15 : decode cX12_readExpression 15 = .ok (.aload_n 0, 1) := by decide +kernel
theorem dX12_readExpression_16 : decode cX12_readExpression 16 = .ok (.iconst 0, 1) := by decide +kernel
theorem dX12_readExpression_17 : decode cX12_readExpression 17 = .ok (.putfield 164, 3) := by decide +kernel
theorem dX12_readExpression_20 : decode cX12_readExpression 20 = .ok (.aload_n 0, 1) := by decide +kernel
theorem dX12_readExpression_21 : decode cX12_readExpression 21 = .ok (.iconst 0, 1) := by decide +kernel
theorem dX12_readExpression_22 : decode cX12_readExpression 22 = .ok (.putfield 195, 3) := by decide +kernel
theorem dX12_readExpression_25 : decode cX12_readExpression 25 = .ok (.iconst 1, 1) := by decide +kernel
theorem dX12_readExpression_26 : decode cX12_readExpression 26 = .ok (.istore_n 1, 1) := by decide +kernel
theorem dX12_readExpression_27 : decode cX12_readExpression 27 = .ok (.iconst (-1), 1) := by decide +kernel
theorem dX12_readExpression_28 : decode cX12_readExpression 28 = .ok (.istore_n 2, 1) := by decide +kernel
theorem dX12_readExpression_29 : decode cX12_readExpression 29 = .ok (.aload_n 0, 1) := by decide +kernel
theorem dX12_readExpression_30 : decode cX12_readExpression 30 = .ok (.getfield 123, 3) := by decide +kernel
theorem dX12_readExpression_33 : decode cX12_readExpression 33 = .ok (.ifCond .ne 86, 3) := by decide +kernel
theorem dX12_readExpression_36 : decode cX12_readExpression 36 = .ok (.iload_n 1, 1) := by decide +kernel
theorem dX12_readExpression_37 : decode cX12_readExpression 37 = .ok (.ifCond .ne 10, 3) := by decide +kernel
theorem dX12_readExpression_40 : decode cX12_readExpression 40 = .ok (.aload_n 0, 1) := by decide +kernel
theorem dX12_readExpression_41 : decode cX12_readExpression 41 = .ok (.invokevirtual 222, 3) := by decide +kernel
theorem dX12_readExpression_44 : decode cX12_readExpression 44 = .ok (.ifCond .ne 75, 3) := by decide +kernel
theorem dX12_readExpression_47 : decode cX12_readExpression 47 = .ok (.iload_n 1, 1) := by decide +kernel
theorem dX12_readExpression_48 : decode cX12_readExpression 48 = .ok (.ifCond .eq 63, 3) := by decide +kernel
theorem dX12_readExpression_51 : decode cX12_readExpression 51 = .ok (.aload_n 0, 1) := by decide +kernel
theorem dX12_readExpression_52 : decode cX12_readExpression 52 = .ok (.invokevirtual 218, 3) := by decide +kernel
theorem dX12_readExpression_55 : decode cX12_readExpression 55 = .ok (.bipush 8, 2) := by decide +kernel
theorem dX12_readExpression_57 : decode cX12_readExpression 57 = .ok (.if_icmp .ne 30, 3) := by decide +kernel
theorem dX12_readExpression_60 : decode cX12_readExpression 60 = .ok (.aload_n 0, 1) := by decide +kernel
theorem dX12_readExpression_61 : decode cX12_readExpression 61 = .ok (.aload_n 0, 1) := by decide +kernel
theorem dX12_readExpression_62 : decode cX12_readExpression 62 = .ok (.getfield 147, 3) := by decide +kernel
theorem dX12_readExpression_65 : decode cX12_readExpression 65 = .ok (.iconst 1, 1) := by decide +kernel
theorem dX12_readExpression_66 : decode cX12_readExpression 66 = .ok (.isub, 1) := by decide +kernel
theorem dX12_readExpression_67 : decode cX12_readExpression 67 = .ok (.invokevirtual 130, 3) := by decide +kernel
theorem dX12_readExpression_70 : decode cX12_readExpression 70 = .ok (.bipush 40, 2) := by decide +kernel
theorem dX12_readExpression_72 : decode cX12_readExpression 72 = .ok (.if_icmp .ne 15, 3) := by decide +kernel
theorem dX12_readExpression_75 : decode cX12_readExpression 75 = .ok (.iload_n 2, 1) := by decide +kernel
theorem dX12_readExpression_76 : decode cX12_readExpression 76 = .ok (.aload_n 0, 1) := by decide +kernel
theorem dX12_readExpression_77 : decode cX12_readExpression 77 = .ok (.getfield 147, 3) := by decide +kernel
theorem dX12_readExpression_80 : decode cX12_readExpression 80 = .ok (.if_icmp .eq 7, 3) := by decide +kernel
theorem dX12_readExpression_83 : decode cX12_readExpression 83 = .ok (.iconst 1, 1) := by decide +kernel
theorem dX12_readExpression_84 : decode cX12_readExpression 84 = .ok (.goto 4, 3) := by decide +kernel
theorem dX12_readExpression_87 : decode cX12_readExpression 87 = .ok (.iconst 0, 1) := by decide +kernel
theorem dX12_readExpression_88 : decode cX12_readExpression 88 = .ok (.istore_n 3, 1) := by decide +kernel
theorem dX12_readExpression_89 : decode cX12_readExpression 89 = .ok (.aload_n 0, 1) := by decide +kernel
theorem dX12_readExpression_90 : decode cX12_readExpression 90 = .ok (.getfield 147, 3) := by decide +kernel
theorem dX12_readExpression_93 : decode cX12_readExpression 93 = .ok (.istore_n 2, 1) := by decide +kernel
theorem dX12_readExpression_94 : decode cX12_readExpression 94 = .ok (.aload_n 0, 1) := by decide +kernel
theorem dX12_readExpression_95 : decode cX12_readExpression 95 = .ok (.iload_n 3, 1) := by decide +kernel
theorem dX12_readExpression_96 : decode cX12_readExpression 96 = .ok (.invokevirtual 253, 3) := by decide +kernel
theorem dX12_readExpression_99 : decode cX12_readExpression 99 = .ok (.ifCond .ne 7, 3) := by decide +kernel
theorem dX12_readExpression_102 : decode cX12_readExpression 102 = .ok (.iconst 1, 1) := by decide +kernel
theorem dX12_readExpression_103 : decode cX12_readExpression 103 = .ok (.goto 4, 3) := by decide +kernel
theorem dX12_readExpression_106 : decode cX12_readExpression 106 = .ok (.iconst 0, 1) := by decide +kernel
theorem dX12_readExpression_107 : decode cX12_readExpression 107 = .ok (.istore_n 1, 1) := by decide +kernel
theorem dX12_readExpression_108 : decode cX12_readExpression 108 = .ok (.goto (-79), 3) := by decide +kernel
theorem dX12_readExpression_111 : decode cX12_readExpression 111 = .ok (.aload_n 0, 1) := by decide +kernel
theorem dX12_readExpression_112 : decode cX12_readExpression 112 = .ok (.invokevirtual 257, 3) := by decide +kernel
theorem dX12_readExpression_115 : decode cX12_readExpression 115 = .ok (.istore_n 1, 1) := by decide +kernel
theorem dX12_readExpression_116 : decode cX12_readExpression 116 = .ok (.goto (-87), 3) := by decide +kernel
theorem dX12_readExpression_119 : decode cX12_readExpression 119 = .ok (.aload_n 0, 1) := by decide +kernel
theorem dX12_readExpression_120 : decode cX12_readExpression 120 = .ok (.getfield 123, 3) := by decide +kernel
theorem dX12_readExpression_123 : decode cX12_readExpression 123 = .ok (.ifCond .ne 23, 3) := by decide +kernel
theorem dX12_readExpression_126 : decode cX12_readExpression 126 = .ok (.aload_n 0, 1) := by decide +kernel
theorem dX12_readExpression_127 : decode cX12_readExpression 127 = .ok (.invokevirtual 235, 3) := by decide +kernel
theorem dX12_readExpression_130 : decode cX12_readExpression 130 = .ok (.aload_n 0, 1) := by decide +kernel
theorem dX12_readExpression_131 : decode cX12_readExpression 131 = .ok (.getfield 161, 3) := by decide +kernel
theorem dX12_readExpression_134 : decode cX12_readExpression 134 = .ok (.ifCond .le 12, 3) := by decide +kernel
theorem dX12_readExpression_137 : decode cX12_readExpression 137 = .ok (.aload_n 0, 1) := by decide +kernel
theorem dX12_readExpression_138 : decode cX12_readExpression 138 = .ok (.iconst 1, 1) := by decide +kernel
theorem dX12_readExpression_139 : decode cX12_readExpression 139 = .ok (.aload_n 0, 1) := by decide +kernel
theorem dX12_readExpression_140 : decode cX12_readExpression 140 = .ok (.getfield 147, 3) := by decide +kernel
theorem dX12_readExpression_143 : decode cX12_readExpression 143 = .ok (.invokevirtual 157, 3) := by decide +kernel
theorem dX12_readExpression_146 : decode cX12_readExpression 146 = .ok (.return_, 1) := by decide +kernel
theorem dX12_keepExpression_0 : decode cX12_keepExpression 0 = .ok (.iconst 0, 1) := by decide +kernel
theorem dX12_keepExpression_1 : decode cX12_keepExpression 1 = .ok (.istore_n 2, 1) := by decide +kernel
theorem dX12_keepExpression_2 : decode cX12_keepExpression 2 = .ok (.iload_n 2, 1) := by decide +kernel
theorem dX12_keepExpression_3 : decode cX12_keepExpression 3 = .ok (.aload_n 0, 1) := by decide +kernel
theorem dX12_keepExpression_4 : decode cX12_keepExpression 4 = .ok (.getfield 144, 3) := by decide +kernel
theorem dX12_keepExpression_7 : decode cX12_keepExpression 7 = .ok (.if_icmp .ge 55, 3) := by decide +kernel
theorem dX12_keepExpression_10 : decode cX12_keepExpression 10 = .ok (.aload_n 0, 1) := by decide +kernel
theorem dX12_keepExpression_11 : decode cX12_keepExpression 11 = .ok (.getfield 17, 3) := by decide +kernel
theorem dX12_keepExpression_14 : decode cX12_keepExpression 14 = .ok (.iload_n 1, 1) := by decide +kernel
theorem dX12_keepExpression_15 : decode cX12_keepExpression 15 = .ok (.invokestatic 141, 3) := by decide +kernel
theorem dX12_keepExpression_18 : decode cX12_keepExpression 18 = .ok (.iload_n 2, 1) := by decide +kernel
theorem dX12_keepExpression_19 : decode cX12_keepExpression 19 = .ok (.iadd, 1) := by decide +kernel
theorem dX12_keepExpression_20 : decode cX12_keepExpression 20 = .ok (.aload_n 0, 1) := by decide +kernel
theorem dX12_keepExpression_21 : decode cX12_keepExpression 21 = .ok (.getfield 17, 3) := by decide +kernel
theorem dX12_keepExpression_24 : decode cX12_keepExpression 24 = .ok (.bipush 32, 2) := by decide +kernel
theorem dX12_keepExpression_26 : decode cX12_keepExpression 26 = .ok (.invokestatic 141, 3) := by decide +kernel
theorem dX12_keepExpression_29 : decode cX12_keepExpression 29 = .ok (.iload_n 2, 1) := by decide +kernel
theorem dX12_keepExpression_30 : decode cX12_keepExpression 30 = .ok (.iadd, 1) := by decide +kernel
theorem dX12_keepExpression_31 : decode cX12_keepExpression 31 = .ok (.iaload, 1) := by decide +kernel
theorem dX12_keepExpression_32 : decode cX12_keepExpression 32 = .ok (.iastore, 1) := by decide +kernel
theorem dX12_keepExpression_33 : decode cX12_keepExpression 33 = .ok (.aload_n 0, 1) := by decide +kernel
theorem dX12_keepExpression_34 : decode cX12_keepExpression 34 = .ok (.getfield 20, 3) := by decide +kernel
theorem dX12_keepExpression_37 : decode cX12_keepExpression 37 = .ok (.iload_n 1, 1) := by decide +kernel
theorem dX12_keepExpression_38 : decode cX12_keepExpression 38 = .ok (.invokestatic 141, 3) := by decide +kernel
theorem dX12_keepExpression_41 : decode cX12_keepExpression 41 = .ok (.iload_n 2, 1) := by decide +kernel
theorem dX12_keepExpression_42 : decode cX12_keepExpression 42 = .ok (.iadd, 1) := by decide +kernel
theorem dX12_keepExpression_43 : decode cX12_keepExpression 43 = .ok (.aload_n 0, 1) := by decide +kernel
theorem dX12_keepExpression_44 : decode cX12_keepExpression 44 = .ok (.getfield 20, 3) := by decide +kernel
theorem dX12_keepExpression_47 : decode cX12_keepExpression 47 = .ok (.bipush 32, 2) := by decide +kernel
theorem dX12_keepExpression_49 : decode cX12_keepExpression 49 = .ok (.invokestatic 141, 3) := by decide +kernel
theorem dX12_keepExpression_52 : decode cX12_keepExpression 52 = .ok (.iload_n 2, 1) := by decide +kernel
theorem dX12_keepExpression_53 : decode cX12_keepExpression 53 = .ok (.iadd, 1) := by decide +kernel
theorem dX12_keepExpression_54 : decode cX12_keepExpression 54 = .ok (.laload, 1) := by decide +kernel
theorem dX12_keepExpression_55 : decode cX12_keepExpression 55 = .ok (.lastore, 1) := by decide +kernel
theorem dX12_keepExpression_56 : decode cX12_keepExpression 56 = .ok (.iinc 2 1, 3) := by decide +kernel
theorem dX12_keepExpression_59 : decode cX12_keepExpression 59 = .ok (.goto (-57), 3) := by decide +kernel
theorem dX12_keepExpression_62 : decode cX12_keepExpression 62 = .ok (.aload_n 0, 1) := by decide +kernel
theorem dX12_keepExpression_63 : decode cX12_keepExpression 63 = .ok (.getfield 24, 3) := by decide +kernel
theorem dX12_keepExpression_66 : decode cX12_keepExpression 66 = .ok (.iload_n 1, 1) := by decide +kernel
theorem dX12_keepExpression_67 : decode cX12_keepExpression 67 = .ok (.aload_n 0, 1) := by decide +kernel
theorem dX12_keepExpression_68 : decode cX12_keepExpression 68 = .ok (.getfield 144, 3) := by decide +kernel
theorem dX12_keepExpression_71 : decode cX12_keepExpression 71 = .ok (.iastore, 1) := by decide +kernel
theorem dX12_keepExpression_72 : decode cX12_keepExpression 72 = .ok (.return_, 1) := by decide +kernel
theorem dX12_begin_0 : decode cX12_begin 0 = .ok (.aload_n 0, 1) := by decide +kernel
theorem dX12_begin_1 : decode cX12_begin 1 = .ok (.iconst 0, 1) := by decide +kernel
theorem dX12_begin_2 : decode cX12_begin 2 = .ok (.putfield 115, 3) := by decide +kernel
theorem dX12_begin_5 : decode cX12_begin 5 = .ok (.aload_n 0, 1) := by decide +kernel
theorem dX12_begin_6 : decode cX12_begin 6 = .ok (.iconst 0, 1) := by decide +kernel
theorem dX12_begin_7 : decode cX12_begin 7 = .ok (.putfield 123, 3) := by decide +kernel
theorem dX12_begin_10 : decode cX12_begin 10 = .ok (.aload_n 0, 1) := by decide +kernel
theorem dX12_begin_11 : decode cX12_begin 11 = .ok (.iconst (-1), 1) := by decide +kernel
theorem dX12_begin_12 : decode cX12_begin 12 = .ok (.putfield 13, 3) := by decide +kernel
theorem dX12_begin_15 : decode cX12_begin 15 = .ok (.aload_n 0, 1) := by decide +kernel
theorem dX12_begin_16 : decode cX12_begin 16 = .ok (.iconst 0, 1) := by decide +kernel
theorem dX12_begin_17 : decode cX12_begin 17 = .ok (.putfield 147, 3) := by decide +kernel
theorem dX12_begin_20 : decode cX12_begin 20 = .ok (.return_, 1) := by decide +kernel
theorem dX12_want_0 : decode cX12_want 0 = .ok (.aload_n 0, 1) := by decide +kernel
theorem dX12_want_1 : decode cX12_want 1 = .ok (.getfield 123, 3) := by decide +kernel
theorem dX12_want_4 : decode cX12_want 4 = .ok (.ifCond .ne 37, 3) := by decide +kernel
theorem dX12_want_7 : decode cX12_want 7 = .ok (.aload_n 0, 1) := by decide +kernel
theorem dX12_want_8 : decode cX12_want 8 = .ok (.aload_n 0, 1) := by decide +kernel
theorem dX12_want_9 : decode cX12_want 9 = .ok (.getfield 147, 3) := by decide +kernel
theorem dX12_want_12 : decode cX12_want 12 = .ok (.invokevirtual 130, 3) := by decide +kernel
theorem dX12_want_15 : decode cX12_want 15 = .ok (.iload_n 1, 1) := by decide +kernel
theorem dX12_want_16 : decode cX12_want 16 = .ok (.if_icmp .ne 16, 3) := by decide +kernel
theorem dX12_want_19 : decode cX12_want 19 = .ok (.aload_n 0, 1) := by decide +kernel
theorem dX12_want_20 : decode cX12_want 20 = .ok (.dup, 1) := by decide +kernel
theorem dX12_want_21 : decode cX12_want 21 = .ok (.getfield 147, 3) := by decide +kernel
theorem dX12_want_24 : decode cX12_want 24 = .ok (.iconst 1, 1) := by decide +kernel
theorem dX12_want_25 : decode cX12_want 25 = .ok (.iadd, 1) := by decide +kernel
theorem dX12_want_26 : decode cX12_want 26 = .ok (.putfield 147, 3) := by decide +kernel
theorem dX12_want_29 : decode cX12_want 29 = .ok (.goto 12, 3) := by decide +kernel
theorem dX12_want_32 : decode cX12_want 32 = .ok (.aload_n 0, 1) := by decide +kernel
theorem dX12_want_33 : decode cX12_want 33 = .ok (.iconst 1, 1) := by decide +kernel
theorem dX12_want_34 : decode cX12_want 34 = .ok (.aload_n 0, 1) := by decide +kernel
theorem dX12_want_35 : decode cX12_want 35 = .ok (.getfield 147, 3) := by decide +kernel
theorem dX12_want_38 : decode cX12_want 38 = .ok (.invokevirtual 157, 3) := by decide +kernel
theorem dX12_want_41 : decode cX12_want 41 = .ok (.return_, 1) := by decide +kernel
theorem dX12_findMethod_0 : decode cX12_findMethod 0 = .ok (.iconst 0, 1) := by decide +kernel
theorem dX12_findMethod_1 : decode cX12_findMethod 1 = .ok (.istore 4, 2) := by decide +kernel
theorem dX12_findMethod_3 : decode cX12_findMethod 3 = .ok (.iload 4, 2) := by decide +kernel
theorem dX12_findMethod_5 : decode cX12_findMethod 5 = .ok (.aload_n 0, 1) := by decide +kernel
theorem dX12_findMethod_6 : decode cX12_findMethod 6 = .ok (.getfield 260, 3) := by decide +kernel
theorem dX12_findMethod_9 : decode cX12_findMethod 9 = .ok (.if_icmp .ge 35, 3) := by decide +kernel
theorem dX12_findMethod_12 : decode cX12_findMethod 12 = .ok (.aload_n 0, 1) := by decide +kernel
theorem dX12_findMethod_13 : decode cX12_findMethod 13 = .ok (.getfield 27, 3) := by decide +kernel
theorem dX12_findMethod_16 : decode cX12_findMethod 16 = .ok (.iload 4, 2) := by decide +kernel
theorem dX12_findMethod_18 : decode cX12_findMethod 18 = .ok (.laload, 1) := by decide +kernel
theorem dX12_findMethod_19 : decode cX12_findMethod 19 = .ok (.lload_n 1, 1) := by decide +kernel
theorem dX12_findMethod_20 : decode cX12_findMethod 20 = .ok (.lcmp, 1) := by decide +kernel
theorem dX12_findMethod_21 : decode cX12_findMethod 21 = .ok (.ifCond .ne 17, 3) := by decide +kernel
theorem dX12_findMethod_24 : decode cX12_findMethod 24 = .ok (.aload_n 0, 1) := by decide +kernel
theorem dX12_findMethod_25 : decode cX12_findMethod 25 = .ok (.getfield 30, 3) := by decide +kernel
theorem dX12_findMethod_28 : decode cX12_findMethod 28 = .ok (.iload 4, 2) := by decide +kernel
theorem dX12_findMethod_30 : decode cX12_findMethod 30 = .ok (.iaload, 1) := by decide +kernel
theorem dX12_findMethod_31 : decode cX12_findMethod 31 = .ok (.iload_n 3, 1) := by decide +kernel
theorem dX12_findMethod_32 : decode cX12_findMethod 32 = .ok (.if_icmp .ne 6, 3) := by decide +kernel
theorem dX12_findMethod_35 : decode cX12_findMethod 35 = .ok (.iload 4, 2) := by decide +kernel
theorem dX12_findMethod_37 : decode cX12_findMethod 37 = .ok (.ireturn, 1) := by decide +kernel
theorem dX12_findMethod_38 : decode cX12_findMethod 38 = .ok (.iinc 4 1, 3) := by decide +kernel
theorem dX12_findMethod_41 : decode cX12_findMethod 41 = .ok (.goto (-38), 3) := by decide +kernel
theorem dX12_findMethod_44 : decode cX12_findMethod 44 = .ok (.iconst (-1), 1) := by decide +kernel
theorem dX12_findMethod_45 : decode cX12_findMethod 45 = .ok (.ireturn, 1) := by decide +kernel
theorem dX12_method_0 : decode cX12_method 0 = .ok (.aload_n 0, 1) := by decide +kernel
theorem dX12_method_1 : decode cX12_method 1 = .ok (.invokevirtual 263, 3) := by decide +kernel
theorem dX12_method_4 : decode cX12_method 4 = .ok (.aload_n 0, 1) := by decide +kernel
theorem dX12_method_5 : decode cX12_method 5 = .ok (.iconst 0, 1) := by decide +kernel
theorem dX12_method_6 : decode cX12_method 6 = .ok (.putfield 150, 3) := by decide +kernel
theorem dX12_method_9 : decode cX12_method 9 = .ok (.aload_n 0, 1) := by decide +kernel
theorem dX12_method_10 : decode cX12_method 10 = .ok (.iconst 0, 1) := by decide +kernel
theorem dX12_method_11 : decode cX12_method 11 = .ok (.invokevirtual 205, 3) := by decide +kernel
theorem dX12_method_14 : decode cX12_method 14 = .ok (.istore_n 1, 1) := by decide +kernel
theorem dX12_method_15 : decode cX12_method 15 = .ok (.iload_n 1, 1) := by decide +kernel
theorem dX12_method_16 : decode cX12_method 16 = .ok (.bipush 12, 2) := by decide +kernel
theorem dX12_method_18 : decode cX12_method 18 = .ok (.if_icmp .le 13, 3) := by decide +kernel
theorem dX12_method_21 : decode cX12_method 21 = .ok (.aload_n 0, 1) := by decide +kernel
theorem dX12_method_22 : decode cX12_method 22 = .ok (.iconst 3, 1) := by decide +kernel
theorem dX12_method_23 : decode cX12_method 23 = .ok (.bipush 12, 2) := by decide +kernel
theorem dX12_method_25 : decode cX12_method 25 = .ok (.invokevirtual 157, 3) := by decide +kernel
theorem dX12_method_28 : decode cX12_method 28 = .ok (.goto 18, 3) := by decide +kernel
theorem dX12_method_31 : decode cX12_method 31 = .ok (.aload_n 0, 1) := by decide +kernel
theorem dX12_method_32 : decode cX12_method 32 = .ok (.iconst 0, 1) := by decide +kernel
theorem dX12_method_33 : decode cX12_method 33 = .ok (.iload_n 1, 1) := by decide +kernel
theorem dX12_method_34 : decode cX12_method 34 = .ok (.invokevirtual 211, 3) := by decide +kernel
theorem dX12_method_37 : decode cX12_method 37 = .ok (.ifCond .ne 9, 3) := by decide +kernel
theorem dX12_method_40 : decode cX12_method 40 = .ok (.aload_n 0, 1) := by decide +kernel
theorem dX12_method_41 : decode cX12_method 41 = .ok (.iconst 1, 1) := by decide +kernel
theorem dX12_method_42 : decode cX12_method 42 = .ok (.iconst 0, 1) := by decide +kernel
theorem dX12_method_43 : decode cX12_method 43 = .ok (.invokevirtual 157, 3) := by decide +kernel
theorem dX12_method_46 : decode cX12_method 46 = .ok (.aload_n 0, 1) := by decide +kernel
theorem dX12_method_47 : decode cX12_method 47 = .ok (.getfield 137, 3) := by decide +kernel
theorem dX12_method_50 : decode cX12_method 50 = .ok (.lstore_n 2, 1) := by decide +kernel
theorem dX12_method_51 : decode cX12_method 51 = .ok (.aload_n 0, 1) := by decide +kernel
theorem dX12_method_52 : decode cX12_method 52 = .ok (.iload_n 1, 1) := by decide +kernel
theorem dX12_method_53 : decode cX12_method 53 = .ok (.putfield 147, 3) := by decide +kernel
theorem dX12_method_56 : decode cX12_method 56 = .ok (.aload_n 0, 1) := by decide +kernel
theorem dX12_method_57 : decode cX12_method 57 = .ok (.bipush 40, 2) := by decide +kernel
theorem dX12_method_59 : decode cX12_method 59 = .ok (.invokevirtual 266, 3) := by decide +kernel
theorem dX12_method_62 : decode cX12_method 62 = .ok (.aload_n 0, 1) := by decide +kernel
theorem dX12_method_63 : decode cX12_method 63 = .ok (.aload_n 0, 1) := by decide +kernel
theorem dX12_method_64 : decode cX12_method 64 = .ok (.getfield 147, 3) := by decide +kernel
theorem dX12_method_67 : decode cX12_method 67 = .ok (.invokevirtual 130, 3) := by decide +kernel
theorem dX12_method_70 : decode cX12_method 70 = .ok (.bipush 48, 2) := by decide +kernel
theorem dX12_method_72 : decode cX12_method 72 = .ok (.isub, 1) := by decide +kernel
theorem dX12_method_73 : decode cX12_method 73 = .ok (.istore 4, 2) := by decide +kernel
theorem dX12_method_75 : decode cX12_method 75 = .ok (.aload_n 0, 1) := by decide +kernel
theorem dX12_method_76 : decode cX12_method 76 = .ok (.getfield 123, 3) := by decide +kernel
theorem dX12_method_79 : decode cX12_method 79 = .ok (.ifCond .ne 23, 3) := by decide +kernel
theorem dX12_method_82 : decode cX12_method 82 = .ok (.iload 4, 2) := by decide +kernel
theorem dX12_method_84 : decode cX12_method 84 = .ok (.ifCond .lt 9, 3) := by decide +kernel
theorem dX12_method_87 : decode cX12_method 87 = .ok (.iload 4, 2) := by decide +kernel
theorem dX12_method_89 : decode cX12_method 89 = .ok (.iconst 3, 1) := by decide +kernel
theorem dX12_method_90 : decode cX12_method 90 = .ok (.if_icmp .le 12, 3) := by decide +kernel
theorem dX12_method_93 : decode cX12_method 93 = .ok (.aload_n 0, 1) := by decide +kernel
theorem dX12_method_94 : decode cX12_method 94 = .ok (.iconst 1, 1) := by decide +kernel
theorem dX12_method_95 : decode cX12_method 95 = .ok (.aload_n 0, 1) := by decide +kernel
theorem dX12_method_96 : decode cX12_method 96 = .ok (.getfield 147, 3) := by decide +kernel
theorem dX12_method_99 : decode cX12_method 99 = .ok (.invokevirtual 157, 3) := by decide +kernel
theorem dX12_method_102 : decode cX12_method 102 = .ok (.aload_n 0, 1) := by decide +kernel
theorem dX12_method_103 : decode cX12_method 103 = .ok (.dup, 1) := by decide +kernel
theorem dX12_method_104 : decode cX12_method 104 = .ok (.getfield 147, 3) := by decide +kernel
theorem dX12_method_107 : decode cX12_method 107 = .ok (.iconst 1, 1) := by decide +kernel
theorem dX12_method_108 : decode cX12_method 108 = .ok (.iadd, 1) := by decide +kernel
theorem dX12_method_109 : decode cX12_method 109 = .ok (.putfield 147, 3) := by decide +kernel
theorem dX12_method_112 : decode cX12_method 112 = .ok (.aload_n 0, 1) := by decide +kernel
theorem dX12_method_113 : decode cX12_method 113 = .ok (.bipush 41, 2) := by decide +kernel
theorem dX12_method_115 : decode cX12_method 115 = .ok (.invokevirtual 266, 3) := by decide +kernel
theorem dX12_method_118 : decode cX12_method 118 = .ok (.aload_n 0, 1) := by decide +kernel
theorem dX12_method_119 : decode cX12_method 119 = .ok (.bipush 61, 2) := by decide +kernel
theorem dX12_method_121 : decode cX12_method 121 = .ok (.invokevirtual 266, 3) := by decide +kernel
theorem dX12_method_124 : decode cX12_method 124 = .ok (.aload_n 0, 1) := by decide +kernel
theorem dX12_method_125 : decode cX12_method 125 = .ok (.iload 4, 2) := by decide +kernel
theorem dX12_method_127 : decode cX12_method 127 = .ok (.putfield 202, 3) := by decide +kernel
theorem dX12_method_130 : decode cX12_method 130 = .ok (.aload_n 0, 1) := by decide +kernel
theorem dX12_method_131 : decode cX12_method 131 = .ok (.getfield 123, 3) := by decide +kernel
theorem dX12_method_134 : decode cX12_method 134 = .ok (.ifCond .ne 7, 3) := by decide +kernel
theorem dX12_method_137 : decode cX12_method 137 = .ok (.aload_n 0, 1) := by decide +kernel
theorem dX12_method_138 : decode cX12_method 138 = .ok (.invokevirtual 269, 3) := by decide +kernel
theorem dX12_method_141 : decode cX12_method 141 = .ok (.aload_n 0, 1) := by decide +kernel
theorem dX12_method_142 : decode cX12_method 142 = .ok (.getfield 123, 3) := by decide +kernel
theorem dX12_method_145 : decode cX12_method 145 = .ok (.ifCond .ne 31, 3) := by decide +kernel
theorem dX12_method_148 : decode cX12_method 148 = .ok (.aload_n 0, 1) := by decide +kernel
theorem dX12_method_149 : decode cX12_method 149 = .ok (.getfield 260, 3) := by decide +kernel
theorem dX12_method_152 : decode cX12_method 152 = .ok (.bipush 16, 2) := by decide +kernel
theorem dX12_method_154 : decode cX12_method 154 = .ok (.if_icmp .eq 13, 3) := by decide +kernel
theorem dX12_method_157 : decode cX12_method 157 = .ok (.aload_n 0, 1) := by decide +kernel
theorem dX12_method_158 : decode cX12_method 158 = .ok (.lload_n 2, 1) := by decide +kernel
theorem dX12_method_159 : decode cX12_method 159 = .ok (.iload 4, 2) := by decide +kernel
theorem dX12_method_161 : decode cX12_method 161 = .ok (.invokevirtual 272, 3) := by decide +kernel
theorem dX12_method_164 : decode cX12_method 164 = .ok (.ifCond .lt 12, 3) := by decide +kernel
theorem dX12_method_167 : decode cX12_method 167 = .ok (.aload_n 0, 1) := by decide +kernel
theorem dX12_method_168 : decode cX12_method 168 = .ok (.iconst 5, 1) := by decide +kernel
theorem dX12_method_169 : decode cX12_method 169 = .ok (.aload_n 0, 1) := by decide +kernel
theorem dX12_method_170 : decode cX12_method 170 = .ok (.getfield 118, 3) := by decide +kernel
theorem dX12_method_173 : decode cX12_method 173 = .ok (.invokevirtual 157, 3) := by decide +kernel
theorem dX12_method_176 : decode cX12_method 176 = .ok (.aload_n 0, 1) := by decide +kernel
theorem dX12_method_177 : decode cX12_method 177 = .ok (.getfield 123, 3) := by decide +kernel
theorem dX12_method_180 : decode cX12_method 180 = .ok (.ifCond .le 5, 3) := by decide +kernel
theorem dX12_method_183 : decode cX12_method 183 = .ok (.iconst (-1), 1) := by decide +kernel
theorem dX12_method_184 : decode cX12_method 184 = .ok (.ireturn, 1) := by decide +kernel
theorem dX12_method_185 : decode cX12_method 185 = .ok (.aload_n 0, 1) := by decide +kernel
theorem dX12_method_186 : decode cX12_method 186 = .ok (.getfield 27, 3) := by decide +kernel
theorem dX12_method_189 : decode cX12_method 189 = .ok (.aload_n 0, 1) := by decide +kernel
theorem dX12_method_190 : decode cX12_method 190 = .ok (.getfield 260, 3) := by decide +kernel
theorem dX12_method_193 : decode cX12_method 193 = .ok (.lload_n 2, 1) := by decide +kernel
theorem dX12_method_194 : decode cX12_method 194 = .ok (.lastore, 1) := by decide +kernel
theorem dX12_method_195 : decode cX12_method 195 = .ok (.aload_n 0, 1) := by decide +kernel
theorem dX12_method_196 : decode cX12_method 196 = .ok (.getfield 30, 3) := by decide +kernel
theorem dX12_method_199 : decode cX12_method 199 = .ok (.aload_n 0, 1) := by decide +kernel
theorem dX12_method_200 : decode cX12_method 200 = .ok (.getfield 260, 3) := by decide +kernel
theorem dX12_method_203 : decode cX12_method 203 = .ok (.iload 4, 2) := by decide +kernel
theorem dX12_method_205 : decode cX12_method 205 = .ok (.iastore, 1) := by decide +kernel
theorem dX12_method_206 : decode cX12_method 206 = .ok (.aload_n 0, 1) := by decide +kernel
theorem dX12_method_207 : decode cX12_method 207 = .ok (.aload_n 0, 1) := by decide +kernel
theorem dX12_method_208 : decode cX12_method 208 = .ok (.getfield 260, 3) := by decide +kernel
theorem dX12_method_211 : decode cX12_method 211 = .ok (.invokevirtual 276, 3) := by decide +kernel
theorem dX12_method_214 : decode cX12_method 214 = .ok (.aload_n 0, 1) := by decide +kernel
theorem dX12_method_215 : decode cX12_method 215 = .ok (.dup, 1) := by decide +kernel
theorem dX12_method_216 : decode cX12_method 216 = .ok (.getfield 260, 3) := by decide +kernel
theorem dX12_method_219 : decode cX12_method 219 = .ok (.iconst 1, 1) := by decide +kernel
theorem dX12_method_220 : decode cX12_method 220 = .ok (.iadd, 1) := by decide +kernel
theorem dX12_method_221 : decode cX12_method 221 = .ok (.putfield 260, 3) := by decide +kernel
theorem dX12_method_224 : decode cX12_method 224 = .ok (.aload_n 0, 1) := by decide +kernel
theorem dX12_method_225 : decode cX12_method 225 = .ok (.getfield 260, 3) := by decide +kernel
theorem dX12_method_228 : decode cX12_method 228 = .ok (.iconst 1, 1) := by decide +kernel
theorem dX12_method_229 : decode cX12_method 229 = .ok (.isub, 1) := by decide +kernel
theorem dX12_method_230 : decode cX12_method 230 = .ok (.ireturn, 1) := by decide +kernel
theorem dX12_skip_0 : decode cX12_skip 0 = .ok (.aload_n 0, 1) := by decide +kernel
theorem dX12_skip_1 : decode cX12_skip 1 = .ok (.getfield 147, 3) := by decide +kernel
theorem dX12_skip_4 : decode cX12_skip 4 = .ok (.aload_n 0, 1) := by decide +kernel
theorem dX12_skip_5 : decode cX12_skip 5 = .ok (.getfield 118, 3) := by decide +kernel
theorem dX12_skip_8 : decode cX12_skip 8 = .ok (.if_icmp .ge 30, 3) := by decide +kernel
theorem dX12_skip_11 : decode cX12_skip 11 = .ok (.aload_n 0, 1) := by decide +kernel
theorem dX12_skip_12 : decode cX12_skip 12 = .ok (.getfield 7, 3) := by decide +kernel
theorem dX12_skip_15 : decode cX12_skip 15 = .ok (.aload_n 0, 1) := by decide +kernel
theorem dX12_skip_16 : decode cX12_skip 16 = .ok (.getfield 147, 3) := by decide +kernel
theorem dX12_skip_19 : decode cX12_skip 19 = .ok (.iaload, 1) := by decide +kernel
theorem dX12_skip_20 : decode cX12_skip 20 = .ok (.bipush 32, 2) := by decide +kernel
theorem dX12_skip_22 : decode cX12_skip 22 = .ok (.if_icmp .gt 16, 3) := by decide +kernel
theorem dX12_skip_25 : decode cX12_skip 25 = .ok (.aload_n 0, 1) := by decide +kernel
theorem dX12_skip_26 : decode cX12_skip 26 = .ok (.dup, 1) := by decide +kernel
theorem dX12_skip_27 : decode cX12_skip 27 = .ok (.getfield 147, 3) := by decide +kernel
theorem dX12_skip_30 : decode cX12_skip 30 = .ok (.iconst 1, 1) := by decide +kernel
theorem dX12_skip_31 : decode cX12_skip 31 = .ok (.iadd, 1) := by decide +kernel
theorem dX12_skip_32 : decode cX12_skip 32 = .ok (.putfield 147, 3) := by decide +kernel
theorem dX12_skip_35 : decode cX12_skip 35 = .ok (.goto (-35), 3) := by decide +kernel
theorem dX12_skip_38 : decode cX12_skip 38 = .ok (.return_, 1) := by decide +kernel
theorem dX12_word_0 : decode cX12_word 0 = .ok (.iload_n 0, 1) := by decide +kernel
theorem dX12_word_1 : decode cX12_word 1 = .ok (.i2l, 1) := by decide +kernel
theorem dX12_word_2 : decode cX12_word 2 = .ok (.bipush 15, 2) := by decide +kernel
theorem dX12_word_4 : decode cX12_word 4 = .ok (.lshl, 1) := by decide +kernel
theorem dX12_word_5 : decode cX12_word 5 = .ok (.iload_n 1, 1) := by decide +kernel
theorem dX12_word_6 : decode cX12_word 6 = .ok (.i2l, 1) := by decide +kernel
theorem dX12_word_7 : decode cX12_word 7 = .ok (.bipush 10, 2) := by decide +kernel
theorem dX12_word_9 : decode cX12_word 9 = .ok (.lshl, 1) := by decide +kernel
theorem dX12_word_10 : decode cX12_word 10 = .ok (.lor, 1) := by decide +kernel
theorem dX12_word_11 : decode cX12_word 11 = .ok (.iload_n 2, 1) := by decide +kernel
theorem dX12_word_12 : decode cX12_word 12 = .ok (.i2l, 1) := by decide +kernel
theorem dX12_word_13 : decode cX12_word 13 = .ok (.iconst 5, 1) := by decide +kernel
theorem dX12_word_14 : decode cX12_word 14 = .ok (.lshl, 1) := by decide +kernel
theorem dX12_word_15 : decode cX12_word 15 = .ok (.lor, 1) := by decide +kernel
theorem dX12_word_16 : decode cX12_word 16 = .ok (.iload_n 3, 1) := by decide +kernel
theorem dX12_word_17 : decode cX12_word 17 = .ok (.i2l, 1) := by decide +kernel
theorem dX12_word_18 : decode cX12_word 18 = .ok (.lor, 1) := by decide +kernel
theorem dX12_word_19 : decode cX12_word 19 = .ok (.ldc2_w 279, 3) := by decide +kernel
theorem dX12_word_22 : decode cX12_word 22 = .ok (.land, 1) := by decide +kernel
theorem dX12_word_23 : decode cX12_word 23 = .ok (.lreturn, 1) := by decide +kernel
theorem dX12_rowAt_0 : decode cX12_rowAt 0 = .ok (.aload_n 0, 1) := by decide +kernel
theorem dX12_rowAt_1 : decode cX12_rowAt 1 = .ok (.iload_n 1, 1) := by decide +kernel
theorem dX12_rowAt_2 : decode cX12_rowAt 2 = .ok (.invokevirtual 205, 3) := by decide +kernel
theorem dX12_rowAt_5 : decode cX12_rowAt 5 = .ok (.istore_n 2, 1) := by decide +kernel
theorem dX12_rowAt_6 : decode cX12_rowAt 6 = .ok (.aload_n 0, 1) := by decide +kernel
theorem dX12_rowAt_7 : decode cX12_rowAt 7 = .ok (.iload_n 1, 1) := by decide +kernel
theorem dX12_rowAt_8 : decode cX12_rowAt 8 = .ok (.iload_n 2, 1) := by decide +kernel
theorem dX12_rowAt_9 : decode cX12_rowAt 9 = .ok (.bipush 12, 2) := by decide +kernel
theorem dX12_rowAt_11 : decode cX12_rowAt 11 = .ok (.if_icmp .le 8, 3) := by decide +kernel
theorem dX12_rowAt_14 : decode cX12_rowAt 14 = .ok (.bipush 12, 2) := by decide +kernel
theorem dX12_rowAt_16 : decode cX12_rowAt 16 = .ok (.goto 4, 3) := by decide +kernel
theorem dX12_rowAt_19 : decode cX12_rowAt 19 = .ok (.iload_n 2, 1) := by decide +kernel
theorem dX12_rowAt_20 : decode cX12_rowAt 20 = .ok (.invokevirtual 211, 3) := by decide +kernel
theorem dX12_rowAt_23 : decode cX12_rowAt 23 = .ok (.istore_n 3, 1) := by decide +kernel
theorem dX12_rowAt_24 : decode cX12_rowAt 24 = .ok (.iload_n 2, 1) := by decide +kernel
theorem dX12_rowAt_25 : decode cX12_rowAt 25 = .ok (.bipush 8, 2) := by decide +kernel
theorem dX12_rowAt_27 : decode cX12_rowAt 27 = .ok (.if_icmp .le 7, 3) := by decide +kernel
theorem dX12_rowAt_30 : decode cX12_rowAt 30 = .ok (.lconst 0, 1) := by decide +kernel
theorem dX12_rowAt_31 : decode cX12_rowAt 31 = .ok (.goto 18, 3) := by decide +kernel
theorem dX12_rowAt_34 : decode cX12_rowAt 34 = .ok (.iload_n 3, 1) := by decide +kernel
theorem dX12_rowAt_35 : decode cX12_rowAt 35 = .ok (.ifCond .eq 10, 3) := by decide +kernel
theorem dX12_rowAt_38 : decode cX12_rowAt 38 = .ok (.aload_n 0, 1) := by decide +kernel
theorem dX12_rowAt_39 : decode cX12_rowAt 39 = .ok (.getfield 137, 3) := by decide +kernel
theorem dX12_rowAt_42 : decode cX12_rowAt 42 = .ok (.goto 7, 3) := by decide +kernel
theorem dX12_rowAt_45 : decode cX12_rowAt 45 = .ok (.aload_n 0, 1) := by decide +kernel
theorem dX12_rowAt_46 : decode cX12_rowAt 46 = .ok (.getfield 137, 3) := by decide +kernel
theorem dX12_rowAt_49 : decode cX12_rowAt 49 = .ok (.lreturn, 1) := by decide +kernel
theorem dX12_endsAt_0 : decode cX12_endsAt 0 = .ok (.iload_n 1, 1) := by decide +kernel
theorem dX12_endsAt_1 : decode cX12_endsAt 1 = .ok (.aload_n 0, 1) := by decide +kernel
theorem dX12_endsAt_2 : decode cX12_endsAt 2 = .ok (.getfield 118, 3) := by decide +kernel
theorem dX12_endsAt_5 : decode cX12_endsAt 5 = .ok (.if_icmp .ge 14, 3) := by decide +kernel
theorem dX12_endsAt_8 : decode cX12_endsAt 8 = .ok (.aload_n 0, 1) := by decide +kernel
theorem dX12_endsAt_9 : decode cX12_endsAt 9 = .ok (.getfield 7, 3) := by decide +kernel
theorem dX12_endsAt_12 : decode cX12_endsAt 12 = .ok (.iload_n 1, 1) := by decide +kernel
theorem dX12_endsAt_13 : decode cX12_endsAt 13 = .ok (.iaload, 1) := by decide +kernel
theorem dX12_endsAt_14 : decode cX12_endsAt 14 = .ok (.bipush 32, 2) := by decide +kernel
theorem dX12_endsAt_16 : decode cX12_endsAt 16 = .ok (.if_icmp .gt 7, 3) := by decide +kernel
theorem dX12_endsAt_19 : decode cX12_endsAt 19 = .ok (.iconst 1, 1) := by decide +kernel
theorem dX12_endsAt_20 : decode cX12_endsAt 20 = .ok (.goto 4, 3) := by decide +kernel
theorem dX12_endsAt_23 : decode cX12_endsAt 23 = .ok (.iconst 0, 1) := by decide +kernel
theorem dX12_endsAt_24 : decode cX12_endsAt 24 = .ok (.ireturn, 1) := by decide +kernel
theorem dX12_wantBlank_0 : decode cX12_wantBlank 0 = .ok (.aload_n 0, 1) := by decide +kernel
theorem dX12_wantBlank_1 : decode cX12_wantBlank 1 = .ok (.getfield 123, 3) := by decide +kernel
theorem dX12_wantBlank_4 : decode cX12_wantBlank 4 = .ok (.ifCond .ne 37, 3) := by decide +kernel
theorem dX12_wantBlank_7 : decode cX12_wantBlank 7 = .ok (.aload_n 0, 1) := by decide +kernel
theorem dX12_wantBlank_8 : decode cX12_wantBlank 8 = .ok (.getfield 147, 3) := by decide +kernel
theorem dX12_wantBlank_11 : decode cX12_wantBlank 11 = .ok (.aload_n 0, 1) := by decide +kernel
theorem dX12_wantBlank_12 : decode cX12_wantBlank 12 = .ok (.getfield 118, 3) := by decide +kernel
theorem dX12_wantBlank_15 : decode cX12_wantBlank 15 = .ok (.if_icmp .ge 26, 3) := by decide +kernel
theorem dX12_wantBlank_18 : decode cX12_wantBlank 18 = .ok (.aload_n 0, 1) := by decide +kernel
theorem dX12_wantBlank_19 : decode cX12_wantBlank 19 = .ok (.getfield 7, 3) := by decide +kernel
theorem dX12_wantBlank_22 : decode cX12_wantBlank 22 = .ok (.aload_n 0, 1) := by decide +kernel
theorem dX12_wantBlank_23 : decode cX12_wantBlank 23 = .ok (.getfield 147, 3) := by decide +kernel
theorem dX12_wantBlank_26 : decode cX12_wantBlank 26 = .ok (.iaload, 1) := by decide +kernel
theorem dX12_wantBlank_27 : decode cX12_wantBlank 27 = .ok (.bipush 32, 2) := by decide +kernel
theorem dX12_wantBlank_29 : decode cX12_wantBlank 29 = .ok (.if_icmp .le 12, 3) := by decide +kernel
theorem dX12_wantBlank_32 : decode cX12_wantBlank 32 = .ok (.aload_n 0, 1) := by decide +kernel
theorem dX12_wantBlank_33 : decode cX12_wantBlank 33 = .ok (.iconst 1, 1) := by decide +kernel
theorem dX12_wantBlank_34 : decode cX12_wantBlank 34 = .ok (.aload_n 0, 1) := by decide +kernel
theorem dX12_wantBlank_35 : decode cX12_wantBlank 35 = .ok (.getfield 147, 3) := by decide +kernel
theorem dX12_wantBlank_38 : decode cX12_wantBlank 38 = .ok (.invokevirtual 157, 3) := by decide +kernel
theorem dX12_wantBlank_41 : decode cX12_wantBlank 41 = .ok (.return_, 1) := by decide +kernel
theorem dX12_wantEnd_0 : decode cX12_wantEnd 0 = .ok (.aload_n 0, 1) := by decide +kernel
theorem dX12_wantEnd_1 : decode cX12_wantEnd 1 = .ok (.invokevirtual 281, 3) := by decide +kernel
theorem dX12_wantEnd_4 : decode cX12_wantEnd 4 = .ok (.aload_n 0, 1) := by decide +kernel
theorem dX12_wantEnd_5 : decode cX12_wantEnd 5 = .ok (.getfield 123, 3) := by decide +kernel
theorem dX12_wantEnd_8 : decode cX12_wantEnd 8 = .ok (.ifCond .ne 23, 3) := by decide +kernel
theorem dX12_wantEnd_11 : decode cX12_wantEnd 11 = .ok (.aload_n 0, 1) := by decide +kernel
theorem dX12_wantEnd_12 : decode cX12_wantEnd 12 = .ok (.getfield 147, 3) := by decide +kernel
theorem dX12_wantEnd_15 : decode cX12_wantEnd 15 = .ok (.aload_n 0, 1) := by decide +kernel
theorem dX12_wantEnd_16 : decode cX12_wantEnd 16 = .ok (.getfield 118, 3) := by decide +kernel
theorem dX12_wantEnd_19 : decode cX12_wantEnd 19 = .ok (.if_icmp .ge 12, 3) := by decide +kernel
theorem dX12_wantEnd_22 : decode cX12_wantEnd 22 = .ok (.aload_n 0, 1) := by decide +kernel
theorem dX12_wantEnd_23 : decode cX12_wantEnd 23 = .ok (.iconst 1, 1) := by decide +kernel
theorem dX12_wantEnd_24 : decode cX12_wantEnd 24 = .ok (.aload_n 0, 1) := by decide +kernel
theorem dX12_wantEnd_25 : decode cX12_wantEnd 25 = .ok (.getfield 147, 3) := by decide +kernel
theorem dX12_wantEnd_28 : decode cX12_wantEnd 28 = .ok (.invokevirtual 157, 3) := by decide +kernel
theorem dX12_wantEnd_31 : decode cX12_wantEnd 31 = .ok (.return_, 1) := by decide +kernel
theorem dX12_readPattern_0 : decode cX12_readPattern 0 = .ok (.aload_n 0, 1) := by decide +kernel
theorem dX12_readPattern_1 : decode cX12_readPattern 1 = .ok (.invokevirtual 281, 3) := by decide +kernel
theorem dX12_readPattern_4 : decode cX12_readPattern 4 = .ok (.aload_n 0, 1) := by decide +kernel
theorem dX12_readPattern_5 : decode cX12_readPattern 5 = .ok (.iconst 0, 1) := by decide +kernel
theorem dX12_readPattern_6 : decode cX12_readPattern 6 = .ok (.putfield 284, 3) := by decide +kernel
theorem dX12_readPattern_9 : decode cX12_readPattern 9 = .ok (.aload_n 0, 1) := by decide +kernel
theorem dX12_readPattern_10 : decode cX12_readPattern 10 = .ok (.getfield 147, 3) := by decide +kernel
theorem dX12_readPattern_13 : decode cX12_readPattern 13 = .ok (.aload_n 0, 1) := by decide +kernel
theorem dX12_readPattern_14 : decode cX12_readPattern 14 = .ok (.getfield 118, 3) := by decide +kernel
theorem dX12_readPattern_17 : decode cX12_readPattern 17 = .ok (.if_icmp .lt 12, 3) := by decide +kernel
theorem dX12_readPattern_20 : decode cX12_readPattern 20 = .ok (.aload_n 0, 1) := by decide +kernel
theorem dX12_readPattern_21 : decode cX12_readPattern 21 = .ok (.iconst 1, 1) := by decide +kernel
theorem dX12_readPattern_22 : decode cX12_readPattern 22 = .ok (.aload_n 0, 1) := by decide +kernel
theorem dX12_readPattern_23 : decode cX12_readPattern 23 = .ok (.getfield 147, 3) := by decide +kernel
theorem dX12_readPattern_26 : decode cX12_readPattern 26 = .ok (.invokevirtual 157, 3) := by decide +kernel
theorem dX12_readPattern_29 : decode cX12_readPattern 29 = .ok (.aload_n 0, 1) := by decide +kernel
theorem dX12_readPattern_30 : decode cX12_readPattern 30 = .ok (.getfield 123, 3) := by decide +kernel
theorem dX12_readPattern_33 : decode cX12_readPattern 33 = .ok (.ifCond .ne 123, 3) := by decide +kernel
theorem dX12_readPattern_36 : decode cX12_readPattern 36 = .ok (.aload_n 0, 1) := by decide +kernel
theorem dX12_readPattern_37 : decode cX12_readPattern 37 = .ok (.getfield 147, 3) := by decide +kernel
theorem dX12_readPattern_40 : decode cX12_readPattern 40 = .ok (.aload_n 0, 1) := by decide +kernel
theorem dX12_readPattern_41 : decode cX12_readPattern 41 = .ok (.getfield 118, 3) := by decide +kernel
theorem dX12_readPattern_44 : decode cX12_readPattern 44 = .ok (.if_icmp .ge 112, 3) := by decide +kernel
theorem dX12_readPattern_47 : decode cX12_readPattern 47 = .ok (.aload_n 0, 1) := by decide +kernel
theorem dX12_readPattern_48 : decode cX12_readPattern 48 = .ok (.getfield 7, 3) := by decide +kernel
theorem dX12_readPattern_51 : decode cX12_readPattern 51 = .ok (.aload_n 0, 1) := by decide +kernel
theorem dX12_readPattern_52 : decode cX12_readPattern 52 = .ok (.getfield 147, 3) := by decide +kernel
theorem dX12_readPattern_55 : decode cX12_readPattern 55 = .ok (.iaload, 1) := by decide +kernel
theorem dX12_readPattern_56 : decode cX12_readPattern 56 = .ok (.bipush 32, 2) := by decide +kernel
theorem dX12_readPattern_58 : decode cX12_readPattern 58 = .ok (.if_icmp .le 98, 3) := by decide +kernel
theorem dX12_readPattern_61 : decode cX12_readPattern 61 = .ok (.aload_n 0, 1) := by decide +kernel
theorem dX12_readPattern_62 : decode cX12_readPattern 62 = .ok (.getfield 7, 3) := by decide +kernel
theorem dX12_readPattern_65 : decode cX12_readPattern 65 = .ok (.aload_n 0, 1) := by decide +kernel
theorem dX12_readPattern_66 : decode cX12_readPattern 66 = .ok (.getfield 147, 3) := by decide +kernel
theorem dX12_readPattern_69 : decode cX12_readPattern 69 = .ok (.iaload, 1) := by decide +kernel
theorem dX12_readPattern_70 : decode cX12_readPattern 70 = .ok (.istore_n 1, 1) := by decide +kernel
theorem dX12_readPattern_71 : decode cX12_readPattern 71 = .ok (.iload_n 1, 1) := by decide +kernel
theorem dX12_readPattern_72 : decode cX12_readPattern 72 = .ok (.invokestatic 134, 3) := by decide +kernel
theorem dX12_readPattern_75 : decode cX12_readPattern 75 = .ok (.ifCond .ne 27, 3) := by decide +kernel
theorem dX12_readPattern_78 : decode cX12_readPattern 78 = .ok (.iload_n 1, 1) := by decide +kernel
theorem dX12_readPattern_79 : decode cX12_readPattern 79 = .ok (.bipush 42, 2) := by decide +kernel
theorem dX12_readPattern_81 : decode cX12_readPattern 81 = .ok (.if_icmp .eq 21, 3) := by decide +kernel
theorem dX12_readPattern_84 : decode cX12_readPattern 84 = .ok (.iload_n 1, 1) := by decide +kernel
theorem dX12_readPattern_85 : decode cX12_readPattern 85 = .ok (.bipush 63, 2) := by decide +kernel
theorem dX12_readPattern_87 : decode cX12_readPattern 87 = .ok (.if_icmp .eq 15, 3) := by decide +kernel
theorem dX12_readPattern_90 : decode cX12_readPattern 90 = .ok (.aload_n 0, 1) := by decide +kernel
theorem dX12_readPattern_91 : decode cX12_readPattern 91 = .ok (.iconst 1, 1) := by decide +kernel
theorem dX12_readPattern_92 : decode cX12_readPattern 92 = .ok (.aload_n 0, 1) := by decide +kernel
theorem dX12_readPattern_93 : decode cX12_readPattern 93 = .ok (.getfield 147, 3) := by decide +kernel
theorem dX12_readPattern_96 : decode cX12_readPattern 96 = .ok (.invokevirtual 157, 3) := by decide +kernel
theorem dX12_readPattern_99 : decode cX12_readPattern 99 = .ok (.goto 54, 3) := by decide +kernel
theorem dX12_readPattern_102 : decode cX12_readPattern 102 = .ok (.aload_n 0, 1) := by decide +kernel
theorem dX12_readPattern_103 : decode cX12_readPattern 103 = .ok (.getfield 284, 3) := by decide +kernel
theorem dX12_readPattern_106 : decode cX12_readPattern 106 = .ok (.bipush 12, 2) := by decide +kernel
theorem dX12_readPattern_108 : decode cX12_readPattern 108 = .ok (.if_icmp .ne 15, 3) := by decide +kernel
theorem dX12_readPattern_111 : decode cX12_readPattern 111 = .ok (.aload_n 0, 1) := by decide +kernel
theorem dX12_readPattern_112 : decode cX12_readPattern 112 = .ok (.iconst 3, 1) := by decide +kernel
theorem dX12_readPattern_113 : decode cX12_readPattern 113 = .ok (.aload_n 0, 1) := by decide +kernel
theorem dX12_readPattern_114 : decode cX12_readPattern 114 = .ok (.getfield 147, 3) := by decide +kernel
theorem dX12_readPattern_117 : decode cX12_readPattern 117 = .ok (.invokevirtual 157, 3) := by decide +kernel
theorem dX12_readPattern_120 : decode cX12_readPattern 120 = .ok (.goto 33, 3) := by decide +kernel
theorem dX12_readPattern_123 : decode cX12_readPattern 123 = .ok (.aload_n 0, 1) := by decide +kernel
theorem dX12_readPattern_124 : decode cX12_readPattern 124 = .ok (.getfield 70, 3) := by decide +kernel
theorem dX12_readPattern_127 : decode cX12_readPattern 127 = .ok (.aload_n 0, 1) := by decide +kernel
theorem dX12_readPattern_128 : decode cX12_readPattern 128 = .ok (.getfield 284, 3) := by decide +kernel
theorem dX12_readPattern_131 : decode cX12_readPattern 131 = .ok (.iload_n 1, 1) := by decide +kernel
theorem dX12_readPattern_132 : decode cX12_readPattern 132 = .ok (.iastore, 1) := by decide +kernel
theorem dX12_readPattern_133 : decode cX12_readPattern 133 = .ok (.aload_n 0, 1) := by decide +kernel
theorem dX12_readPattern_134 : decode cX12_readPattern 134 = .ok (.dup, 1) := by decide +kernel
theorem dX12_readPattern_135 : decode cX12_readPattern 135 = .ok (.getfield 284, 3) := by decide +kernel
theorem dX12_readPattern_138 : decode cX12_readPattern 138 = .ok (.iconst 1, 1) := by decide +kernel
theorem dX12_readPattern_139 : decode cX12_readPattern 139 = .ok (.iadd, 1) := by decide +kernel
theorem dX12_readPattern_140 : decode cX12_readPattern 140 = .ok (.putfield 284, 3) := by decide +kernel
theorem dX12_readPattern_143 : decode cX12_readPattern 143 = .ok (.aload_n 0, 1) := by decide +kernel
theorem dX12_readPattern_144 : decode cX12_readPattern 144 = .ok (.dup, 1) := by decide +kernel
theorem dX12_readPattern_145 : decode cX12_readPattern 145 = .ok (.getfield 147, 3) := by decide +kernel
theorem dX12_readPattern_148 : decode cX12_readPattern 148 = .ok (.iconst 1, 1) := by decide +kernel
theorem dX12_readPattern_149 : decode cX12_readPattern 149 = .ok (.iadd, 1) := by decide +kernel
theorem dX12_readPattern_150 : decode cX12_readPattern 150 = .ok (.putfield 147, 3) := by decide +kernel
theorem dX12_readPattern_153 : decode cX12_readPattern 153 = .ok (.goto (-124), 3) := by decide +kernel
theorem dX12_readPattern_156 : decode cX12_readPattern 156 = .ok (.return_, 1) := by decide +kernel
theorem dX12_smallNumber_0 : decode cX12_smallNumber 0 = .ok (.aload_n 0, 1) := by decide +kernel
theorem dX12_smallNumber_1 : decode cX12_smallNumber 1 = .ok (.invokevirtual 281, 3) := by decide +kernel
theorem dX12_smallNumber_4 : decode cX12_smallNumber 4 = .ok (.aload_n 0, 1) := by decide +kernel
theorem dX12_smallNumber_5 : decode cX12_smallNumber 5 = .ok (.getfield 147, 3) := by decide +kernel
theorem dX12_smallNumber_8 : decode cX12_smallNumber 8 = .ok (.istore_n 2, 1) := by decide +kernel
theorem dX12_smallNumber_9 : decode cX12_smallNumber 9 = .ok (.aload_n 0, 1) := by decide +kernel
theorem dX12_smallNumber_10 : decode cX12_smallNumber 10 = .ok (.aload_n 0, 1) := by decide +kernel
theorem dX12_smallNumber_11 : decode cX12_smallNumber 11 = .ok (.getfield 147, 3) := by decide +kernel
theorem dX12_smallNumber_14 : decode cX12_smallNumber 14 = .ok (.invokevirtual 130, 3) := by decide +kernel
theorem dX12_smallNumber_17 : decode cX12_smallNumber 17 = .ok (.invokestatic 181, 3) := by decide +kernel
theorem dX12_smallNumber_20 : decode cX12_smallNumber 20 = .ok (.ifCond .ne 14, 3) := by decide +kernel
theorem dX12_smallNumber_23 : decode cX12_smallNumber 23 = .ok (.aload_n 0, 1) := by decide +kernel
theorem dX12_smallNumber_24 : decode cX12_smallNumber 24 = .ok (.iconst 1, 1) := by decide +kernel
theorem dX12_smallNumber_25 : decode cX12_smallNumber 25 = .ok (.aload_n 0, 1) := by decide +kernel
theorem dX12_smallNumber_26 : decode cX12_smallNumber 26 = .ok (.getfield 147, 3) := by decide +kernel
theorem dX12_smallNumber_29 : decode cX12_smallNumber 29 = .ok (.invokevirtual 157, 3) := by decide +kernel
theorem dX12_smallNumber_32 : decode cX12_smallNumber 32 = .ok (.iconst 0, 1) := by decide +kernel
theorem dX12_smallNumber_33 : decode cX12_smallNumber 33 = .ok (.ireturn, 1) := by decide +kernel
theorem dX12_smallNumber_34 : decode cX12_smallNumber 34 = .ok (.iconst 0, 1) := by decide +kernel
theorem dX12_smallNumber_35 : decode cX12_smallNumber 35 = .ok (.istore_n 3, 1) := by decide +kernel
theorem dX12_smallNumber_36 : decode cX12_smallNumber 36 = .ok (.aload_n 0, 1) := by decide +kernel
theorem dX12_smallNumber_37 : decode cX12_smallNumber 37 = .ok (.aload_n 0, 1) := by decide +kernel
theorem dX12_smallNumber_38 : decode cX12_smallNumber 38 = .ok (.getfield 147, 3) := by decide +kernel
theorem dX12_smallNumber_41 : decode cX12_smallNumber 41 = .ok (.invokevirtual 130, 3) := by decide +kernel
end
section
theorem dX12_smallNumber_44 : decode cX12_smallNumber 44 = .ok (.invokestatic 181, 3) := by decide +kernel
theorem dX12_smallNumber_47 : decode cX12_smallNumber 47 = .ok (.ifCond .eq 48, 3) := by decide +kernel
theorem dX12_smallNumber_50 : decode cX12_smallNumber 50 = .ok (.iload_n 3, 1) := by decide +kernel
theorem dX12_smallNumber_51 : decode cX12_smallNumber 51 = .ok (.bipush 10, 2) := by decide +kernel
theorem dX12_smallNumber_53 : decode cX12_smallNumber 53 = .ok (.imul, 1) := by decide +kernel
theorem dX12_smallNumber_54 : decode cX12_smallNumber 54 = .ok (.aload_n 0, 1) := by decide +kernel
theorem dX12_smallNumber_55 : decode cX12_smallNumber 55 = .ok (.aload_n 0, 1) := by decide +kernel
theorem dX12_smallNumber_56 : decode cX12_smallNumber 56 = .ok (.getfield 147, 3) := by decide +kernel
theorem dX12_smallNumber_59 : decode cX12_smallNumber 59 = .ok (.invokevirtual 130, 3) := by decide +kernel
theorem dX12_smallNumber_62 : decode cX12_smallNumber 62 = .ok (.iadd, 1) := by decide +kernel
theorem dX12_smallNumber_63 : decode cX12_smallNumber 63 = .ok (.bipush 48, 2) := by decide +kernel
theorem dX12_smallNumber_65 : decode cX12_smallNumber 65 = .ok (.isub, 1) := by decide +kernel
theorem dX12_smallNumber_66 : decode cX12_smallNumber 66 = .ok (.istore_n 3, 1) := by decide +kernel
theorem dX12_smallNumber_67 : decode cX12_smallNumber 67 = .ok (.iload_n 3, 1) := by decide +kernel
theorem dX12_smallNumber_68 : decode cX12_smallNumber 68 = .ok (.sipush 999, 3) := by decide +kernel
theorem dX12_smallNumber_71 : decode cX12_smallNumber 71 = .ok (.if_icmp .le 9, 3) := by decide +kernel
theorem dX12_smallNumber_74 : decode cX12_smallNumber 74 = .ok (.sipush 999, 3) := by decide +kernel
theorem dX12_smallNumber_77 : decode cX12_smallNumber 77 = .ok (.goto 4, 3) := by decide +kernel
theorem dX12_smallNumber_80 : decode cX12_smallNumber 80 = .ok (.iload_n 3, 1) := by decide +kernel
theorem dX12_smallNumber_81 : decode cX12_smallNumber 81 = .ok (.istore_n 3, 1) := by decide +kernel
theorem dX12_smallNumber_82 : decode cX12_smallNumber 82 = .ok (.aload_n 0, 1) := by decide +kernel
theorem dX12_smallNumber_83 : decode cX12_smallNumber 83 = .ok (.dup, 1) := by decide +kernel
theorem dX12_smallNumber_84 : decode cX12_smallNumber 84 = .ok (.getfield 147, 3) := by decide +kernel
theorem dX12_smallNumber_87 : decode cX12_smallNumber 87 = .ok (.iconst 1, 1) := by decide +kernel
theorem dX12_smallNumber_88 : decode cX12_smallNumber 88 = .ok (.iadd, 1) := by decide +kernel
theorem dX12_smallNumber_89 : decode cX12_smallNumber 89 = .ok (.putfield 147, 3) := by decide +kernel
theorem dX12_smallNumber_92 : decode cX12_smallNumber 92 = .ok (.goto (-56), 3) := by decide +kernel
theorem dX12_smallNumber_95 : decode cX12_smallNumber 95 = .ok (.iload_n 3, 1) := by decide +kernel
theorem dX12_smallNumber_96 : decode cX12_smallNumber 96 = .ok (.iload_n 1, 1) := by decide +kernel
theorem dX12_smallNumber_97 : decode cX12_smallNumber 97 = .ok (.if_icmp .lt 9, 3) := by decide +kernel
theorem dX12_smallNumber_100 : decode cX12_smallNumber 100 = .ok (.iload_n 3, 1) := by decide +kernel
theorem dX12_smallNumber_101 : decode cX12_smallNumber 101 = .ok (.bipush 99, 2) := by decide +kernel
theorem dX12_smallNumber_103 : decode cX12_smallNumber 103 = .ok (.if_icmp .le 9, 3) := by decide +kernel
theorem dX12_smallNumber_106 : decode cX12_smallNumber 106 = .ok (.aload_n 0, 1) := by decide +kernel
theorem dX12_smallNumber_107 : decode cX12_smallNumber 107 = .ok (.iconst 2, 1) := by decide +kernel
theorem dX12_smallNumber_108 : decode cX12_smallNumber 108 = .ok (.iload_n 2, 1) := by decide +kernel
theorem dX12_smallNumber_109 : decode cX12_smallNumber 109 = .ok (.invokevirtual 157, 3) := by decide +kernel
theorem dX12_smallNumber_112 : decode cX12_smallNumber 112 = .ok (.aload_n 0, 1) := by decide +kernel
theorem dX12_smallNumber_113 : decode cX12_smallNumber 113 = .ok (.invokevirtual 287, 3) := by decide +kernel
theorem dX12_smallNumber_116 : decode cX12_smallNumber 116 = .ok (.iload_n 3, 1) := by decide +kernel
theorem dX12_smallNumber_117 : decode cX12_smallNumber 117 = .ok (.ireturn, 1) := by decide +kernel
theorem dX12_freeJob_0 : decode cX12_freeJob 0 = .ok (.iconst 0, 1) := by decide +kernel
theorem dX12_freeJob_1 : decode cX12_freeJob 1 = .ok (.istore_n 1, 1) := by decide +kernel
theorem dX12_freeJob_2 : decode cX12_freeJob 2 = .ok (.iload_n 1, 1) := by decide +kernel
theorem dX12_freeJob_3 : decode cX12_freeJob 3 = .ok (.bipush 8, 2) := by decide +kernel
theorem dX12_freeJob_5 : decode cX12_freeJob 5 = .ok (.if_icmp .ge 20, 3) := by decide +kernel
theorem dX12_freeJob_8 : decode cX12_freeJob 8 = .ok (.aload_n 0, 1) := by decide +kernel
theorem dX12_freeJob_9 : decode cX12_freeJob 9 = .ok (.getfield 48, 3) := by decide +kernel
theorem dX12_freeJob_12 : decode cX12_freeJob 12 = .ok (.iload_n 1, 1) := by decide +kernel
theorem dX12_freeJob_13 : decode cX12_freeJob 13 = .ok (.iaload, 1) := by decide +kernel
theorem dX12_freeJob_14 : decode cX12_freeJob 14 = .ok (.ifCond .ne 5, 3) := by decide +kernel
theorem dX12_freeJob_17 : decode cX12_freeJob 17 = .ok (.iload_n 1, 1) := by decide +kernel
theorem dX12_freeJob_18 : decode cX12_freeJob 18 = .ok (.ireturn, 1) := by decide +kernel
theorem dX12_freeJob_19 : decode cX12_freeJob 19 = .ok (.iinc 1 1, 3) := by decide +kernel
theorem dX12_freeJob_22 : decode cX12_freeJob 22 = .ok (.goto (-20), 3) := by decide +kernel
theorem dX12_freeJob_25 : decode cX12_freeJob 25 = .ok (.iconst (-1), 1) := by decide +kernel
theorem dX12_freeJob_26 : decode cX12_freeJob 26 = .ok (.ireturn, 1) := by decide +kernel
theorem dX12_newJob_0 : decode cX12_newJob 0 = .ok (.aload_n 0, 1) := by decide +kernel
theorem dX12_newJob_1 : decode cX12_newJob 1 = .ok (.getfield 48, 3) := by decide +kernel
theorem dX12_newJob_4 : decode cX12_newJob 4 = .ok (.iload_n 2, 1) := by decide +kernel
theorem dX12_newJob_5 : decode cX12_newJob 5 = .ok (.iload_n 1, 1) := by decide +kernel
theorem dX12_newJob_6 : decode cX12_newJob 6 = .ok (.iastore, 1) := by decide +kernel
theorem dX12_newJob_7 : decode cX12_newJob 7 = .ok (.aload_n 0, 1) := by decide +kernel
theorem dX12_newJob_8 : decode cX12_newJob 8 = .ok (.getfield 57, 3) := by decide +kernel
theorem dX12_newJob_11 : decode cX12_newJob 11 = .ok (.iload_n 2, 1) := by decide +kernel
theorem dX12_newJob_12 : decode cX12_newJob 12 = .ok (.iconst 0, 1) := by decide +kernel
theorem dX12_newJob_13 : decode cX12_newJob 13 = .ok (.iastore, 1) := by decide +kernel
theorem dX12_newJob_14 : decode cX12_newJob 14 = .ok (.aload_n 0, 1) := by decide +kernel
theorem dX12_newJob_15 : decode cX12_newJob 15 = .ok (.getfield 54, 3) := by decide +kernel
theorem dX12_newJob_18 : decode cX12_newJob 18 = .ok (.iload_n 2, 1) := by decide +kernel
theorem dX12_newJob_19 : decode cX12_newJob 19 = .ok (.iconst 0, 1) := by decide +kernel
theorem dX12_newJob_20 : decode cX12_newJob 20 = .ok (.iastore, 1) := by decide +kernel
theorem dX12_newJob_21 : decode cX12_newJob 21 = .ok (.aload_n 0, 1) := by decide +kernel
theorem dX12_newJob_22 : decode cX12_newJob 22 = .ok (.getfield 60, 3) := by decide +kernel
theorem dX12_newJob_25 : decode cX12_newJob 25 = .ok (.iload_n 2, 1) := by decide +kernel
theorem dX12_newJob_26 : decode cX12_newJob 26 = .ok (.iconst 0, 1) := by decide +kernel
theorem dX12_newJob_27 : decode cX12_newJob 27 = .ok (.bastore, 1) := by decide +kernel
theorem dX12_newJob_28 : decode cX12_newJob 28 = .ok (.aload_n 0, 1) := by decide +kernel
theorem dX12_newJob_29 : decode cX12_newJob 29 = .ok (.getfield 67, 3) := by decide +kernel
theorem dX12_newJob_32 : decode cX12_newJob 32 = .ok (.iload_n 2, 1) := by decide +kernel
theorem dX12_newJob_33 : decode cX12_newJob 33 = .ok (.aload_n 0, 1) := by decide +kernel
theorem dX12_newJob_34 : decode cX12_newJob 34 = .ok (.getfield 284, 3) := by decide +kernel
theorem dX12_newJob_37 : decode cX12_newJob 37 = .ok (.iastore, 1) := by decide +kernel
theorem dX12_newJob_38 : decode cX12_newJob 38 = .ok (.iconst 0, 1) := by decide +kernel
theorem dX12_newJob_39 : decode cX12_newJob 39 = .ok (.istore_n 3, 1) := by decide +kernel
theorem dX12_newJob_40 : decode cX12_newJob 40 = .ok (.iload_n 3, 1) := by decide +kernel
theorem dX12_newJob_41 : decode cX12_newJob 41 = .ok (.aload_n 0, 1) := by decide +kernel
theorem dX12_newJob_42 : decode cX12_newJob 42 = .ok (.getfield 284, 3) := by decide +kernel
theorem dX12_newJob_45 : decode cX12_newJob 45 = .ok (.if_icmp .ge 26, 3) := by decide +kernel
theorem dX12_newJob_48 : decode cX12_newJob 48 = .ok (.aload_n 0, 1) := by decide +kernel
theorem dX12_newJob_49 : decode cX12_newJob 49 = .ok (.getfield 64, 3) := by decide +kernel
theorem dX12_newJob_52 : decode cX12_newJob 52 = .ok (.bipush 12, 2) := by decide +kernel
theorem dX12_newJob_54 : decode cX12_newJob 54 = .ok (.iload_n 2, 1) := by decide +kernel
theorem dX12_newJob_55 : decode cX12_newJob 55 = .ok (.imul, 1) := by decide +kernel
theorem dX12_newJob_56 : decode cX12_newJob 56 = .ok (.iload_n 3, 1) := by decide +kernel
theorem dX12_newJob_57 : decode cX12_newJob 57 = .ok (.iadd, 1) := by decide +kernel
theorem dX12_newJob_58 : decode cX12_newJob 58 = .ok (.aload_n 0, 1) := by decide +kernel
theorem dX12_newJob_59 : decode cX12_newJob 59 = .ok (.getfield 70, 3) := by decide +kernel
theorem dX12_newJob_62 : decode cX12_newJob 62 = .ok (.iload_n 3, 1) := by decide +kernel
theorem dX12_newJob_63 : decode cX12_newJob 63 = .ok (.iaload, 1) := by decide +kernel
theorem dX12_newJob_64 : decode cX12_newJob 64 = .ok (.iastore, 1) := by decide +kernel
theorem dX12_newJob_65 : decode cX12_newJob 65 = .ok (.iinc 3 1, 3) := by decide +kernel
theorem dX12_newJob_68 : decode cX12_newJob 68 = .ok (.goto (-28), 3) := by decide +kernel
theorem dX12_newJob_71 : decode cX12_newJob 71 = .ok (.iconst 0, 1) := by decide +kernel
theorem dX12_newJob_72 : decode cX12_newJob 72 = .ok (.istore_n 3, 1) := by decide +kernel
theorem dX12_newJob_73 : decode cX12_newJob 73 = .ok (.iload_n 3, 1) := by decide +kernel
theorem dX12_newJob_74 : decode cX12_newJob 74 = .ok (.bipush 48, 2) := by decide +kernel
theorem dX12_newJob_76 : decode cX12_newJob 76 = .ok (.if_icmp .ge 21, 3) := by decide +kernel
theorem dX12_newJob_79 : decode cX12_newJob 79 = .ok (.aload_n 0, 1) := by decide +kernel
theorem dX12_newJob_80 : decode cX12_newJob 80 = .ok (.getfield 73, 3) := by decide +kernel
theorem dX12_newJob_83 : decode cX12_newJob 83 = .ok (.bipush 48, 2) := by decide +kernel
theorem dX12_newJob_85 : decode cX12_newJob 85 = .ok (.iload_n 2, 1) := by decide +kernel
theorem dX12_newJob_86 : decode cX12_newJob 86 = .ok (.imul, 1) := by decide +kernel
theorem dX12_newJob_87 : decode cX12_newJob 87 = .ok (.iload_n 3, 1) := by decide +kernel
theorem dX12_newJob_88 : decode cX12_newJob 88 = .ok (.iadd, 1) := by decide +kernel
theorem dX12_newJob_89 : decode cX12_newJob 89 = .ok (.iconst 0, 1) := by decide +kernel
theorem dX12_newJob_90 : decode cX12_newJob 90 = .ok (.iastore, 1) := by decide +kernel
theorem dX12_newJob_91 : decode cX12_newJob 91 = .ok (.iinc 3 1, 3) := by decide +kernel
theorem dX12_newJob_94 : decode cX12_newJob 94 = .ok (.goto (-21), 3) := by decide +kernel
theorem dX12_newJob_97 : decode cX12_newJob 97 = .ok (.iload_n 2, 1) := by decide +kernel
theorem dX12_newJob_98 : decode cX12_newJob 98 = .ok (.ireturn, 1) := by decide +kernel
theorem dX12_readPoint_0 : decode cX12_readPoint 0 = .ok (.aload_n 0, 1) := by decide +kernel
theorem dX12_readPoint_1 : decode cX12_readPoint 1 = .ok (.invokevirtual 281, 3) := by decide +kernel
theorem dX12_readPoint_4 : decode cX12_readPoint 4 = .ok (.aload_n 0, 1) := by decide +kernel
theorem dX12_readPoint_5 : decode cX12_readPoint 5 = .ok (.getfield 147, 3) := by decide +kernel
theorem dX12_readPoint_8 : decode cX12_readPoint 8 = .ok (.istore_n 1, 1) := by decide +kernel
theorem dX12_readPoint_9 : decode cX12_readPoint 9 = .ok (.aload_n 0, 1) := by decide +kernel
theorem dX12_readPoint_10 : decode cX12_readPoint 10 = .ok (.aload_n 0, 1) := by decide +kernel
theorem dX12_readPoint_11 : decode cX12_readPoint 11 = .ok (.getfield 147, 3) := by decide +kernel
theorem dX12_readPoint_14 : decode cX12_readPoint 14 = .ok (.invokevirtual 290, 3) := by decide +kernel
theorem dX12_readPoint_17 : decode cX12_readPoint 17 = .ok (.lstore_n 2, 1) := by decide +kernel
theorem dX12_readPoint_18 : decode cX12_readPoint 18 = .ok (.aload_n 0, 1) := by decide +kernel
theorem dX12_readPoint_19 : decode cX12_readPoint 19 = .ok (.aload_n 0, 1) := by decide +kernel
theorem dX12_readPoint_20 : decode cX12_readPoint 20 = .ok (.getfield 147, 3) := by decide +kernel
theorem dX12_readPoint_23 : decode cX12_readPoint 23 = .ok (.invokevirtual 205, 3) := by decide +kernel
theorem dX12_readPoint_26 : decode cX12_readPoint 26 = .ok (.istore 4, 2) := by decide +kernel
theorem dX12_readPoint_28 : decode cX12_readPoint 28 = .ok (.iconst (-1), 1) := by decide +kernel
theorem dX12_readPoint_29 : decode cX12_readPoint 29 = .ok (.istore 5, 2) := by decide +kernel
theorem dX12_readPoint_31 : decode cX12_readPoint 31 = .ok (.iload 4, 2) := by decide +kernel
theorem dX12_readPoint_33 : decode cX12_readPoint 33 = .ok (.iconst 5, 1) := by decide +kernel
theorem dX12_readPoint_34 : decode cX12_readPoint 34 = .ok (.if_icmp .ne 33, 3) := by decide +kernel
theorem dX12_readPoint_37 : decode cX12_readPoint 37 = .ok (.lload_n 2, 1) := by decide +kernel
theorem dX12_readPoint_38 : decode cX12_readPoint 38 = .ok (.iconst 0, 1) := by decide +kernel
theorem dX12_readPoint_39 : decode cX12_readPoint 39 = .ok (.iconst 5, 1) := by decide +kernel
theorem dX12_readPoint_40 : decode cX12_readPoint 40 = .ok (.bipush 14, 2) := by decide +kernel
theorem dX12_readPoint_42 : decode cX12_readPoint 42 = .ok (.bipush 20, 2) := by decide +kernel
theorem dX12_readPoint_44 : decode cX12_readPoint 44 = .ok (.invokestatic 294, 3) := by decide +kernel
theorem dX12_readPoint_47 : decode cX12_readPoint 47 = .ok (.bipush 10, 2) := by decide +kernel
theorem dX12_readPoint_49 : decode cX12_readPoint 49 = .ok (.lshl, 1) := by decide +kernel
theorem dX12_readPoint_50 : decode cX12_readPoint 50 = .ok (.iconst 0, 1) := by decide +kernel
theorem dX12_readPoint_51 : decode cX12_readPoint 51 = .ok (.iconst 0, 1) := by decide +kernel
theorem dX12_readPoint_52 : decode cX12_readPoint 52 = .ok (.iconst 5, 1) := by decide +kernel
theorem dX12_readPoint_53 : decode cX12_readPoint 53 = .ok (.bipush 18, 2) := by decide +kernel
theorem dX12_readPoint_55 : decode cX12_readPoint 55 = .ok (.invokestatic 294, 3) := by decide +kernel
theorem dX12_readPoint_58 : decode cX12_readPoint 58 = .ok (.lor, 1) := by decide +kernel
theorem dX12_readPoint_59 : decode cX12_readPoint 59 = .ok (.lcmp, 1) := by decide +kernel
theorem dX12_readPoint_60 : decode cX12_readPoint 60 = .ok (.ifCond .ne 7, 3) := by decide +kernel
theorem dX12_readPoint_63 : decode cX12_readPoint 63 = .ok (.iconst 0, 1) := by decide +kernel
theorem dX12_readPoint_64 : decode cX12_readPoint 64 = .ok (.goto 5, 3) := by decide +kernel
theorem dX12_readPoint_67 : decode cX12_readPoint 67 = .ok (.iload 5, 2) := by decide +kernel
theorem dX12_readPoint_69 : decode cX12_readPoint 69 = .ok (.istore 5, 2) := by decide +kernel
theorem dX12_readPoint_71 : decode cX12_readPoint 71 = .ok (.iload 4, 2) := by decide +kernel
theorem dX12_readPoint_73 : decode cX12_readPoint 73 = .ok (.bipush 6, 2) := by decide +kernel
theorem dX12_readPoint_75 : decode cX12_readPoint 75 = .ok (.if_icmp .ne 35, 3) := by decide +kernel
theorem dX12_readPoint_78 : decode cX12_readPoint 78 = .ok (.lload_n 2, 1) := by decide +kernel
theorem dX12_readPoint_79 : decode cX12_readPoint 79 = .ok (.bipush 18, 2) := by decide +kernel
theorem dX12_readPoint_81 : decode cX12_readPoint 81 = .ok (.iconst 5, 1) := by decide +kernel
theorem dX12_readPoint_82 : decode cX12_readPoint 82 = .ok (.bipush 20, 2) := by decide +kernel
theorem dX12_readPoint_84 : decode cX12_readPoint 84 = .ok (.bipush 21, 2) := by decide +kernel
theorem dX12_readPoint_86 : decode cX12_readPoint 86 = .ok (.invokestatic 294, 3) := by decide +kernel
theorem dX12_readPoint_89 : decode cX12_readPoint 89 = .ok (.bipush 10, 2) := by decide +kernel
theorem dX12_readPoint_91 : decode cX12_readPoint 91 = .ok (.lshl, 1) := by decide +kernel
theorem dX12_readPoint_92 : decode cX12_readPoint 92 = .ok (.iconst 0, 1) := by decide +kernel
theorem dX12_readPoint_93 : decode cX12_readPoint 93 = .ok (.iconst 0, 1) := by decide +kernel
theorem dX12_readPoint_94 : decode cX12_readPoint 94 = .ok (.bipush 18, 2) := by decide +kernel
theorem dX12_readPoint_96 : decode cX12_readPoint 96 = .ok (.bipush 14, 2) := by decide +kernel
theorem dX12_readPoint_98 : decode cX12_readPoint 98 = .ok (.invokestatic 294, 3) := by decide +kernel
theorem dX12_readPoint_101 : decode cX12_readPoint 101 = .ok (.lor, 1) := by decide +kernel
theorem dX12_readPoint_102 : decode cX12_readPoint 102 = .ok (.lcmp, 1) := by decide +kernel
theorem dX12_readPoint_103 : decode cX12_readPoint 103 = .ok (.ifCond .ne 7, 3) := by decide +kernel
theorem dX12_readPoint_106 : decode cX12_readPoint 106 = .ok (.iconst 1, 1) := by decide +kernel
theorem dX12_readPoint_107 : decode cX12_readPoint 107 = .ok (.goto 5, 3) := by decide +kernel
theorem dX12_readPoint_110 : decode cX12_readPoint 110 = .ok (.iload 5, 2) := by decide +kernel
theorem dX12_readPoint_112 : decode cX12_readPoint 112 = .ok (.istore 5, 2) := by decide +kernel
theorem dX12_readPoint_114 : decode cX12_readPoint 114 = .ok (.iload 4, 2) := by decide +kernel
theorem dX12_readPoint_116 : decode cX12_readPoint 116 = .ok (.iconst 5, 1) := by decide +kernel
theorem dX12_readPoint_117 : decode cX12_readPoint 117 = .ok (.if_icmp .ne 35, 3) := by decide +kernel
theorem dX12_readPoint_120 : decode cX12_readPoint 120 = .ok (.lload_n 2, 1) := by decide +kernel
theorem dX12_readPoint_121 : decode cX12_readPoint 121 = .ok (.iconst 0, 1) := by decide +kernel
theorem dX12_readPoint_122 : decode cX12_readPoint 122 = .ok (.bipush 20, 2) := by decide +kernel
theorem dX12_readPoint_124 : decode cX12_readPoint 124 = .ok (.bipush 8, 2) := by decide +kernel
theorem dX12_readPoint_126 : decode cX12_readPoint 126 = .ok (.bipush 18, 2) := by decide +kernel
theorem dX12_readPoint_128 : decode cX12_readPoint 128 = .ok (.invokestatic 294, 3) := by decide +kernel
theorem dX12_readPoint_131 : decode cX12_readPoint 131 = .ok (.bipush 10, 2) := by decide +kernel
theorem dX12_readPoint_133 : decode cX12_readPoint 133 = .ok (.lshl, 1) := by decide +kernel
theorem dX12_readPoint_134 : decode cX12_readPoint 134 = .ok (.iconst 0, 1) := by decide +kernel
theorem dX12_readPoint_135 : decode cX12_readPoint 135 = .ok (.iconst 0, 1) := by decide +kernel
theorem dX12_readPoint_136 : decode cX12_readPoint 136 = .ok (.bipush 15, 2) := by decide +kernel
theorem dX12_readPoint_138 : decode cX12_readPoint 138 = .ok (.bipush 23, 2) := by decide +kernel
theorem dX12_readPoint_140 : decode cX12_readPoint 140 = .ok (.invokestatic 294, 3) := by decide +kernel
theorem dX12_readPoint_143 : decode cX12_readPoint 143 = .ok (.lor, 1) := by decide +kernel
theorem dX12_readPoint_144 : decode cX12_readPoint 144 = .ok (.lcmp, 1) := by decide +kernel
theorem dX12_readPoint_145 : decode cX12_readPoint 145 = .ok (.ifCond .ne 7, 3) := by decide +kernel
theorem dX12_readPoint_148 : decode cX12_readPoint 148 = .ok (.iconst 2, 1) := by decide +kernel
theorem dX12_readPoint_149 : decode cX12_readPoint 149 = .ok (.goto 5, 3) := by decide +kernel
theorem dX12_readPoint_152 : decode cX12_readPoint 152 = .ok (.iload 5, 2) := by decide +kernel
theorem dX12_readPoint_154 : decode cX12_readPoint 154 = .ok (.istore 5, 2) := by decide +kernel
theorem dX12_readPoint_156 : decode cX12_readPoint 156 = .ok (.iload 5, 2) := by decide +kernel
theorem dX12_readPoint_158 : decode cX12_readPoint 158 = .ok (.ifCond .lt 14, 3) := by decide +kernel
theorem dX12_readPoint_161 : decode cX12_readPoint 161 = .ok (.aload_n 0, 1) := by decide +kernel
theorem dX12_readPoint_162 : decode cX12_readPoint 162 = .ok (.iload_n 1, 1) := by decide +kernel
theorem dX12_readPoint_163 : decode cX12_readPoint 163 = .ok (.iload 4, 2) := by decide +kernel
theorem dX12_readPoint_165 : decode cX12_readPoint 165 = .ok (.iadd, 1) := by decide +kernel
theorem dX12_readPoint_166 : decode cX12_readPoint 166 = .ok (.invokevirtual 298, 3) := by decide +kernel
theorem dX12_readPoint_169 : decode cX12_readPoint 169 = .ok (.ifCond .ne 11, 3) := by decide +kernel
theorem dX12_readPoint_172 : decode cX12_readPoint 172 = .ok (.aload_n 0, 1) := by decide +kernel
theorem dX12_readPoint_173 : decode cX12_readPoint 173 = .ok (.iconst 1, 1) := by decide +kernel
theorem dX12_readPoint_174 : decode cX12_readPoint 174 = .ok (.iload_n 1, 1) := by decide +kernel
theorem dX12_readPoint_175 : decode cX12_readPoint 175 = .ok (.invokevirtual 157, 3) := by decide +kernel
theorem dX12_readPoint_178 : decode cX12_readPoint 178 = .ok (.iconst (-1), 1) := by decide +kernel
theorem dX12_readPoint_179 : decode cX12_readPoint 179 = .ok (.ireturn, 1) := by decide +kernel
theorem dX12_readPoint_180 : decode cX12_readPoint 180 = .ok (.aload_n 0, 1) := by decide +kernel
theorem dX12_readPoint_181 : decode cX12_readPoint 181 = .ok (.iload_n 1, 1) := by decide +kernel
theorem dX12_readPoint_182 : decode cX12_readPoint 182 = .ok (.iload 4, 2) := by decide +kernel
theorem dX12_readPoint_184 : decode cX12_readPoint 184 = .ok (.iadd, 1) := by decide +kernel
theorem dX12_readPoint_185 : decode cX12_readPoint 185 = .ok (.putfield 147, 3) := by decide +kernel
theorem dX12_readPoint_188 : decode cX12_readPoint 188 = .ok (.iload 5, 2) := by decide +kernel
theorem dX12_readPoint_190 : decode cX12_readPoint 190 = .ok (.ireturn, 1) := by decide +kernel
theorem dX12_watch_0 : decode cX12_watch 0 = .ok (.aload_n 0, 1) := by decide +kernel
theorem dX12_watch_1 : decode cX12_watch 1 = .ok (.invokevirtual 301, 3) := by decide +kernel
theorem dX12_watch_4 : decode cX12_watch 4 = .ok (.istore_n 1, 1) := by decide +kernel
theorem dX12_watch_5 : decode cX12_watch 5 = .ok (.aload_n 0, 1) := by decide +kernel
theorem dX12_watch_6 : decode cX12_watch 6 = .ok (.getfield 123, 3) := by decide +kernel
theorem dX12_watch_9 : decode cX12_watch 9 = .ok (.ifCond .ne 7, 3) := by decide +kernel
theorem dX12_watch_12 : decode cX12_watch 12 = .ok (.aload_n 0, 1) := by decide +kernel
theorem dX12_watch_13 : decode cX12_watch 13 = .ok (.invokevirtual 304, 3) := by decide +kernel
theorem dX12_watch_16 : decode cX12_watch 16 = .ok (.aload_n 0, 1) := by decide +kernel
theorem dX12_watch_17 : decode cX12_watch 17 = .ok (.invokevirtual 307, 3) := by decide +kernel
theorem dX12_watch_20 : decode cX12_watch 20 = .ok (.istore_n 2, 1) := by decide +kernel
theorem dX12_watch_21 : decode cX12_watch 21 = .ok (.iconst 0, 1) := by decide +kernel
theorem dX12_watch_22 : decode cX12_watch 22 = .ok (.istore_n 3, 1) := by decide +kernel
theorem dX12_watch_23 : decode cX12_watch 23 = .ok (.bipush 99, 2) := by decide +kernel
theorem dX12_watch_25 : decode cX12_watch 25 = .ok (.istore 4, 2) := by decide +kernel
theorem dX12_watch_27 : decode cX12_watch 27 = .ok (.aload_n 0, 1) := by decide +kernel
theorem dX12_watch_28 : decode cX12_watch 28 = .ok (.getfield 123, 3) := by decide +kernel
theorem dX12_watch_31 : decode cX12_watch 31 = .ok (.ifCond .ne 11, 3) := by decide +kernel
theorem dX12_watch_34 : decode cX12_watch 34 = .ok (.aload_n 0, 1) := by decide +kernel
theorem dX12_watch_35 : decode cX12_watch 35 = .ok (.invokevirtual 281, 3) := by decide +kernel
theorem dX12_watch_38 : decode cX12_watch 38 = .ok (.aload_n 0, 1) := by decide +kernel
theorem dX12_watch_39 : decode cX12_watch 39 = .ok (.invokevirtual 269, 3) := by decide +kernel
theorem dX12_watch_42 : decode cX12_watch 42 = .ok (.aload_n 0, 1) := by decide +kernel
theorem dX12_watch_43 : decode cX12_watch 43 = .ok (.getfield 123, 3) := by decide +kernel
theorem dX12_watch_46 : decode cX12_watch 46 = .ok (.ifCond .ne 17, 3) := by decide +kernel
theorem dX12_watch_49 : decode cX12_watch 49 = .ok (.iload_n 2, 1) := by decide +kernel
theorem dX12_watch_50 : decode cX12_watch 50 = .ok (.ifCond .lt 13, 3) := by decide +kernel
theorem dX12_watch_53 : decode cX12_watch 53 = .ok (.aload_n 0, 1) := by decide +kernel
theorem dX12_watch_54 : decode cX12_watch 54 = .ok (.bipush 16, 2) := by decide +kernel
theorem dX12_watch_56 : decode cX12_watch 56 = .ok (.iconst 2, 1) := by decide +kernel
theorem dX12_watch_57 : decode cX12_watch 57 = .ok (.iload_n 2, 1) := by decide +kernel
theorem dX12_watch_58 : decode cX12_watch 58 = .ok (.imul, 1) := by decide +kernel
theorem dX12_watch_59 : decode cX12_watch 59 = .ok (.iadd, 1) := by decide +kernel
theorem dX12_watch_60 : decode cX12_watch 60 = .ok (.invokevirtual 276, 3) := by decide +kernel
theorem dX12_watch_63 : decode cX12_watch 63 = .ok (.aload_n 0, 1) := by decide +kernel
theorem dX12_watch_64 : decode cX12_watch 64 = .ok (.getfield 123, 3) := by decide +kernel
theorem dX12_watch_67 : decode cX12_watch 67 = .ok (.ifCond .ne 45, 3) := by decide +kernel
theorem dX12_watch_70 : decode cX12_watch 70 = .ok (.aload_n 0, 1) := by decide +kernel
theorem dX12_watch_71 : decode cX12_watch 71 = .ok (.invokevirtual 281, 3) := by decide +kernel
theorem dX12_watch_74 : decode cX12_watch 74 = .ok (.aload_n 0, 1) := by decide +kernel
theorem dX12_watch_75 : decode cX12_watch 75 = .ok (.getfield 147, 3) := by decide +kernel
theorem dX12_watch_78 : decode cX12_watch 78 = .ok (.aload_n 0, 1) := by decide +kernel
theorem dX12_watch_79 : decode cX12_watch 79 = .ok (.getfield 118, 3) := by decide +kernel
theorem dX12_watch_82 : decode cX12_watch 82 = .ok (.if_icmp .ge 30, 3) := by decide +kernel
theorem dX12_watch_85 : decode cX12_watch 85 = .ok (.aload_n 0, 1) := by decide +kernel
theorem dX12_watch_86 : decode cX12_watch 86 = .ok (.invokevirtual 269, 3) := by decide +kernel
theorem dX12_watch_89 : decode cX12_watch 89 = .ok (.iconst 1, 1) := by decide +kernel
theorem dX12_watch_90 : decode cX12_watch 90 = .ok (.istore_n 3, 1) := by decide +kernel
theorem dX12_watch_91 : decode cX12_watch 91 = .ok (.aload_n 0, 1) := by decide +kernel
theorem dX12_watch_92 : decode cX12_watch 92 = .ok (.getfield 123, 3) := by decide +kernel
theorem dX12_watch_95 : decode cX12_watch 95 = .ok (.ifCond .ne 17, 3) := by decide +kernel
theorem dX12_watch_98 : decode cX12_watch 98 = .ok (.iload_n 2, 1) := by decide +kernel
theorem dX12_watch_99 : decode cX12_watch 99 = .ok (.ifCond .lt 13, 3) := by decide +kernel
theorem dX12_watch_102 : decode cX12_watch 102 = .ok (.aload_n 0, 1) := by decide +kernel
theorem dX12_watch_103 : decode cX12_watch 103 = .ok (.bipush 17, 2) := by decide +kernel
theorem dX12_watch_105 : decode cX12_watch 105 = .ok (.iconst 2, 1) := by decide +kernel
theorem dX12_watch_106 : decode cX12_watch 106 = .ok (.iload_n 2, 1) := by decide +kernel
theorem dX12_watch_107 : decode cX12_watch 107 = .ok (.imul, 1) := by decide +kernel
theorem dX12_watch_108 : decode cX12_watch 108 = .ok (.iadd, 1) := by decide +kernel
theorem dX12_watch_109 : decode cX12_watch 109 = .ok (.invokevirtual 276, 3) := by decide +kernel
theorem dX12_watch_112 : decode cX12_watch 112 = .ok (.aload_n 0, 1) := by decide +kernel
theorem dX12_watch_113 : decode cX12_watch 113 = .ok (.getfield 123, 3) := by decide +kernel
theorem dX12_watch_116 : decode cX12_watch 116 = .ok (.ifCond .ne 25, 3) := by decide +kernel
theorem dX12_watch_119 : decode cX12_watch 119 = .ok (.aload_n 0, 1) := by decide +kernel
theorem dX12_watch_120 : decode cX12_watch 120 = .ok (.invokevirtual 281, 3) := by decide +kernel
theorem dX12_watch_123 : decode cX12_watch 123 = .ok (.aload_n 0, 1) := by decide +kernel
theorem dX12_watch_124 : decode cX12_watch 124 = .ok (.getfield 147, 3) := by decide +kernel
theorem dX12_watch_127 : decode cX12_watch 127 = .ok (.aload_n 0, 1) := by decide +kernel
theorem dX12_watch_128 : decode cX12_watch 128 = .ok (.getfield 118, 3) := by decide +kernel
theorem dX12_watch_131 : decode cX12_watch 131 = .ok (.if_icmp .ge 10, 3) := by decide +kernel
theorem dX12_watch_134 : decode cX12_watch 134 = .ok (.aload_n 0, 1) := by decide +kernel
theorem dX12_watch_135 : decode cX12_watch 135 = .ok (.iconst 1, 1) := by decide +kernel
theorem dX12_watch_136 : decode cX12_watch 136 = .ok (.invokevirtual 310, 3) := by decide +kernel
theorem dX12_watch_139 : decode cX12_watch 139 = .ok (.istore 4, 2) := by decide +kernel
theorem dX12_watch_141 : decode cX12_watch 141 = .ok (.aload_n 0, 1) := by decide +kernel
theorem dX12_watch_142 : decode cX12_watch 142 = .ok (.invokevirtual 313, 3) := by decide +kernel
theorem dX12_watch_145 : decode cX12_watch 145 = .ok (.aload_n 0, 1) := by decide +kernel
theorem dX12_watch_146 : decode cX12_watch 146 = .ok (.getfield 123, 3) := by decide +kernel
theorem dX12_watch_149 : decode cX12_watch 149 = .ok (.ifCond .ne 16, 3) := by decide +kernel
theorem dX12_watch_152 : decode cX12_watch 152 = .ok (.iload_n 2, 1) := by decide +kernel
theorem dX12_watch_153 : decode cX12_watch 153 = .ok (.ifCond .ge 12, 3) := by decide +kernel
theorem dX12_watch_156 : decode cX12_watch 156 = .ok (.aload_n 0, 1) := by decide +kernel
theorem dX12_watch_157 : decode cX12_watch 157 = .ok (.iconst 5, 1) := by decide +kernel
theorem dX12_watch_158 : decode cX12_watch 158 = .ok (.aload_n 0, 1) := by decide +kernel
theorem dX12_watch_159 : decode cX12_watch 159 = .ok (.getfield 118, 3) := by decide +kernel
theorem dX12_watch_162 : decode cX12_watch 162 = .ok (.invokevirtual 157, 3) := by decide +kernel
theorem dX12_watch_165 : decode cX12_watch 165 = .ok (.aload_n 0, 1) := by decide +kernel
theorem dX12_watch_166 : decode cX12_watch 166 = .ok (.getfield 123, 3) := by decide +kernel
theorem dX12_watch_169 : decode cX12_watch 169 = .ok (.ifCond .le 5, 3) := by decide +kernel
theorem dX12_watch_172 : decode cX12_watch 172 = .ok (.iconst (-1), 1) := by decide +kernel
theorem dX12_watch_173 : decode cX12_watch 173 = .ok (.ireturn, 1) := by decide +kernel
theorem dX12_watch_174 : decode cX12_watch 174 = .ok (.aload_n 0, 1) := by decide +kernel
theorem dX12_watch_175 : decode cX12_watch 175 = .ok (.iconst 1, 1) := by decide +kernel
theorem dX12_watch_176 : decode cX12_watch 176 = .ok (.iload_n 2, 1) := by decide +kernel
theorem dX12_watch_177 : decode cX12_watch 177 = .ok (.invokevirtual 316, 3) := by decide +kernel
theorem dX12_watch_180 : decode cX12_watch 180 = .ok (.pop, 1) := by decide +kernel
theorem dX12_watch_181 : decode cX12_watch 181 = .ok (.aload_n 0, 1) := by decide +kernel
theorem dX12_watch_182 : decode cX12_watch 182 = .ok (.getfield 51, 3) := by decide +kernel
theorem dX12_watch_185 : decode cX12_watch 185 = .ok (.iload_n 2, 1) := by decide +kernel
theorem dX12_watch_186 : decode cX12_watch 186 = .ok (.iload_n 1, 1) := by decide +kernel
theorem dX12_watch_187 : decode cX12_watch 187 = .ok (.iastore, 1) := by decide +kernel
theorem dX12_watch_188 : decode cX12_watch 188 = .ok (.aload_n 0, 1) := by decide +kernel
theorem dX12_watch_189 : decode cX12_watch 189 = .ok (.getfield 54, 3) := by decide +kernel
theorem dX12_watch_192 : decode cX12_watch 192 = .ok (.iload_n 2, 1) := by decide +kernel
theorem dX12_watch_193 : decode cX12_watch 193 = .ok (.iload 4, 2) := by decide +kernel
theorem dX12_watch_195 : decode cX12_watch 195 = .ok (.iastore, 1) := by decide +kernel
theorem dX12_watch_196 : decode cX12_watch 196 = .ok (.aload_n 0, 1) := by decide +kernel
theorem dX12_watch_197 : decode cX12_watch 197 = .ok (.getfield 60, 3) := by decide +kernel
theorem dX12_watch_200 : decode cX12_watch 200 = .ok (.iload_n 2, 1) := by decide +kernel
theorem dX12_watch_201 : decode cX12_watch 201 = .ok (.iload_n 3, 1) := by decide +kernel
theorem dX12_watch_202 : decode cX12_watch 202 = .ok (.bastore, 1) := by decide +kernel
theorem dX12_watch_203 : decode cX12_watch 203 = .ok (.iload_n 2, 1) := by decide +kernel
theorem dX12_watch_204 : decode cX12_watch 204 = .ok (.ireturn, 1) := by decide +kernel
theorem dX12_simple_0 : decode cX12_simple 0 = .ok (.aload_n 0, 1) := by decide +kernel
theorem dX12_simple_1 : decode cX12_simple 1 = .ok (.invokevirtual 304, 3) := by decide +kernel
theorem dX12_simple_4 : decode cX12_simple 4 = .ok (.aload_n 0, 1) := by decide +kernel
theorem dX12_simple_5 : decode cX12_simple 5 = .ok (.invokevirtual 313, 3) := by decide +kernel
theorem dX12_simple_8 : decode cX12_simple 8 = .ok (.aload_n 0, 1) := by decide +kernel
theorem dX12_simple_9 : decode cX12_simple 9 = .ok (.invokevirtual 307, 3) := by decide +kernel
theorem dX12_simple_12 : decode cX12_simple 12 = .ok (.istore_n 2, 1) := by decide +kernel
theorem dX12_simple_13 : decode cX12_simple 13 = .ok (.aload_n 0, 1) := by decide +kernel
theorem dX12_simple_14 : decode cX12_simple 14 = .ok (.getfield 123, 3) := by decide +kernel
theorem dX12_simple_17 : decode cX12_simple 17 = .ok (.ifCond .ne 16, 3) := by decide +kernel
theorem dX12_simple_20 : decode cX12_simple 20 = .ok (.iload_n 2, 1) := by decide +kernel
theorem dX12_simple_21 : decode cX12_simple 21 = .ok (.ifCond .ge 12, 3) := by decide +kernel
theorem dX12_simple_24 : decode cX12_simple 24 = .ok (.aload_n 0, 1) := by decide +kernel
theorem dX12_simple_25 : decode cX12_simple 25 = .ok (.iconst 5, 1) := by decide +kernel
theorem dX12_simple_26 : decode cX12_simple 26 = .ok (.aload_n 0, 1) := by decide +kernel
theorem dX12_simple_27 : decode cX12_simple 27 = .ok (.getfield 118, 3) := by decide +kernel
theorem dX12_simple_30 : decode cX12_simple 30 = .ok (.invokevirtual 157, 3) := by decide +kernel
theorem dX12_simple_33 : decode cX12_simple 33 = .ok (.aload_n 0, 1) := by decide +kernel
theorem dX12_simple_34 : decode cX12_simple 34 = .ok (.getfield 123, 3) := by decide +kernel
theorem dX12_simple_37 : decode cX12_simple 37 = .ok (.ifCond .le 7, 3) := by decide +kernel
theorem dX12_simple_40 : decode cX12_simple 40 = .ok (.iconst (-1), 1) := by decide +kernel
theorem dX12_simple_41 : decode cX12_simple 41 = .ok (.goto 9, 3) := by decide +kernel
theorem dX12_simple_44 : decode cX12_simple 44 = .ok (.aload_n 0, 1) := by decide +kernel
theorem dX12_simple_45 : decode cX12_simple 45 = .ok (.iload_n 1, 1) := by decide +kernel
theorem dX12_simple_46 : decode cX12_simple 46 = .ok (.iload_n 2, 1) := by decide +kernel
theorem dX12_simple_47 : decode cX12_simple 47 = .ok (.invokevirtual 316, 3) := by decide +kernel
theorem dX12_simple_50 : decode cX12_simple 50 = .ok (.ireturn, 1) := by decide +kernel
theorem dX12_kill_0 : decode cX12_kill 0 = .ok (.aload_n 0, 1) := by decide +kernel
theorem dX12_kill_1 : decode cX12_kill 1 = .ok (.iconst 0, 1) := by decide +kernel
theorem dX12_kill_2 : decode cX12_kill 2 = .ok (.invokevirtual 310, 3) := by decide +kernel
theorem dX12_kill_5 : decode cX12_kill 5 = .ok (.istore_n 1, 1) := by decide +kernel
theorem dX12_kill_6 : decode cX12_kill 6 = .ok (.aload_n 0, 1) := by decide +kernel
theorem dX12_kill_7 : decode cX12_kill 7 = .ok (.invokevirtual 313, 3) := by decide +kernel
theorem dX12_kill_10 : decode cX12_kill 10 = .ok (.aload_n 0, 1) := by decide +kernel
theorem dX12_kill_11 : decode cX12_kill 11 = .ok (.getfield 123, 3) := by decide +kernel
theorem dX12_kill_14 : decode cX12_kill 14 = .ok (.ifCond .ne 27, 3) := by decide +kernel
theorem dX12_kill_17 : decode cX12_kill 17 = .ok (.iload_n 1, 1) := by decide +kernel
theorem dX12_kill_18 : decode cX12_kill 18 = .ok (.bipush 8, 2) := by decide +kernel
theorem dX12_kill_20 : decode cX12_kill 20 = .ok (.if_icmp .ge 12, 3) := by decide +kernel
theorem dX12_kill_23 : decode cX12_kill 23 = .ok (.aload_n 0, 1) := by decide +kernel
theorem dX12_kill_24 : decode cX12_kill 24 = .ok (.getfield 48, 3) := by decide +kernel
theorem dX12_kill_27 : decode cX12_kill 27 = .ok (.iload_n 1, 1) := by decide +kernel
theorem dX12_kill_28 : decode cX12_kill 28 = .ok (.iaload, 1) := by decide +kernel
theorem dX12_kill_29 : decode cX12_kill 29 = .ok (.ifCond .ne 12, 3) := by decide +kernel
theorem dX12_kill_32 : decode cX12_kill 32 = .ok (.aload_n 0, 1) := by decide +kernel
theorem dX12_kill_33 : decode cX12_kill 33 = .ok (.iconst 5, 1) := by decide +kernel
theorem dX12_kill_34 : decode cX12_kill 34 = .ok (.aload_n 0, 1) := by decide +kernel
theorem dX12_kill_35 : decode cX12_kill 35 = .ok (.getfield 118, 3) := by decide +kernel
theorem dX12_kill_38 : decode cX12_kill 38 = .ok (.invokevirtual 157, 3) := by decide +kernel
theorem dX12_kill_41 : decode cX12_kill 41 = .ok (.aload_n 0, 1) := by decide +kernel
theorem dX12_kill_42 : decode cX12_kill 42 = .ok (.getfield 123, 3) := by decide +kernel
theorem dX12_kill_45 : decode cX12_kill 45 = .ok (.ifCond .le 5, 3) := by decide +kernel
theorem dX12_kill_48 : decode cX12_kill 48 = .ok (.iconst (-1), 1) := by decide +kernel
theorem dX12_kill_49 : decode cX12_kill 49 = .ok (.ireturn, 1) := by decide +kernel
theorem dX12_kill_50 : decode cX12_kill 50 = .ok (.aload_n 0, 1) := by decide +kernel
theorem dX12_kill_51 : decode cX12_kill 51 = .ok (.getfield 48, 3) := by decide +kernel
theorem dX12_kill_54 : decode cX12_kill 54 = .ok (.iload_n 1, 1) := by decide +kernel
theorem dX12_kill_55 : decode cX12_kill 55 = .ok (.iconst 0, 1) := by decide +kernel
theorem dX12_kill_56 : decode cX12_kill 56 = .ok (.iastore, 1) := by decide +kernel
theorem dX12_kill_57 : decode cX12_kill 57 = .ok (.iload_n 1, 1) := by decide +kernel
theorem dX12_kill_58 : decode cX12_kill 58 = .ok (.ireturn, 1) := by decide +kernel
theorem dX12_reset_0 : decode cX12_reset 0 = .ok (.aload_n 0, 1) := by decide +kernel
theorem dX12_reset_1 : decode cX12_reset 1 = .ok (.invokevirtual 313, 3) := by decide +kernel
theorem dX12_reset_4 : decode cX12_reset 4 = .ok (.aload_n 0, 1) := by decide +kernel
theorem dX12_reset_5 : decode cX12_reset 5 = .ok (.getfield 123, 3) := by decide +kernel
theorem dX12_reset_8 : decode cX12_reset 8 = .ok (.ifCond .le 5, 3) := by decide +kernel
theorem dX12_reset_11 : decode cX12_reset 11 = .ok (.iconst (-1), 1) := by decide +kernel
theorem dX12_reset_12 : decode cX12_reset 12 = .ok (.ireturn, 1) := by decide +kernel
theorem dX12_reset_13 : decode cX12_reset 13 = .ok (.iconst 0, 1) := by decide +kernel
theorem dX12_reset_14 : decode cX12_reset 14 = .ok (.istore_n 1, 1) := by decide +kernel
theorem dX12_reset_15 : decode cX12_reset 15 = .ok (.iconst 0, 1) := by decide +kernel
theorem dX12_reset_16 : decode cX12_reset 16 = .ok (.istore_n 2, 1) := by decide +kernel
theorem dX12_reset_17 : decode cX12_reset 17 = .ok (.iload_n 2, 1) := by decide +kernel
theorem dX12_reset_18 : decode cX12_reset 18 = .ok (.bipush 8, 2) := by decide +kernel
theorem dX12_reset_20 : decode cX12_reset 20 = .ok (.if_icmp .ge 33, 3) := by decide +kernel
theorem dX12_reset_23 : decode cX12_reset 23 = .ok (.aload_n 0, 1) := by decide +kernel
theorem dX12_reset_24 : decode cX12_reset 24 = .ok (.getfield 48, 3) := by decide +kernel
theorem dX12_reset_27 : decode cX12_reset 27 = .ok (.iload_n 2, 1) := by decide +kernel
theorem dX12_reset_28 : decode cX12_reset 28 = .ok (.iaload, 1) := by decide +kernel
theorem dX12_reset_29 : decode cX12_reset 29 = .ok (.ifCond .le 9, 3) := by decide +kernel
theorem dX12_reset_32 : decode cX12_reset 32 = .ok (.iload_n 1, 1) := by decide +kernel
theorem dX12_reset_33 : decode cX12_reset 33 = .ok (.iconst 1, 1) := by decide +kernel
theorem dX12_reset_34 : decode cX12_reset 34 = .ok (.iadd, 1) := by decide +kernel
theorem dX12_reset_35 : decode cX12_reset 35 = .ok (.goto 4, 3) := by decide +kernel
theorem dX12_reset_38 : decode cX12_reset 38 = .ok (.iload_n 1, 1) := by decide +kernel
theorem dX12_reset_39 : decode cX12_reset 39 = .ok (.istore_n 1, 1) := by decide +kernel
theorem dX12_reset_40 : decode cX12_reset 40 = .ok (.aload_n 0, 1) := by decide +kernel
theorem dX12_reset_41 : decode cX12_reset 41 = .ok (.getfield 48, 3) := by decide +kernel
theorem dX12_reset_44 : decode cX12_reset 44 = .ok (.iload_n 2, 1) := by decide +kernel
theorem dX12_reset_45 : decode cX12_reset 45 = .ok (.iconst 0, 1) := by decide +kernel
theorem dX12_reset_46 : decode cX12_reset 46 = .ok (.iastore, 1) := by decide +kernel
theorem dX12_reset_47 : decode cX12_reset 47 = .ok (.iinc 2 1, 3) := by decide +kernel
theorem dX12_reset_50 : decode cX12_reset 50 = .ok (.goto (-33), 3) := by decide +kernel
theorem dX12_reset_53 : decode cX12_reset 53 = .ok (.iload_n 1, 1) := by decide +kernel
theorem dX12_reset_54 : decode cX12_reset 54 = .ok (.ireturn, 1) := by decide +kernel
theorem dX12_command_0 : decode cX12_command 0 = .ok (.aload_n 0, 1) := by decide +kernel
theorem dX12_command_1 : decode cX12_command 1 = .ok (.invokevirtual 263, 3) := by decide +kernel
theorem dX12_command_4 : decode cX12_command 4 = .ok (.aload_n 0, 1) := by decide +kernel
theorem dX12_command_5 : decode cX12_command 5 = .ok (.iconst 1, 1) := by decide +kernel
theorem dX12_command_6 : decode cX12_command 6 = .ok (.putfield 150, 3) := by decide +kernel
theorem dX12_command_9 : decode cX12_command 9 = .ok (.aload_n 0, 1) := by decide +kernel
theorem dX12_command_10 : decode cX12_command 10 = .ok (.iconst 3, 1) := by decide +kernel
theorem dX12_command_11 : decode cX12_command 11 = .ok (.putfield 202, 3) := by decide +kernel
theorem dX12_command_14 : decode cX12_command 14 = .ok (.aload_n 0, 1) := by decide +kernel
theorem dX12_command_15 : decode cX12_command 15 = .ok (.invokevirtual 281, 3) := by decide +kernel
theorem dX12_command_18 : decode cX12_command 18 = .ok (.aload_n 0, 1) := by decide +kernel
theorem dX12_command_19 : decode cX12_command 19 = .ok (.getfield 147, 3) := by decide +kernel
theorem dX12_command_22 : decode cX12_command 22 = .ok (.istore_n 1, 1) := by decide +kernel
theorem dX12_command_23 : decode cX12_command 23 = .ok (.aload_n 0, 1) := by decide +kernel
theorem dX12_command_24 : decode cX12_command 24 = .ok (.aload_n 0, 1) := by decide +kernel
theorem dX12_command_25 : decode cX12_command 25 = .ok (.getfield 147, 3) := by decide +kernel
theorem dX12_command_28 : decode cX12_command 28 = .ok (.invokevirtual 290, 3) := by decide +kernel
theorem dX12_command_31 : decode cX12_command 31 = .ok (.lstore_n 2, 1) := by decide +kernel
theorem dX12_command_32 : decode cX12_command 32 = .ok (.aload_n 0, 1) := by decide +kernel
theorem dX12_command_33 : decode cX12_command 33 = .ok (.aload_n 0, 1) := by decide +kernel
theorem dX12_command_34 : decode cX12_command 34 = .ok (.getfield 147, 3) := by decide +kernel
theorem dX12_command_37 : decode cX12_command 37 = .ok (.invokevirtual 205, 3) := by decide +kernel
theorem dX12_command_40 : decode cX12_command 40 = .ok (.istore 4, 2) := by decide +kernel
theorem dX12_command_42 : decode cX12_command 42 = .ok (.iconst 0, 1) := by decide +kernel
theorem dX12_command_43 : decode cX12_command 43 = .ok (.bipush 23, 2) := by decide +kernel
theorem dX12_command_45 : decode cX12_command 45 = .ok (.iconst 1, 1) := by decide +kernel
theorem dX12_command_46 : decode cX12_command 46 = .ok (.bipush 20, 2) := by decide +kernel
theorem dX12_command_48 : decode cX12_command 48 = .ok (.invokestatic 294, 3) := by decide +kernel
theorem dX12_command_51 : decode cX12_command 51 = .ok (.bipush 10, 2) := by decide +kernel
theorem dX12_command_53 : decode cX12_command 53 = .ok (.lshl, 1) := by decide +kernel
theorem dX12_command_54 : decode cX12_command 54 = .ok (.iconst 0, 1) := by decide +kernel
theorem dX12_command_55 : decode cX12_command 55 = .ok (.iconst 0, 1) := by decide +kernel
theorem dX12_command_56 : decode cX12_command 56 = .ok (.iconst 3, 1) := by decide +kernel
theorem dX12_command_57 : decode cX12_command 57 = .ok (.bipush 8, 2) := by decide +kernel
theorem dX12_command_59 : decode cX12_command 59 = .ok (.invokestatic 294, 3) := by decide +kernel
theorem dX12_command_62 : decode cX12_command 62 = .ok (.lor, 1) := by decide +kernel
theorem dX12_command_63 : decode cX12_command 63 = .ok (.lstore 5, 2) := by decide +kernel
theorem dX12_command_65 : decode cX12_command 65 = .ok (.bipush 13, 2) := by decide +kernel
theorem dX12_command_67 : decode cX12_command 67 = .ok (.bipush 15, 2) := by decide +kernel
theorem dX12_command_69 : decode cX12_command 69 = .ok (.bipush 14, 2) := by decide +kernel
theorem dX12_command_71 : decode cX12_command 71 = .ok (.bipush 9, 2) := by decide +kernel
theorem dX12_command_73 : decode cX12_command 73 = .ok (.invokestatic 294, 3) := by decide +kernel
theorem dX12_command_76 : decode cX12_command 76 = .ok (.bipush 15, 2) := by decide +kernel
theorem dX12_command_78 : decode cX12_command 78 = .ok (.lshl, 1) := by decide +kernel
theorem dX12_command_79 : decode cX12_command 79 = .ok (.iconst 0, 1) := by decide +kernel
theorem dX12_command_80 : decode cX12_command 80 = .ok (.bipush 20, 2) := by decide +kernel
theorem dX12_command_82 : decode cX12_command 82 = .ok (.bipush 15, 2) := by decide +kernel
theorem dX12_command_84 : decode cX12_command 84 = .ok (.bipush 18, 2) := by decide +kernel
theorem dX12_command_86 : decode cX12_command 86 = .ok (.invokestatic 294, 3) := by decide +kernel
theorem dX12_command_89 : decode cX12_command 89 = .ok (.lor, 1) := by decide +kernel
theorem dX12_command_90 : decode cX12_command 90 = .ok (.lstore 7, 2) := by decide +kernel
theorem dX12_command_92 : decode cX12_command 92 = .ok (.bipush 11, 2) := by decide +kernel
theorem dX12_command_94 : decode cX12_command 94 = .ok (.iconst 5, 1) := by decide +kernel
theorem dX12_command_95 : decode cX12_command 95 = .ok (.iconst 5, 1) := by decide +kernel
theorem dX12_command_96 : decode cX12_command 96 = .ok (.bipush 16, 2) := by decide +kernel
theorem dX12_command_98 : decode cX12_command 98 = .ok (.invokestatic 294, 3) := by decide +kernel
theorem dX12_command_101 : decode cX12_command 101 = .ok (.lstore 9, 2) := by decide +kernel
theorem dX12_command_103 : decode cX12_command 103 = .ok (.bipush 11, 2) := by decide +kernel
theorem dX12_command_105 : decode cX12_command 105 = .ok (.bipush 9, 2) := by decide +kernel
theorem dX12_command_107 : decode cX12_command 107 = .ok (.bipush 12, 2) := by decide +kernel
theorem dX12_command_109 : decode cX12_command 109 = .ok (.bipush 12, 2) := by decide +kernel
theorem dX12_command_111 : decode cX12_command 111 = .ok (.invokestatic 294, 3) := by decide +kernel
theorem dX12_command_114 : decode cX12_command 114 = .ok (.lstore 11, 2) := by decide +kernel
theorem dX12_command_116 : decode cX12_command 116 = .ok (.iconst 0, 1) := by decide +kernel
theorem dX12_command_117 : decode cX12_command 117 = .ok (.bipush 18, 2) := by decide +kernel
theorem dX12_command_119 : decode cX12_command 119 = .ok (.iconst 5, 1) := by decide +kernel
theorem dX12_command_120 : decode cX12_command 120 = .ok (.bipush 19, 2) := by decide +kernel
theorem dX12_command_122 : decode cX12_command 122 = .ok (.invokestatic 294, 3) := by decide +kernel
theorem dX12_command_125 : decode cX12_command 125 = .ok (.bipush 10, 2) := by decide +kernel
theorem dX12_command_127 : decode cX12_command 127 = .ok (.lshl, 1) := by decide +kernel
theorem dX12_command_128 : decode cX12_command 128 = .ok (.iconst 0, 1) := by decide +kernel
theorem dX12_command_129 : decode cX12_command 129 = .ok (.iconst 0, 1) := by decide +kernel
theorem dX12_command_130 : decode cX12_command 130 = .ok (.iconst 5, 1) := by decide +kernel
theorem dX12_command_131 : decode cX12_command 131 = .ok (.bipush 20, 2) := by decide +kernel
theorem dX12_command_133 : decode cX12_command 133 = .ok (.invokestatic 294, 3) := by decide +kernel
theorem dX12_command_136 : decode cX12_command 136 = .ok (.lor, 1) := by decide +kernel
theorem dX12_command_137 : decode cX12_command 137 = .ok (.lstore 13, 2) := by decide +kernel
theorem dX12_command_139 : decode cX12_command 139 = .ok (.iload 4, 2) := by decide +kernel
theorem dX12_command_141 : decode cX12_command 141 = .ok (.iconst 5, 1) := by decide +kernel
theorem dX12_command_142 : decode cX12_command 142 = .ok (.if_icmp .ne 14, 3) := by decide +kernel
theorem dX12_command_145 : decode cX12_command 145 = .ok (.lload_n 2, 1) := by decide +kernel
theorem dX12_command_146 : decode cX12_command 146 = .ok (.lload 5, 2) := by decide +kernel
theorem dX12_command_148 : decode cX12_command 148 = .ok (.lcmp, 1) := by decide +kernel
theorem dX12_command_149 : decode cX12_command 149 = .ok (.ifCond .ne 7, 3) := by decide +kernel
theorem dX12_command_152 : decode cX12_command 152 = .ok (.iconst 1, 1) := by decide +kernel
theorem dX12_command_153 : decode cX12_command 153 = .ok (.goto 73, 3) := by decide +kernel
theorem dX12_command_156 : decode cX12_command 156 = .ok (.iload 4, 2) := by decide +kernel
theorem dX12_command_158 : decode cX12_command 158 = .ok (.bipush 7, 2) := by decide +kernel
theorem dX12_command_160 : decode cX12_command 160 = .ok (.if_icmp .ne 14, 3) := by decide +kernel
theorem dX12_command_163 : decode cX12_command 163 = .ok (.lload_n 2, 1) := by decide +kernel
theorem dX12_command_164 : decode cX12_command 164 = .ok (.lload 7, 2) := by decide +kernel
theorem dX12_command_166 : decode cX12_command 166 = .ok (.lcmp, 1) := by decide +kernel
theorem dX12_command_167 : decode cX12_command 167 = .ok (.ifCond .ne 7, 3) := by decide +kernel
theorem dX12_command_170 : decode cX12_command 170 = .ok (.iconst 2, 1) := by decide +kernel
theorem dX12_command_171 : decode cX12_command 171 = .ok (.goto 55, 3) := by decide +kernel
theorem dX12_command_174 : decode cX12_command 174 = .ok (.iload 4, 2) := by decide +kernel
theorem dX12_command_176 : decode cX12_command 176 = .ok (.iconst 4, 1) := by decide +kernel
theorem dX12_command_177 : decode cX12_command 177 = .ok (.if_icmp .ne 14, 3) := by decide +kernel
theorem dX12_command_180 : decode cX12_command 180 = .ok (.lload_n 2, 1) := by decide +kernel
theorem dX12_command_181 : decode cX12_command 181 = .ok (.lload 9, 2) := by decide +kernel
theorem dX12_command_183 : decode cX12_command 183 = .ok (.lcmp, 1) := by decide +kernel
theorem dX12_command_184 : decode cX12_command 184 = .ok (.ifCond .ne 7, 3) := by decide +kernel
theorem dX12_command_187 : decode cX12_command 187 = .ok (.iconst 3, 1) := by decide +kernel
theorem dX12_command_188 : decode cX12_command 188 = .ok (.goto 38, 3) := by decide +kernel
theorem dX12_command_191 : decode cX12_command 191 = .ok (.iload 4, 2) := by decide +kernel
theorem dX12_command_193 : decode cX12_command 193 = .ok (.iconst 4, 1) := by decide +kernel
theorem dX12_command_194 : decode cX12_command 194 = .ok (.if_icmp .ne 14, 3) := by decide +kernel
theorem dX12_command_197 : decode cX12_command 197 = .ok (.lload_n 2, 1) := by decide +kernel
theorem dX12_command_198 : decode cX12_command 198 = .ok (.lload 11, 2) := by decide +kernel
theorem dX12_command_200 : decode cX12_command 200 = .ok (.lcmp, 1) := by decide +kernel
theorem dX12_command_201 : decode cX12_command 201 = .ok (.ifCond .ne 7, 3) := by decide +kernel
theorem dX12_command_204 : decode cX12_command 204 = .ok (.iconst 4, 1) := by decide +kernel
theorem dX12_command_205 : decode cX12_command 205 = .ok (.goto 21, 3) := by decide +kernel
theorem dX12_command_208 : decode cX12_command 208 = .ok (.iload 4, 2) := by decide +kernel
theorem dX12_command_210 : decode cX12_command 210 = .ok (.iconst 5, 1) := by decide +kernel
theorem dX12_command_211 : decode cX12_command 211 = .ok (.if_icmp .ne 14, 3) := by decide +kernel
theorem dX12_command_214 : decode cX12_command 214 = .ok (.lload_n 2, 1) := by decide +kernel
theorem dX12_command_215 : decode cX12_command 215 = .ok (.lload 13, 2) := by decide +kernel
theorem dX12_command_217 : decode cX12_command 217 = .ok (.lcmp, 1) := by decide +kernel
theorem dX12_command_218 : decode cX12_command 218 = .ok (.ifCond .ne 7, 3) := by decide +kernel
theorem dX12_command_221 : decode cX12_command 221 = .ok (.iconst 5, 1) := by decide +kernel
theorem dX12_command_222 : decode cX12_command 222 = .ok (.goto 4, 3) := by decide +kernel
theorem dX12_command_225 : decode cX12_command 225 = .ok (.iconst 0, 1) := by decide +kernel
theorem dX12_command_226 : decode cX12_command 226 = .ok (.istore 15, 2) := by decide +kernel
theorem dX12_command_228 : decode cX12_command 228 = .ok (.iload 15, 2) := by decide +kernel
theorem dX12_command_230 : decode cX12_command 230 = .ok (.ifCond .eq 14, 3) := by decide +kernel
theorem dX12_command_233 : decode cX12_command 233 = .ok (.aload_n 0, 1) := by decide +kernel
theorem dX12_command_234 : decode cX12_command 234 = .ok (.iload_n 1, 1) := by decide +kernel
theorem dX12_command_235 : decode cX12_command 235 = .ok (.iload 4, 2) := by decide +kernel
theorem dX12_command_237 : decode cX12_command 237 = .ok (.iadd, 1) := by decide +kernel
theorem dX12_command_238 : decode cX12_command 238 = .ok (.invokevirtual 298, 3) := by decide +kernel
theorem dX12_command_241 : decode cX12_command 241 = .ok (.ifCond .ne 11, 3) := by decide +kernel
theorem dX12_command_244 : decode cX12_command 244 = .ok (.aload_n 0, 1) := by decide +kernel
theorem dX12_command_245 : decode cX12_command 245 = .ok (.iconst 1, 1) := by decide +kernel
theorem dX12_command_246 : decode cX12_command 246 = .ok (.iload_n 1, 1) := by decide +kernel
theorem dX12_command_247 : decode cX12_command 247 = .ok (.invokevirtual 157, 3) := by decide +kernel
theorem dX12_command_250 : decode cX12_command 250 = .ok (.iconst (-1), 1) := by decide +kernel
theorem dX12_command_251 : decode cX12_command 251 = .ok (.ireturn, 1) := by decide +kernel
theorem dX12_command_252 : decode cX12_command 252 = .ok (.aload_n 0, 1) := by decide +kernel
theorem dX12_command_253 : decode cX12_command 253 = .ok (.iload_n 1, 1) := by decide +kernel
theorem dX12_command_254 : decode cX12_command 254 = .ok (.iload 4, 2) := by decide +kernel
theorem dX12_command_256 : decode cX12_command 256 = .ok (.iadd, 1) := by decide +kernel
theorem dX12_command_257 : decode cX12_command 257 = .ok (.putfield 147, 3) := by decide +kernel
theorem dX12_command_260 : decode cX12_command 260 = .ok (.iload 15, 2) := by decide +kernel
theorem dX12_command_262 : decode cX12_command 262 = .ok (.iconst 1, 1) := by decide +kernel
theorem dX12_command_263 : decode cX12_command 263 = .ok (.if_icmp .ne 10, 3) := by decide +kernel
theorem dX12_command_266 : decode cX12_command 266 = .ok (.aload_n 0, 1) := by decide +kernel
theorem dX12_command_267 : decode cX12_command 267 = .ok (.invokevirtual 320, 3) := by decide +kernel
theorem dX12_command_270 : decode cX12_command 270 = .ok (.goto 35, 3) := by decide +kernel
theorem dX12_command_273 : decode cX12_command 273 = .ok (.iload 15, 2) := by decide +kernel
theorem dX12_command_275 : decode cX12_command 275 = .ok (.iconst 4, 1) := by decide +kernel
theorem dX12_command_276 : decode cX12_command 276 = .ok (.if_icmp .ge 12, 3) := by decide +kernel
theorem dX12_command_279 : decode cX12_command 279 = .ok (.aload_n 0, 1) := by decide +kernel
theorem dX12_command_280 : decode cX12_command 280 = .ok (.iload 15, 2) := by decide +kernel
theorem dX12_command_282 : decode cX12_command 282 = .ok (.invokevirtual 323, 3) := by decide +kernel
theorem dX12_command_285 : decode cX12_command 285 = .ok (.goto 20, 3) := by decide +kernel
theorem dX12_command_288 : decode cX12_command 288 = .ok (.iload 15, 2) := by decide +kernel
theorem dX12_command_290 : decode cX12_command 290 = .ok (.iconst 4, 1) := by decide +kernel
theorem dX12_command_291 : decode cX12_command 291 = .ok (.if_icmp .ne 10, 3) := by decide +kernel
theorem dX12_command_294 : decode cX12_command 294 = .ok (.aload_n 0, 1) := by decide +kernel
theorem dX12_command_295 : decode cX12_command 295 = .ok (.invokevirtual 326, 3) := by decide +kernel
theorem dX12_command_298 : decode cX12_command 298 = .ok (.goto 7, 3) := by decide +kernel
theorem dX12_command_301 : decode cX12_command 301 = .ok (.aload_n 0, 1) := by decide +kernel
theorem dX12_command_302 : decode cX12_command 302 = .ok (.invokevirtual 329, 3) := by decide +kernel
theorem dX12_command_305 : decode cX12_command 305 = .ok (.ireturn, 1) := by decide +kernel
theorem dX12_fault_0 : decode cX12_fault 0 = .ok (.aload_n 0, 1) := by decide +kernel
theorem dX12_fault_1 : decode cX12_fault 1 = .ok (.iconst 0, 1) := by decide +kernel
theorem dX12_fault_2 : decode cX12_fault 2 = .ok (.putfield 115, 3) := by decide +kernel
theorem dX12_fault_5 : decode cX12_fault 5 = .ok (.aload_n 0, 1) := by decide +kernel
theorem dX12_fault_6 : decode cX12_fault 6 = .ok (.getfield 123, 3) := by decide +kernel
theorem dX12_fault_9 : decode cX12_fault 9 = .ok (.ireturn, 1) := by decide +kernel
theorem dX12_place_0 : decode cX12_place 0 = .ok (.aload_n 0, 1) := by decide +kernel
theorem dX12_place_1 : decode cX12_place 1 = .ok (.iconst 0, 1) := by decide +kernel
theorem dX12_place_2 : decode cX12_place 2 = .ok (.putfield 115, 3) := by decide +kernel
theorem dX12_place_5 : decode cX12_place 5 = .ok (.aload_n 0, 1) := by decide +kernel
theorem dX12_place_6 : decode cX12_place 6 = .ok (.getfield 13, 3) := by decide +kernel
theorem dX12_place_9 : decode cX12_place 9 = .ok (.ireturn, 1) := by decide +kernel
theorem dX12_nameByte_0 : decode cX12_nameByte 0 = .ok (.aload_n 0, 1) := by decide +kernel
theorem dX12_nameByte_1 : decode cX12_nameByte 1 = .ok (.getfield 27, 3) := by decide +kernel
theorem dX12_nameByte_4 : decode cX12_nameByte 4 = .ok (.iload_n 1, 1) := by decide +kernel
theorem dX12_nameByte_5 : decode cX12_nameByte 5 = .ok (.laload, 1) := by decide +kernel
theorem dX12_nameByte_6 : decode cX12_nameByte 6 = .ok (.iconst 5, 1) := by decide +kernel
theorem dX12_nameByte_7 : decode cX12_nameByte 7 = .ok (.iload_n 3, 1) := by decide +kernel
theorem dX12_nameByte_8 : decode cX12_nameByte 8 = .ok (.iconst 1, 1) := by decide +kernel
theorem dX12_nameByte_9 : decode cX12_nameByte 9 = .ok (.isub, 1) := by decide +kernel
theorem dX12_nameByte_10 : decode cX12_nameByte 10 = .ok (.iload_n 2, 1) := by decide +kernel
theorem dX12_nameByte_11 : decode cX12_nameByte 11 = .ok (.isub, 1) := by decide +kernel
theorem dX12_nameByte_12 : decode cX12_nameByte 12 = .ok (.imul, 1) := by decide +kernel
theorem dX12_nameByte_13 : decode cX12_nameByte 13 = .ok (.lshr, 1) := by decide +kernel
theorem dX12_nameByte_14 : decode cX12_nameByte 14 = .ok (.ldc2_w 332, 3) := by decide +kernel
theorem dX12_nameByte_17 : decode cX12_nameByte 17 = .ok (.land, 1) := by decide +kernel
theorem dX12_nameByte_18 : decode cX12_nameByte 18 = .ok (.l2i, 1) := by decide +kernel
theorem dX12_nameByte_19 : decode cX12_nameByte 19 = .ok (.istore 4, 2) := by decide +kernel
theorem dX12_nameByte_21 : decode cX12_nameByte 21 = .ok (.iload 4, 2) := by decide +kernel
theorem dX12_nameByte_23 : decode cX12_nameByte 23 = .ok (.bipush 27, 2) := by decide +kernel
theorem dX12_nameByte_25 : decode cX12_nameByte 25 = .ok (.if_icmp .ne 8, 3) := by decide +kernel
theorem dX12_nameByte_28 : decode cX12_nameByte 28 = .ok (.bipush 46, 2) := by decide +kernel
theorem dX12_nameByte_30 : decode cX12_nameByte 30 = .ok (.goto 8, 3) := by decide +kernel
theorem dX12_nameByte_33 : decode cX12_nameByte 33 = .ok (.bipush 96, 2) := by decide +kernel
theorem dX12_nameByte_35 : decode cX12_nameByte 35 = .ok (.iload 4, 2) := by decide +kernel
theorem dX12_nameByte_37 : decode cX12_nameByte 37 = .ok (.iadd, 1) := by decide +kernel
theorem dX12_nameByte_38 : decode cX12_nameByte 38 = .ok (.ireturn, 1) := by decide +kernel
theorem dX12_nameSize_0 : decode cX12_nameSize 0 = .ok (.iconst 0, 1) := by decide +kernel
theorem dX12_nameSize_1 : decode cX12_nameSize 1 = .ok (.istore_n 2, 1) := by decide +kernel
theorem dX12_nameSize_2 : decode cX12_nameSize 2 = .ok (.iload_n 2, 1) := by decide +kernel
theorem dX12_nameSize_3 : decode cX12_nameSize 3 = .ok (.bipush 12, 2) := by decide +kernel
theorem dX12_nameSize_5 : decode cX12_nameSize 5 = .ok (.if_icmp .ge 24, 3) := by decide +kernel
theorem dX12_nameSize_8 : decode cX12_nameSize 8 = .ok (.aload_n 0, 1) := by decide +kernel
theorem dX12_nameSize_9 : decode cX12_nameSize 9 = .ok (.getfield 27, 3) := by decide +kernel
theorem dX12_nameSize_12 : decode cX12_nameSize 12 = .ok (.iload_n 1, 1) := by decide +kernel
theorem dX12_nameSize_13 : decode cX12_nameSize 13 = .ok (.laload, 1) := by decide +kernel
theorem dX12_nameSize_14 : decode cX12_nameSize 14 = .ok (.iconst 5, 1) := by decide +kernel
theorem dX12_nameSize_15 : decode cX12_nameSize 15 = .ok (.iload_n 2, 1) := by decide +kernel
theorem dX12_nameSize_16 : decode cX12_nameSize 16 = .ok (.imul, 1) := by decide +kernel
theorem dX12_nameSize_17 : decode cX12_nameSize 17 = .ok (.lshr, 1) := by decide +kernel
theorem dX12_nameSize_18 : decode cX12_nameSize 18 = .ok (.lconst 0, 1) := by decide +kernel
theorem dX12_nameSize_19 : decode cX12_nameSize 19 = .ok (.lcmp, 1) := by decide +kernel
theorem dX12_nameSize_20 : decode cX12_nameSize 20 = .ok (.ifCond .eq 9, 3) := by decide +kernel
theorem dX12_nameSize_23 : decode cX12_nameSize 23 = .ok (.iinc 2 1, 3) := by decide +kernel
theorem dX12_nameSize_26 : decode cX12_nameSize 26 = .ok (.goto (-24), 3) := by decide +kernel
theorem dX12_nameSize_29 : decode cX12_nameSize 29 = .ok (.iload_n 2, 1) := by decide +kernel
theorem dX12_nameSize_30 : decode cX12_nameSize 30 = .ok (.ireturn, 1) := by decide +kernel
theorem dX12_fits_0 : decode cX12_fits 0 = .ok (.aload_n 0, 1) := by decide +kernel
theorem dX12_fits_1 : decode cX12_fits 1 = .ok (.iload_n 2, 1) := by decide +kernel
theorem dX12_fits_2 : decode cX12_fits 2 = .ok (.invokevirtual 334, 3) := by decide +kernel
theorem dX12_fits_5 : decode cX12_fits 5 = .ok (.istore_n 3, 1) := by decide +kernel
theorem dX12_fits_6 : decode cX12_fits 6 = .ok (.aload_n 0, 1) := by decide +kernel
theorem dX12_fits_7 : decode cX12_fits 7 = .ok (.getfield 67, 3) := by decide +kernel
theorem dX12_fits_10 : decode cX12_fits 10 = .ok (.iload_n 1, 1) := by decide +kernel
theorem dX12_fits_11 : decode cX12_fits 11 = .ok (.iaload, 1) := by decide +kernel
theorem dX12_fits_12 : decode cX12_fits 12 = .ok (.istore 4, 2) := by decide +kernel
theorem dX12_fits_14 : decode cX12_fits 14 = .ok (.aload_n 0, 1) := by decide +kernel
theorem dX12_fits_15 : decode cX12_fits 15 = .ok (.iload_n 1, 1) := by decide +kernel
theorem dX12_fits_16 : decode cX12_fits 16 = .ok (.iconst 1, 1) := by decide +kernel
theorem dX12_fits_17 : decode cX12_fits 17 = .ok (.invokevirtual 337, 3) := by decide +kernel
theorem dX12_fits_20 : decode cX12_fits 20 = .ok (.istore 5, 2) := by decide +kernel
theorem dX12_fits_22 : decode cX12_fits 22 = .ok (.iconst 0, 1) := by decide +kernel
theorem dX12_fits_23 : decode cX12_fits 23 = .ok (.istore 6, 2) := by decide +kernel
theorem dX12_fits_25 : decode cX12_fits 25 = .ok (.iload 6, 2) := by decide +kernel
theorem dX12_fits_27 : decode cX12_fits 27 = .ok (.iload_n 3, 1) := by decide +kernel
theorem dX12_fits_28 : decode cX12_fits 28 = .ok (.if_icmp .ge 113, 3) := by decide +kernel
theorem dX12_fits_31 : decode cX12_fits 31 = .ok (.iconst 0, 1) := by decide +kernel
theorem dX12_fits_32 : decode cX12_fits 32 = .ok (.istore 7, 2) := by decide +kernel
theorem dX12_fits_34 : decode cX12_fits 34 = .ok (.iconst 0, 1) := by decide +kernel
theorem dX12_fits_35 : decode cX12_fits 35 = .ok (.istore 8, 2) := by decide +kernel
theorem dX12_fits_37 : decode cX12_fits 37 = .ok (.iload 8, 2) := by decide +kernel
theorem dX12_fits_39 : decode cX12_fits 39 = .ok (.iload 4, 2) := by decide +kernel
theorem dX12_fits_41 : decode cX12_fits 41 = .ok (.if_icmp .ge 85, 3) := by decide +kernel
theorem dX12_fits_44 : decode cX12_fits 44 = .ok (.iload 5, 2) := by decide +kernel
theorem dX12_fits_46 : decode cX12_fits 46 = .ok (.iload 8, 2) := by decide +kernel
theorem dX12_fits_48 : decode cX12_fits 48 = .ok (.ishr, 1) := by decide +kernel
theorem dX12_fits_49 : decode cX12_fits 49 = .ok (.iconst 1, 1) := by decide +kernel
theorem dX12_fits_50 : decode cX12_fits 50 = .ok (.iand, 1) := by decide +kernel
theorem dX12_fits_51 : decode cX12_fits 51 = .ok (.iconst 1, 1) := by decide +kernel
theorem dX12_fits_52 : decode cX12_fits 52 = .ok (.if_icmp .ne 68, 3) := by decide +kernel
theorem dX12_fits_55 : decode cX12_fits 55 = .ok (.aload_n 0, 1) := by decide +kernel
theorem dX12_fits_56 : decode cX12_fits 56 = .ok (.getfield 64, 3) := by decide +kernel
theorem dX12_fits_59 : decode cX12_fits 59 = .ok (.bipush 12, 2) := by decide +kernel
theorem dX12_fits_61 : decode cX12_fits 61 = .ok (.iload_n 1, 1) := by decide +kernel
theorem dX12_fits_62 : decode cX12_fits 62 = .ok (.imul, 1) := by decide +kernel
theorem dX12_fits_63 : decode cX12_fits 63 = .ok (.iload 8, 2) := by decide +kernel
theorem dX12_fits_65 : decode cX12_fits 65 = .ok (.iadd, 1) := by decide +kernel
theorem dX12_fits_66 : decode cX12_fits 66 = .ok (.iaload, 1) := by decide +kernel
theorem dX12_fits_67 : decode cX12_fits 67 = .ok (.istore 9, 2) := by decide +kernel
theorem dX12_fits_69 : decode cX12_fits 69 = .ok (.iload 9, 2) := by decide +kernel
theorem dX12_fits_71 : decode cX12_fits 71 = .ok (.bipush 42, 2) := by decide +kernel
theorem dX12_fits_73 : decode cX12_fits 73 = .ok (.if_icmp .ne 13, 3) := by decide +kernel
theorem dX12_fits_76 : decode cX12_fits 76 = .ok (.iload 7, 2) := by decide +kernel
theorem dX12_fits_78 : decode cX12_fits 78 = .ok (.iconst 1, 1) := by decide +kernel
theorem dX12_fits_79 : decode cX12_fits 79 = .ok (.iload 8, 2) := by decide +kernel
theorem dX12_fits_81 : decode cX12_fits 81 = .ok (.ishl, 1) := by decide +kernel
theorem dX12_fits_82 : decode cX12_fits 82 = .ok (.ior, 1) := by decide +kernel
theorem dX12_fits_83 : decode cX12_fits 83 = .ok (.goto 35, 3) := by decide +kernel
theorem dX12_fits_86 : decode cX12_fits 86 = .ok (.iload 9, 2) := by decide +kernel
theorem dX12_fits_88 : decode cX12_fits 88 = .ok (.bipush 63, 2) := by decide +kernel
theorem dX12_fits_90 : decode cX12_fits 90 = .ok (.if_icmp .eq 16, 3) := by decide +kernel
theorem dX12_fits_93 : decode cX12_fits 93 = .ok (.iload 9, 2) := by decide +kernel
theorem dX12_fits_95 : decode cX12_fits 95 = .ok (.aload_n 0, 1) := by decide +kernel
theorem dX12_fits_96 : decode cX12_fits 96 = .ok (.iload_n 2, 1) := by decide +kernel
theorem dX12_fits_97 : decode cX12_fits 97 = .ok (.iload 6, 2) := by decide +kernel
theorem dX12_fits_99 : decode cX12_fits 99 = .ok (.iload_n 3, 1) := by decide +kernel
theorem dX12_fits_100 : decode cX12_fits 100 = .ok (.invokevirtual 340, 3) := by decide +kernel
theorem dX12_fits_103 : decode cX12_fits 103 = .ok (.if_icmp .ne 13, 3) := by decide +kernel
theorem dX12_fits_106 : decode cX12_fits 106 = .ok (.iload 7, 2) := by decide +kernel
theorem dX12_fits_108 : decode cX12_fits 108 = .ok (.iconst 2, 1) := by decide +kernel
theorem dX12_fits_109 : decode cX12_fits 109 = .ok (.iload 8, 2) := by decide +kernel
theorem dX12_fits_111 : decode cX12_fits 111 = .ok (.ishl, 1) := by decide +kernel
theorem dX12_fits_112 : decode cX12_fits 112 = .ok (.ior, 1) := by decide +kernel
theorem dX12_fits_113 : decode cX12_fits 113 = .ok (.goto 5, 3) := by decide +kernel
theorem dX12_fits_116 : decode cX12_fits 116 = .ok (.iload 7, 2) := by decide +kernel
theorem dX12_fits_118 : decode cX12_fits 118 = .ok (.istore 7, 2) := by decide +kernel
theorem dX12_fits_120 : decode cX12_fits 120 = .ok (.iinc 8 1, 3) := by decide +kernel
theorem dX12_fits_123 : decode cX12_fits 123 = .ok (.goto (-86), 3) := by decide +kernel
theorem dX12_fits_126 : decode cX12_fits 126 = .ok (.aload_n 0, 1) := by decide +kernel
theorem dX12_fits_127 : decode cX12_fits 127 = .ok (.iload_n 1, 1) := by decide +kernel
theorem dX12_fits_128 : decode cX12_fits 128 = .ok (.iload 7, 2) := by decide +kernel
theorem dX12_fits_130 : decode cX12_fits 130 = .ok (.invokevirtual 337, 3) := by decide +kernel
theorem dX12_fits_133 : decode cX12_fits 133 = .ok (.istore 5, 2) := by decide +kernel
theorem dX12_fits_135 : decode cX12_fits 135 = .ok (.iinc 6 1, 3) := by decide +kernel
theorem dX12_fits_138 : decode cX12_fits 138 = .ok (.goto (-113), 3) := by decide +kernel
theorem dX12_fits_141 : decode cX12_fits 141 = .ok (.iload 5, 2) := by decide +kernel
theorem dX12_fits_143 : decode cX12_fits 143 = .ok (.iload 4, 2) := by decide +kernel
theorem dX12_fits_145 : decode cX12_fits 145 = .ok (.ishr, 1) := by decide +kernel
theorem dX12_fits_146 : decode cX12_fits 146 = .ok (.iconst 1, 1) := by decide +kernel
theorem dX12_fits_147 : decode cX12_fits 147 = .ok (.iand, 1) := by decide +kernel
theorem dX12_fits_148 : decode cX12_fits 148 = .ok (.iconst 1, 1) := by decide +kernel
theorem dX12_fits_149 : decode cX12_fits 149 = .ok (.if_icmp .ne 7, 3) := by decide +kernel
theorem dX12_fits_152 : decode cX12_fits 152 = .ok (.iconst 1, 1) := by decide +kernel
theorem dX12_fits_153 : decode cX12_fits 153 = .ok (.goto 4, 3) := by decide +kernel
theorem dX12_fits_156 : decode cX12_fits 156 = .ok (.iconst 0, 1) := by decide +kernel
theorem dX12_fits_157 : decode cX12_fits 157 = .ok (.ireturn, 1) := by decide +kernel
theorem dX12_starred_0 : decode cX12_starred 0 = .ok (.iload_n 2, 1) := by decide +kernel
theorem dX12_starred_1 : decode cX12_starred 1 = .ok (.istore_n 3, 1) := by decide +kernel
theorem dX12_starred_2 : decode cX12_starred 2 = .ok (.iconst 0, 1) := by decide +kernel
theorem dX12_starred_3 : decode cX12_starred 3 = .ok (.istore 4, 2) := by decide +kernel
theorem dX12_starred_5 : decode cX12_starred 5 = .ok (.iload 4, 2) := by decide +kernel
theorem dX12_starred_7 : decode cX12_starred 7 = .ok (.aload_n 0, 1) := by decide +kernel
theorem dX12_starred_8 : decode cX12_starred 8 = .ok (.getfield 67, 3) := by decide +kernel
theorem dX12_starred_11 : decode cX12_starred 11 = .ok (.iload_n 1, 1) := by decide +kernel
theorem dX12_starred_12 : decode cX12_starred 12 = .ok (.iaload, 1) := by decide +kernel
theorem dX12_starred_13 : decode cX12_starred 13 = .ok (.if_icmp .ge 47, 3) := by decide +kernel
theorem dX12_starred_16 : decode cX12_starred 16 = .ok (.iload_n 3, 1) := by decide +kernel
theorem dX12_starred_17 : decode cX12_starred 17 = .ok (.iload 4, 2) := by decide +kernel
theorem dX12_starred_19 : decode cX12_starred 19 = .ok (.ishr, 1) := by decide +kernel
theorem dX12_starred_20 : decode cX12_starred 20 = .ok (.iconst 1, 1) := by decide +kernel
theorem dX12_starred_21 : decode cX12_starred 21 = .ok (.iand, 1) := by decide +kernel
theorem dX12_starred_22 : decode cX12_starred 22 = .ok (.iconst 1, 1) := by decide +kernel
theorem dX12_starred_23 : decode cX12_starred 23 = .ok (.if_icmp .ne 29, 3) := by decide +kernel
theorem dX12_starred_26 : decode cX12_starred 26 = .ok (.aload_n 0, 1) := by decide +kernel
theorem dX12_starred_27 : decode cX12_starred 27 = .ok (.getfield 64, 3) := by decide +kernel
theorem dX12_starred_30 : decode cX12_starred 30 = .ok (.bipush 12, 2) := by decide +kernel
theorem dX12_starred_32 : decode cX12_starred 32 = .ok (.iload_n 1, 1) := by decide +kernel
theorem dX12_starred_33 : decode cX12_starred 33 = .ok (.imul, 1) := by decide +kernel
theorem dX12_starred_34 : decode cX12_starred 34 = .ok (.iload 4, 2) := by decide +kernel
theorem dX12_starred_36 : decode cX12_starred 36 = .ok (.iadd, 1) := by decide +kernel
theorem dX12_starred_37 : decode cX12_starred 37 = .ok (.iaload, 1) := by decide +kernel
theorem dX12_starred_38 : decode cX12_starred 38 = .ok (.bipush 42, 2) := by decide +kernel
theorem dX12_starred_40 : decode cX12_starred 40 = .ok (.if_icmp .ne 12, 3) := by decide +kernel
theorem dX12_starred_43 : decode cX12_starred 43 = .ok (.iload_n 3, 1) := by decide +kernel
theorem dX12_starred_44 : decode cX12_starred 44 = .ok (.iconst 2, 1) := by decide +kernel
theorem dX12_starred_45 : decode cX12_starred 45 = .ok (.iload 4, 2) := by decide +kernel
theorem dX12_starred_47 : decode cX12_starred 47 = .ok (.ishl, 1) := by decide +kernel
theorem dX12_starred_48 : decode cX12_starred 48 = .ok (.ior, 1) := by decide +kernel
theorem dX12_starred_49 : decode cX12_starred 49 = .ok (.goto 4, 3) := by decide +kernel
theorem dX12_starred_52 : decode cX12_starred 52 = .ok (.iload_n 3, 1) := by decide +kernel
theorem dX12_starred_53 : decode cX12_starred 53 = .ok (.istore_n 3, 1) := by decide +kernel
theorem dX12_starred_54 : decode cX12_starred 54 = .ok (.iinc 4 1, 3) := by decide +kernel
theorem dX12_starred_57 : decode cX12_starred 57 = .ok (.goto (-52), 3) := by decide +kernel
theorem dX12_starred_60 : decode cX12_starred 60 = .ok (.iload_n 3, 1) := by decide +kernel
theorem dX12_starred_61 : decode cX12_starred 61 = .ok (.ireturn, 1) := by decide +kernel
theorem dX12_isOver_0 : decode cX12_isOver 0 = .ok (.iload_n 0, 1) := by decide +kernel
theorem dX12_isOver_1 : decode cX12_isOver 1 = .ok (.bipush 47, 2) := by decide +kernel
theorem dX12_isOver_3 : decode cX12_isOver 3 = .ok (.if_icmp .eq 9, 3) := by decide +kernel
theorem dX12_isOver_6 : decode cX12_isOver 6 = .ok (.iload_n 0, 1) := by decide +kernel
theorem dX12_isOver_7 : decode cX12_isOver 7 = .ok (.bipush 37, 2) := by decide +kernel
theorem dX12_isOver_9 : decode cX12_isOver 9 = .ok (.if_icmp .ne 11, 3) := by decide +kernel
theorem dX12_isOver_12 : decode cX12_isOver 12 = .ok (.iload_n 1, 1) := by decide +kernel
theorem dX12_isOver_13 : decode cX12_isOver 13 = .ok (.ifCond .ne 7, 3) := by decide +kernel
theorem dX12_isOver_16 : decode cX12_isOver 16 = .ok (.iconst 1, 1) := by decide +kernel
theorem dX12_isOver_17 : decode cX12_isOver 17 = .ok (.goto 4, 3) := by decide +kernel
theorem dX12_isOver_20 : decode cX12_isOver 20 = .ok (.iconst 0, 1) := by decide +kernel
theorem dX12_isOver_21 : decode cX12_isOver 21 = .ok (.ireturn, 1) := by decide +kernel
theorem dX12_result_0 : decode cX12_result 0 = .ok (.iload_n 0, 1) := by decide +kernel
theorem dX12_result_1 : decode cX12_result 1 = .ok (.lookupswitch 109 #[(37, 83), (42, 75), (43, 67), (45, 71), (47, 79), (60, 87), (62, 98)], 67) := by decide +kernel
theorem dX12_result_68 : decode cX12_result 68 = .ok (.iload_n 1, 1) := by decide +kernel
theorem dX12_result_69 : decode cX12_result 69 = .ok (.iload_n 2, 1) := by decide +kernel
theorem dX12_result_70 : decode cX12_result 70 = .ok (.iadd, 1) := by decide +kernel
theorem dX12_result_71 : decode cX12_result 71 = .ok (.ireturn, 1) := by decide +kernel
theorem dX12_result_72 : decode cX12_result 72 = .ok (.iload_n 1, 1) := by decide +kernel
theorem dX12_result_73 : decode cX12_result 73 = .ok (.iload_n 2, 1) := by decide +kernel
theorem dX12_result_74 : decode cX12_result 74 = .ok (.isub, 1) := by decide +kernel
theorem dX12_result_75 : decode cX12_result 75 = .ok (.ireturn, 1) := by decide +kernel
theorem dX12_result_76 : decode cX12_result 76 = .ok (.iload_n 1, 1) := by decide +kernel
theorem dX12_result_77 : decode cX12_result 77 = .ok (.iload_n 2, 1) := by decide +kernel
theorem dX12_result_78 : decode cX12_result 78 = .ok (.imul, 1) := by decide +kernel
theorem dX12_result_79 : decode cX12_result 79 = .ok (.ireturn, 1) := by decide +kernel
theorem dX12_result_80 : decode cX12_result 80 = .ok (.iload_n 1, 1) := by decide +kernel
theorem dX12_result_81 : decode cX12_result 81 = .ok (.iload_n 2, 1) := by decide +kernel
theorem dX12_result_82 : decode cX12_result 82 = .ok (.idiv, 1) := by decide +kernel
theorem dX12_result_83 : decode cX12_result 83 = .ok (.ireturn, 1) := by decide +kernel
theorem dX12_result_84 : decode cX12_result 84 = .ok (.iload_n 1, 1) := by decide +kernel
theorem dX12_result_85 : decode cX12_result 85 = .ok (.iload_n 2, 1) := by decide +kernel
theorem dX12_result_86 : decode cX12_result 86 = .ok (.irem, 1) := by decide +kernel
theorem dX12_result_87 : decode cX12_result 87 = .ok (.ireturn, 1) := by decide +kernel
theorem dX12_result_88 : decode cX12_result 88 = .ok (.iload_n 1, 1) := by decide +kernel
theorem dX12_result_89 : decode cX12_result 89 = .ok (.iload_n 2, 1) := by decide +kernel
theorem dX12_result_90 : decode cX12_result 90 = .ok (.if_icmp .ge 7, 3) := by decide +kernel
theorem dX12_result_93 : decode cX12_result 93 = .ok (.iconst 1, 1) := by decide +kernel
theorem dX12_result_94 : decode cX12_result 94 = .ok (.goto 4, 3) := by decide +kernel
theorem dX12_result_97 : decode cX12_result 97 = .ok (.iconst 0, 1) := by decide +kernel
theorem dX12_result_98 : decode cX12_result 98 = .ok (.ireturn, 1) := by decide +kernel
theorem dX12_result_99 : decode cX12_result 99 = .ok (.iload_n 1, 1) := by decide +kernel
theorem dX12_result_100 : decode cX12_result 100 = .ok (.iload_n 2, 1) := by decide +kernel
theorem dX12_result_101 : decode cX12_result 101 = .ok (.if_icmp .le 7, 3) := by decide +kernel
theorem dX12_result_104 : decode cX12_result 104 = .ok (.iconst 1, 1) := by decide +kernel
theorem dX12_result_105 : decode cX12_result 105 = .ok (.goto 4, 3) := by decide +kernel
theorem dX12_result_108 : decode cX12_result 108 = .ok (.iconst 0, 1) := by decide +kernel
theorem dX12_result_109 : decode cX12_result 109 = .ok (.ireturn, 1) := by decide +kernel
theorem dX12_result_110 : decode cX12_result 110 = .ok (.iload_n 1, 1) := by decide +kernel
theorem dX12_result_111 : decode cX12_result 111 = .ok (.iload_n 2, 1) := by decide +kernel
theorem dX12_result_112 : decode cX12_result 112 = .ok (.if_icmp .ne 7, 3) := by decide +kernel
theorem dX12_result_115 : decode cX12_result 115 = .ok (.iconst 1, 1) := by decide +kernel
theorem dX12_result_116 : decode cX12_result 116 = .ok (.goto 4, 3) := by decide +kernel
theorem dX12_result_119 : decode cX12_result 119 = .ok (.iconst 0, 1) := by decide +kernel
theorem dX12_result_120 : decode cX12_result 120 = .ok (.ireturn, 1) := by decide +kernel
theorem dX12_probeExpression_0 : decode cX12_probeExpression 0 = .ok (.iload_n 1, 1) := by decide +kernel
theorem dX12_probeExpression_1 : decode cX12_probeExpression 1 = .ok (.invokestatic 141, 3) := by decide +kernel
theorem dX12_probeExpression_4 : decode cX12_probeExpression 4 = .ok (.istore_n 2, 1) := by decide +kernel
theorem dX12_probeExpression_5 : decode cX12_probeExpression 5 = .ok (.iconst 0, 1) := by decide +kernel
theorem dX12_probeExpression_6 : decode cX12_probeExpression 6 = .ok (.istore_n 3, 1) := by decide +kernel
theorem dX12_probeExpression_7 : decode cX12_probeExpression 7 = .ok (.iconst 0, 1) := by decide +kernel
theorem dX12_probeExpression_8 : decode cX12_probeExpression 8 = .ok (.istore 4, 2) := by decide +kernel
theorem dX12_probeExpression_10 : decode cX12_probeExpression 10 = .ok (.iconst 0, 1) := by decide +kernel
theorem dX12_probeExpression_11 : decode cX12_probeExpression 11 = .ok (.istore 5, 2) := by decide +kernel
theorem dX12_probeExpression_13 : decode cX12_probeExpression 13 = .ok (.aload_n 0, 1) := by decide +kernel
theorem dX12_probeExpression_14 : decode cX12_probeExpression 14 = .ok (.iconst 0, 1) := by decide +kernel
theorem dX12_probeExpression_15 : decode cX12_probeExpression 15 = .ok (.putfield 344, 3) := by decide +kernel
theorem dX12_probeExpression_18 : decode cX12_probeExpression 18 = .ok (.iload 5, 2) := by decide +kernel
theorem dX12_probeExpression_20 : decode cX12_probeExpression 20 = .ok (.aload_n 0, 1) := by decide +kernel
theorem dX12_probeExpression_21 : decode cX12_probeExpression 21 = .ok (.getfield 24, 3) := by decide +kernel
theorem dX12_probeExpression_24 : decode cX12_probeExpression 24 = .ok (.iload_n 1, 1) := by decide +kernel
theorem dX12_probeExpression_25 : decode cX12_probeExpression 25 = .ok (.iaload, 1) := by decide +kernel
theorem dX12_probeExpression_26 : decode cX12_probeExpression 26 = .ok (.if_icmp .ge 325, 3) := by decide +kernel
theorem dX12_probeExpression_29 : decode cX12_probeExpression 29 = .ok (.aload_n 0, 1) := by decide +kernel
theorem dX12_probeExpression_30 : decode cX12_probeExpression 30 = .ok (.getfield 17, 3) := by decide +kernel
theorem dX12_probeExpression_33 : decode cX12_probeExpression 33 = .ok (.iload_n 2, 1) := by decide +kernel
theorem dX12_probeExpression_34 : decode cX12_probeExpression 34 = .ok (.iload 5, 2) := by decide +kernel
theorem dX12_probeExpression_36 : decode cX12_probeExpression 36 = .ok (.iadd, 1) := by decide +kernel
theorem dX12_probeExpression_37 : decode cX12_probeExpression 37 = .ok (.iaload, 1) := by decide +kernel
theorem dX12_probeExpression_38 : decode cX12_probeExpression 38 = .ok (.istore 6, 2) := by decide +kernel
theorem dX12_probeExpression_40 : decode cX12_probeExpression 40 = .ok (.aload_n 0, 1) := by decide +kernel
theorem dX12_probeExpression_41 : decode cX12_probeExpression 41 = .ok (.getfield 20, 3) := by decide +kernel
theorem dX12_probeExpression_44 : decode cX12_probeExpression 44 = .ok (.iload_n 2, 1) := by decide +kernel
theorem dX12_probeExpression_45 : decode cX12_probeExpression 45 = .ok (.iload 5, 2) := by decide +kernel
theorem dX12_probeExpression_47 : decode cX12_probeExpression 47 = .ok (.iadd, 1) := by decide +kernel
theorem dX12_probeExpression_48 : decode cX12_probeExpression 48 = .ok (.laload, 1) := by decide +kernel
theorem dX12_probeExpression_49 : decode cX12_probeExpression 49 = .ok (.l2i, 1) := by decide +kernel
theorem dX12_probeExpression_50 : decode cX12_probeExpression 50 = .ok (.istore 7, 2) := by decide +kernel
theorem dX12_probeExpression_52 : decode cX12_probeExpression 52 = .ok (.iinc 5 1, 3) := by decide +kernel
theorem dX12_probeExpression_55 : decode cX12_probeExpression 55 = .ok (.iconst 0, 1) := by decide +kernel
theorem dX12_probeExpression_56 : decode cX12_probeExpression 56 = .ok (.istore 8, 2) := by decide +kernel
theorem dX12_probeExpression_58 : decode cX12_probeExpression 58 = .ok (.iload 6, 2) := by decide +kernel
theorem dX12_probeExpression_60 : decode cX12_probeExpression 60 = .ok (.ifCond .ne 17, 3) := by decide +kernel
theorem dX12_probeExpression_63 : decode cX12_probeExpression 63 = .ok (.aload_n 0, 1) := by decide +kernel
theorem dX12_probeExpression_64 : decode cX12_probeExpression 64 = .ok (.getfield 106, 3) := by decide +kernel
theorem dX12_probeExpression_67 : decode cX12_probeExpression 67 = .ok (.iload_n 3, 1) := by decide +kernel
theorem dX12_probeExpression_68 : decode cX12_probeExpression 68 = .ok (.iload 7, 2) := by decide +kernel
theorem dX12_probeExpression_70 : decode cX12_probeExpression 70 = .ok (.iastore, 1) := by decide +kernel
theorem dX12_probeExpression_71 : decode cX12_probeExpression 71 = .ok (.iinc 3 1, 3) := by decide +kernel
theorem dX12_probeExpression_74 : decode cX12_probeExpression 74 = .ok (.goto 238, 3) := by decide +kernel
theorem dX12_probeExpression_77 : decode cX12_probeExpression 77 = .ok (.iload 6, 2) := by decide +kernel
theorem dX12_probeExpression_79 : decode cX12_probeExpression 79 = .ok (.iconst 1, 1) := by decide +kernel
theorem dX12_probeExpression_80 : decode cX12_probeExpression 80 = .ok (.if_icmp .ne 22, 3) := by decide +kernel
theorem dX12_probeExpression_83 : decode cX12_probeExpression 83 = .ok (.aload_n 0, 1) := by decide +kernel
theorem dX12_probeExpression_84 : decode cX12_probeExpression 84 = .ok (.getfield 106, 3) := by decide +kernel
theorem dX12_probeExpression_87 : decode cX12_probeExpression 87 = .ok (.iload_n 3, 1) := by decide +kernel
theorem dX12_probeExpression_88 : decode cX12_probeExpression 88 = .ok (.aload_n 0, 1) := by decide +kernel
theorem dX12_probeExpression_89 : decode cX12_probeExpression 89 = .ok (.getfield 103, 3) := by decide +kernel
theorem dX12_probeExpression_92 : decode cX12_probeExpression 92 = .ok (.iload 7, 2) := by decide +kernel
theorem dX12_probeExpression_94 : decode cX12_probeExpression 94 = .ok (.iaload, 1) := by decide +kernel
theorem dX12_probeExpression_95 : decode cX12_probeExpression 95 = .ok (.iastore, 1) := by decide +kernel
theorem dX12_probeExpression_96 : decode cX12_probeExpression 96 = .ok (.iinc 3 1, 3) := by decide +kernel
theorem dX12_probeExpression_99 : decode cX12_probeExpression 99 = .ok (.goto 213, 3) := by decide +kernel
theorem dX12_probeExpression_102 : decode cX12_probeExpression 102 = .ok (.iload 6, 2) := by decide +kernel
end
section
theorem dX12_probeExpression_104 : decode cX12_probeExpression 104 = .ok (.iconst 3, 1) := by decide +kernel
theorem dX12_probeExpression_105 : decode cX12_probeExpression 105 = .ok (.if_icmp .ne 23, 3) := by decide +kernel
theorem dX12_probeExpression_108 : decode cX12_probeExpression 108 = .ok (.aload_n 0, 1) := by decide +kernel
theorem dX12_probeExpression_109 : decode cX12_probeExpression 109 = .ok (.getfield 106, 3) := by decide +kernel
theorem dX12_probeExpression_112 : decode cX12_probeExpression 112 = .ok (.iload_n 3, 1) := by decide +kernel
theorem dX12_probeExpression_113 : decode cX12_probeExpression 113 = .ok (.iconst 1, 1) := by decide +kernel
theorem dX12_probeExpression_114 : decode cX12_probeExpression 114 = .ok (.isub, 1) := by decide +kernel
theorem dX12_probeExpression_115 : decode cX12_probeExpression 115 = .ok (.aload_n 0, 1) := by decide +kernel
theorem dX12_probeExpression_116 : decode cX12_probeExpression 116 = .ok (.getfield 106, 3) := by decide +kernel
theorem dX12_probeExpression_119 : decode cX12_probeExpression 119 = .ok (.iload_n 3, 1) := by decide +kernel
theorem dX12_probeExpression_120 : decode cX12_probeExpression 120 = .ok (.iconst 1, 1) := by decide +kernel
theorem dX12_probeExpression_121 : decode cX12_probeExpression 121 = .ok (.isub, 1) := by decide +kernel
theorem dX12_probeExpression_122 : decode cX12_probeExpression 122 = .ok (.iaload, 1) := by decide +kernel
theorem dX12_probeExpression_123 : decode cX12_probeExpression 123 = .ok (.ineg, 1) := by decide +kernel
theorem dX12_probeExpression_124 : decode cX12_probeExpression 124 = .ok (.iastore, 1) := by decide +kernel
theorem dX12_probeExpression_125 : decode cX12_probeExpression 125 = .ok (.goto 187, 3) := by decide +kernel
theorem dX12_probeExpression_128 : decode cX12_probeExpression 128 = .ok (.iload 6, 2) := by decide +kernel
theorem dX12_probeExpression_130 : decode cX12_probeExpression 130 = .ok (.iconst 4, 1) := by decide +kernel
theorem dX12_probeExpression_131 : decode cX12_probeExpression 131 = .ok (.if_icmp .ne 21, 3) := by decide +kernel
theorem dX12_probeExpression_134 : decode cX12_probeExpression 134 = .ok (.iconst 1, 1) := by decide +kernel
theorem dX12_probeExpression_135 : decode cX12_probeExpression 135 = .ok (.istore 8, 2) := by decide +kernel
theorem dX12_probeExpression_137 : decode cX12_probeExpression 137 = .ok (.aload_n 0, 1) := by decide +kernel
theorem dX12_probeExpression_138 : decode cX12_probeExpression 138 = .ok (.aload_n 0, 1) := by decide +kernel
theorem dX12_probeExpression_139 : decode cX12_probeExpression 139 = .ok (.getfield 106, 3) := by decide +kernel
theorem dX12_probeExpression_142 : decode cX12_probeExpression 142 = .ok (.iload_n 3, 1) := by decide +kernel
theorem dX12_probeExpression_143 : decode cX12_probeExpression 143 = .ok (.iconst 1, 1) := by decide +kernel
theorem dX12_probeExpression_144 : decode cX12_probeExpression 144 = .ok (.isub, 1) := by decide +kernel
theorem dX12_probeExpression_145 : decode cX12_probeExpression 145 = .ok (.iaload, 1) := by decide +kernel
theorem dX12_probeExpression_146 : decode cX12_probeExpression 146 = .ok (.putfield 347, 3) := by decide +kernel
theorem dX12_probeExpression_149 : decode cX12_probeExpression 149 = .ok (.goto 163, 3) := by decide +kernel
theorem dX12_probeExpression_152 : decode cX12_probeExpression 152 = .ok (.iload 6, 2) := by decide +kernel
theorem dX12_probeExpression_154 : decode cX12_probeExpression 154 = .ok (.iconst 5, 1) := by decide +kernel
theorem dX12_probeExpression_155 : decode cX12_probeExpression 155 = .ok (.if_icmp .ne 30, 3) := by decide +kernel
theorem dX12_probeExpression_158 : decode cX12_probeExpression 158 = .ok (.iinc 3 (-1), 3) := by decide +kernel
theorem dX12_probeExpression_161 : decode cX12_probeExpression 161 = .ok (.aload_n 0, 1) := by decide +kernel
theorem dX12_probeExpression_162 : decode cX12_probeExpression 162 = .ok (.getfield 106, 3) := by decide +kernel
theorem dX12_probeExpression_165 : decode cX12_probeExpression 165 = .ok (.iload_n 3, 1) := by decide +kernel
theorem dX12_probeExpression_166 : decode cX12_probeExpression 166 = .ok (.iaload, 1) := by decide +kernel
theorem dX12_probeExpression_167 : decode cX12_probeExpression 167 = .ok (.ifCond .ne 11, 3) := by decide +kernel
theorem dX12_probeExpression_170 : decode cX12_probeExpression 170 = .ok (.iload 5, 2) := by decide +kernel
theorem dX12_probeExpression_172 : decode cX12_probeExpression 172 = .ok (.iload 7, 2) := by decide +kernel
theorem dX12_probeExpression_174 : decode cX12_probeExpression 174 = .ok (.iadd, 1) := by decide +kernel
theorem dX12_probeExpression_175 : decode cX12_probeExpression 175 = .ok (.goto 5, 3) := by decide +kernel
theorem dX12_probeExpression_178 : decode cX12_probeExpression 178 = .ok (.iload 5, 2) := by decide +kernel
theorem dX12_probeExpression_180 : decode cX12_probeExpression 180 = .ok (.istore 5, 2) := by decide +kernel
theorem dX12_probeExpression_182 : decode cX12_probeExpression 182 = .ok (.goto 130, 3) := by decide +kernel
theorem dX12_probeExpression_185 : decode cX12_probeExpression 185 = .ok (.iload 6, 2) := by decide +kernel
theorem dX12_probeExpression_187 : decode cX12_probeExpression 187 = .ok (.bipush 6, 2) := by decide +kernel
theorem dX12_probeExpression_189 : decode cX12_probeExpression 189 = .ok (.if_icmp .ne 13, 3) := by decide +kernel
theorem dX12_probeExpression_192 : decode cX12_probeExpression 192 = .ok (.iload 5, 2) := by decide +kernel
theorem dX12_probeExpression_194 : decode cX12_probeExpression 194 = .ok (.iload 7, 2) := by decide +kernel
theorem dX12_probeExpression_196 : decode cX12_probeExpression 196 = .ok (.iadd, 1) := by decide +kernel
theorem dX12_probeExpression_197 : decode cX12_probeExpression 197 = .ok (.istore 5, 2) := by decide +kernel
theorem dX12_probeExpression_199 : decode cX12_probeExpression 199 = .ok (.goto 113, 3) := by decide +kernel
theorem dX12_probeExpression_202 : decode cX12_probeExpression 202 = .ok (.iload 6, 2) := by decide +kernel
theorem dX12_probeExpression_204 : decode cX12_probeExpression 204 = .ok (.bipush 7, 2) := by decide +kernel
theorem dX12_probeExpression_206 : decode cX12_probeExpression 206 = .ok (.if_icmp .ne 29, 3) := by decide +kernel
theorem dX12_probeExpression_209 : decode cX12_probeExpression 209 = .ok (.aload_n 0, 1) := by decide +kernel
theorem dX12_probeExpression_210 : decode cX12_probeExpression 210 = .ok (.getfield 109, 3) := by decide +kernel
theorem dX12_probeExpression_213 : decode cX12_probeExpression 213 = .ok (.iload 4, 2) := by decide +kernel
theorem dX12_probeExpression_215 : decode cX12_probeExpression 215 = .ok (.iload 5, 2) := by decide +kernel
theorem dX12_probeExpression_217 : decode cX12_probeExpression 217 = .ok (.iload 7, 2) := by decide +kernel
theorem dX12_probeExpression_219 : decode cX12_probeExpression 219 = .ok (.iadd, 1) := by decide +kernel
theorem dX12_probeExpression_220 : decode cX12_probeExpression 220 = .ok (.iastore, 1) := by decide +kernel
theorem dX12_probeExpression_221 : decode cX12_probeExpression 221 = .ok (.aload_n 0, 1) := by decide +kernel
theorem dX12_probeExpression_222 : decode cX12_probeExpression 222 = .ok (.getfield 112, 3) := by decide +kernel
theorem dX12_probeExpression_225 : decode cX12_probeExpression 225 = .ok (.iload 4, 2) := by decide +kernel
theorem dX12_probeExpression_227 : decode cX12_probeExpression 227 = .ok (.iload_n 3, 1) := by decide +kernel
theorem dX12_probeExpression_228 : decode cX12_probeExpression 228 = .ok (.iastore, 1) := by decide +kernel
theorem dX12_probeExpression_229 : decode cX12_probeExpression 229 = .ok (.iinc 4 1, 3) := by decide +kernel
theorem dX12_probeExpression_232 : decode cX12_probeExpression 232 = .ok (.goto 80, 3) := by decide +kernel
theorem dX12_probeExpression_235 : decode cX12_probeExpression 235 = .ok (.iload 6, 2) := by decide +kernel
theorem dX12_probeExpression_237 : decode cX12_probeExpression 237 = .ok (.bipush 8, 2) := by decide +kernel
theorem dX12_probeExpression_239 : decode cX12_probeExpression 239 = .ok (.if_icmp .ne 16, 3) := by decide +kernel
theorem dX12_probeExpression_242 : decode cX12_probeExpression 242 = .ok (.iinc 4 (-1), 3) := by decide +kernel
theorem dX12_probeExpression_245 : decode cX12_probeExpression 245 = .ok (.iload 5, 2) := by decide +kernel
theorem dX12_probeExpression_247 : decode cX12_probeExpression 247 = .ok (.iload 7, 2) := by decide +kernel
theorem dX12_probeExpression_249 : decode cX12_probeExpression 249 = .ok (.iadd, 1) := by decide +kernel
theorem dX12_probeExpression_250 : decode cX12_probeExpression 250 = .ok (.istore 5, 2) := by decide +kernel
theorem dX12_probeExpression_252 : decode cX12_probeExpression 252 = .ok (.goto 60, 3) := by decide +kernel
theorem dX12_probeExpression_255 : decode cX12_probeExpression 255 = .ok (.iload 7, 2) := by decide +kernel
theorem dX12_probeExpression_257 : decode cX12_probeExpression 257 = .ok (.aload_n 0, 1) := by decide +kernel
theorem dX12_probeExpression_258 : decode cX12_probeExpression 258 = .ok (.getfield 106, 3) := by decide +kernel
theorem dX12_probeExpression_261 : decode cX12_probeExpression 261 = .ok (.iload_n 3, 1) := by decide +kernel
theorem dX12_probeExpression_262 : decode cX12_probeExpression 262 = .ok (.iconst 1, 1) := by decide +kernel
theorem dX12_probeExpression_263 : decode cX12_probeExpression 263 = .ok (.isub, 1) := by decide +kernel
theorem dX12_probeExpression_264 : decode cX12_probeExpression 264 = .ok (.iaload, 1) := by decide +kernel
theorem dX12_probeExpression_265 : decode cX12_probeExpression 265 = .ok (.invokestatic 350, 3) := by decide +kernel
theorem dX12_probeExpression_268 : decode cX12_probeExpression 268 = .ok (.ifCond .eq 14, 3) := by decide +kernel
theorem dX12_probeExpression_271 : decode cX12_probeExpression 271 = .ok (.iconst 1, 1) := by decide +kernel
theorem dX12_probeExpression_272 : decode cX12_probeExpression 272 = .ok (.istore 8, 2) := by decide +kernel
theorem dX12_probeExpression_274 : decode cX12_probeExpression 274 = .ok (.aload_n 0, 1) := by decide +kernel
theorem dX12_probeExpression_275 : decode cX12_probeExpression 275 = .ok (.iconst (-1), 1) := by decide +kernel
theorem dX12_probeExpression_276 : decode cX12_probeExpression 276 = .ok (.putfield 347, 3) := by decide +kernel
theorem dX12_probeExpression_279 : decode cX12_probeExpression 279 = .ok (.goto 33, 3) := by decide +kernel
theorem dX12_probeExpression_282 : decode cX12_probeExpression 282 = .ok (.iinc 3 (-1), 3) := by decide +kernel
theorem dX12_probeExpression_285 : decode cX12_probeExpression 285 = .ok (.aload_n 0, 1) := by decide +kernel
theorem dX12_probeExpression_286 : decode cX12_probeExpression 286 = .ok (.getfield 106, 3) := by decide +kernel
theorem dX12_probeExpression_289 : decode cX12_probeExpression 289 = .ok (.iload_n 3, 1) := by decide +kernel
theorem dX12_probeExpression_290 : decode cX12_probeExpression 290 = .ok (.iconst 1, 1) := by decide +kernel
theorem dX12_probeExpression_291 : decode cX12_probeExpression 291 = .ok (.isub, 1) := by decide +kernel
theorem dX12_probeExpression_292 : decode cX12_probeExpression 292 = .ok (.iload 7, 2) := by decide +kernel
theorem dX12_probeExpression_294 : decode cX12_probeExpression 294 = .ok (.aload_n 0, 1) := by decide +kernel
theorem dX12_probeExpression_295 : decode cX12_probeExpression 295 = .ok (.getfield 106, 3) := by decide +kernel
theorem dX12_probeExpression_298 : decode cX12_probeExpression 298 = .ok (.iload_n 3, 1) := by decide +kernel
theorem dX12_probeExpression_299 : decode cX12_probeExpression 299 = .ok (.iconst 1, 1) := by decide +kernel
theorem dX12_probeExpression_300 : decode cX12_probeExpression 300 = .ok (.isub, 1) := by decide +kernel
theorem dX12_probeExpression_301 : decode cX12_probeExpression 301 = .ok (.iaload, 1) := by decide +kernel
theorem dX12_probeExpression_302 : decode cX12_probeExpression 302 = .ok (.aload_n 0, 1) := by decide +kernel
theorem dX12_probeExpression_303 : decode cX12_probeExpression 303 = .ok (.getfield 106, 3) := by decide +kernel
theorem dX12_probeExpression_306 : decode cX12_probeExpression 306 = .ok (.iload_n 3, 1) := by decide +kernel
theorem dX12_probeExpression_307 : decode cX12_probeExpression 307 = .ok (.iaload, 1) := by decide +kernel
theorem dX12_probeExpression_308 : decode cX12_probeExpression 308 = .ok (.invokestatic 353, 3) := by decide +kernel
theorem dX12_probeExpression_311 : decode cX12_probeExpression 311 = .ok (.iastore, 1) := by decide +kernel
theorem dX12_probeExpression_312 : decode cX12_probeExpression 312 = .ok (.iload 8, 2) := by decide +kernel
theorem dX12_probeExpression_314 : decode cX12_probeExpression 314 = .ok (.ifCond .eq 34, 3) := by decide +kernel
theorem dX12_probeExpression_317 : decode cX12_probeExpression 317 = .ok (.iload 4, 2) := by decide +kernel
theorem dX12_probeExpression_319 : decode cX12_probeExpression 319 = .ok (.ifCond .ne 9, 3) := by decide +kernel
theorem dX12_probeExpression_322 : decode cX12_probeExpression 322 = .ok (.aload_n 0, 1) := by decide +kernel
theorem dX12_probeExpression_323 : decode cX12_probeExpression 323 = .ok (.iconst 1, 1) := by decide +kernel
theorem dX12_probeExpression_324 : decode cX12_probeExpression 324 = .ok (.putfield 344, 3) := by decide +kernel
theorem dX12_probeExpression_327 : decode cX12_probeExpression 327 = .ok (.return_, 1) := by decide +kernel
theorem dX12_probeExpression_328 : decode cX12_probeExpression 328 = .ok (.iinc 4 (-1), 3) := by decide +kernel
theorem dX12_probeExpression_331 : decode cX12_probeExpression 331 = .ok (.aload_n 0, 1) := by decide +kernel
theorem dX12_probeExpression_332 : decode cX12_probeExpression 332 = .ok (.getfield 112, 3) := by decide +kernel
theorem dX12_probeExpression_335 : decode cX12_probeExpression 335 = .ok (.iload 4, 2) := by decide +kernel
theorem dX12_probeExpression_337 : decode cX12_probeExpression 337 = .ok (.iaload, 1) := by decide +kernel
theorem dX12_probeExpression_338 : decode cX12_probeExpression 338 = .ok (.istore_n 3, 1) := by decide +kernel
theorem dX12_probeExpression_339 : decode cX12_probeExpression 339 = .ok (.aload_n 0, 1) := by decide +kernel
theorem dX12_probeExpression_340 : decode cX12_probeExpression 340 = .ok (.getfield 109, 3) := by decide +kernel
theorem dX12_probeExpression_343 : decode cX12_probeExpression 343 = .ok (.iload 4, 2) := by decide +kernel
theorem dX12_probeExpression_345 : decode cX12_probeExpression 345 = .ok (.iaload, 1) := by decide +kernel
theorem dX12_probeExpression_346 : decode cX12_probeExpression 346 = .ok (.istore 5, 2) := by decide +kernel
theorem dX12_probeExpression_348 : decode cX12_probeExpression 348 = .ok (.goto (-330), 3) := by decide +kernel
theorem dX12_probeExpression_351 : decode cX12_probeExpression 351 = .ok (.aload_n 0, 1) := by decide +kernel
theorem dX12_probeExpression_352 : decode cX12_probeExpression 352 = .ok (.aload_n 0, 1) := by decide +kernel
theorem dX12_probeExpression_353 : decode cX12_probeExpression 353 = .ok (.getfield 106, 3) := by decide +kernel
theorem dX12_probeExpression_356 : decode cX12_probeExpression 356 = .ok (.iconst 0, 1) := by decide +kernel
theorem dX12_probeExpression_357 : decode cX12_probeExpression 357 = .ok (.iaload, 1) := by decide +kernel
theorem dX12_probeExpression_358 : decode cX12_probeExpression 358 = .ok (.putfield 347, 3) := by decide +kernel
theorem dX12_probeExpression_361 : decode cX12_probeExpression 361 = .ok (.return_, 1) := by decide +kernel
theorem dX12_record_0 : decode cX12_record 0 = .ok (.aload_n 0, 1) := by decide +kernel
theorem dX12_record_1 : decode cX12_record 1 = .ok (.getfield 356, 3) := by decide +kernel
theorem dX12_record_4 : decode cX12_record 4 = .ok (.sipush 300, 3) := by decide +kernel
theorem dX12_record_7 : decode cX12_record 7 = .ok (.if_icmp .ge 83, 3) := by decide +kernel
theorem dX12_record_10 : decode cX12_record 10 = .ok (.iconst 5, 1) := by decide +kernel
theorem dX12_record_11 : decode cX12_record 11 = .ok (.aload_n 0, 1) := by decide +kernel
theorem dX12_record_12 : decode cX12_record 12 = .ok (.getfield 356, 3) := by decide +kernel
theorem dX12_record_15 : decode cX12_record 15 = .ok (.imul, 1) := by decide +kernel
theorem dX12_record_16 : decode cX12_record 16 = .ok (.istore 4, 2) := by decide +kernel
theorem dX12_record_18 : decode cX12_record 18 = .ok (.aload_n 0, 1) := by decide +kernel
theorem dX12_record_19 : decode cX12_record 19 = .ok (.getfield 76, 3) := by decide +kernel
theorem dX12_record_22 : decode cX12_record 22 = .ok (.iload 4, 2) := by decide +kernel
theorem dX12_record_24 : decode cX12_record 24 = .ok (.iload_n 1, 1) := by decide +kernel
theorem dX12_record_25 : decode cX12_record 25 = .ok (.iastore, 1) := by decide +kernel
theorem dX12_record_26 : decode cX12_record 26 = .ok (.aload_n 0, 1) := by decide +kernel
theorem dX12_record_27 : decode cX12_record 27 = .ok (.getfield 76, 3) := by decide +kernel
theorem dX12_record_30 : decode cX12_record 30 = .ok (.iload 4, 2) := by decide +kernel
theorem dX12_record_32 : decode cX12_record 32 = .ok (.iconst 1, 1) := by decide +kernel
theorem dX12_record_33 : decode cX12_record 33 = .ok (.iadd, 1) := by decide +kernel
theorem dX12_record_34 : decode cX12_record 34 = .ok (.iload_n 2, 1) := by decide +kernel
theorem dX12_record_35 : decode cX12_record 35 = .ok (.iastore, 1) := by decide +kernel
theorem dX12_record_36 : decode cX12_record 36 = .ok (.aload_n 0, 1) := by decide +kernel
theorem dX12_record_37 : decode cX12_record 37 = .ok (.getfield 76, 3) := by decide +kernel
theorem dX12_record_40 : decode cX12_record 40 = .ok (.iload 4, 2) := by decide +kernel
theorem dX12_record_42 : decode cX12_record 42 = .ok (.iconst 2, 1) := by decide +kernel
theorem dX12_record_43 : decode cX12_record 43 = .ok (.iadd, 1) := by decide +kernel
theorem dX12_record_44 : decode cX12_record 44 = .ok (.aload_n 0, 1) := by decide +kernel
theorem dX12_record_45 : decode cX12_record 45 = .ok (.getfield 347, 3) := by decide +kernel
theorem dX12_record_48 : decode cX12_record 48 = .ok (.iastore, 1) := by decide +kernel
theorem dX12_record_49 : decode cX12_record 49 = .ok (.aload_n 0, 1) := by decide +kernel
theorem dX12_record_50 : decode cX12_record 50 = .ok (.getfield 76, 3) := by decide +kernel
theorem dX12_record_53 : decode cX12_record 53 = .ok (.iload 4, 2) := by decide +kernel
theorem dX12_record_55 : decode cX12_record 55 = .ok (.iconst 3, 1) := by decide +kernel
theorem dX12_record_56 : decode cX12_record 56 = .ok (.iadd, 1) := by decide +kernel
theorem dX12_record_57 : decode cX12_record 57 = .ok (.aload_n 0, 1) := by decide +kernel
theorem dX12_record_58 : decode cX12_record 58 = .ok (.getfield 344, 3) := by decide +kernel
theorem dX12_record_61 : decode cX12_record 61 = .ok (.ifCond .eq 7, 3) := by decide +kernel
theorem dX12_record_64 : decode cX12_record 64 = .ok (.iconst 1, 1) := by decide +kernel
theorem dX12_record_65 : decode cX12_record 65 = .ok (.goto 4, 3) := by decide +kernel
theorem dX12_record_68 : decode cX12_record 68 = .ok (.iconst 0, 1) := by decide +kernel
theorem dX12_record_69 : decode cX12_record 69 = .ok (.iastore, 1) := by decide +kernel
theorem dX12_record_70 : decode cX12_record 70 = .ok (.aload_n 0, 1) := by decide +kernel
theorem dX12_record_71 : decode cX12_record 71 = .ok (.getfield 76, 3) := by decide +kernel
theorem dX12_record_74 : decode cX12_record 74 = .ok (.iload 4, 2) := by decide +kernel
theorem dX12_record_76 : decode cX12_record 76 = .ok (.iconst 4, 1) := by decide +kernel
theorem dX12_record_77 : decode cX12_record 77 = .ok (.iadd, 1) := by decide +kernel
theorem dX12_record_78 : decode cX12_record 78 = .ok (.iload_n 3, 1) := by decide +kernel
theorem dX12_record_79 : decode cX12_record 79 = .ok (.iastore, 1) := by decide +kernel
theorem dX12_record_80 : decode cX12_record 80 = .ok (.aload_n 0, 1) := by decide +kernel
theorem dX12_record_81 : decode cX12_record 81 = .ok (.dup, 1) := by decide +kernel
theorem dX12_record_82 : decode cX12_record 82 = .ok (.getfield 356, 3) := by decide +kernel
theorem dX12_record_85 : decode cX12_record 85 = .ok (.iconst 1, 1) := by decide +kernel
theorem dX12_record_86 : decode cX12_record 86 = .ok (.iadd, 1) := by decide +kernel
theorem dX12_record_87 : decode cX12_record 87 = .ok (.putfield 356, 3) := by decide +kernel
theorem dX12_record_90 : decode cX12_record 90 = .ok (.aload_n 0, 1) := by decide +kernel
theorem dX12_record_91 : decode cX12_record 91 = .ok (.getfield 57, 3) := by decide +kernel
theorem dX12_record_94 : decode cX12_record 94 = .ok (.iload_n 1, 1) := by decide +kernel
theorem dX12_record_95 : decode cX12_record 95 = .ok (.dup2, 1) := by decide +kernel
theorem dX12_record_96 : decode cX12_record 96 = .ok (.iaload, 1) := by decide +kernel
theorem dX12_record_97 : decode cX12_record 97 = .ok (.iconst 1, 1) := by decide +kernel
theorem dX12_record_98 : decode cX12_record 98 = .ok (.iadd, 1) := by decide +kernel
theorem dX12_record_99 : decode cX12_record 99 = .ok (.iastore, 1) := by decide +kernel
theorem dX12_record_100 : decode cX12_record 100 = .ok (.aload_n 0, 1) := by decide +kernel
theorem dX12_record_101 : decode cX12_record 101 = .ok (.getfield 57, 3) := by decide +kernel
theorem dX12_record_104 : decode cX12_record 104 = .ok (.iload_n 1, 1) := by decide +kernel
theorem dX12_record_105 : decode cX12_record 105 = .ok (.iaload, 1) := by decide +kernel
theorem dX12_record_106 : decode cX12_record 106 = .ok (.aload_n 0, 1) := by decide +kernel
theorem dX12_record_107 : decode cX12_record 107 = .ok (.getfield 54, 3) := by decide +kernel
theorem dX12_record_110 : decode cX12_record 110 = .ok (.iload_n 1, 1) := by decide +kernel
theorem dX12_record_111 : decode cX12_record 111 = .ok (.iaload, 1) := by decide +kernel
theorem dX12_record_112 : decode cX12_record 112 = .ok (.if_icmp .ne 10, 3) := by decide +kernel
theorem dX12_record_115 : decode cX12_record 115 = .ok (.aload_n 0, 1) := by decide +kernel
theorem dX12_record_116 : decode cX12_record 116 = .ok (.getfield 48, 3) := by decide +kernel
theorem dX12_record_119 : decode cX12_record 119 = .ok (.iload_n 1, 1) := by decide +kernel
theorem dX12_record_120 : decode cX12_record 120 = .ok (.iconst 0, 1) := by decide +kernel
theorem dX12_record_121 : decode cX12_record 121 = .ok (.iastore, 1) := by decide +kernel
theorem dX12_record_122 : decode cX12_record 122 = .ok (.return_, 1) := by decide +kernel
theorem dX12_watchOne_0 : decode cX12_watchOne 0 = .ok (.aload_n 0, 1) := by decide +kernel
theorem dX12_watchOne_1 : decode cX12_watchOne 1 = .ok (.getfield 103, 3) := by decide +kernel
theorem dX12_watchOne_4 : decode cX12_watchOne 4 = .ok (.bipush 6, 2) := by decide +kernel
theorem dX12_watchOne_6 : decode cX12_watchOne 6 = .ok (.aload_n 0, 1) := by decide +kernel
theorem dX12_watchOne_7 : decode cX12_watchOne 7 = .ok (.getfield 57, 3) := by decide +kernel
theorem dX12_watchOne_10 : decode cX12_watchOne 10 = .ok (.iload_n 1, 1) := by decide +kernel
theorem dX12_watchOne_11 : decode cX12_watchOne 11 = .ok (.iaload, 1) := by decide +kernel
theorem dX12_watchOne_12 : decode cX12_watchOne 12 = .ok (.iastore, 1) := by decide +kernel
theorem dX12_watchOne_13 : decode cX12_watchOne 13 = .ok (.aload_n 0, 1) := by decide +kernel
theorem dX12_watchOne_14 : decode cX12_watchOne 14 = .ok (.getfield 60, 3) := by decide +kernel
theorem dX12_watchOne_17 : decode cX12_watchOne 17 = .ok (.iload_n 1, 1) := by decide +kernel
theorem dX12_watchOne_18 : decode cX12_watchOne 18 = .ok (.baload, 1) := by decide +kernel
theorem dX12_watchOne_19 : decode cX12_watchOne 19 = .ok (.ifCond .eq 41, 3) := by decide +kernel
theorem dX12_watchOne_22 : decode cX12_watchOne 22 = .ok (.aload_n 0, 1) := by decide +kernel
theorem dX12_watchOne_23 : decode cX12_watchOne 23 = .ok (.bipush 17, 2) := by decide +kernel
theorem dX12_watchOne_25 : decode cX12_watchOne 25 = .ok (.iconst 2, 1) := by decide +kernel
theorem dX12_watchOne_26 : decode cX12_watchOne 26 = .ok (.iload_n 1, 1) := by decide +kernel
theorem dX12_watchOne_27 : decode cX12_watchOne 27 = .ok (.imul, 1) := by decide +kernel
theorem dX12_watchOne_28 : decode cX12_watchOne 28 = .ok (.iadd, 1) := by decide +kernel
theorem dX12_watchOne_29 : decode cX12_watchOne 29 = .ok (.invokevirtual 359, 3) := by decide +kernel
theorem dX12_watchOne_32 : decode cX12_watchOne 32 = .ok (.aload_n 0, 1) := by decide +kernel
theorem dX12_watchOne_33 : decode cX12_watchOne 33 = .ok (.getfield 344, 3) := by decide +kernel
theorem dX12_watchOne_36 : decode cX12_watchOne 36 = .ok (.ifCond .eq 16, 3) := by decide +kernel
theorem dX12_watchOne_39 : decode cX12_watchOne 39 = .ok (.aload_n 0, 1) := by decide +kernel
theorem dX12_watchOne_40 : decode cX12_watchOne 40 = .ok (.iload_n 1, 1) := by decide +kernel
theorem dX12_watchOne_41 : decode cX12_watchOne 41 = .ok (.aload_n 0, 1) := by decide +kernel
theorem dX12_watchOne_42 : decode cX12_watchOne 42 = .ok (.getfield 82, 3) := by decide +kernel
theorem dX12_watchOne_45 : decode cX12_watchOne 45 = .ok (.iload_n 2, 1) := by decide +kernel
theorem dX12_watchOne_46 : decode cX12_watchOne 46 = .ok (.iaload, 1) := by decide +kernel
theorem dX12_watchOne_47 : decode cX12_watchOne 47 = .ok (.iload_n 2, 1) := by decide +kernel
theorem dX12_watchOne_48 : decode cX12_watchOne 48 = .ok (.invokevirtual 362, 3) := by decide +kernel
theorem dX12_watchOne_51 : decode cX12_watchOne 51 = .ok (.return_, 1) := by decide +kernel
theorem dX12_watchOne_52 : decode cX12_watchOne 52 = .ok (.aload_n 0, 1) := by decide +kernel
theorem dX12_watchOne_53 : decode cX12_watchOne 53 = .ok (.getfield 347, 3) := by decide +kernel
theorem dX12_watchOne_56 : decode cX12_watchOne 56 = .ok (.ifCond .ne 4, 3) := by decide +kernel
theorem dX12_watchOne_59 : decode cX12_watchOne 59 = .ok (.return_, 1) := by decide +kernel
theorem dX12_watchOne_60 : decode cX12_watchOne 60 = .ok (.aload_n 0, 1) := by decide +kernel
theorem dX12_watchOne_61 : decode cX12_watchOne 61 = .ok (.bipush 16, 2) := by decide +kernel
theorem dX12_watchOne_63 : decode cX12_watchOne 63 = .ok (.iconst 2, 1) := by decide +kernel
theorem dX12_watchOne_64 : decode cX12_watchOne 64 = .ok (.iload_n 1, 1) := by decide +kernel
theorem dX12_watchOne_65 : decode cX12_watchOne 65 = .ok (.imul, 1) := by decide +kernel
theorem dX12_watchOne_66 : decode cX12_watchOne 66 = .ok (.iadd, 1) := by decide +kernel
theorem dX12_watchOne_67 : decode cX12_watchOne 67 = .ok (.invokevirtual 359, 3) := by decide +kernel
theorem dX12_watchOne_70 : decode cX12_watchOne 70 = .ok (.aload_n 0, 1) := by decide +kernel
theorem dX12_watchOne_71 : decode cX12_watchOne 71 = .ok (.iload_n 1, 1) := by decide +kernel
theorem dX12_watchOne_72 : decode cX12_watchOne 72 = .ok (.aload_n 0, 1) := by decide +kernel
theorem dX12_watchOne_73 : decode cX12_watchOne 73 = .ok (.getfield 82, 3) := by decide +kernel
theorem dX12_watchOne_76 : decode cX12_watchOne 76 = .ok (.iload_n 2, 1) := by decide +kernel
theorem dX12_watchOne_77 : decode cX12_watchOne 77 = .ok (.iaload, 1) := by decide +kernel
theorem dX12_watchOne_78 : decode cX12_watchOne 78 = .ok (.iload_n 2, 1) := by decide +kernel
theorem dX12_watchOne_79 : decode cX12_watchOne 79 = .ok (.invokevirtual 362, 3) := by decide +kernel
theorem dX12_watchOne_82 : decode cX12_watchOne 82 = .ok (.return_, 1) := by decide +kernel
theorem dX12_keepOne_0 : decode cX12_keepOne 0 = .ok (.aload_n 0, 1) := by decide +kernel
theorem dX12_keepOne_1 : decode cX12_keepOne 1 = .ok (.getfield 365, 3) := by decide +kernel
theorem dX12_keepOne_4 : decode cX12_keepOne 4 = .ok (.bipush 40, 2) := by decide +kernel
theorem dX12_keepOne_6 : decode cX12_keepOne 6 = .ok (.if_icmp .ne 4, 3) := by decide +kernel
theorem dX12_keepOne_9 : decode cX12_keepOne 9 = .ok (.return_, 1) := by decide +kernel
theorem dX12_keepOne_10 : decode cX12_keepOne 10 = .ok (.bipush 7, 2) := by decide +kernel
theorem dX12_keepOne_12 : decode cX12_keepOne 12 = .ok (.aload_n 0, 1) := by decide +kernel
theorem dX12_keepOne_13 : decode cX12_keepOne 13 = .ok (.getfield 365, 3) := by decide +kernel
theorem dX12_keepOne_16 : decode cX12_keepOne 16 = .ok (.imul, 1) := by decide +kernel
theorem dX12_keepOne_17 : decode cX12_keepOne 17 = .ok (.istore 5, 2) := by decide +kernel
theorem dX12_keepOne_19 : decode cX12_keepOne 19 = .ok (.aload_n 0, 1) := by decide +kernel
theorem dX12_keepOne_20 : decode cX12_keepOne 20 = .ok (.getfield 79, 3) := by decide +kernel
theorem dX12_keepOne_23 : decode cX12_keepOne 23 = .ok (.iload 5, 2) := by decide +kernel
theorem dX12_keepOne_25 : decode cX12_keepOne 25 = .ok (.iload_n 1, 1) := by decide +kernel
theorem dX12_keepOne_26 : decode cX12_keepOne 26 = .ok (.iastore, 1) := by decide +kernel
theorem dX12_keepOne_27 : decode cX12_keepOne 27 = .ok (.aload_n 0, 1) := by decide +kernel
theorem dX12_keepOne_28 : decode cX12_keepOne 28 = .ok (.getfield 79, 3) := by decide +kernel
theorem dX12_keepOne_31 : decode cX12_keepOne 31 = .ok (.iload 5, 2) := by decide +kernel
theorem dX12_keepOne_33 : decode cX12_keepOne 33 = .ok (.iconst 1, 1) := by decide +kernel
theorem dX12_keepOne_34 : decode cX12_keepOne 34 = .ok (.iadd, 1) := by decide +kernel
theorem dX12_keepOne_35 : decode cX12_keepOne 35 = .ok (.aload_n 0, 1) := by decide +kernel
theorem dX12_keepOne_36 : decode cX12_keepOne 36 = .ok (.getfield 82, 3) := by decide +kernel
theorem dX12_keepOne_39 : decode cX12_keepOne 39 = .ok (.iload_n 2, 1) := by decide +kernel
theorem dX12_keepOne_40 : decode cX12_keepOne 40 = .ok (.iaload, 1) := by decide +kernel
theorem dX12_keepOne_41 : decode cX12_keepOne 41 = .ok (.iastore, 1) := by decide +kernel
theorem dX12_keepOne_42 : decode cX12_keepOne 42 = .ok (.iconst 0, 1) := by decide +kernel
theorem dX12_keepOne_43 : decode cX12_keepOne 43 = .ok (.istore 6, 2) := by decide +kernel
theorem dX12_keepOne_45 : decode cX12_keepOne 45 = .ok (.iload 6, 2) := by decide +kernel
theorem dX12_keepOne_47 : decode cX12_keepOne 47 = .ok (.iconst 3, 1) := by decide +kernel
theorem dX12_keepOne_48 : decode cX12_keepOne 48 = .ok (.if_icmp .ge 32, 3) := by decide +kernel
theorem dX12_keepOne_51 : decode cX12_keepOne 51 = .ok (.aload_n 0, 1) := by decide +kernel
theorem dX12_keepOne_52 : decode cX12_keepOne 52 = .ok (.getfield 79, 3) := by decide +kernel
theorem dX12_keepOne_55 : decode cX12_keepOne 55 = .ok (.iload 5, 2) := by decide +kernel
theorem dX12_keepOne_57 : decode cX12_keepOne 57 = .ok (.iconst 2, 1) := by decide +kernel
theorem dX12_keepOne_58 : decode cX12_keepOne 58 = .ok (.iadd, 1) := by decide +kernel
theorem dX12_keepOne_59 : decode cX12_keepOne 59 = .ok (.iload 6, 2) := by decide +kernel
theorem dX12_keepOne_61 : decode cX12_keepOne 61 = .ok (.iadd, 1) := by decide +kernel
theorem dX12_keepOne_62 : decode cX12_keepOne 62 = .ok (.aload_n 0, 1) := by decide +kernel
theorem dX12_keepOne_63 : decode cX12_keepOne 63 = .ok (.getfield 85, 3) := by decide +kernel
theorem dX12_keepOne_66 : decode cX12_keepOne 66 = .ok (.iconst 3, 1) := by decide +kernel
theorem dX12_keepOne_67 : decode cX12_keepOne 67 = .ok (.iload_n 2, 1) := by decide +kernel
theorem dX12_keepOne_68 : decode cX12_keepOne 68 = .ok (.imul, 1) := by decide +kernel
theorem dX12_keepOne_69 : decode cX12_keepOne 69 = .ok (.iload 6, 2) := by decide +kernel
theorem dX12_keepOne_71 : decode cX12_keepOne 71 = .ok (.iadd, 1) := by decide +kernel
theorem dX12_keepOne_72 : decode cX12_keepOne 72 = .ok (.iaload, 1) := by decide +kernel
theorem dX12_keepOne_73 : decode cX12_keepOne 73 = .ok (.iastore, 1) := by decide +kernel
theorem dX12_keepOne_74 : decode cX12_keepOne 74 = .ok (.iinc 6 1, 3) := by decide +kernel
theorem dX12_keepOne_77 : decode cX12_keepOne 77 = .ok (.goto (-32), 3) := by decide +kernel
theorem dX12_keepOne_80 : decode cX12_keepOne 80 = .ok (.aload_n 0, 1) := by decide +kernel
theorem dX12_keepOne_81 : decode cX12_keepOne 81 = .ok (.getfield 79, 3) := by decide +kernel
theorem dX12_keepOne_84 : decode cX12_keepOne 84 = .ok (.iload 5, 2) := by decide +kernel
theorem dX12_keepOne_86 : decode cX12_keepOne 86 = .ok (.iconst 5, 1) := by decide +kernel
theorem dX12_keepOne_87 : decode cX12_keepOne 87 = .ok (.iadd, 1) := by decide +kernel
theorem dX12_keepOne_88 : decode cX12_keepOne 88 = .ok (.iload_n 3, 1) := by decide +kernel
theorem dX12_keepOne_89 : decode cX12_keepOne 89 = .ok (.iconst 1, 1) := by decide +kernel
theorem dX12_keepOne_90 : decode cX12_keepOne 90 = .ok (.isub, 1) := by decide +kernel
theorem dX12_keepOne_91 : decode cX12_keepOne 91 = .ok (.iastore, 1) := by decide +kernel
theorem dX12_keepOne_92 : decode cX12_keepOne 92 = .ok (.aload_n 0, 1) := by decide +kernel
theorem dX12_keepOne_93 : decode cX12_keepOne 93 = .ok (.getfield 79, 3) := by decide +kernel
theorem dX12_keepOne_96 : decode cX12_keepOne 96 = .ok (.iload 5, 2) := by decide +kernel
theorem dX12_keepOne_98 : decode cX12_keepOne 98 = .ok (.bipush 6, 2) := by decide +kernel
theorem dX12_keepOne_100 : decode cX12_keepOne 100 = .ok (.iadd, 1) := by decide +kernel
theorem dX12_keepOne_101 : decode cX12_keepOne 101 = .ok (.iload 4, 2) := by decide +kernel
theorem dX12_keepOne_103 : decode cX12_keepOne 103 = .ok (.iastore, 1) := by decide +kernel
theorem dX12_keepOne_104 : decode cX12_keepOne 104 = .ok (.aload_n 0, 1) := by decide +kernel
theorem dX12_keepOne_105 : decode cX12_keepOne 105 = .ok (.dup, 1) := by decide +kernel
theorem dX12_keepOne_106 : decode cX12_keepOne 106 = .ok (.getfield 365, 3) := by decide +kernel
theorem dX12_keepOne_109 : decode cX12_keepOne 109 = .ok (.iconst 1, 1) := by decide +kernel
theorem dX12_keepOne_110 : decode cX12_keepOne 110 = .ok (.iadd, 1) := by decide +kernel
theorem dX12_keepOne_111 : decode cX12_keepOne 111 = .ok (.putfield 365, 3) := by decide +kernel
theorem dX12_keepOne_114 : decode cX12_keepOne 114 = .ok (.return_, 1) := by decide +kernel
theorem dX12_probe_0 : decode cX12_probe 0 = .ok (.iconst 0, 1) := by decide +kernel
theorem dX12_probe_1 : decode cX12_probe 1 = .ok (.istore 4, 2) := by decide +kernel
theorem dX12_probe_3 : decode cX12_probe 3 = .ok (.iload 4, 2) := by decide +kernel
theorem dX12_probe_5 : decode cX12_probe 5 = .ok (.bipush 8, 2) := by decide +kernel
theorem dX12_probe_7 : decode cX12_probe 7 = .ok (.if_icmp .ge 208, 3) := by decide +kernel
theorem dX12_probe_10 : decode cX12_probe 10 = .ok (.aload_n 0, 1) := by decide +kernel
theorem dX12_probe_11 : decode cX12_probe 11 = .ok (.getfield 368, 3) := by decide +kernel
theorem dX12_probe_14 : decode cX12_probe 14 = .ok (.ifCond .ne 201, 3) := by decide +kernel
theorem dX12_probe_17 : decode cX12_probe 17 = .ok (.aload_n 0, 1) := by decide +kernel
theorem dX12_probe_18 : decode cX12_probe 18 = .ok (.getfield 48, 3) := by decide +kernel
theorem dX12_probe_21 : decode cX12_probe 21 = .ok (.iload 4, 2) := by decide +kernel
theorem dX12_probe_23 : decode cX12_probe 23 = .ok (.iaload, 1) := by decide +kernel
theorem dX12_probe_24 : decode cX12_probe 24 = .ok (.ifCond .le 185, 3) := by decide +kernel
theorem dX12_probe_27 : decode cX12_probe 27 = .ok (.aload_n 0, 1) := by decide +kernel
theorem dX12_probe_28 : decode cX12_probe 28 = .ok (.iload 4, 2) := by decide +kernel
theorem dX12_probe_30 : decode cX12_probe 30 = .ok (.aload_n 0, 1) := by decide +kernel
theorem dX12_probe_31 : decode cX12_probe 31 = .ok (.getfield 82, 3) := by decide +kernel
theorem dX12_probe_34 : decode cX12_probe 34 = .ok (.iload_n 1, 1) := by decide +kernel
theorem dX12_probe_35 : decode cX12_probe 35 = .ok (.iaload, 1) := by decide +kernel
theorem dX12_probe_36 : decode cX12_probe 36 = .ok (.invokevirtual 371, 3) := by decide +kernel
theorem dX12_probe_39 : decode cX12_probe 39 = .ok (.ifCond .eq 170, 3) := by decide +kernel
theorem dX12_probe_42 : decode cX12_probe 42 = .ok (.iconst 0, 1) := by decide +kernel
theorem dX12_probe_43 : decode cX12_probe 43 = .ok (.istore 5, 2) := by decide +kernel
theorem dX12_probe_45 : decode cX12_probe 45 = .ok (.iload 5, 2) := by decide +kernel
theorem dX12_probe_47 : decode cX12_probe 47 = .ok (.iconst 3, 1) := by decide +kernel
theorem dX12_probe_48 : decode cX12_probe 48 = .ok (.if_icmp .ge 27, 3) := by decide +kernel
theorem dX12_probe_51 : decode cX12_probe 51 = .ok (.aload_n 0, 1) := by decide +kernel
theorem dX12_probe_52 : decode cX12_probe 52 = .ok (.getfield 103, 3) := by decide +kernel
theorem dX12_probe_55 : decode cX12_probe 55 = .ok (.iload 5, 2) := by decide +kernel
theorem dX12_probe_57 : decode cX12_probe 57 = .ok (.aload_n 0, 1) := by decide +kernel
theorem dX12_probe_58 : decode cX12_probe 58 = .ok (.getfield 85, 3) := by decide +kernel
theorem dX12_probe_61 : decode cX12_probe 61 = .ok (.iconst 3, 1) := by decide +kernel
theorem dX12_probe_62 : decode cX12_probe 62 = .ok (.iload_n 1, 1) := by decide +kernel
theorem dX12_probe_63 : decode cX12_probe 63 = .ok (.imul, 1) := by decide +kernel
theorem dX12_probe_64 : decode cX12_probe 64 = .ok (.iload 5, 2) := by decide +kernel
theorem dX12_probe_66 : decode cX12_probe 66 = .ok (.iadd, 1) := by decide +kernel
theorem dX12_probe_67 : decode cX12_probe 67 = .ok (.iaload, 1) := by decide +kernel
theorem dX12_probe_68 : decode cX12_probe 68 = .ok (.iastore, 1) := by decide +kernel
theorem dX12_probe_69 : decode cX12_probe 69 = .ok (.iinc 5 1, 3) := by decide +kernel
theorem dX12_probe_72 : decode cX12_probe 72 = .ok (.goto (-27), 3) := by decide +kernel
theorem dX12_probe_75 : decode cX12_probe 75 = .ok (.aload_n 0, 1) := by decide +kernel
theorem dX12_probe_76 : decode cX12_probe 76 = .ok (.getfield 103, 3) := by decide +kernel
theorem dX12_probe_79 : decode cX12_probe 79 = .ok (.iconst 3, 1) := by decide +kernel
theorem dX12_probe_80 : decode cX12_probe 80 = .ok (.iload_n 2, 1) := by decide +kernel
theorem dX12_probe_81 : decode cX12_probe 81 = .ok (.iconst 1, 1) := by decide +kernel
theorem dX12_probe_82 : decode cX12_probe 82 = .ok (.if_icmp .ne 7, 3) := by decide +kernel
theorem dX12_probe_85 : decode cX12_probe 85 = .ok (.iload_n 3, 1) := by decide +kernel
theorem dX12_probe_86 : decode cX12_probe 86 = .ok (.goto 4, 3) := by decide +kernel
theorem dX12_probe_89 : decode cX12_probe 89 = .ok (.iconst 0, 1) := by decide +kernel
theorem dX12_probe_90 : decode cX12_probe 90 = .ok (.iastore, 1) := by decide +kernel
theorem dX12_probe_91 : decode cX12_probe 91 = .ok (.aload_n 0, 1) := by decide +kernel
theorem dX12_probe_92 : decode cX12_probe 92 = .ok (.getfield 103, 3) := by decide +kernel
theorem dX12_probe_95 : decode cX12_probe 95 = .ok (.iconst 4, 1) := by decide +kernel
theorem dX12_probe_96 : decode cX12_probe 96 = .ok (.iload_n 2, 1) := by decide +kernel
theorem dX12_probe_97 : decode cX12_probe 97 = .ok (.iconst 2, 1) := by decide +kernel
theorem dX12_probe_98 : decode cX12_probe 98 = .ok (.if_icmp .ne 7, 3) := by decide +kernel
theorem dX12_probe_101 : decode cX12_probe 101 = .ok (.iload_n 3, 1) := by decide +kernel
theorem dX12_probe_102 : decode cX12_probe 102 = .ok (.goto 4, 3) := by decide +kernel
theorem dX12_probe_105 : decode cX12_probe 105 = .ok (.iconst 0, 1) := by decide +kernel
theorem dX12_probe_106 : decode cX12_probe 106 = .ok (.iastore, 1) := by decide +kernel
theorem dX12_probe_107 : decode cX12_probe 107 = .ok (.aload_n 0, 1) := by decide +kernel
theorem dX12_probe_108 : decode cX12_probe 108 = .ok (.getfield 103, 3) := by decide +kernel
theorem dX12_probe_111 : decode cX12_probe 111 = .ok (.iconst 5, 1) := by decide +kernel
theorem dX12_probe_112 : decode cX12_probe 112 = .ok (.iload_n 1, 1) := by decide +kernel
theorem dX12_probe_113 : decode cX12_probe 113 = .ok (.iastore, 1) := by decide +kernel
theorem dX12_probe_114 : decode cX12_probe 114 = .ok (.aload_n 0, 1) := by decide +kernel
theorem dX12_probe_115 : decode cX12_probe 115 = .ok (.getfield 48, 3) := by decide +kernel
theorem dX12_probe_118 : decode cX12_probe 118 = .ok (.iload 4, 2) := by decide +kernel
theorem dX12_probe_120 : decode cX12_probe 120 = .ok (.iaload, 1) := by decide +kernel
theorem dX12_probe_121 : decode cX12_probe 121 = .ok (.iconst 1, 1) := by decide +kernel
theorem dX12_probe_122 : decode cX12_probe 122 = .ok (.if_icmp .ne 24, 3) := by decide +kernel
theorem dX12_probe_125 : decode cX12_probe 125 = .ok (.aload_n 0, 1) := by decide +kernel
theorem dX12_probe_126 : decode cX12_probe 126 = .ok (.getfield 51, 3) := by decide +kernel
theorem dX12_probe_129 : decode cX12_probe 129 = .ok (.iload 4, 2) := by decide +kernel
theorem dX12_probe_131 : decode cX12_probe 131 = .ok (.iaload, 1) := by decide +kernel
theorem dX12_probe_132 : decode cX12_probe 132 = .ok (.iload_n 2, 1) := by decide +kernel
theorem dX12_probe_133 : decode cX12_probe 133 = .ok (.if_icmp .ne 13, 3) := by decide +kernel
theorem dX12_probe_136 : decode cX12_probe 136 = .ok (.aload_n 0, 1) := by decide +kernel
theorem dX12_probe_137 : decode cX12_probe 137 = .ok (.iload 4, 2) := by decide +kernel
theorem dX12_probe_139 : decode cX12_probe 139 = .ok (.iload_n 1, 1) := by decide +kernel
theorem dX12_probe_140 : decode cX12_probe 140 = .ok (.invokevirtual 374, 3) := by decide +kernel
theorem dX12_probe_143 : decode cX12_probe 143 = .ok (.goto 66, 3) := by decide +kernel
theorem dX12_probe_146 : decode cX12_probe 146 = .ok (.aload_n 0, 1) := by decide +kernel
theorem dX12_probe_147 : decode cX12_probe 147 = .ok (.getfield 48, 3) := by decide +kernel
theorem dX12_probe_150 : decode cX12_probe 150 = .ok (.iload 4, 2) := by decide +kernel
theorem dX12_probe_152 : decode cX12_probe 152 = .ok (.iaload, 1) := by decide +kernel
theorem dX12_probe_153 : decode cX12_probe 153 = .ok (.iconst 2, 1) := by decide +kernel
theorem dX12_probe_154 : decode cX12_probe 154 = .ok (.if_icmp .ne 31, 3) := by decide +kernel
theorem dX12_probe_157 : decode cX12_probe 157 = .ok (.aload_n 0, 1) := by decide +kernel
theorem dX12_probe_158 : decode cX12_probe 158 = .ok (.getfield 73, 3) := by decide +kernel
theorem dX12_probe_161 : decode cX12_probe 161 = .ok (.bipush 48, 2) := by decide +kernel
theorem dX12_probe_163 : decode cX12_probe 163 = .ok (.iload 4, 2) := by decide +kernel
theorem dX12_probe_165 : decode cX12_probe 165 = .ok (.imul, 1) := by decide +kernel
theorem dX12_probe_166 : decode cX12_probe 166 = .ok (.iconst 3, 1) := by decide +kernel
theorem dX12_probe_167 : decode cX12_probe 167 = .ok (.aload_n 0, 1) := by decide +kernel
theorem dX12_probe_168 : decode cX12_probe 168 = .ok (.getfield 82, 3) := by decide +kernel
theorem dX12_probe_171 : decode cX12_probe 171 = .ok (.iload_n 1, 1) := by decide +kernel
theorem dX12_probe_172 : decode cX12_probe 172 = .ok (.iaload, 1) := by decide +kernel
theorem dX12_probe_173 : decode cX12_probe 173 = .ok (.imul, 1) := by decide +kernel
theorem dX12_probe_174 : decode cX12_probe 174 = .ok (.iadd, 1) := by decide +kernel
theorem dX12_probe_175 : decode cX12_probe 175 = .ok (.iload_n 2, 1) := by decide +kernel
theorem dX12_probe_176 : decode cX12_probe 176 = .ok (.iadd, 1) := by decide +kernel
theorem dX12_probe_177 : decode cX12_probe 177 = .ok (.dup2, 1) := by decide +kernel
theorem dX12_probe_178 : decode cX12_probe 178 = .ok (.iaload, 1) := by decide +kernel
theorem dX12_probe_179 : decode cX12_probe 179 = .ok (.iconst 1, 1) := by decide +kernel
theorem dX12_probe_180 : decode cX12_probe 180 = .ok (.iadd, 1) := by decide +kernel
theorem dX12_probe_181 : decode cX12_probe 181 = .ok (.iastore, 1) := by decide +kernel
theorem dX12_probe_182 : decode cX12_probe 182 = .ok (.goto 27, 3) := by decide +kernel
theorem dX12_probe_185 : decode cX12_probe 185 = .ok (.aload_n 0, 1) := by decide +kernel
theorem dX12_probe_186 : decode cX12_probe 186 = .ok (.getfield 48, 3) := by decide +kernel
theorem dX12_probe_189 : decode cX12_probe 189 = .ok (.iload 4, 2) := by decide +kernel
theorem dX12_probe_191 : decode cX12_probe 191 = .ok (.iaload, 1) := by decide +kernel
theorem dX12_probe_192 : decode cX12_probe 192 = .ok (.iconst 3, 1) := by decide +kernel
theorem dX12_probe_193 : decode cX12_probe 193 = .ok (.if_icmp .ne 16, 3) := by decide +kernel
theorem dX12_probe_196 : decode cX12_probe 196 = .ok (.iload_n 2, 1) := by decide +kernel
theorem dX12_probe_197 : decode cX12_probe 197 = .ok (.ifCond .le 12, 3) := by decide +kernel
theorem dX12_probe_200 : decode cX12_probe 200 = .ok (.aload_n 0, 1) := by decide +kernel
theorem dX12_probe_201 : decode cX12_probe 201 = .ok (.iload 4, 2) := by decide +kernel
theorem dX12_probe_203 : decode cX12_probe 203 = .ok (.iload_n 1, 1) := by decide +kernel
theorem dX12_probe_204 : decode cX12_probe 204 = .ok (.iload_n 2, 1) := by decide +kernel
theorem dX12_probe_205 : decode cX12_probe 205 = .ok (.iload_n 3, 1) := by decide +kernel
theorem dX12_probe_206 : decode cX12_probe 206 = .ok (.invokevirtual 377, 3) := by decide +kernel
theorem dX12_probe_209 : decode cX12_probe 209 = .ok (.iinc 4 1, 3) := by decide +kernel
theorem dX12_probe_212 : decode cX12_probe 212 = .ok (.goto (-209), 3) := by decide +kernel
theorem dX12_probe_215 : decode cX12_probe 215 = .ok (.return_, 1) := by decide +kernel
theorem dX12_enter_0 : decode cX12_enter 0 = .ok (.aload_n 0, 1) := by decide +kernel
theorem dX12_enter_1 : decode cX12_enter 1 = .ok (.dup, 1) := by decide +kernel
theorem dX12_enter_2 : decode cX12_enter 2 = .ok (.getfield 381, 3) := by decide +kernel
theorem dX12_enter_5 : decode cX12_enter 5 = .ok (.iconst 1, 1) := by decide +kernel
theorem dX12_enter_6 : decode cX12_enter 6 = .ok (.iadd, 1) := by decide +kernel
theorem dX12_enter_7 : decode cX12_enter 7 = .ok (.putfield 381, 3) := by decide +kernel
theorem dX12_enter_10 : decode cX12_enter 10 = .ok (.aload_n 0, 1) := by decide +kernel
theorem dX12_enter_11 : decode cX12_enter 11 = .ok (.dup, 1) := by decide +kernel
theorem dX12_enter_12 : decode cX12_enter 12 = .ok (.getfield 384, 3) := by decide +kernel
theorem dX12_enter_15 : decode cX12_enter 15 = .ok (.iconst 1, 1) := by decide +kernel
theorem dX12_enter_16 : decode cX12_enter 16 = .ok (.iadd, 1) := by decide +kernel
theorem dX12_enter_17 : decode cX12_enter 17 = .ok (.putfield 384, 3) := by decide +kernel
theorem dX12_enter_20 : decode cX12_enter 20 = .ok (.aload_n 0, 1) := by decide +kernel
theorem dX12_enter_21 : decode cX12_enter 21 = .ok (.getfield 82, 3) := by decide +kernel
theorem dX12_enter_24 : decode cX12_enter 24 = .ok (.aload_n 0, 1) := by decide +kernel
theorem dX12_enter_25 : decode cX12_enter 25 = .ok (.getfield 381, 3) := by decide +kernel
theorem dX12_enter_28 : decode cX12_enter 28 = .ok (.iload_n 1, 1) := by decide +kernel
theorem dX12_enter_29 : decode cX12_enter 29 = .ok (.iastore, 1) := by decide +kernel
theorem dX12_enter_30 : decode cX12_enter 30 = .ok (.aload_n 0, 1) := by decide +kernel
theorem dX12_enter_31 : decode cX12_enter 31 = .ok (.getfield 88, 3) := by decide +kernel
theorem dX12_enter_34 : decode cX12_enter 34 = .ok (.aload_n 0, 1) := by decide +kernel
theorem dX12_enter_35 : decode cX12_enter 35 = .ok (.getfield 381, 3) := by decide +kernel
theorem dX12_enter_38 : decode cX12_enter 38 = .ok (.iconst 0, 1) := by decide +kernel
theorem dX12_enter_39 : decode cX12_enter 39 = .ok (.iastore, 1) := by decide +kernel
theorem dX12_enter_40 : decode cX12_enter 40 = .ok (.aload_n 0, 1) := by decide +kernel
theorem dX12_enter_41 : decode cX12_enter 41 = .ok (.getfield 30, 3) := by decide +kernel
theorem dX12_enter_44 : decode cX12_enter 44 = .ok (.iload_n 1, 1) := by decide +kernel
theorem dX12_enter_45 : decode cX12_enter 45 = .ok (.iaload, 1) := by decide +kernel
theorem dX12_enter_46 : decode cX12_enter 46 = .ok (.istore_n 2, 1) := by decide +kernel
theorem dX12_enter_47 : decode cX12_enter 47 = .ok (.iload_n 2, 1) := by decide +kernel
theorem dX12_enter_48 : decode cX12_enter 48 = .ok (.iconst 3, 1) := by decide +kernel
theorem dX12_enter_49 : decode cX12_enter 49 = .ok (.if_icmp .ge 23, 3) := by decide +kernel
theorem dX12_enter_52 : decode cX12_enter 52 = .ok (.aload_n 0, 1) := by decide +kernel
theorem dX12_enter_53 : decode cX12_enter 53 = .ok (.getfield 85, 3) := by decide +kernel
theorem dX12_enter_56 : decode cX12_enter 56 = .ok (.iconst 3, 1) := by decide +kernel
theorem dX12_enter_57 : decode cX12_enter 57 = .ok (.aload_n 0, 1) := by decide +kernel
theorem dX12_enter_58 : decode cX12_enter 58 = .ok (.getfield 381, 3) := by decide +kernel
theorem dX12_enter_61 : decode cX12_enter 61 = .ok (.imul, 1) := by decide +kernel
theorem dX12_enter_62 : decode cX12_enter 62 = .ok (.iload_n 2, 1) := by decide +kernel
theorem dX12_enter_63 : decode cX12_enter 63 = .ok (.iadd, 1) := by decide +kernel
theorem dX12_enter_64 : decode cX12_enter 64 = .ok (.iconst 0, 1) := by decide +kernel
theorem dX12_enter_65 : decode cX12_enter 65 = .ok (.iastore, 1) := by decide +kernel
theorem dX12_enter_66 : decode cX12_enter 66 = .ok (.iinc 2 1, 3) := by decide +kernel
theorem dX12_enter_69 : decode cX12_enter 69 = .ok (.goto (-22), 3) := by decide +kernel
theorem dX12_enter_72 : decode cX12_enter 72 = .ok (.aload_n 0, 1) := by decide +kernel
theorem dX12_enter_73 : decode cX12_enter 73 = .ok (.aload_n 0, 1) := by decide +kernel
theorem dX12_enter_74 : decode cX12_enter 74 = .ok (.getfield 381, 3) := by decide +kernel
theorem dX12_enter_77 : decode cX12_enter 77 = .ok (.iconst 0, 1) := by decide +kernel
theorem dX12_enter_78 : decode cX12_enter 78 = .ok (.iconst 0, 1) := by decide +kernel
theorem dX12_enter_79 : decode cX12_enter 79 = .ok (.invokevirtual 387, 3) := by decide +kernel
theorem dX12_enter_82 : decode cX12_enter 82 = .ok (.return_, 1) := by decide +kernel
theorem dX12_throwAll_0 : decode cX12_throwAll 0 = .ok (.aload_n 0, 1) := by decide +kernel
theorem dX12_throwAll_1 : decode cX12_throwAll 1 = .ok (.getfield 381, 3) := by decide +kernel
theorem dX12_throwAll_4 : decode cX12_throwAll 4 = .ok (.ifCond .le 26, 3) := by decide +kernel
theorem dX12_throwAll_7 : decode cX12_throwAll 7 = .ok (.aload_n 0, 1) := by decide +kernel
theorem dX12_throwAll_8 : decode cX12_throwAll 8 = .ok (.aload_n 0, 1) := by decide +kernel
theorem dX12_throwAll_9 : decode cX12_throwAll 9 = .ok (.getfield 381, 3) := by decide +kernel
theorem dX12_throwAll_12 : decode cX12_throwAll 12 = .ok (.iconst 2, 1) := by decide +kernel
theorem dX12_throwAll_13 : decode cX12_throwAll 13 = .ok (.iload_n 1, 1) := by decide +kernel
theorem dX12_throwAll_14 : decode cX12_throwAll 14 = .ok (.invokevirtual 387, 3) := by decide +kernel
theorem dX12_throwAll_17 : decode cX12_throwAll 17 = .ok (.aload_n 0, 1) := by decide +kernel
theorem dX12_throwAll_18 : decode cX12_throwAll 18 = .ok (.dup, 1) := by decide +kernel
theorem dX12_throwAll_19 : decode cX12_throwAll 19 = .ok (.getfield 381, 3) := by decide +kernel
theorem dX12_throwAll_22 : decode cX12_throwAll 22 = .ok (.iconst 1, 1) := by decide +kernel
theorem dX12_throwAll_23 : decode cX12_throwAll 23 = .ok (.isub, 1) := by decide +kernel
theorem dX12_throwAll_24 : decode cX12_throwAll 24 = .ok (.putfield 381, 3) := by decide +kernel
theorem dX12_throwAll_27 : decode cX12_throwAll 27 = .ok (.goto (-27), 3) := by decide +kernel
theorem dX12_throwAll_30 : decode cX12_throwAll 30 = .ok (.aload_n 0, 1) := by decide +kernel
theorem dX12_throwAll_31 : decode cX12_throwAll 31 = .ok (.iconst 1, 1) := by decide +kernel
theorem dX12_throwAll_32 : decode cX12_throwAll 32 = .ok (.putfield 390, 3) := by decide +kernel
theorem dX12_throwAll_35 : decode cX12_throwAll 35 = .ok (.aload_n 0, 1) := by decide +kernel
theorem dX12_throwAll_36 : decode cX12_throwAll 36 = .ok (.iload_n 1, 1) := by decide +kernel
theorem dX12_throwAll_37 : decode cX12_throwAll 37 = .ok (.putfield 393, 3) := by decide +kernel
theorem dX12_throwAll_40 : decode cX12_throwAll 40 = .ok (.return_, 1) := by decide +kernel
theorem dX12_throwUp_0 : decode cX12_throwUp 0 = .ok (.aload_n 0, 1) := by decide +kernel
theorem dX12_throwUp_1 : decode cX12_throwUp 1 = .ok (.getfield 381, 3) := by decide +kernel
theorem dX12_throwUp_4 : decode cX12_throwUp 4 = .ok (.ifCond .le 93, 3) := by decide +kernel
theorem dX12_throwUp_7 : decode cX12_throwUp 7 = .ok (.aload_n 0, 1) := by decide +kernel
theorem dX12_throwUp_8 : decode cX12_throwUp 8 = .ok (.getfield 396, 3) := by decide +kernel
theorem dX12_throwUp_11 : decode cX12_throwUp 11 = .ok (.ifCond .le 63, 3) := by decide +kernel
theorem dX12_throwUp_14 : decode cX12_throwUp 14 = .ok (.aload_n 0, 1) := by decide +kernel
theorem dX12_throwUp_15 : decode cX12_throwUp 15 = .ok (.getfield 100, 3) := by decide +kernel
theorem dX12_throwUp_18 : decode cX12_throwUp 18 = .ok (.aload_n 0, 1) := by decide +kernel
theorem dX12_throwUp_19 : decode cX12_throwUp 19 = .ok (.getfield 396, 3) := by decide +kernel
theorem dX12_throwUp_22 : decode cX12_throwUp 22 = .ok (.iconst 1, 1) := by decide +kernel
theorem dX12_throwUp_23 : decode cX12_throwUp 23 = .ok (.isub, 1) := by decide +kernel
theorem dX12_throwUp_24 : decode cX12_throwUp 24 = .ok (.iaload, 1) := by decide +kernel
theorem dX12_throwUp_25 : decode cX12_throwUp 25 = .ok (.aload_n 0, 1) := by decide +kernel
theorem dX12_throwUp_26 : decode cX12_throwUp 26 = .ok (.getfield 381, 3) := by decide +kernel
theorem dX12_throwUp_29 : decode cX12_throwUp 29 = .ok (.if_icmp .ne 45, 3) := by decide +kernel
theorem dX12_throwUp_32 : decode cX12_throwUp 32 = .ok (.aload_n 0, 1) := by decide +kernel
theorem dX12_throwUp_33 : decode cX12_throwUp 33 = .ok (.dup, 1) := by decide +kernel
theorem dX12_throwUp_34 : decode cX12_throwUp 34 = .ok (.getfield 396, 3) := by decide +kernel
theorem dX12_throwUp_37 : decode cX12_throwUp 37 = .ok (.iconst 1, 1) := by decide +kernel
theorem dX12_throwUp_38 : decode cX12_throwUp 38 = .ok (.isub, 1) := by decide +kernel
theorem dX12_throwUp_39 : decode cX12_throwUp 39 = .ok (.putfield 396, 3) := by decide +kernel
theorem dX12_throwUp_42 : decode cX12_throwUp 42 = .ok (.aload_n 0, 1) := by decide +kernel
theorem dX12_throwUp_43 : decode cX12_throwUp 43 = .ok (.aload_n 0, 1) := by decide +kernel
theorem dX12_throwUp_44 : decode cX12_throwUp 44 = .ok (.getfield 97, 3) := by decide +kernel
theorem dX12_throwUp_47 : decode cX12_throwUp 47 = .ok (.aload_n 0, 1) := by decide +kernel
theorem dX12_throwUp_48 : decode cX12_throwUp 48 = .ok (.getfield 396, 3) := by decide +kernel
theorem dX12_throwUp_51 : decode cX12_throwUp 51 = .ok (.iaload, 1) := by decide +kernel
theorem dX12_throwUp_52 : decode cX12_throwUp 52 = .ok (.putfield 399, 3) := by decide +kernel
theorem dX12_throwUp_55 : decode cX12_throwUp 55 = .ok (.aload_n 0, 1) := by decide +kernel
theorem dX12_throwUp_56 : decode cX12_throwUp 56 = .ok (.getfield 88, 3) := by decide +kernel
theorem dX12_throwUp_59 : decode cX12_throwUp 59 = .ok (.aload_n 0, 1) := by decide +kernel
theorem dX12_throwUp_60 : decode cX12_throwUp 60 = .ok (.getfield 381, 3) := by decide +kernel
theorem dX12_throwUp_63 : decode cX12_throwUp 63 = .ok (.aload_n 0, 1) := by decide +kernel
theorem dX12_throwUp_64 : decode cX12_throwUp 64 = .ok (.getfield 94, 3) := by decide +kernel
theorem dX12_throwUp_67 : decode cX12_throwUp 67 = .ok (.aload_n 0, 1) := by decide +kernel
theorem dX12_throwUp_68 : decode cX12_throwUp 68 = .ok (.getfield 396, 3) := by decide +kernel
theorem dX12_throwUp_71 : decode cX12_throwUp 71 = .ok (.iaload, 1) := by decide +kernel
theorem dX12_throwUp_72 : decode cX12_throwUp 72 = .ok (.iastore, 1) := by decide +kernel
theorem dX12_throwUp_73 : decode cX12_throwUp 73 = .ok (.return_, 1) := by decide +kernel
theorem dX12_throwUp_74 : decode cX12_throwUp 74 = .ok (.aload_n 0, 1) := by decide +kernel
theorem dX12_throwUp_75 : decode cX12_throwUp 75 = .ok (.aload_n 0, 1) := by decide +kernel
theorem dX12_throwUp_76 : decode cX12_throwUp 76 = .ok (.getfield 381, 3) := by decide +kernel
theorem dX12_throwUp_79 : decode cX12_throwUp 79 = .ok (.iconst 2, 1) := by decide +kernel
theorem dX12_throwUp_80 : decode cX12_throwUp 80 = .ok (.iload_n 1, 1) := by decide +kernel
theorem dX12_throwUp_81 : decode cX12_throwUp 81 = .ok (.invokevirtual 387, 3) := by decide +kernel
theorem dX12_throwUp_84 : decode cX12_throwUp 84 = .ok (.aload_n 0, 1) := by decide +kernel
theorem dX12_throwUp_85 : decode cX12_throwUp 85 = .ok (.dup, 1) := by decide +kernel
theorem dX12_throwUp_86 : decode cX12_throwUp 86 = .ok (.getfield 381, 3) := by decide +kernel
theorem dX12_throwUp_89 : decode cX12_throwUp 89 = .ok (.iconst 1, 1) := by decide +kernel
theorem dX12_throwUp_90 : decode cX12_throwUp 90 = .ok (.isub, 1) := by decide +kernel
theorem dX12_throwUp_91 : decode cX12_throwUp 91 = .ok (.putfield 381, 3) := by decide +kernel
theorem dX12_throwUp_94 : decode cX12_throwUp 94 = .ok (.goto (-94), 3) := by decide +kernel
theorem dX12_throwUp_97 : decode cX12_throwUp 97 = .ok (.aload_n 0, 1) := by decide +kernel
theorem dX12_throwUp_98 : decode cX12_throwUp 98 = .ok (.iconst 1, 1) := by decide +kernel
theorem dX12_throwUp_99 : decode cX12_throwUp 99 = .ok (.putfield 390, 3) := by decide +kernel
theorem dX12_throwUp_102 : decode cX12_throwUp 102 = .ok (.aload_n 0, 1) := by decide +kernel
theorem dX12_throwUp_103 : decode cX12_throwUp 103 = .ok (.iload_n 1, 1) := by decide +kernel
theorem dX12_throwUp_104 : decode cX12_throwUp 104 = .ok (.putfield 393, 3) := by decide +kernel
theorem dX12_throwUp_107 : decode cX12_throwUp 107 = .ok (.return_, 1) := by decide +kernel
theorem dX12_push_0 : decode cX12_push 0 = .ok (.aload_n 0, 1) := by decide +kernel
theorem dX12_push_1 : decode cX12_push 1 = .ok (.getfield 91, 3) := by decide +kernel
theorem dX12_push_4 : decode cX12_push 4 = .ok (.aload_n 0, 1) := by decide +kernel
theorem dX12_push_5 : decode cX12_push 5 = .ok (.getfield 399, 3) := by decide +kernel
theorem dX12_push_8 : decode cX12_push 8 = .ok (.iload_n 1, 1) := by decide +kernel
theorem dX12_push_9 : decode cX12_push 9 = .ok (.iastore, 1) := by decide +kernel
theorem dX12_push_10 : decode cX12_push 10 = .ok (.aload_n 0, 1) := by decide +kernel
theorem dX12_push_11 : decode cX12_push 11 = .ok (.dup, 1) := by decide +kernel
theorem dX12_push_12 : decode cX12_push 12 = .ok (.getfield 399, 3) := by decide +kernel
theorem dX12_push_15 : decode cX12_push 15 = .ok (.iconst 1, 1) := by decide +kernel
theorem dX12_push_16 : decode cX12_push 16 = .ok (.iadd, 1) := by decide +kernel
theorem dX12_push_17 : decode cX12_push 17 = .ok (.putfield 399, 3) := by decide +kernel
theorem dX12_push_20 : decode cX12_push 20 = .ok (.return_, 1) := by decide +kernel
theorem dX12_leave_0 : decode cX12_leave 0 = .ok (.aload_n 0, 1) := by decide +kernel
theorem dX12_leave_1 : decode cX12_leave 1 = .ok (.getfield 91, 3) := by decide +kernel
theorem dX12_leave_4 : decode cX12_leave 4 = .ok (.aload_n 0, 1) := by decide +kernel
theorem dX12_leave_5 : decode cX12_leave 5 = .ok (.getfield 399, 3) := by decide +kernel
theorem dX12_leave_8 : decode cX12_leave 8 = .ok (.iconst 1, 1) := by decide +kernel
theorem dX12_leave_9 : decode cX12_leave 9 = .ok (.isub, 1) := by decide +kernel
theorem dX12_leave_10 : decode cX12_leave 10 = .ok (.iaload, 1) := by decide +kernel
theorem dX12_leave_11 : decode cX12_leave 11 = .ok (.istore_n 1, 1) := by decide +kernel
theorem dX12_leave_12 : decode cX12_leave 12 = .ok (.aload_n 0, 1) := by decide +kernel
theorem dX12_leave_13 : decode cX12_leave 13 = .ok (.dup, 1) := by decide +kernel
theorem dX12_leave_14 : decode cX12_leave 14 = .ok (.getfield 399, 3) := by decide +kernel
theorem dX12_leave_17 : decode cX12_leave 17 = .ok (.iconst 1, 1) := by decide +kernel
theorem dX12_leave_18 : decode cX12_leave 18 = .ok (.isub, 1) := by decide +kernel
theorem dX12_leave_19 : decode cX12_leave 19 = .ok (.putfield 399, 3) := by decide +kernel
theorem dX12_leave_22 : decode cX12_leave 22 = .ok (.aload_n 0, 1) := by decide +kernel
theorem dX12_leave_23 : decode cX12_leave 23 = .ok (.aload_n 0, 1) := by decide +kernel
theorem dX12_leave_24 : decode cX12_leave 24 = .ok (.getfield 381, 3) := by decide +kernel
theorem dX12_leave_27 : decode cX12_leave 27 = .ok (.iconst 1, 1) := by decide +kernel
theorem dX12_leave_28 : decode cX12_leave 28 = .ok (.iload_n 1, 1) := by decide +kernel
theorem dX12_leave_29 : decode cX12_leave 29 = .ok (.invokevirtual 387, 3) := by decide +kernel
theorem dX12_leave_32 : decode cX12_leave 32 = .ok (.aload_n 0, 1) := by decide +kernel
theorem dX12_leave_33 : decode cX12_leave 33 = .ok (.dup, 1) := by decide +kernel
theorem dX12_leave_34 : decode cX12_leave 34 = .ok (.getfield 381, 3) := by decide +kernel
theorem dX12_leave_37 : decode cX12_leave 37 = .ok (.iconst 1, 1) := by decide +kernel
theorem dX12_leave_38 : decode cX12_leave 38 = .ok (.isub, 1) := by decide +kernel
theorem dX12_leave_39 : decode cX12_leave 39 = .ok (.putfield 381, 3) := by decide +kernel
theorem dX12_leave_42 : decode cX12_leave 42 = .ok (.aload_n 0, 1) := by decide +kernel
theorem dX12_leave_43 : decode cX12_leave 43 = .ok (.getfield 381, 3) := by decide +kernel
theorem dX12_leave_46 : decode cX12_leave 46 = .ok (.ifCond .ne 16, 3) := by decide +kernel
theorem dX12_leave_49 : decode cX12_leave 49 = .ok (.aload_n 0, 1) := by decide +kernel
theorem dX12_leave_50 : decode cX12_leave 50 = .ok (.iconst 0, 1) := by decide +kernel
theorem dX12_leave_51 : decode cX12_leave 51 = .ok (.putfield 390, 3) := by decide +kernel
theorem dX12_leave_54 : decode cX12_leave 54 = .ok (.aload_n 0, 1) := by decide +kernel
theorem dX12_leave_55 : decode cX12_leave 55 = .ok (.iload_n 1, 1) := by decide +kernel
theorem dX12_leave_56 : decode cX12_leave 56 = .ok (.putfield 393, 3) := by decide +kernel
theorem dX12_leave_59 : decode cX12_leave 59 = .ok (.goto 8, 3) := by decide +kernel
theorem dX12_leave_62 : decode cX12_leave 62 = .ok (.aload_n 0, 1) := by decide +kernel
theorem dX12_leave_63 : decode cX12_leave 63 = .ok (.iload_n 1, 1) := by decide +kernel
theorem dX12_leave_64 : decode cX12_leave 64 = .ok (.invokevirtual 402, 3) := by decide +kernel
theorem dX12_leave_67 : decode cX12_leave 67 = .ok (.return_, 1) := by decide +kernel
theorem dX12_invoke_0 : decode cX12_invoke 0 = .ok (.lload_n 1, 1) := by decide +kernel
theorem dX12_invoke_1 : decode cX12_invoke 1 = .ok (.ldc2_w 405, 3) := by decide +kernel
theorem dX12_invoke_4 : decode cX12_invoke 4 = .ok (.land, 1) := by decide +kernel
theorem dX12_invoke_5 : decode cX12_invoke 5 = .ok (.l2i, 1) := by decide +kernel
theorem dX12_invoke_6 : decode cX12_invoke 6 = .ok (.istore_n 3, 1) := by decide +kernel
theorem dX12_invoke_7 : decode cX12_invoke 7 = .ok (.aload_n 0, 1) := by decide +kernel
theorem dX12_invoke_8 : decode cX12_invoke 8 = .ok (.aload_n 0, 1) := by decide +kernel
theorem dX12_invoke_9 : decode cX12_invoke 9 = .ok (.getfield 399, 3) := by decide +kernel
theorem dX12_invoke_12 : decode cX12_invoke 12 = .ok (.iload_n 3, 1) := by decide +kernel
theorem dX12_invoke_13 : decode cX12_invoke 13 = .ok (.isub, 1) := by decide +kernel
theorem dX12_invoke_14 : decode cX12_invoke 14 = .ok (.putfield 399, 3) := by decide +kernel
theorem dX12_invoke_17 : decode cX12_invoke 17 = .ok (.aload_n 0, 1) := by decide +kernel
theorem dX12_invoke_18 : decode cX12_invoke 18 = .ok (.lload_n 1, 1) := by decide +kernel
theorem dX12_invoke_19 : decode cX12_invoke 19 = .ok (.iconst 2, 1) := by decide +kernel
theorem dX12_invoke_20 : decode cX12_invoke 20 = .ok (.lshr, 1) := by decide +kernel
theorem dX12_invoke_21 : decode cX12_invoke 21 = .ok (.iload_n 3, 1) := by decide +kernel
theorem dX12_invoke_22 : decode cX12_invoke 22 = .ok (.invokevirtual 272, 3) := by decide +kernel
theorem dX12_invoke_25 : decode cX12_invoke 25 = .ok (.istore 4, 2) := by decide +kernel
theorem dX12_invoke_27 : decode cX12_invoke 27 = .ok (.iload 4, 2) := by decide +kernel
theorem dX12_invoke_29 : decode cX12_invoke 29 = .ok (.ifCond .ge 12, 3) := by decide +kernel
theorem dX12_invoke_32 : decode cX12_invoke 32 = .ok (.aload_n 0, 1) := by decide +kernel
theorem dX12_invoke_33 : decode cX12_invoke 33 = .ok (.bipush (-4), 2) := by decide +kernel
theorem dX12_invoke_35 : decode cX12_invoke 35 = .ok (.invokevirtual 407, 3) := by decide +kernel
theorem dX12_invoke_38 : decode cX12_invoke 38 = .ok (.goto 89, 3) := by decide +kernel
theorem dX12_invoke_41 : decode cX12_invoke 41 = .ok (.aload_n 0, 1) := by decide +kernel
theorem dX12_invoke_42 : decode cX12_invoke 42 = .ok (.getfield 381, 3) := by decide +kernel
theorem dX12_invoke_45 : decode cX12_invoke 45 = .ok (.bipush 10, 2) := by decide +kernel
theorem dX12_invoke_47 : decode cX12_invoke 47 = .ok (.if_icmp .ne 12, 3) := by decide +kernel
theorem dX12_invoke_50 : decode cX12_invoke 50 = .ok (.aload_n 0, 1) := by decide +kernel
theorem dX12_invoke_51 : decode cX12_invoke 51 = .ok (.bipush (-2), 2) := by decide +kernel
theorem dX12_invoke_53 : decode cX12_invoke 53 = .ok (.invokevirtual 407, 3) := by decide +kernel
theorem dX12_invoke_56 : decode cX12_invoke 56 = .ok (.goto 71, 3) := by decide +kernel
theorem dX12_invoke_59 : decode cX12_invoke 59 = .ok (.aload_n 0, 1) := by decide +kernel
theorem dX12_invoke_60 : decode cX12_invoke 60 = .ok (.getfield 384, 3) := by decide +kernel
theorem dX12_invoke_63 : decode cX12_invoke 63 = .ok (.sipush 1000, 3) := by decide +kernel
theorem dX12_invoke_66 : decode cX12_invoke 66 = .ok (.if_icmp .ne 12, 3) := by decide +kernel
theorem dX12_invoke_69 : decode cX12_invoke 69 = .ok (.aload_n 0, 1) := by decide +kernel
theorem dX12_invoke_70 : decode cX12_invoke 70 = .ok (.bipush (-3), 2) := by decide +kernel
theorem dX12_invoke_72 : decode cX12_invoke 72 = .ok (.invokevirtual 410, 3) := by decide +kernel
theorem dX12_invoke_75 : decode cX12_invoke 75 = .ok (.goto 52, 3) := by decide +kernel
theorem dX12_invoke_78 : decode cX12_invoke 78 = .ok (.iconst 0, 1) := by decide +kernel
theorem dX12_invoke_79 : decode cX12_invoke 79 = .ok (.istore 5, 2) := by decide +kernel
theorem dX12_invoke_81 : decode cX12_invoke 81 = .ok (.iload 5, 2) := by decide +kernel
theorem dX12_invoke_83 : decode cX12_invoke 83 = .ok (.iload_n 3, 1) := by decide +kernel
theorem dX12_invoke_84 : decode cX12_invoke 84 = .ok (.if_icmp .ge 37, 3) := by decide +kernel
theorem dX12_invoke_87 : decode cX12_invoke 87 = .ok (.aload_n 0, 1) := by decide +kernel
theorem dX12_invoke_88 : decode cX12_invoke 88 = .ok (.getfield 85, 3) := by decide +kernel
theorem dX12_invoke_91 : decode cX12_invoke 91 = .ok (.iconst 3, 1) := by decide +kernel
theorem dX12_invoke_92 : decode cX12_invoke 92 = .ok (.aload_n 0, 1) := by decide +kernel
theorem dX12_invoke_93 : decode cX12_invoke 93 = .ok (.getfield 381, 3) := by decide +kernel
theorem dX12_invoke_96 : decode cX12_invoke 96 = .ok (.imul, 1) := by decide +kernel
theorem dX12_invoke_97 : decode cX12_invoke 97 = .ok (.iconst 3, 1) := by decide +kernel
theorem dX12_invoke_98 : decode cX12_invoke 98 = .ok (.iadd, 1) := by decide +kernel
theorem dX12_invoke_99 : decode cX12_invoke 99 = .ok (.iload 5, 2) := by decide +kernel
theorem dX12_invoke_101 : decode cX12_invoke 101 = .ok (.iadd, 1) := by decide +kernel
theorem dX12_invoke_102 : decode cX12_invoke 102 = .ok (.aload_n 0, 1) := by decide +kernel
theorem dX12_invoke_103 : decode cX12_invoke 103 = .ok (.getfield 91, 3) := by decide +kernel
theorem dX12_invoke_106 : decode cX12_invoke 106 = .ok (.aload_n 0, 1) := by decide +kernel
theorem dX12_invoke_107 : decode cX12_invoke 107 = .ok (.getfield 399, 3) := by decide +kernel
theorem dX12_invoke_110 : decode cX12_invoke 110 = .ok (.iload 5, 2) := by decide +kernel
theorem dX12_invoke_112 : decode cX12_invoke 112 = .ok (.iadd, 1) := by decide +kernel
theorem dX12_invoke_113 : decode cX12_invoke 113 = .ok (.iaload, 1) := by decide +kernel
theorem dX12_invoke_114 : decode cX12_invoke 114 = .ok (.iastore, 1) := by decide +kernel
theorem dX12_invoke_115 : decode cX12_invoke 115 = .ok (.iinc 5 1, 3) := by decide +kernel
theorem dX12_invoke_118 : decode cX12_invoke 118 = .ok (.goto (-37), 3) := by decide +kernel
theorem dX12_invoke_121 : decode cX12_invoke 121 = .ok (.aload_n 0, 1) := by decide +kernel
theorem dX12_invoke_122 : decode cX12_invoke 122 = .ok (.iload 4, 2) := by decide +kernel
theorem dX12_invoke_124 : decode cX12_invoke 124 = .ok (.invokevirtual 413, 3) := by decide +kernel
theorem dX12_invoke_127 : decode cX12_invoke 127 = .ok (.return_, 1) := by decide +kernel
theorem dX12_step_0 : decode cX12_step 0 = .ok (.aload_n 0, 1) := by decide +kernel
theorem dX12_step_1 : decode cX12_step 1 = .ok (.getfield 82, 3) := by decide +kernel
theorem dX12_step_4 : decode cX12_step 4 = .ok (.aload_n 0, 1) := by decide +kernel
theorem dX12_step_5 : decode cX12_step 5 = .ok (.getfield 381, 3) := by decide +kernel
theorem dX12_step_8 : decode cX12_step 8 = .ok (.iaload, 1) := by decide +kernel
theorem dX12_step_9 : decode cX12_step 9 = .ok (.istore_n 1, 1) := by decide +kernel
theorem dX12_step_10 : decode cX12_step 10 = .ok (.aload_n 0, 1) := by decide +kernel
theorem dX12_step_11 : decode cX12_step 11 = .ok (.getfield 88, 3) := by decide +kernel
theorem dX12_step_14 : decode cX12_step 14 = .ok (.aload_n 0, 1) := by decide +kernel
theorem dX12_step_15 : decode cX12_step 15 = .ok (.getfield 381, 3) := by decide +kernel
theorem dX12_step_18 : decode cX12_step 18 = .ok (.iaload, 1) := by decide +kernel
theorem dX12_step_19 : decode cX12_step 19 = .ok (.istore_n 2, 1) := by decide +kernel
theorem dX12_step_20 : decode cX12_step 20 = .ok (.iload_n 2, 1) := by decide +kernel
theorem dX12_step_21 : decode cX12_step 21 = .ok (.aload_n 0, 1) := by decide +kernel
theorem dX12_step_22 : decode cX12_step 22 = .ok (.getfield 24, 3) := by decide +kernel
theorem dX12_step_25 : decode cX12_step 25 = .ok (.iload_n 1, 1) := by decide +kernel
theorem dX12_step_26 : decode cX12_step 26 = .ok (.iaload, 1) := by decide +kernel
theorem dX12_step_27 : decode cX12_step 27 = .ok (.if_icmp .ne 8, 3) := by decide +kernel
theorem dX12_step_30 : decode cX12_step 30 = .ok (.aload_n 0, 1) := by decide +kernel
theorem dX12_step_31 : decode cX12_step 31 = .ok (.invokevirtual 416, 3) := by decide +kernel
theorem dX12_step_34 : decode cX12_step 34 = .ok (.return_, 1) := by decide +kernel
theorem dX12_step_35 : decode cX12_step 35 = .ok (.aload_n 0, 1) := by decide +kernel
theorem dX12_step_36 : decode cX12_step 36 = .ok (.getfield 17, 3) := by decide +kernel
theorem dX12_step_39 : decode cX12_step 39 = .ok (.iload_n 1, 1) := by decide +kernel
theorem dX12_step_40 : decode cX12_step 40 = .ok (.invokestatic 141, 3) := by decide +kernel
theorem dX12_step_43 : decode cX12_step 43 = .ok (.iload_n 2, 1) := by decide +kernel
theorem dX12_step_44 : decode cX12_step 44 = .ok (.iadd, 1) := by decide +kernel
theorem dX12_step_45 : decode cX12_step 45 = .ok (.iaload, 1) := by decide +kernel
theorem dX12_step_46 : decode cX12_step 46 = .ok (.istore_n 3, 1) := by decide +kernel
theorem dX12_step_47 : decode cX12_step 47 = .ok (.aload_n 0, 1) := by decide +kernel
theorem dX12_step_48 : decode cX12_step 48 = .ok (.getfield 20, 3) := by decide +kernel
theorem dX12_step_51 : decode cX12_step 51 = .ok (.iload_n 1, 1) := by decide +kernel
theorem dX12_step_52 : decode cX12_step 52 = .ok (.invokestatic 141, 3) := by decide +kernel
theorem dX12_step_55 : decode cX12_step 55 = .ok (.iload_n 2, 1) := by decide +kernel
theorem dX12_step_56 : decode cX12_step 56 = .ok (.iadd, 1) := by decide +kernel
theorem dX12_step_57 : decode cX12_step 57 = .ok (.laload, 1) := by decide +kernel
theorem dX12_step_58 : decode cX12_step 58 = .ok (.lstore 4, 2) := by decide +kernel
theorem dX12_step_60 : decode cX12_step 60 = .ok (.lload 4, 2) := by decide +kernel
theorem dX12_step_62 : decode cX12_step 62 = .ok (.l2i, 1) := by decide +kernel
theorem dX12_step_63 : decode cX12_step 63 = .ok (.istore 6, 2) := by decide +kernel
theorem dX12_step_65 : decode cX12_step 65 = .ok (.aload_n 0, 1) := by decide +kernel
theorem dX12_step_66 : decode cX12_step 66 = .ok (.getfield 88, 3) := by decide +kernel
theorem dX12_step_69 : decode cX12_step 69 = .ok (.aload_n 0, 1) := by decide +kernel
theorem dX12_step_70 : decode cX12_step 70 = .ok (.getfield 381, 3) := by decide +kernel
theorem dX12_step_73 : decode cX12_step 73 = .ok (.iload_n 2, 1) := by decide +kernel
theorem dX12_step_74 : decode cX12_step 74 = .ok (.iconst 1, 1) := by decide +kernel
theorem dX12_step_75 : decode cX12_step 75 = .ok (.iadd, 1) := by decide +kernel
theorem dX12_step_76 : decode cX12_step 76 = .ok (.iastore, 1) := by decide +kernel
theorem dX12_step_77 : decode cX12_step 77 = .ok (.iload_n 3, 1) := by decide +kernel
theorem dX12_step_78 : decode cX12_step 78 = .ok (.ifCond .ne 12, 3) := by decide +kernel
theorem dX12_step_81 : decode cX12_step 81 = .ok (.aload_n 0, 1) := by decide +kernel
theorem dX12_step_82 : decode cX12_step 82 = .ok (.iload 6, 2) := by decide +kernel
theorem dX12_step_84 : decode cX12_step 84 = .ok (.invokevirtual 402, 3) := by decide +kernel
theorem dX12_step_87 : decode cX12_step 87 = .ok (.goto 358, 3) := by decide +kernel
theorem dX12_step_90 : decode cX12_step 90 = .ok (.iload_n 3, 1) := by decide +kernel
theorem dX12_step_91 : decode cX12_step 91 = .ok (.iconst 1, 1) := by decide +kernel
theorem dX12_step_92 : decode cX12_step 92 = .ok (.if_icmp .ne 24, 3) := by decide +kernel
theorem dX12_step_95 : decode cX12_step 95 = .ok (.aload_n 0, 1) := by decide +kernel
theorem dX12_step_96 : decode cX12_step 96 = .ok (.aload_n 0, 1) := by decide +kernel
theorem dX12_step_97 : decode cX12_step 97 = .ok (.getfield 85, 3) := by decide +kernel
theorem dX12_step_100 : decode cX12_step 100 = .ok (.iconst 3, 1) := by decide +kernel
theorem dX12_step_101 : decode cX12_step 101 = .ok (.aload_n 0, 1) := by decide +kernel
theorem dX12_step_102 : decode cX12_step 102 = .ok (.getfield 381, 3) := by decide +kernel
theorem dX12_step_105 : decode cX12_step 105 = .ok (.imul, 1) := by decide +kernel
theorem dX12_step_106 : decode cX12_step 106 = .ok (.iload 6, 2) := by decide +kernel
theorem dX12_step_108 : decode cX12_step 108 = .ok (.iadd, 1) := by decide +kernel
theorem dX12_step_109 : decode cX12_step 109 = .ok (.iaload, 1) := by decide +kernel
theorem dX12_step_110 : decode cX12_step 110 = .ok (.invokevirtual 402, 3) := by decide +kernel
theorem dX12_step_113 : decode cX12_step 113 = .ok (.goto 332, 3) := by decide +kernel
theorem dX12_step_116 : decode cX12_step 116 = .ok (.iload_n 3, 1) := by decide +kernel
theorem dX12_step_117 : decode cX12_step 117 = .ok (.iconst 3, 1) := by decide +kernel
theorem dX12_step_118 : decode cX12_step 118 = .ok (.if_icmp .ne 29, 3) := by decide +kernel
theorem dX12_step_121 : decode cX12_step 121 = .ok (.aload_n 0, 1) := by decide +kernel
theorem dX12_step_122 : decode cX12_step 122 = .ok (.getfield 91, 3) := by decide +kernel
theorem dX12_step_125 : decode cX12_step 125 = .ok (.aload_n 0, 1) := by decide +kernel
theorem dX12_step_126 : decode cX12_step 126 = .ok (.getfield 399, 3) := by decide +kernel
theorem dX12_step_129 : decode cX12_step 129 = .ok (.iconst 1, 1) := by decide +kernel
theorem dX12_step_130 : decode cX12_step 130 = .ok (.isub, 1) := by decide +kernel
theorem dX12_step_131 : decode cX12_step 131 = .ok (.aload_n 0, 1) := by decide +kernel
theorem dX12_step_132 : decode cX12_step 132 = .ok (.getfield 91, 3) := by decide +kernel
theorem dX12_step_135 : decode cX12_step 135 = .ok (.aload_n 0, 1) := by decide +kernel
theorem dX12_step_136 : decode cX12_step 136 = .ok (.getfield 399, 3) := by decide +kernel
theorem dX12_step_139 : decode cX12_step 139 = .ok (.iconst 1, 1) := by decide +kernel
theorem dX12_step_140 : decode cX12_step 140 = .ok (.isub, 1) := by decide +kernel
theorem dX12_step_141 : decode cX12_step 141 = .ok (.iaload, 1) := by decide +kernel
theorem dX12_step_142 : decode cX12_step 142 = .ok (.ineg, 1) := by decide +kernel
theorem dX12_step_143 : decode cX12_step 143 = .ok (.iastore, 1) := by decide +kernel
theorem dX12_step_144 : decode cX12_step 144 = .ok (.goto 301, 3) := by decide +kernel
theorem dX12_step_147 : decode cX12_step 147 = .ok (.iload_n 3, 1) := by decide +kernel
theorem dX12_step_148 : decode cX12_step 148 = .ok (.iconst 4, 1) := by decide +kernel
theorem dX12_step_149 : decode cX12_step 149 = .ok (.if_icmp .ne 29, 3) := by decide +kernel
theorem dX12_step_152 : decode cX12_step 152 = .ok (.aload_n 0, 1) := by decide +kernel
theorem dX12_step_153 : decode cX12_step 153 = .ok (.dup, 1) := by decide +kernel
theorem dX12_step_154 : decode cX12_step 154 = .ok (.getfield 399, 3) := by decide +kernel
theorem dX12_step_157 : decode cX12_step 157 = .ok (.iconst 1, 1) := by decide +kernel
theorem dX12_step_158 : decode cX12_step 158 = .ok (.isub, 1) := by decide +kernel
theorem dX12_step_159 : decode cX12_step 159 = .ok (.putfield 399, 3) := by decide +kernel
theorem dX12_step_162 : decode cX12_step 162 = .ok (.aload_n 0, 1) := by decide +kernel
theorem dX12_step_163 : decode cX12_step 163 = .ok (.aload_n 0, 1) := by decide +kernel
theorem dX12_step_164 : decode cX12_step 164 = .ok (.getfield 91, 3) := by decide +kernel
theorem dX12_step_167 : decode cX12_step 167 = .ok (.aload_n 0, 1) := by decide +kernel
theorem dX12_step_168 : decode cX12_step 168 = .ok (.getfield 399, 3) := by decide +kernel
theorem dX12_step_171 : decode cX12_step 171 = .ok (.iaload, 1) := by decide +kernel
theorem dX12_step_172 : decode cX12_step 172 = .ok (.invokevirtual 407, 3) := by decide +kernel
theorem dX12_step_175 : decode cX12_step 175 = .ok (.goto 270, 3) := by decide +kernel
theorem dX12_step_178 : decode cX12_step 178 = .ok (.iload_n 3, 1) := by decide +kernel
theorem dX12_step_179 : decode cX12_step 179 = .ok (.iconst 5, 1) := by decide +kernel
theorem dX12_step_180 : decode cX12_step 180 = .ok (.if_icmp .ne 49, 3) := by decide +kernel
theorem dX12_step_183 : decode cX12_step 183 = .ok (.aload_n 0, 1) := by decide +kernel
theorem dX12_step_184 : decode cX12_step 184 = .ok (.dup, 1) := by decide +kernel
theorem dX12_step_185 : decode cX12_step 185 = .ok (.getfield 399, 3) := by decide +kernel
theorem dX12_step_188 : decode cX12_step 188 = .ok (.iconst 1, 1) := by decide +kernel
theorem dX12_step_189 : decode cX12_step 189 = .ok (.isub, 1) := by decide +kernel
theorem dX12_step_190 : decode cX12_step 190 = .ok (.putfield 399, 3) := by decide +kernel
theorem dX12_step_193 : decode cX12_step 193 = .ok (.aload_n 0, 1) := by decide +kernel
theorem dX12_step_194 : decode cX12_step 194 = .ok (.getfield 88, 3) := by decide +kernel
theorem dX12_step_197 : decode cX12_step 197 = .ok (.aload_n 0, 1) := by decide +kernel
theorem dX12_step_198 : decode cX12_step 198 = .ok (.getfield 381, 3) := by decide +kernel
theorem dX12_step_201 : decode cX12_step 201 = .ok (.aload_n 0, 1) := by decide +kernel
theorem dX12_step_202 : decode cX12_step 202 = .ok (.getfield 91, 3) := by decide +kernel
theorem dX12_step_205 : decode cX12_step 205 = .ok (.aload_n 0, 1) := by decide +kernel
theorem dX12_step_206 : decode cX12_step 206 = .ok (.getfield 399, 3) := by decide +kernel
theorem dX12_step_209 : decode cX12_step 209 = .ok (.iaload, 1) := by decide +kernel
theorem dX12_step_210 : decode cX12_step 210 = .ok (.ifCond .ne 12, 3) := by decide +kernel
theorem dX12_step_213 : decode cX12_step 213 = .ok (.iload_n 2, 1) := by decide +kernel
theorem dX12_step_214 : decode cX12_step 214 = .ok (.iconst 1, 1) := by decide +kernel
theorem dX12_step_215 : decode cX12_step 215 = .ok (.iadd, 1) := by decide +kernel
theorem dX12_step_216 : decode cX12_step 216 = .ok (.iload 6, 2) := by decide +kernel
theorem dX12_step_218 : decode cX12_step 218 = .ok (.iadd, 1) := by decide +kernel
theorem dX12_step_219 : decode cX12_step 219 = .ok (.goto 6, 3) := by decide +kernel
theorem dX12_step_222 : decode cX12_step 222 = .ok (.iload_n 2, 1) := by decide +kernel
theorem dX12_step_223 : decode cX12_step 223 = .ok (.iconst 1, 1) := by decide +kernel
theorem dX12_step_224 : decode cX12_step 224 = .ok (.iadd, 1) := by decide +kernel
theorem dX12_step_225 : decode cX12_step 225 = .ok (.iastore, 1) := by decide +kernel
theorem dX12_step_226 : decode cX12_step 226 = .ok (.goto 219, 3) := by decide +kernel
theorem dX12_step_229 : decode cX12_step 229 = .ok (.iload_n 3, 1) := by decide +kernel
theorem dX12_step_230 : decode cX12_step 230 = .ok (.bipush 6, 2) := by decide +kernel
theorem dX12_step_232 : decode cX12_step 232 = .ok (.if_icmp .ne 21, 3) := by decide +kernel
theorem dX12_step_235 : decode cX12_step 235 = .ok (.aload_n 0, 1) := by decide +kernel
theorem dX12_step_236 : decode cX12_step 236 = .ok (.getfield 88, 3) := by decide +kernel
theorem dX12_step_239 : decode cX12_step 239 = .ok (.aload_n 0, 1) := by decide +kernel
theorem dX12_step_240 : decode cX12_step 240 = .ok (.getfield 381, 3) := by decide +kernel
theorem dX12_step_243 : decode cX12_step 243 = .ok (.iload_n 2, 1) := by decide +kernel
theorem dX12_step_244 : decode cX12_step 244 = .ok (.iconst 1, 1) := by decide +kernel
theorem dX12_step_245 : decode cX12_step 245 = .ok (.iadd, 1) := by decide +kernel
theorem dX12_step_246 : decode cX12_step 246 = .ok (.iload 6, 2) := by decide +kernel
theorem dX12_step_248 : decode cX12_step 248 = .ok (.iadd, 1) := by decide +kernel
theorem dX12_step_249 : decode cX12_step 249 = .ok (.iastore, 1) := by decide +kernel
theorem dX12_step_250 : decode cX12_step 250 = .ok (.goto 195, 3) := by decide +kernel
theorem dX12_step_253 : decode cX12_step 253 = .ok (.iload_n 3, 1) := by decide +kernel
theorem dX12_step_254 : decode cX12_step 254 = .ok (.bipush 7, 2) := by decide +kernel
theorem dX12_step_256 : decode cX12_step 256 = .ok (.if_icmp .ne 57, 3) := by decide +kernel
theorem dX12_step_259 : decode cX12_step 259 = .ok (.aload_n 0, 1) := by decide +kernel
theorem dX12_step_260 : decode cX12_step 260 = .ok (.getfield 94, 3) := by decide +kernel
theorem dX12_step_263 : decode cX12_step 263 = .ok (.aload_n 0, 1) := by decide +kernel
theorem dX12_step_264 : decode cX12_step 264 = .ok (.getfield 396, 3) := by decide +kernel
theorem dX12_step_267 : decode cX12_step 267 = .ok (.iload_n 2, 1) := by decide +kernel
theorem dX12_step_268 : decode cX12_step 268 = .ok (.iconst 1, 1) := by decide +kernel
theorem dX12_step_269 : decode cX12_step 269 = .ok (.iadd, 1) := by decide +kernel
theorem dX12_step_270 : decode cX12_step 270 = .ok (.iload 6, 2) := by decide +kernel
theorem dX12_step_272 : decode cX12_step 272 = .ok (.iadd, 1) := by decide +kernel
theorem dX12_step_273 : decode cX12_step 273 = .ok (.iastore, 1) := by decide +kernel
theorem dX12_step_274 : decode cX12_step 274 = .ok (.aload_n 0, 1) := by decide +kernel
theorem dX12_step_275 : decode cX12_step 275 = .ok (.getfield 97, 3) := by decide +kernel
theorem dX12_step_278 : decode cX12_step 278 = .ok (.aload_n 0, 1) := by decide +kernel
theorem dX12_step_279 : decode cX12_step 279 = .ok (.getfield 396, 3) := by decide +kernel
theorem dX12_step_282 : decode cX12_step 282 = .ok (.aload_n 0, 1) := by decide +kernel
theorem dX12_step_283 : decode cX12_step 283 = .ok (.getfield 399, 3) := by decide +kernel
theorem dX12_step_286 : decode cX12_step 286 = .ok (.iastore, 1) := by decide +kernel
theorem dX12_step_287 : decode cX12_step 287 = .ok (.aload_n 0, 1) := by decide +kernel
theorem dX12_step_288 : decode cX12_step 288 = .ok (.getfield 100, 3) := by decide +kernel
theorem dX12_step_291 : decode cX12_step 291 = .ok (.aload_n 0, 1) := by decide +kernel
theorem dX12_step_292 : decode cX12_step 292 = .ok (.getfield 396, 3) := by decide +kernel
theorem dX12_step_295 : decode cX12_step 295 = .ok (.aload_n 0, 1) := by decide +kernel
theorem dX12_step_296 : decode cX12_step 296 = .ok (.getfield 381, 3) := by decide +kernel
theorem dX12_step_299 : decode cX12_step 299 = .ok (.iastore, 1) := by decide +kernel
theorem dX12_step_300 : decode cX12_step 300 = .ok (.aload_n 0, 1) := by decide +kernel
theorem dX12_step_301 : decode cX12_step 301 = .ok (.dup, 1) := by decide +kernel
end
section
theorem dX12_step_302 : decode cX12_step 302 = .ok (.getfield 396, 3) := by decide +kernel
theorem dX12_step_305 : decode cX12_step 305 = .ok (.iconst 1, 1) := by decide +kernel
theorem dX12_step_306 : decode cX12_step 306 = .ok (.iadd, 1) := by decide +kernel
theorem dX12_step_307 : decode cX12_step 307 = .ok (.putfield 396, 3) := by decide +kernel
theorem dX12_step_310 : decode cX12_step 310 = .ok (.goto 135, 3) := by decide +kernel
theorem dX12_step_313 : decode cX12_step 313 = .ok (.iload_n 3, 1) := by decide +kernel
theorem dX12_step_314 : decode cX12_step 314 = .ok (.bipush 8, 2) := by decide +kernel
theorem dX12_step_316 : decode cX12_step 316 = .ok (.if_icmp .ne 31, 3) := by decide +kernel
theorem dX12_step_319 : decode cX12_step 319 = .ok (.aload_n 0, 1) := by decide +kernel
theorem dX12_step_320 : decode cX12_step 320 = .ok (.dup, 1) := by decide +kernel
theorem dX12_step_321 : decode cX12_step 321 = .ok (.getfield 396, 3) := by decide +kernel
theorem dX12_step_324 : decode cX12_step 324 = .ok (.iconst 1, 1) := by decide +kernel
theorem dX12_step_325 : decode cX12_step 325 = .ok (.isub, 1) := by decide +kernel
theorem dX12_step_326 : decode cX12_step 326 = .ok (.putfield 396, 3) := by decide +kernel
theorem dX12_step_329 : decode cX12_step 329 = .ok (.aload_n 0, 1) := by decide +kernel
theorem dX12_step_330 : decode cX12_step 330 = .ok (.getfield 88, 3) := by decide +kernel
theorem dX12_step_333 : decode cX12_step 333 = .ok (.aload_n 0, 1) := by decide +kernel
theorem dX12_step_334 : decode cX12_step 334 = .ok (.getfield 381, 3) := by decide +kernel
theorem dX12_step_337 : decode cX12_step 337 = .ok (.iload_n 2, 1) := by decide +kernel
theorem dX12_step_338 : decode cX12_step 338 = .ok (.iconst 1, 1) := by decide +kernel
theorem dX12_step_339 : decode cX12_step 339 = .ok (.iadd, 1) := by decide +kernel
theorem dX12_step_340 : decode cX12_step 340 = .ok (.iload 6, 2) := by decide +kernel
theorem dX12_step_342 : decode cX12_step 342 = .ok (.iadd, 1) := by decide +kernel
theorem dX12_step_343 : decode cX12_step 343 = .ok (.iastore, 1) := by decide +kernel
theorem dX12_step_344 : decode cX12_step 344 = .ok (.goto 101, 3) := by decide +kernel
theorem dX12_step_347 : decode cX12_step 347 = .ok (.iload_n 3, 1) := by decide +kernel
theorem dX12_step_348 : decode cX12_step 348 = .ok (.bipush 9, 2) := by decide +kernel
theorem dX12_step_350 : decode cX12_step 350 = .ok (.if_icmp .ne 12, 3) := by decide +kernel
theorem dX12_step_353 : decode cX12_step 353 = .ok (.aload_n 0, 1) := by decide +kernel
theorem dX12_step_354 : decode cX12_step 354 = .ok (.lload 4, 2) := by decide +kernel
theorem dX12_step_356 : decode cX12_step 356 = .ok (.invokevirtual 419, 3) := by decide +kernel
theorem dX12_step_359 : decode cX12_step 359 = .ok (.goto 86, 3) := by decide +kernel
theorem dX12_step_362 : decode cX12_step 362 = .ok (.iload 6, 2) := by decide +kernel
theorem dX12_step_364 : decode cX12_step 364 = .ok (.aload_n 0, 1) := by decide +kernel
theorem dX12_step_365 : decode cX12_step 365 = .ok (.getfield 91, 3) := by decide +kernel
theorem dX12_step_368 : decode cX12_step 368 = .ok (.aload_n 0, 1) := by decide +kernel
theorem dX12_step_369 : decode cX12_step 369 = .ok (.getfield 399, 3) := by decide +kernel
theorem dX12_step_372 : decode cX12_step 372 = .ok (.iconst 1, 1) := by decide +kernel
theorem dX12_step_373 : decode cX12_step 373 = .ok (.isub, 1) := by decide +kernel
theorem dX12_step_374 : decode cX12_step 374 = .ok (.iaload, 1) := by decide +kernel
theorem dX12_step_375 : decode cX12_step 375 = .ok (.invokestatic 350, 3) := by decide +kernel
theorem dX12_step_378 : decode cX12_step 378 = .ok (.ifCond .eq 21, 3) := by decide +kernel
theorem dX12_step_381 : decode cX12_step 381 = .ok (.aload_n 0, 1) := by decide +kernel
theorem dX12_step_382 : decode cX12_step 382 = .ok (.aload_n 0, 1) := by decide +kernel
theorem dX12_step_383 : decode cX12_step 383 = .ok (.getfield 399, 3) := by decide +kernel
theorem dX12_step_386 : decode cX12_step 386 = .ok (.iconst 2, 1) := by decide +kernel
theorem dX12_step_387 : decode cX12_step 387 = .ok (.isub, 1) := by decide +kernel
theorem dX12_step_388 : decode cX12_step 388 = .ok (.putfield 399, 3) := by decide +kernel
theorem dX12_step_391 : decode cX12_step 391 = .ok (.aload_n 0, 1) := by decide +kernel
theorem dX12_step_392 : decode cX12_step 392 = .ok (.iconst (-1), 1) := by decide +kernel
theorem dX12_step_393 : decode cX12_step 393 = .ok (.invokevirtual 407, 3) := by decide +kernel
theorem dX12_step_396 : decode cX12_step 396 = .ok (.goto 49, 3) := by decide +kernel
theorem dX12_step_399 : decode cX12_step 399 = .ok (.aload_n 0, 1) := by decide +kernel
theorem dX12_step_400 : decode cX12_step 400 = .ok (.dup, 1) := by decide +kernel
theorem dX12_step_401 : decode cX12_step 401 = .ok (.getfield 399, 3) := by decide +kernel
theorem dX12_step_404 : decode cX12_step 404 = .ok (.iconst 1, 1) := by decide +kernel
theorem dX12_step_405 : decode cX12_step 405 = .ok (.isub, 1) := by decide +kernel
theorem dX12_step_406 : decode cX12_step 406 = .ok (.putfield 399, 3) := by decide +kernel
theorem dX12_step_409 : decode cX12_step 409 = .ok (.aload_n 0, 1) := by decide +kernel
theorem dX12_step_410 : decode cX12_step 410 = .ok (.getfield 91, 3) := by decide +kernel
theorem dX12_step_413 : decode cX12_step 413 = .ok (.aload_n 0, 1) := by decide +kernel
theorem dX12_step_414 : decode cX12_step 414 = .ok (.getfield 399, 3) := by decide +kernel
theorem dX12_step_417 : decode cX12_step 417 = .ok (.iconst 1, 1) := by decide +kernel
theorem dX12_step_418 : decode cX12_step 418 = .ok (.isub, 1) := by decide +kernel
theorem dX12_step_419 : decode cX12_step 419 = .ok (.iload 6, 2) := by decide +kernel
theorem dX12_step_421 : decode cX12_step 421 = .ok (.aload_n 0, 1) := by decide +kernel
theorem dX12_step_422 : decode cX12_step 422 = .ok (.getfield 91, 3) := by decide +kernel
theorem dX12_step_425 : decode cX12_step 425 = .ok (.aload_n 0, 1) := by decide +kernel
theorem dX12_step_426 : decode cX12_step 426 = .ok (.getfield 399, 3) := by decide +kernel
theorem dX12_step_429 : decode cX12_step 429 = .ok (.iconst 1, 1) := by decide +kernel
theorem dX12_step_430 : decode cX12_step 430 = .ok (.isub, 1) := by decide +kernel
theorem dX12_step_431 : decode cX12_step 431 = .ok (.iaload, 1) := by decide +kernel
theorem dX12_step_432 : decode cX12_step 432 = .ok (.aload_n 0, 1) := by decide +kernel
theorem dX12_step_433 : decode cX12_step 433 = .ok (.getfield 91, 3) := by decide +kernel
theorem dX12_step_436 : decode cX12_step 436 = .ok (.aload_n 0, 1) := by decide +kernel
theorem dX12_step_437 : decode cX12_step 437 = .ok (.getfield 399, 3) := by decide +kernel
theorem dX12_step_440 : decode cX12_step 440 = .ok (.iaload, 1) := by decide +kernel
theorem dX12_step_441 : decode cX12_step 441 = .ok (.invokestatic 353, 3) := by decide +kernel
theorem dX12_step_444 : decode cX12_step 444 = .ok (.iastore, 1) := by decide +kernel
theorem dX12_step_445 : decode cX12_step 445 = .ok (.return_, 1) := by decide +kernel
theorem dX12_play_0 : decode cX12_play 0 = .ok (.aload_n 0, 1) := by decide +kernel
theorem dX12_play_1 : decode cX12_play 1 = .ok (.iload 5, 2) := by decide +kernel
theorem dX12_play_3 : decode cX12_play 3 = .ok (.putfield 368, 3) := by decide +kernel
theorem dX12_play_6 : decode cX12_play 6 = .ok (.aload_n 0, 1) := by decide +kernel
theorem dX12_play_7 : decode cX12_play 7 = .ok (.iconst 0, 1) := by decide +kernel
theorem dX12_play_8 : decode cX12_play 8 = .ok (.putfield 381, 3) := by decide +kernel
theorem dX12_play_11 : decode cX12_play 11 = .ok (.aload_n 0, 1) := by decide +kernel
theorem dX12_play_12 : decode cX12_play 12 = .ok (.iconst 0, 1) := by decide +kernel
theorem dX12_play_13 : decode cX12_play 13 = .ok (.putfield 384, 3) := by decide +kernel
theorem dX12_play_16 : decode cX12_play 16 = .ok (.aload_n 0, 1) := by decide +kernel
theorem dX12_play_17 : decode cX12_play 17 = .ok (.iconst 0, 1) := by decide +kernel
theorem dX12_play_18 : decode cX12_play 18 = .ok (.putfield 399, 3) := by decide +kernel
theorem dX12_play_21 : decode cX12_play 21 = .ok (.aload_n 0, 1) := by decide +kernel
theorem dX12_play_22 : decode cX12_play 22 = .ok (.iconst 0, 1) := by decide +kernel
theorem dX12_play_23 : decode cX12_play 23 = .ok (.putfield 396, 3) := by decide +kernel
theorem dX12_play_26 : decode cX12_play 26 = .ok (.aload_n 0, 1) := by decide +kernel
theorem dX12_play_27 : decode cX12_play 27 = .ok (.getfield 85, 3) := by decide +kernel
theorem dX12_play_30 : decode cX12_play 30 = .ok (.iconst 3, 1) := by decide +kernel
theorem dX12_play_31 : decode cX12_play 31 = .ok (.iload_n 2, 1) := by decide +kernel
theorem dX12_play_32 : decode cX12_play 32 = .ok (.iastore, 1) := by decide +kernel
theorem dX12_play_33 : decode cX12_play 33 = .ok (.aload_n 0, 1) := by decide +kernel
theorem dX12_play_34 : decode cX12_play 34 = .ok (.getfield 85, 3) := by decide +kernel
theorem dX12_play_37 : decode cX12_play 37 = .ok (.iconst 4, 1) := by decide +kernel
theorem dX12_play_38 : decode cX12_play 38 = .ok (.iload_n 3, 1) := by decide +kernel
theorem dX12_play_39 : decode cX12_play 39 = .ok (.iastore, 1) := by decide +kernel
theorem dX12_play_40 : decode cX12_play 40 = .ok (.aload_n 0, 1) := by decide +kernel
theorem dX12_play_41 : decode cX12_play 41 = .ok (.getfield 85, 3) := by decide +kernel
theorem dX12_play_44 : decode cX12_play 44 = .ok (.iconst 5, 1) := by decide +kernel
theorem dX12_play_45 : decode cX12_play 45 = .ok (.iload 4, 2) := by decide +kernel
theorem dX12_play_47 : decode cX12_play 47 = .ok (.iastore, 1) := by decide +kernel
theorem dX12_play_48 : decode cX12_play 48 = .ok (.aload_n 0, 1) := by decide +kernel
theorem dX12_play_49 : decode cX12_play 49 = .ok (.iload_n 1, 1) := by decide +kernel
theorem dX12_play_50 : decode cX12_play 50 = .ok (.invokevirtual 413, 3) := by decide +kernel
theorem dX12_play_53 : decode cX12_play 53 = .ok (.aload_n 0, 1) := by decide +kernel
theorem dX12_play_54 : decode cX12_play 54 = .ok (.getfield 381, 3) := by decide +kernel
theorem dX12_play_57 : decode cX12_play 57 = .ok (.ifCond .le 10, 3) := by decide +kernel
theorem dX12_play_60 : decode cX12_play 60 = .ok (.aload_n 0, 1) := by decide +kernel
theorem dX12_play_61 : decode cX12_play 61 = .ok (.invokevirtual 423, 3) := by decide +kernel
theorem dX12_play_64 : decode cX12_play 64 = .ok (.goto (-11), 3) := by decide +kernel
theorem dX12_play_67 : decode cX12_play 67 = .ok (.aload_n 0, 1) := by decide +kernel
theorem dX12_play_68 : decode cX12_play 68 = .ok (.aload_n 0, 1) := by decide +kernel
theorem dX12_play_69 : decode cX12_play 69 = .ok (.getfield 393, 3) := by decide +kernel
theorem dX12_play_72 : decode cX12_play 72 = .ok (.putfield 426, 3) := by decide +kernel
theorem dX12_play_75 : decode cX12_play 75 = .ok (.aload_n 0, 1) := by decide +kernel
theorem dX12_play_76 : decode cX12_play 76 = .ok (.getfield 390, 3) := by decide +kernel
theorem dX12_play_79 : decode cX12_play 79 = .ok (.ifCond .eq 7, 3) := by decide +kernel
theorem dX12_play_82 : decode cX12_play 82 = .ok (.iconst 1, 1) := by decide +kernel
theorem dX12_play_83 : decode cX12_play 83 = .ok (.goto 4, 3) := by decide +kernel
theorem dX12_play_86 : decode cX12_play 86 = .ok (.iconst 0, 1) := by decide +kernel
theorem dX12_play_87 : decode cX12_play 87 = .ok (.ireturn, 1) := by decide +kernel
theorem dX12_call_0 : decode cX12_call 0 = .ok (.aload_n 0, 1) := by decide +kernel
theorem dX12_call_1 : decode cX12_call 1 = .ok (.iload_n 1, 1) := by decide +kernel
theorem dX12_call_2 : decode cX12_call 2 = .ok (.ifCond .lt 11, 3) := by decide +kernel
theorem dX12_call_5 : decode cX12_call 5 = .ok (.iload_n 1, 1) := by decide +kernel
theorem dX12_call_6 : decode cX12_call 6 = .ok (.aload_n 0, 1) := by decide +kernel
theorem dX12_call_7 : decode cX12_call 7 = .ok (.getfield 260, 3) := by decide +kernel
theorem dX12_call_10 : decode cX12_call 10 = .ok (.if_icmp .lt 7, 3) := by decide +kernel
theorem dX12_call_13 : decode cX12_call 13 = .ok (.iconst 1, 1) := by decide +kernel
theorem dX12_call_14 : decode cX12_call 14 = .ok (.goto 4, 3) := by decide +kernel
theorem dX12_call_17 : decode cX12_call 17 = .ok (.iconst 0, 1) := by decide +kernel
theorem dX12_call_18 : decode cX12_call 18 = .ok (.putfield 115, 3) := by decide +kernel
theorem dX12_call_21 : decode cX12_call 21 = .ok (.aload_n 0, 1) := by decide +kernel
theorem dX12_call_22 : decode cX12_call 22 = .ok (.getfield 115, 3) := by decide +kernel
theorem dX12_call_25 : decode cX12_call 25 = .ok (.ifCond .le 7, 3) := by decide +kernel
theorem dX12_call_28 : decode cX12_call 28 = .ok (.iconst 0, 1) := by decide +kernel
theorem dX12_call_29 : decode cX12_call 29 = .ok (.goto 13, 3) := by decide +kernel
theorem dX12_call_32 : decode cX12_call 32 = .ok (.aload_n 0, 1) := by decide +kernel
theorem dX12_call_33 : decode cX12_call 33 = .ok (.iload_n 1, 1) := by decide +kernel
theorem dX12_call_34 : decode cX12_call 34 = .ok (.iload_n 2, 1) := by decide +kernel
theorem dX12_call_35 : decode cX12_call 35 = .ok (.iload_n 3, 1) := by decide +kernel
theorem dX12_call_36 : decode cX12_call 36 = .ok (.iload 4, 2) := by decide +kernel
theorem dX12_call_38 : decode cX12_call 38 = .ok (.iconst 0, 1) := by decide +kernel
theorem dX12_call_39 : decode cX12_call 39 = .ok (.invokevirtual 429, 3) := by decide +kernel
theorem dX12_call_42 : decode cX12_call 42 = .ok (.ireturn, 1) := by decide +kernel
theorem dX12_value_0 : decode cX12_value 0 = .ok (.aload_n 0, 1) := by decide +kernel
theorem dX12_value_1 : decode cX12_value 1 = .ok (.iconst 0, 1) := by decide +kernel
theorem dX12_value_2 : decode cX12_value 2 = .ok (.putfield 115, 3) := by decide +kernel
theorem dX12_value_5 : decode cX12_value 5 = .ok (.aload_n 0, 1) := by decide +kernel
theorem dX12_value_6 : decode cX12_value 6 = .ok (.getfield 426, 3) := by decide +kernel
theorem dX12_value_9 : decode cX12_value 9 = .ok (.ireturn, 1) := by decide +kernel
theorem dX12_invoked_0 : decode cX12_invoked 0 = .ok (.aload_n 0, 1) := by decide +kernel
theorem dX12_invoked_1 : decode cX12_invoked 1 = .ok (.iconst 0, 1) := by decide +kernel
theorem dX12_invoked_2 : decode cX12_invoked 2 = .ok (.putfield 115, 3) := by decide +kernel
theorem dX12_invoked_5 : decode cX12_invoked 5 = .ok (.aload_n 0, 1) := by decide +kernel
theorem dX12_invoked_6 : decode cX12_invoked 6 = .ok (.getfield 384, 3) := by decide +kernel
theorem dX12_invoked_9 : decode cX12_invoked 9 = .ok (.ireturn, 1) := by decide +kernel
theorem dX12_records_0 : decode cX12_records 0 = .ok (.aload_n 0, 1) := by decide +kernel
theorem dX12_records_1 : decode cX12_records 1 = .ok (.iconst 0, 1) := by decide +kernel
theorem dX12_records_2 : decode cX12_records 2 = .ok (.putfield 115, 3) := by decide +kernel
theorem dX12_records_5 : decode cX12_records 5 = .ok (.aload_n 0, 1) := by decide +kernel
theorem dX12_records_6 : decode cX12_records 6 = .ok (.getfield 356, 3) := by decide +kernel
theorem dX12_records_9 : decode cX12_records 9 = .ok (.ireturn, 1) := by decide +kernel
theorem dX12_record__0 : decode cX12_record_ 0 = .ok (.aload_n 0, 1) := by decide +kernel
theorem dX12_record__1 : decode cX12_record_ 1 = .ok (.iload_n 1, 1) := by decide +kernel
theorem dX12_record__2 : decode cX12_record_ 2 = .ok (.ifCond .lt 11, 3) := by decide +kernel
theorem dX12_record__5 : decode cX12_record_ 5 = .ok (.iload_n 1, 1) := by decide +kernel
theorem dX12_record__6 : decode cX12_record_ 6 = .ok (.aload_n 0, 1) := by decide +kernel
theorem dX12_record__7 : decode cX12_record_ 7 = .ok (.getfield 356, 3) := by decide +kernel
theorem dX12_record__10 : decode cX12_record_ 10 = .ok (.if_icmp .lt 7, 3) := by decide +kernel
theorem dX12_record__13 : decode cX12_record_ 13 = .ok (.iconst 1, 1) := by decide +kernel
theorem dX12_record__14 : decode cX12_record_ 14 = .ok (.goto 17, 3) := by decide +kernel
theorem dX12_record__17 : decode cX12_record_ 17 = .ok (.iload_n 2, 1) := by decide +kernel
theorem dX12_record__18 : decode cX12_record_ 18 = .ok (.ifCond .lt 8, 3) := by decide +kernel
theorem dX12_record__21 : decode cX12_record_ 21 = .ok (.iload_n 2, 1) := by decide +kernel
theorem dX12_record__22 : decode cX12_record_ 22 = .ok (.iconst 4, 1) := by decide +kernel
theorem dX12_record__23 : decode cX12_record_ 23 = .ok (.if_icmp .le 7, 3) := by decide +kernel
theorem dX12_record__26 : decode cX12_record_ 26 = .ok (.iconst 2, 1) := by decide +kernel
theorem dX12_record__27 : decode cX12_record_ 27 = .ok (.goto 4, 3) := by decide +kernel
theorem dX12_record__30 : decode cX12_record_ 30 = .ok (.iconst 0, 1) := by decide +kernel
theorem dX12_record__31 : decode cX12_record_ 31 = .ok (.putfield 115, 3) := by decide +kernel
theorem dX12_record__34 : decode cX12_record_ 34 = .ok (.aload_n 0, 1) := by decide +kernel
theorem dX12_record__35 : decode cX12_record_ 35 = .ok (.getfield 115, 3) := by decide +kernel
theorem dX12_record__38 : decode cX12_record_ 38 = .ok (.ifCond .le 7, 3) := by decide +kernel
theorem dX12_record__41 : decode cX12_record_ 41 = .ok (.iconst 0, 1) := by decide +kernel
theorem dX12_record__42 : decode cX12_record_ 42 = .ok (.goto 13, 3) := by decide +kernel
theorem dX12_record__45 : decode cX12_record_ 45 = .ok (.aload_n 0, 1) := by decide +kernel
theorem dX12_record__46 : decode cX12_record_ 46 = .ok (.getfield 76, 3) := by decide +kernel
theorem dX12_record__49 : decode cX12_record_ 49 = .ok (.iconst 5, 1) := by decide +kernel
theorem dX12_record__50 : decode cX12_record_ 50 = .ok (.iload_n 1, 1) := by decide +kernel
theorem dX12_record__51 : decode cX12_record_ 51 = .ok (.imul, 1) := by decide +kernel
theorem dX12_record__52 : decode cX12_record_ 52 = .ok (.iload_n 2, 1) := by decide +kernel
theorem dX12_record__53 : decode cX12_record_ 53 = .ok (.iadd, 1) := by decide +kernel
theorem dX12_record__54 : decode cX12_record_ 54 = .ok (.iaload, 1) := by decide +kernel
theorem dX12_record__55 : decode cX12_record_ 55 = .ok (.ireturn, 1) := by decide +kernel
theorem dX12_clear_0 : decode cX12_clear 0 = .ok (.aload_n 0, 1) := by decide +kernel
theorem dX12_clear_1 : decode cX12_clear 1 = .ok (.iconst 0, 1) := by decide +kernel
theorem dX12_clear_2 : decode cX12_clear 2 = .ok (.putfield 115, 3) := by decide +kernel
theorem dX12_clear_5 : decode cX12_clear 5 = .ok (.aload_n 0, 1) := by decide +kernel
theorem dX12_clear_6 : decode cX12_clear 6 = .ok (.getfield 356, 3) := by decide +kernel
theorem dX12_clear_9 : decode cX12_clear 9 = .ok (.istore_n 1, 1) := by decide +kernel
theorem dX12_clear_10 : decode cX12_clear 10 = .ok (.aload_n 0, 1) := by decide +kernel
theorem dX12_clear_11 : decode cX12_clear 11 = .ok (.iconst 0, 1) := by decide +kernel
theorem dX12_clear_12 : decode cX12_clear 12 = .ok (.putfield 356, 3) := by decide +kernel
theorem dX12_clear_15 : decode cX12_clear 15 = .ok (.aload_n 0, 1) := by decide +kernel
theorem dX12_clear_16 : decode cX12_clear 16 = .ok (.iconst 0, 1) := by decide +kernel
theorem dX12_clear_17 : decode cX12_clear 17 = .ok (.putfield 365, 3) := by decide +kernel
theorem dX12_clear_20 : decode cX12_clear 20 = .ok (.iload_n 1, 1) := by decide +kernel
theorem dX12_clear_21 : decode cX12_clear 21 = .ok (.ireturn, 1) := by decide +kernel
theorem dX12_job_0 : decode cX12_job 0 = .ok (.aload_n 0, 1) := by decide +kernel
theorem dX12_job_1 : decode cX12_job 1 = .ok (.iload_n 1, 1) := by decide +kernel
theorem dX12_job_2 : decode cX12_job 2 = .ok (.ifCond .lt 9, 3) := by decide +kernel
theorem dX12_job_5 : decode cX12_job 5 = .ok (.iload_n 1, 1) := by decide +kernel
theorem dX12_job_6 : decode cX12_job 6 = .ok (.bipush 8, 2) := by decide +kernel
theorem dX12_job_8 : decode cX12_job 8 = .ok (.if_icmp .lt 7, 3) := by decide +kernel
theorem dX12_job_11 : decode cX12_job 11 = .ok (.iconst 1, 1) := by decide +kernel
theorem dX12_job_12 : decode cX12_job 12 = .ok (.goto 17, 3) := by decide +kernel
theorem dX12_job_15 : decode cX12_job 15 = .ok (.iload_n 2, 1) := by decide +kernel
theorem dX12_job_16 : decode cX12_job 16 = .ok (.ifCond .lt 8, 3) := by decide +kernel
theorem dX12_job_19 : decode cX12_job 19 = .ok (.iload_n 2, 1) := by decide +kernel
theorem dX12_job_20 : decode cX12_job 20 = .ok (.iconst 1, 1) := by decide +kernel
theorem dX12_job_21 : decode cX12_job 21 = .ok (.if_icmp .le 7, 3) := by decide +kernel
theorem dX12_job_24 : decode cX12_job 24 = .ok (.iconst 2, 1) := by decide +kernel
theorem dX12_job_25 : decode cX12_job 25 = .ok (.goto 4, 3) := by decide +kernel
theorem dX12_job_28 : decode cX12_job 28 = .ok (.iconst 0, 1) := by decide +kernel
theorem dX12_job_29 : decode cX12_job 29 = .ok (.putfield 115, 3) := by decide +kernel
theorem dX12_job_32 : decode cX12_job 32 = .ok (.aload_n 0, 1) := by decide +kernel
theorem dX12_job_33 : decode cX12_job 33 = .ok (.getfield 115, 3) := by decide +kernel
theorem dX12_job_36 : decode cX12_job 36 = .ok (.ifCond .le 5, 3) := by decide +kernel
theorem dX12_job_39 : decode cX12_job 39 = .ok (.iconst 0, 1) := by decide +kernel
theorem dX12_job_40 : decode cX12_job 40 = .ok (.ireturn, 1) := by decide +kernel
theorem dX12_job_41 : decode cX12_job 41 = .ok (.iload_n 2, 1) := by decide +kernel
theorem dX12_job_42 : decode cX12_job 42 = .ok (.ifCond .ne 12, 3) := by decide +kernel
theorem dX12_job_45 : decode cX12_job 45 = .ok (.aload_n 0, 1) := by decide +kernel
theorem dX12_job_46 : decode cX12_job 46 = .ok (.getfield 48, 3) := by decide +kernel
theorem dX12_job_49 : decode cX12_job 49 = .ok (.iload_n 1, 1) := by decide +kernel
theorem dX12_job_50 : decode cX12_job 50 = .ok (.iaload, 1) := by decide +kernel
theorem dX12_job_51 : decode cX12_job 51 = .ok (.goto 30, 3) := by decide +kernel
theorem dX12_job_54 : decode cX12_job 54 = .ok (.aload_n 0, 1) := by decide +kernel
theorem dX12_job_55 : decode cX12_job 55 = .ok (.getfield 48, 3) := by decide +kernel
theorem dX12_job_58 : decode cX12_job 58 = .ok (.iload_n 1, 1) := by decide +kernel
theorem dX12_job_59 : decode cX12_job 59 = .ok (.iaload, 1) := by decide +kernel
theorem dX12_job_60 : decode cX12_job 60 = .ok (.iconst 1, 1) := by decide +kernel
theorem dX12_job_61 : decode cX12_job 61 = .ok (.if_icmp .ne 19, 3) := by decide +kernel
theorem dX12_job_64 : decode cX12_job 64 = .ok (.aload_n 0, 1) := by decide +kernel
theorem dX12_job_65 : decode cX12_job 65 = .ok (.getfield 54, 3) := by decide +kernel
theorem dX12_job_68 : decode cX12_job 68 = .ok (.iload_n 1, 1) := by decide +kernel
theorem dX12_job_69 : decode cX12_job 69 = .ok (.iaload, 1) := by decide +kernel
theorem dX12_job_70 : decode cX12_job 70 = .ok (.aload_n 0, 1) := by decide +kernel
theorem dX12_job_71 : decode cX12_job 71 = .ok (.getfield 57, 3) := by decide +kernel
theorem dX12_job_74 : decode cX12_job 74 = .ok (.iload_n 1, 1) := by decide +kernel
theorem dX12_job_75 : decode cX12_job 75 = .ok (.iaload, 1) := by decide +kernel
theorem dX12_job_76 : decode cX12_job 76 = .ok (.isub, 1) := by decide +kernel
theorem dX12_job_77 : decode cX12_job 77 = .ok (.goto 4, 3) := by decide +kernel
theorem dX12_job_80 : decode cX12_job 80 = .ok (.iconst 0, 1) := by decide +kernel
theorem dX12_job_81 : decode cX12_job 81 = .ok (.ireturn, 1) := by decide +kernel
theorem dX12_counted_0 : decode cX12_counted 0 = .ok (.iload_n 1, 1) := by decide +kernel
theorem dX12_counted_1 : decode cX12_counted 1 = .ok (.ifCond .lt 25, 3) := by decide +kernel
theorem dX12_counted_4 : decode cX12_counted 4 = .ok (.iload_n 1, 1) := by decide +kernel
theorem dX12_counted_5 : decode cX12_counted 5 = .ok (.bipush 8, 2) := by decide +kernel
theorem dX12_counted_7 : decode cX12_counted 7 = .ok (.if_icmp .ge 19, 3) := by decide +kernel
theorem dX12_counted_10 : decode cX12_counted 10 = .ok (.iload_n 2, 1) := by decide +kernel
theorem dX12_counted_11 : decode cX12_counted 11 = .ok (.ifCond .lt 15, 3) := by decide +kernel
theorem dX12_counted_14 : decode cX12_counted 14 = .ok (.iload_n 2, 1) := by decide +kernel
theorem dX12_counted_15 : decode cX12_counted 15 = .ok (.aload_n 0, 1) := by decide +kernel
theorem dX12_counted_16 : decode cX12_counted 16 = .ok (.getfield 260, 3) := by decide +kernel
theorem dX12_counted_19 : decode cX12_counted 19 = .ok (.if_icmp .ge 7, 3) := by decide +kernel
theorem dX12_counted_22 : decode cX12_counted 22 = .ok (.iconst 1, 1) := by decide +kernel
theorem dX12_counted_23 : decode cX12_counted 23 = .ok (.goto 4, 3) := by decide +kernel
theorem dX12_counted_26 : decode cX12_counted 26 = .ok (.iconst 0, 1) := by decide +kernel
theorem dX12_counted_27 : decode cX12_counted 27 = .ok (.istore 4, 2) := by decide +kernel
theorem dX12_counted_29 : decode cX12_counted 29 = .ok (.aload_n 0, 1) := by decide +kernel
theorem dX12_counted_30 : decode cX12_counted 30 = .ok (.iload 4, 2) := by decide +kernel
theorem dX12_counted_32 : decode cX12_counted 32 = .ok (.ifCond .eq 13, 3) := by decide +kernel
theorem dX12_counted_35 : decode cX12_counted 35 = .ok (.aload_n 0, 1) := by decide +kernel
theorem dX12_counted_36 : decode cX12_counted 36 = .ok (.getfield 48, 3) := by decide +kernel
theorem dX12_counted_39 : decode cX12_counted 39 = .ok (.iload_n 1, 1) := by decide +kernel
theorem dX12_counted_40 : decode cX12_counted 40 = .ok (.iaload, 1) := by decide +kernel
theorem dX12_counted_41 : decode cX12_counted 41 = .ok (.iconst 2, 1) := by decide +kernel
theorem dX12_counted_42 : decode cX12_counted 42 = .ok (.if_icmp .eq 7, 3) := by decide +kernel
theorem dX12_counted_45 : decode cX12_counted 45 = .ok (.iconst 1, 1) := by decide +kernel
theorem dX12_counted_46 : decode cX12_counted 46 = .ok (.goto 17, 3) := by decide +kernel
theorem dX12_counted_49 : decode cX12_counted 49 = .ok (.iload_n 3, 1) := by decide +kernel
theorem dX12_counted_50 : decode cX12_counted 50 = .ok (.ifCond .lt 8, 3) := by decide +kernel
theorem dX12_counted_53 : decode cX12_counted 53 = .ok (.iload_n 3, 1) := by decide +kernel
theorem dX12_counted_54 : decode cX12_counted 54 = .ok (.iconst 2, 1) := by decide +kernel
theorem dX12_counted_55 : decode cX12_counted 55 = .ok (.if_icmp .le 7, 3) := by decide +kernel
theorem dX12_counted_58 : decode cX12_counted 58 = .ok (.iconst 2, 1) := by decide +kernel
theorem dX12_counted_59 : decode cX12_counted 59 = .ok (.goto 4, 3) := by decide +kernel
theorem dX12_counted_62 : decode cX12_counted 62 = .ok (.iconst 0, 1) := by decide +kernel
theorem dX12_counted_63 : decode cX12_counted 63 = .ok (.putfield 115, 3) := by decide +kernel
theorem dX12_counted_66 : decode cX12_counted 66 = .ok (.aload_n 0, 1) := by decide +kernel
theorem dX12_counted_67 : decode cX12_counted 67 = .ok (.getfield 115, 3) := by decide +kernel
theorem dX12_counted_70 : decode cX12_counted 70 = .ok (.ifCond .le 7, 3) := by decide +kernel
theorem dX12_counted_73 : decode cX12_counted 73 = .ok (.iconst 0, 1) := by decide +kernel
theorem dX12_counted_74 : decode cX12_counted 74 = .ok (.goto 18, 3) := by decide +kernel
theorem dX12_counted_77 : decode cX12_counted 77 = .ok (.aload_n 0, 1) := by decide +kernel
theorem dX12_counted_78 : decode cX12_counted 78 = .ok (.getfield 73, 3) := by decide +kernel
theorem dX12_counted_81 : decode cX12_counted 81 = .ok (.bipush 48, 2) := by decide +kernel
theorem dX12_counted_83 : decode cX12_counted 83 = .ok (.iload_n 1, 1) := by decide +kernel
theorem dX12_counted_84 : decode cX12_counted 84 = .ok (.imul, 1) := by decide +kernel
theorem dX12_counted_85 : decode cX12_counted 85 = .ok (.iconst 3, 1) := by decide +kernel
theorem dX12_counted_86 : decode cX12_counted 86 = .ok (.iload_n 2, 1) := by decide +kernel
theorem dX12_counted_87 : decode cX12_counted 87 = .ok (.imul, 1) := by decide +kernel
theorem dX12_counted_88 : decode cX12_counted 88 = .ok (.iadd, 1) := by decide +kernel
theorem dX12_counted_89 : decode cX12_counted 89 = .ok (.iload_n 3, 1) := by decide +kernel
theorem dX12_counted_90 : decode cX12_counted 90 = .ok (.iadd, 1) := by decide +kernel
theorem dX12_counted_91 : decode cX12_counted 91 = .ok (.iaload, 1) := by decide +kernel
theorem dX12_counted_92 : decode cX12_counted 92 = .ok (.ireturn, 1) := by decide +kernel
theorem dX12_keeps_0 : decode cX12_keeps 0 = .ok (.aload_n 0, 1) := by decide +kernel
theorem dX12_keeps_1 : decode cX12_keeps 1 = .ok (.iconst 0, 1) := by decide +kernel
theorem dX12_keeps_2 : decode cX12_keeps 2 = .ok (.putfield 115, 3) := by decide +kernel
theorem dX12_keeps_5 : decode cX12_keeps 5 = .ok (.aload_n 0, 1) := by decide +kernel
theorem dX12_keeps_6 : decode cX12_keeps 6 = .ok (.getfield 365, 3) := by decide +kernel
theorem dX12_keeps_9 : decode cX12_keeps 9 = .ok (.ireturn, 1) := by decide +kernel
theorem dX12_kept_0 : decode cX12_kept 0 = .ok (.aload_n 0, 1) := by decide +kernel
theorem dX12_kept_1 : decode cX12_kept 1 = .ok (.iload_n 1, 1) := by decide +kernel
theorem dX12_kept_2 : decode cX12_kept 2 = .ok (.ifCond .lt 11, 3) := by decide +kernel
theorem dX12_kept_5 : decode cX12_kept 5 = .ok (.iload_n 1, 1) := by decide +kernel
theorem dX12_kept_6 : decode cX12_kept 6 = .ok (.aload_n 0, 1) := by decide +kernel
theorem dX12_kept_7 : decode cX12_kept 7 = .ok (.getfield 365, 3) := by decide +kernel
theorem dX12_kept_10 : decode cX12_kept 10 = .ok (.if_icmp .lt 7, 3) := by decide +kernel
theorem dX12_kept_13 : decode cX12_kept 13 = .ok (.iconst 1, 1) := by decide +kernel
theorem dX12_kept_14 : decode cX12_kept 14 = .ok (.goto 18, 3) := by decide +kernel
theorem dX12_kept_17 : decode cX12_kept 17 = .ok (.iload_n 2, 1) := by decide +kernel
theorem dX12_kept_18 : decode cX12_kept 18 = .ok (.ifCond .lt 9, 3) := by decide +kernel
theorem dX12_kept_21 : decode cX12_kept 21 = .ok (.iload_n 2, 1) := by decide +kernel
theorem dX12_kept_22 : decode cX12_kept 22 = .ok (.bipush 6, 2) := by decide +kernel
theorem dX12_kept_24 : decode cX12_kept 24 = .ok (.if_icmp .le 7, 3) := by decide +kernel
theorem dX12_kept_27 : decode cX12_kept 27 = .ok (.iconst 2, 1) := by decide +kernel
theorem dX12_kept_28 : decode cX12_kept 28 = .ok (.goto 4, 3) := by decide +kernel
theorem dX12_kept_31 : decode cX12_kept 31 = .ok (.iconst 0, 1) := by decide +kernel
theorem dX12_kept_32 : decode cX12_kept 32 = .ok (.putfield 115, 3) := by decide +kernel
theorem dX12_kept_35 : decode cX12_kept 35 = .ok (.aload_n 0, 1) := by decide +kernel
theorem dX12_kept_36 : decode cX12_kept 36 = .ok (.getfield 115, 3) := by decide +kernel
theorem dX12_kept_39 : decode cX12_kept 39 = .ok (.ifCond .le 7, 3) := by decide +kernel
theorem dX12_kept_42 : decode cX12_kept 42 = .ok (.iconst 0, 1) := by decide +kernel
theorem dX12_kept_43 : decode cX12_kept 43 = .ok (.goto 14, 3) := by decide +kernel
theorem dX12_kept_46 : decode cX12_kept 46 = .ok (.aload_n 0, 1) := by decide +kernel
theorem dX12_kept_47 : decode cX12_kept 47 = .ok (.getfield 79, 3) := by decide +kernel
theorem dX12_kept_50 : decode cX12_kept 50 = .ok (.bipush 7, 2) := by decide +kernel
theorem dX12_kept_52 : decode cX12_kept 52 = .ok (.iload_n 1, 1) := by decide +kernel
theorem dX12_kept_53 : decode cX12_kept 53 = .ok (.imul, 1) := by decide +kernel
theorem dX12_kept_54 : decode cX12_kept 54 = .ok (.iload_n 2, 1) := by decide +kernel
theorem dX12_kept_55 : decode cX12_kept 55 = .ok (.iadd, 1) := by decide +kernel
theorem dX12_kept_56 : decode cX12_kept 56 = .ok (.iaload, 1) := by decide +kernel
theorem dX12_kept_57 : decode cX12_kept 57 = .ok (.ireturn, 1) := by decide +kernel
theorem dX12_replay_0 : decode cX12_replay 0 = .ok (.aload_n 0, 1) := by decide +kernel
theorem dX12_replay_1 : decode cX12_replay 1 = .ok (.iload_n 1, 1) := by decide +kernel
theorem dX12_replay_2 : decode cX12_replay 2 = .ok (.ifCond .lt 11, 3) := by decide +kernel
theorem dX12_replay_5 : decode cX12_replay 5 = .ok (.iload_n 1, 1) := by decide +kernel
theorem dX12_replay_6 : decode cX12_replay 6 = .ok (.aload_n 0, 1) := by decide +kernel
theorem dX12_replay_7 : decode cX12_replay 7 = .ok (.getfield 365, 3) := by decide +kernel
theorem dX12_replay_10 : decode cX12_replay 10 = .ok (.if_icmp .lt 7, 3) := by decide +kernel
theorem dX12_replay_13 : decode cX12_replay 13 = .ok (.iconst 1, 1) := by decide +kernel
theorem dX12_replay_14 : decode cX12_replay 14 = .ok (.goto 4, 3) := by decide +kernel
theorem dX12_replay_17 : decode cX12_replay 17 = .ok (.iconst 0, 1) := by decide +kernel
theorem dX12_replay_18 : decode cX12_replay 18 = .ok (.putfield 115, 3) := by decide +kernel
theorem dX12_replay_21 : decode cX12_replay 21 = .ok (.aload_n 0, 1) := by decide +kernel
theorem dX12_replay_22 : decode cX12_replay 22 = .ok (.getfield 115, 3) := by decide +kernel
theorem dX12_replay_25 : decode cX12_replay 25 = .ok (.ifCond .le 7, 3) := by decide +kernel
theorem dX12_replay_28 : decode cX12_replay 28 = .ok (.iconst 0, 1) := by decide +kernel
theorem dX12_replay_29 : decode cX12_replay 29 = .ok (.goto 52, 3) := by decide +kernel
theorem dX12_replay_32 : decode cX12_replay 32 = .ok (.aload_n 0, 1) := by decide +kernel
theorem dX12_replay_33 : decode cX12_replay 33 = .ok (.aload_n 0, 1) := by decide +kernel
theorem dX12_replay_34 : decode cX12_replay 34 = .ok (.getfield 79, 3) := by decide +kernel
theorem dX12_replay_37 : decode cX12_replay 37 = .ok (.bipush 7, 2) := by decide +kernel
theorem dX12_replay_39 : decode cX12_replay 39 = .ok (.iload_n 1, 1) := by decide +kernel
theorem dX12_replay_40 : decode cX12_replay 40 = .ok (.imul, 1) := by decide +kernel
theorem dX12_replay_41 : decode cX12_replay 41 = .ok (.iconst 1, 1) := by decide +kernel
theorem dX12_replay_42 : decode cX12_replay 42 = .ok (.iadd, 1) := by decide +kernel
theorem dX12_replay_43 : decode cX12_replay 43 = .ok (.iaload, 1) := by decide +kernel
theorem dX12_replay_44 : decode cX12_replay 44 = .ok (.aload_n 0, 1) := by decide +kernel
theorem dX12_replay_45 : decode cX12_replay 45 = .ok (.getfield 79, 3) := by decide +kernel
theorem dX12_replay_48 : decode cX12_replay 48 = .ok (.bipush 7, 2) := by decide +kernel
theorem dX12_replay_50 : decode cX12_replay 50 = .ok (.iload_n 1, 1) := by decide +kernel
theorem dX12_replay_51 : decode cX12_replay 51 = .ok (.imul, 1) := by decide +kernel
theorem dX12_replay_52 : decode cX12_replay 52 = .ok (.iconst 2, 1) := by decide +kernel
theorem dX12_replay_53 : decode cX12_replay 53 = .ok (.iadd, 1) := by decide +kernel
theorem dX12_replay_54 : decode cX12_replay 54 = .ok (.iaload, 1) := by decide +kernel
theorem dX12_replay_55 : decode cX12_replay 55 = .ok (.aload_n 0, 1) := by decide +kernel
theorem dX12_replay_56 : decode cX12_replay 56 = .ok (.getfield 79, 3) := by decide +kernel
theorem dX12_replay_59 : decode cX12_replay 59 = .ok (.bipush 7, 2) := by decide +kernel
theorem dX12_replay_61 : decode cX12_replay 61 = .ok (.iload_n 1, 1) := by decide +kernel
theorem dX12_replay_62 : decode cX12_replay 62 = .ok (.imul, 1) := by decide +kernel
theorem dX12_replay_63 : decode cX12_replay 63 = .ok (.iconst 3, 1) := by decide +kernel
theorem dX12_replay_64 : decode cX12_replay 64 = .ok (.iadd, 1) := by decide +kernel
theorem dX12_replay_65 : decode cX12_replay 65 = .ok (.iaload, 1) := by decide +kernel
theorem dX12_replay_66 : decode cX12_replay 66 = .ok (.aload_n 0, 1) := by decide +kernel
theorem dX12_replay_67 : decode cX12_replay 67 = .ok (.getfield 79, 3) := by decide +kernel
theorem dX12_replay_70 : decode cX12_replay 70 = .ok (.bipush 7, 2) := by decide +kernel
theorem dX12_replay_72 : decode cX12_replay 72 = .ok (.iload_n 1, 1) := by decide +kernel
theorem dX12_replay_73 : decode cX12_replay 73 = .ok (.imul, 1) := by decide +kernel
theorem dX12_replay_74 : decode cX12_replay 74 = .ok (.iconst 4, 1) := by decide +kernel
theorem dX12_replay_75 : decode cX12_replay 75 = .ok (.iadd, 1) := by decide +kernel
theorem dX12_replay_76 : decode cX12_replay 76 = .ok (.iaload, 1) := by decide +kernel
theorem dX12_replay_77 : decode cX12_replay 77 = .ok (.iconst 1, 1) := by decide +kernel
theorem dX12_replay_78 : decode cX12_replay 78 = .ok (.invokevirtual 429, 3) := by decide +kernel
theorem dX12_replay_81 : decode cX12_replay 81 = .ok (.ireturn, 1) := by decide +kernel
end
section
def fI_ (r : Int32) (N : mm_) : Option Value → mm_ → Prop := fun v N2 => v = some (.int r) ∧ N2 = N
def fL_ (r : Int64) (N : mm_) : Option Value → mm_ → Prop := fun v N2 => v = some (.long r) ∧ N2 = N
def fV_ (N : mm_) : Option Value → mm_ → Prop := fun v N2 => v = none ∧ N2 = N
def rI_ (f : Int32 → mm_ → Prop) : Option Value → mm_ → Prop := fun v N => ∃ r : Int32, v = some (.int r) ∧ f r N
def rL_ (f : Int64 → mm_ → Prop) : Option Value → mm_ → Prop := fun v N => ∃ r : Int64, v = some (.long r) ∧ f r N
def rV_ (f : mm_ → Prop) : Option Value → mm_ → Prop := fun v N => v = none ∧ f N
section KINDS
variable {C : mc_} {G : gg_} {Q : State → Prop} {pc : Nat} {lv : List (Option Value)} {st : List Value} {M : mm_} {own : String} {cc : ByteArray} {nL : Nat} {ry : Option FieldType} {d : Nat}
theorem w_v0fI {r : Int32} {N : mm_} {y : MethodName} {cy : ByteArray} {ny idx a ci n : Nat} {fs : List Nat} {T : u_T} {ry2 : Option FieldType} (X : cx_ C G own cc nL ry (d + 1)) (hd : decode cc pc = .ok (.invokevirtual idx, 3)) (hk : lk_ own idx y cy ny ry2 0) (hc : vwCl[ci]? = some (y.cls, T, n)) (ha : ds_[a]? = some (.inr (ci, fs))) (hM : cm_ G y cy ny ry2 d (.ref (G.1 a) :: []) M (fI_ r N)) (hr : (st.map fun v => v.category).sum ≤ 8) (k : wq_ C G Q (pc + 3) lv (.int r :: st) N) : wq_ C G Q pc lv (.ref (G.1 a) :: st) M := w_v0 X hd hk hc ha hM hr (fun v N2 h => by obtain ⟨rfl, rfl⟩ := h; exact k)
theorem w_s0fI {r : Int32} {N : mm_} {y : MethodName} {cy : ByteArray} {ny idx : Nat} {ry2 : Option FieldType} (X : cx_ C G own cc nL ry (d + 1)) (hd : decode cc pc = .ok (.invokestatic idx, 3)) (hk : ls_ own idx y cy ny ry2 0) (hM : cm_ G y cy ny ry2 d [] M (fI_ r N)) (hr : (st.map fun v => v.category).sum ≤ 8) (k : wq_ C G Q (pc + 3) lv (.int r :: st) N) : wq_ C G Q pc lv (st) M := w_s0 X hd hk hM hr (fun v N2 h => by obtain ⟨rfl, rfl⟩ := h; exact k)
theorem w_v1fI {a1 : Value} {r : Int32} {N : mm_} {y : MethodName} {cy : ByteArray} {ny idx a ci n : Nat} {fs : List Nat} {T : u_T} {ry2 : Option FieldType} (X : cx_ C G own cc nL ry (d + 1)) (hd : decode cc pc = .ok (.invokevirtual idx, 3)) (hk : lk_ own idx y cy ny ry2 1) (hc : vwCl[ci]? = some (y.cls, T, n)) (ha : ds_[a]? = some (.inr (ci, fs))) (hM : cm_ G y cy ny ry2 d (.ref (G.1 a) :: [a1]) M (fI_ r N)) (hr : (st.map fun v => v.category).sum ≤ 8) (k : wq_ C G Q (pc + 3) lv (.int r :: st) N) : wq_ C G Q pc lv (a1 :: .ref (G.1 a) :: st) M := w_v1 X hd hk hc ha hM hr (fun v N2 h => by obtain ⟨rfl, rfl⟩ := h; exact k)
theorem w_s1fI {a1 : Value} {r : Int32} {N : mm_} {y : MethodName} {cy : ByteArray} {ny idx : Nat} {ry2 : Option FieldType} (X : cx_ C G own cc nL ry (d + 1)) (hd : decode cc pc = .ok (.invokestatic idx, 3)) (hk : ls_ own idx y cy ny ry2 1) (hM : cm_ G y cy ny ry2 d [a1] M (fI_ r N)) (hr : (st.map fun v => v.category).sum ≤ 8) (k : wq_ C G Q (pc + 3) lv (.int r :: st) N) : wq_ C G Q pc lv (a1 :: st) M := w_s1 X hd hk hM hr (fun v N2 h => by obtain ⟨rfl, rfl⟩ := h; exact k)
theorem w_v2fI {a1 a2 : Value} {r : Int32} {N : mm_} {y : MethodName} {cy : ByteArray} {ny idx a ci n : Nat} {fs : List Nat} {T : u_T} {ry2 : Option FieldType} (X : cx_ C G own cc nL ry (d + 1)) (hd : decode cc pc = .ok (.invokevirtual idx, 3)) (hk : lk_ own idx y cy ny ry2 2) (hc : vwCl[ci]? = some (y.cls, T, n)) (ha : ds_[a]? = some (.inr (ci, fs))) (hM : cm_ G y cy ny ry2 d (.ref (G.1 a) :: [a1, a2]) M (fI_ r N)) (hr : (st.map fun v => v.category).sum ≤ 8) (k : wq_ C G Q (pc + 3) lv (.int r :: st) N) : wq_ C G Q pc lv (a2 :: a1 :: .ref (G.1 a) :: st) M := w_v2 X hd hk hc ha hM hr (fun v N2 h => by obtain ⟨rfl, rfl⟩ := h; exact k)
theorem w_s2fI {a1 a2 : Value} {r : Int32} {N : mm_} {y : MethodName} {cy : ByteArray} {ny idx : Nat} {ry2 : Option FieldType} (X : cx_ C G own cc nL ry (d + 1)) (hd : decode cc pc = .ok (.invokestatic idx, 3)) (hk : ls_ own idx y cy ny ry2 2) (hM : cm_ G y cy ny ry2 d [a1, a2] M (fI_ r N)) (hr : (st.map fun v => v.category).sum ≤ 8) (k : wq_ C G Q (pc + 3) lv (.int r :: st) N) : wq_ C G Q pc lv (a2 :: a1 :: st) M := w_s2 X hd hk hM hr (fun v N2 h => by obtain ⟨rfl, rfl⟩ := h; exact k)
theorem w_v3fI {a1 a2 a3 : Value} {r : Int32} {N : mm_} {y : MethodName} {cy : ByteArray} {ny idx a ci n : Nat} {fs : List Nat} {T : u_T} {ry2 : Option FieldType} (X : cx_ C G own cc nL ry (d + 1)) (hd : decode cc pc = .ok (.invokevirtual idx, 3)) (hk : lk_ own idx y cy ny ry2 3) (hc : vwCl[ci]? = some (y.cls, T, n)) (ha : ds_[a]? = some (.inr (ci, fs))) (hM : cm_ G y cy ny ry2 d (.ref (G.1 a) :: [a1, a2, a3]) M (fI_ r N)) (hr : (st.map fun v => v.category).sum ≤ 8) (k : wq_ C G Q (pc + 3) lv (.int r :: st) N) : wq_ C G Q pc lv (a3 :: a2 :: a1 :: .ref (G.1 a) :: st) M := w_v3 X hd hk hc ha hM hr (fun v N2 h => by obtain ⟨rfl, rfl⟩ := h; exact k)
theorem w_s3fI {a1 a2 a3 : Value} {r : Int32} {N : mm_} {y : MethodName} {cy : ByteArray} {ny idx : Nat} {ry2 : Option FieldType} (X : cx_ C G own cc nL ry (d + 1)) (hd : decode cc pc = .ok (.invokestatic idx, 3)) (hk : ls_ own idx y cy ny ry2 3) (hM : cm_ G y cy ny ry2 d [a1, a2, a3] M (fI_ r N)) (hr : (st.map fun v => v.category).sum ≤ 8) (k : wq_ C G Q (pc + 3) lv (.int r :: st) N) : wq_ C G Q pc lv (a3 :: a2 :: a1 :: st) M := w_s3 X hd hk hM hr (fun v N2 h => by obtain ⟨rfl, rfl⟩ := h; exact k)
theorem w_v4fI {a1 a2 a3 a4 : Value} {r : Int32} {N : mm_} {y : MethodName} {cy : ByteArray} {ny idx a ci n : Nat} {fs : List Nat} {T : u_T} {ry2 : Option FieldType} (X : cx_ C G own cc nL ry (d + 1)) (hd : decode cc pc = .ok (.invokevirtual idx, 3)) (hk : lk_ own idx y cy ny ry2 4) (hc : vwCl[ci]? = some (y.cls, T, n)) (ha : ds_[a]? = some (.inr (ci, fs))) (hM : cm_ G y cy ny ry2 d (.ref (G.1 a) :: [a1, a2, a3, a4]) M (fI_ r N)) (hr : (st.map fun v => v.category).sum ≤ 8) (k : wq_ C G Q (pc + 3) lv (.int r :: st) N) : wq_ C G Q pc lv (a4 :: a3 :: a2 :: a1 :: .ref (G.1 a) :: st) M := w_v4 X hd hk hc ha hM hr (fun v N2 h => by obtain ⟨rfl, rfl⟩ := h; exact k)
theorem w_s4fI {a1 a2 a3 a4 : Value} {r : Int32} {N : mm_} {y : MethodName} {cy : ByteArray} {ny idx : Nat} {ry2 : Option FieldType} (X : cx_ C G own cc nL ry (d + 1)) (hd : decode cc pc = .ok (.invokestatic idx, 3)) (hk : ls_ own idx y cy ny ry2 4) (hM : cm_ G y cy ny ry2 d [a1, a2, a3, a4] M (fI_ r N)) (hr : (st.map fun v => v.category).sum ≤ 8) (k : wq_ C G Q (pc + 3) lv (.int r :: st) N) : wq_ C G Q pc lv (a4 :: a3 :: a2 :: a1 :: st) M := w_s4 X hd hk hM hr (fun v N2 h => by obtain ⟨rfl, rfl⟩ := h; exact k)
theorem w_v5fI {a1 a2 a3 a4 a5 : Value} {r : Int32} {N : mm_} {y : MethodName} {cy : ByteArray} {ny idx a ci n : Nat} {fs : List Nat} {T : u_T} {ry2 : Option FieldType} (X : cx_ C G own cc nL ry (d + 1)) (hd : decode cc pc = .ok (.invokevirtual idx, 3)) (hk : lk_ own idx y cy ny ry2 5) (hc : vwCl[ci]? = some (y.cls, T, n)) (ha : ds_[a]? = some (.inr (ci, fs))) (hM : cm_ G y cy ny ry2 d (.ref (G.1 a) :: [a1, a2, a3, a4, a5]) M (fI_ r N)) (hr : (st.map fun v => v.category).sum ≤ 8) (k : wq_ C G Q (pc + 3) lv (.int r :: st) N) : wq_ C G Q pc lv (a5 :: a4 :: a3 :: a2 :: a1 :: .ref (G.1 a) :: st) M := w_v5 X hd hk hc ha hM hr (fun v N2 h => by obtain ⟨rfl, rfl⟩ := h; exact k)
theorem w_s5fI {a1 a2 a3 a4 a5 : Value} {r : Int32} {N : mm_} {y : MethodName} {cy : ByteArray} {ny idx : Nat} {ry2 : Option FieldType} (X : cx_ C G own cc nL ry (d + 1)) (hd : decode cc pc = .ok (.invokestatic idx, 3)) (hk : ls_ own idx y cy ny ry2 5) (hM : cm_ G y cy ny ry2 d [a1, a2, a3, a4, a5] M (fI_ r N)) (hr : (st.map fun v => v.category).sum ≤ 8) (k : wq_ C G Q (pc + 3) lv (.int r :: st) N) : wq_ C G Q pc lv (a5 :: a4 :: a3 :: a2 :: a1 :: st) M := w_s5 X hd hk hM hr (fun v N2 h => by obtain ⟨rfl, rfl⟩ := h; exact k)
theorem w_v0fL {r : Int64} {N : mm_} {y : MethodName} {cy : ByteArray} {ny idx a ci n : Nat} {fs : List Nat} {T : u_T} {ry2 : Option FieldType} (X : cx_ C G own cc nL ry (d + 1)) (hd : decode cc pc = .ok (.invokevirtual idx, 3)) (hk : lk_ own idx y cy ny ry2 0) (hc : vwCl[ci]? = some (y.cls, T, n)) (ha : ds_[a]? = some (.inr (ci, fs))) (hM : cm_ G y cy ny ry2 d (.ref (G.1 a) :: []) M (fL_ r N)) (hr : (st.map fun v => v.category).sum ≤ 8) (k : wq_ C G Q (pc + 3) lv (.long r :: st) N) : wq_ C G Q pc lv (.ref (G.1 a) :: st) M := w_v0 X hd hk hc ha hM hr (fun v N2 h => by obtain ⟨rfl, rfl⟩ := h; exact k)
theorem w_s0fL {r : Int64} {N : mm_} {y : MethodName} {cy : ByteArray} {ny idx : Nat} {ry2 : Option FieldType} (X : cx_ C G own cc nL ry (d + 1)) (hd : decode cc pc = .ok (.invokestatic idx, 3)) (hk : ls_ own idx y cy ny ry2 0) (hM : cm_ G y cy ny ry2 d [] M (fL_ r N)) (hr : (st.map fun v => v.category).sum ≤ 8) (k : wq_ C G Q (pc + 3) lv (.long r :: st) N) : wq_ C G Q pc lv (st) M := w_s0 X hd hk hM hr (fun v N2 h => by obtain ⟨rfl, rfl⟩ := h; exact k)
theorem w_v1fL {a1 : Value} {r : Int64} {N : mm_} {y : MethodName} {cy : ByteArray} {ny idx a ci n : Nat} {fs : List Nat} {T : u_T} {ry2 : Option FieldType} (X : cx_ C G own cc nL ry (d + 1)) (hd : decode cc pc = .ok (.invokevirtual idx, 3)) (hk : lk_ own idx y cy ny ry2 1) (hc : vwCl[ci]? = some (y.cls, T, n)) (ha : ds_[a]? = some (.inr (ci, fs))) (hM : cm_ G y cy ny ry2 d (.ref (G.1 a) :: [a1]) M (fL_ r N)) (hr : (st.map fun v => v.category).sum ≤ 8) (k : wq_ C G Q (pc + 3) lv (.long r :: st) N) : wq_ C G Q pc lv (a1 :: .ref (G.1 a) :: st) M := w_v1 X hd hk hc ha hM hr (fun v N2 h => by obtain ⟨rfl, rfl⟩ := h; exact k)
theorem w_s1fL {a1 : Value} {r : Int64} {N : mm_} {y : MethodName} {cy : ByteArray} {ny idx : Nat} {ry2 : Option FieldType} (X : cx_ C G own cc nL ry (d + 1)) (hd : decode cc pc = .ok (.invokestatic idx, 3)) (hk : ls_ own idx y cy ny ry2 1) (hM : cm_ G y cy ny ry2 d [a1] M (fL_ r N)) (hr : (st.map fun v => v.category).sum ≤ 8) (k : wq_ C G Q (pc + 3) lv (.long r :: st) N) : wq_ C G Q pc lv (a1 :: st) M := w_s1 X hd hk hM hr (fun v N2 h => by obtain ⟨rfl, rfl⟩ := h; exact k)
theorem w_v2fL {a1 a2 : Value} {r : Int64} {N : mm_} {y : MethodName} {cy : ByteArray} {ny idx a ci n : Nat} {fs : List Nat} {T : u_T} {ry2 : Option FieldType} (X : cx_ C G own cc nL ry (d + 1)) (hd : decode cc pc = .ok (.invokevirtual idx, 3)) (hk : lk_ own idx y cy ny ry2 2) (hc : vwCl[ci]? = some (y.cls, T, n)) (ha : ds_[a]? = some (.inr (ci, fs))) (hM : cm_ G y cy ny ry2 d (.ref (G.1 a) :: [a1, a2]) M (fL_ r N)) (hr : (st.map fun v => v.category).sum ≤ 8) (k : wq_ C G Q (pc + 3) lv (.long r :: st) N) : wq_ C G Q pc lv (a2 :: a1 :: .ref (G.1 a) :: st) M := w_v2 X hd hk hc ha hM hr (fun v N2 h => by obtain ⟨rfl, rfl⟩ := h; exact k)
theorem w_s2fL {a1 a2 : Value} {r : Int64} {N : mm_} {y : MethodName} {cy : ByteArray} {ny idx : Nat} {ry2 : Option FieldType} (X : cx_ C G own cc nL ry (d + 1)) (hd : decode cc pc = .ok (.invokestatic idx, 3)) (hk : ls_ own idx y cy ny ry2 2) (hM : cm_ G y cy ny ry2 d [a1, a2] M (fL_ r N)) (hr : (st.map fun v => v.category).sum ≤ 8) (k : wq_ C G Q (pc + 3) lv (.long r :: st) N) : wq_ C G Q pc lv (a2 :: a1 :: st) M := w_s2 X hd hk hM hr (fun v N2 h => by obtain ⟨rfl, rfl⟩ := h; exact k)
theorem w_v3fL {a1 a2 a3 : Value} {r : Int64} {N : mm_} {y : MethodName} {cy : ByteArray} {ny idx a ci n : Nat} {fs : List Nat} {T : u_T} {ry2 : Option FieldType} (X : cx_ C G own cc nL ry (d + 1)) (hd : decode cc pc = .ok (.invokevirtual idx, 3)) (hk : lk_ own idx y cy ny ry2 3) (hc : vwCl[ci]? = some (y.cls, T, n)) (ha : ds_[a]? = some (.inr (ci, fs))) (hM : cm_ G y cy ny ry2 d (.ref (G.1 a) :: [a1, a2, a3]) M (fL_ r N)) (hr : (st.map fun v => v.category).sum ≤ 8) (k : wq_ C G Q (pc + 3) lv (.long r :: st) N) : wq_ C G Q pc lv (a3 :: a2 :: a1 :: .ref (G.1 a) :: st) M := w_v3 X hd hk hc ha hM hr (fun v N2 h => by obtain ⟨rfl, rfl⟩ := h; exact k)
theorem w_s3fL {a1 a2 a3 : Value} {r : Int64} {N : mm_} {y : MethodName} {cy : ByteArray} {ny idx : Nat} {ry2 : Option FieldType} (X : cx_ C G own cc nL ry (d + 1)) (hd : decode cc pc = .ok (.invokestatic idx, 3)) (hk : ls_ own idx y cy ny ry2 3) (hM : cm_ G y cy ny ry2 d [a1, a2, a3] M (fL_ r N)) (hr : (st.map fun v => v.category).sum ≤ 8) (k : wq_ C G Q (pc + 3) lv (.long r :: st) N) : wq_ C G Q pc lv (a3 :: a2 :: a1 :: st) M := w_s3 X hd hk hM hr (fun v N2 h => by obtain ⟨rfl, rfl⟩ := h; exact k)
theorem w_v4fL {a1 a2 a3 a4 : Value} {r : Int64} {N : mm_} {y : MethodName} {cy : ByteArray} {ny idx a ci n : Nat} {fs : List Nat} {T : u_T} {ry2 : Option FieldType} (X : cx_ C G own cc nL ry (d + 1)) (hd : decode cc pc = .ok (.invokevirtual idx, 3)) (hk : lk_ own idx y cy ny ry2 4) (hc : vwCl[ci]? = some (y.cls, T, n)) (ha : ds_[a]? = some (.inr (ci, fs))) (hM : cm_ G y cy ny ry2 d (.ref (G.1 a) :: [a1, a2, a3, a4]) M (fL_ r N)) (hr : (st.map fun v => v.category).sum ≤ 8) (k : wq_ C G Q (pc + 3) lv (.long r :: st) N) : wq_ C G Q pc lv (a4 :: a3 :: a2 :: a1 :: .ref (G.1 a) :: st) M := w_v4 X hd hk hc ha hM hr (fun v N2 h => by obtain ⟨rfl, rfl⟩ := h; exact k)
theorem w_s4fL {a1 a2 a3 a4 : Value} {r : Int64} {N : mm_} {y : MethodName} {cy : ByteArray} {ny idx : Nat} {ry2 : Option FieldType} (X : cx_ C G own cc nL ry (d + 1)) (hd : decode cc pc = .ok (.invokestatic idx, 3)) (hk : ls_ own idx y cy ny ry2 4) (hM : cm_ G y cy ny ry2 d [a1, a2, a3, a4] M (fL_ r N)) (hr : (st.map fun v => v.category).sum ≤ 8) (k : wq_ C G Q (pc + 3) lv (.long r :: st) N) : wq_ C G Q pc lv (a4 :: a3 :: a2 :: a1 :: st) M := w_s4 X hd hk hM hr (fun v N2 h => by obtain ⟨rfl, rfl⟩ := h; exact k)
theorem w_v5fL {a1 a2 a3 a4 a5 : Value} {r : Int64} {N : mm_} {y : MethodName} {cy : ByteArray} {ny idx a ci n : Nat} {fs : List Nat} {T : u_T} {ry2 : Option FieldType} (X : cx_ C G own cc nL ry (d + 1)) (hd : decode cc pc = .ok (.invokevirtual idx, 3)) (hk : lk_ own idx y cy ny ry2 5) (hc : vwCl[ci]? = some (y.cls, T, n)) (ha : ds_[a]? = some (.inr (ci, fs))) (hM : cm_ G y cy ny ry2 d (.ref (G.1 a) :: [a1, a2, a3, a4, a5]) M (fL_ r N)) (hr : (st.map fun v => v.category).sum ≤ 8) (k : wq_ C G Q (pc + 3) lv (.long r :: st) N) : wq_ C G Q pc lv (a5 :: a4 :: a3 :: a2 :: a1 :: .ref (G.1 a) :: st) M := w_v5 X hd hk hc ha hM hr (fun v N2 h => by obtain ⟨rfl, rfl⟩ := h; exact k)
theorem w_s5fL {a1 a2 a3 a4 a5 : Value} {r : Int64} {N : mm_} {y : MethodName} {cy : ByteArray} {ny idx : Nat} {ry2 : Option FieldType} (X : cx_ C G own cc nL ry (d + 1)) (hd : decode cc pc = .ok (.invokestatic idx, 3)) (hk : ls_ own idx y cy ny ry2 5) (hM : cm_ G y cy ny ry2 d [a1, a2, a3, a4, a5] M (fL_ r N)) (hr : (st.map fun v => v.category).sum ≤ 8) (k : wq_ C G Q (pc + 3) lv (.long r :: st) N) : wq_ C G Q pc lv (a5 :: a4 :: a3 :: a2 :: a1 :: st) M := w_s5 X hd hk hM hr (fun v N2 h => by obtain ⟨rfl, rfl⟩ := h; exact k)
theorem w_v0fV {N : mm_} {y : MethodName} {cy : ByteArray} {ny idx a ci n : Nat} {fs : List Nat} {T : u_T} {ry2 : Option FieldType} (X : cx_ C G own cc nL ry (d + 1)) (hd : decode cc pc = .ok (.invokevirtual idx, 3)) (hk : lk_ own idx y cy ny ry2 0) (hc : vwCl[ci]? = some (y.cls, T, n)) (ha : ds_[a]? = some (.inr (ci, fs))) (hM : cm_ G y cy ny ry2 d (.ref (G.1 a) :: []) M (fV_ N)) (hr : (st.map fun v => v.category).sum ≤ 8) (k : wq_ C G Q (pc + 3) lv st N) : wq_ C G Q pc lv (.ref (G.1 a) :: st) M := w_v0 X hd hk hc ha hM hr (fun v N2 h => by obtain ⟨rfl, rfl⟩ := h; exact k)
theorem w_s0fV {N : mm_} {y : MethodName} {cy : ByteArray} {ny idx : Nat} {ry2 : Option FieldType} (X : cx_ C G own cc nL ry (d + 1)) (hd : decode cc pc = .ok (.invokestatic idx, 3)) (hk : ls_ own idx y cy ny ry2 0) (hM : cm_ G y cy ny ry2 d [] M (fV_ N)) (hr : (st.map fun v => v.category).sum ≤ 8) (k : wq_ C G Q (pc + 3) lv st N) : wq_ C G Q pc lv (st) M := w_s0 X hd hk hM hr (fun v N2 h => by obtain ⟨rfl, rfl⟩ := h; exact k)
theorem w_v1fV {a1 : Value} {N : mm_} {y : MethodName} {cy : ByteArray} {ny idx a ci n : Nat} {fs : List Nat} {T : u_T} {ry2 : Option FieldType} (X : cx_ C G own cc nL ry (d + 1)) (hd : decode cc pc = .ok (.invokevirtual idx, 3)) (hk : lk_ own idx y cy ny ry2 1) (hc : vwCl[ci]? = some (y.cls, T, n)) (ha : ds_[a]? = some (.inr (ci, fs))) (hM : cm_ G y cy ny ry2 d (.ref (G.1 a) :: [a1]) M (fV_ N)) (hr : (st.map fun v => v.category).sum ≤ 8) (k : wq_ C G Q (pc + 3) lv st N) : wq_ C G Q pc lv (a1 :: .ref (G.1 a) :: st) M := w_v1 X hd hk hc ha hM hr (fun v N2 h => by obtain ⟨rfl, rfl⟩ := h; exact k)
theorem w_s1fV {a1 : Value} {N : mm_} {y : MethodName} {cy : ByteArray} {ny idx : Nat} {ry2 : Option FieldType} (X : cx_ C G own cc nL ry (d + 1)) (hd : decode cc pc = .ok (.invokestatic idx, 3)) (hk : ls_ own idx y cy ny ry2 1) (hM : cm_ G y cy ny ry2 d [a1] M (fV_ N)) (hr : (st.map fun v => v.category).sum ≤ 8) (k : wq_ C G Q (pc + 3) lv st N) : wq_ C G Q pc lv (a1 :: st) M := w_s1 X hd hk hM hr (fun v N2 h => by obtain ⟨rfl, rfl⟩ := h; exact k)
theorem w_v2fV {a1 a2 : Value} {N : mm_} {y : MethodName} {cy : ByteArray} {ny idx a ci n : Nat} {fs : List Nat} {T : u_T} {ry2 : Option FieldType} (X : cx_ C G own cc nL ry (d + 1)) (hd : decode cc pc = .ok (.invokevirtual idx, 3)) (hk : lk_ own idx y cy ny ry2 2) (hc : vwCl[ci]? = some (y.cls, T, n)) (ha : ds_[a]? = some (.inr (ci, fs))) (hM : cm_ G y cy ny ry2 d (.ref (G.1 a) :: [a1, a2]) M (fV_ N)) (hr : (st.map fun v => v.category).sum ≤ 8) (k : wq_ C G Q (pc + 3) lv st N) : wq_ C G Q pc lv (a2 :: a1 :: .ref (G.1 a) :: st) M := w_v2 X hd hk hc ha hM hr (fun v N2 h => by obtain ⟨rfl, rfl⟩ := h; exact k)
theorem w_s2fV {a1 a2 : Value} {N : mm_} {y : MethodName} {cy : ByteArray} {ny idx : Nat} {ry2 : Option FieldType} (X : cx_ C G own cc nL ry (d + 1)) (hd : decode cc pc = .ok (.invokestatic idx, 3)) (hk : ls_ own idx y cy ny ry2 2) (hM : cm_ G y cy ny ry2 d [a1, a2] M (fV_ N)) (hr : (st.map fun v => v.category).sum ≤ 8) (k : wq_ C G Q (pc + 3) lv st N) : wq_ C G Q pc lv (a2 :: a1 :: st) M := w_s2 X hd hk hM hr (fun v N2 h => by obtain ⟨rfl, rfl⟩ := h; exact k)
theorem w_v3fV {a1 a2 a3 : Value} {N : mm_} {y : MethodName} {cy : ByteArray} {ny idx a ci n : Nat} {fs : List Nat} {T : u_T} {ry2 : Option FieldType} (X : cx_ C G own cc nL ry (d + 1)) (hd : decode cc pc = .ok (.invokevirtual idx, 3)) (hk : lk_ own idx y cy ny ry2 3) (hc : vwCl[ci]? = some (y.cls, T, n)) (ha : ds_[a]? = some (.inr (ci, fs))) (hM : cm_ G y cy ny ry2 d (.ref (G.1 a) :: [a1, a2, a3]) M (fV_ N)) (hr : (st.map fun v => v.category).sum ≤ 8) (k : wq_ C G Q (pc + 3) lv st N) : wq_ C G Q pc lv (a3 :: a2 :: a1 :: .ref (G.1 a) :: st) M := w_v3 X hd hk hc ha hM hr (fun v N2 h => by obtain ⟨rfl, rfl⟩ := h; exact k)
theorem w_s3fV {a1 a2 a3 : Value} {N : mm_} {y : MethodName} {cy : ByteArray} {ny idx : Nat} {ry2 : Option FieldType} (X : cx_ C G own cc nL ry (d + 1)) (hd : decode cc pc = .ok (.invokestatic idx, 3)) (hk : ls_ own idx y cy ny ry2 3) (hM : cm_ G y cy ny ry2 d [a1, a2, a3] M (fV_ N)) (hr : (st.map fun v => v.category).sum ≤ 8) (k : wq_ C G Q (pc + 3) lv st N) : wq_ C G Q pc lv (a3 :: a2 :: a1 :: st) M := w_s3 X hd hk hM hr (fun v N2 h => by obtain ⟨rfl, rfl⟩ := h; exact k)
theorem w_v4fV {a1 a2 a3 a4 : Value} {N : mm_} {y : MethodName} {cy : ByteArray} {ny idx a ci n : Nat} {fs : List Nat} {T : u_T} {ry2 : Option FieldType} (X : cx_ C G own cc nL ry (d + 1)) (hd : decode cc pc = .ok (.invokevirtual idx, 3)) (hk : lk_ own idx y cy ny ry2 4) (hc : vwCl[ci]? = some (y.cls, T, n)) (ha : ds_[a]? = some (.inr (ci, fs))) (hM : cm_ G y cy ny ry2 d (.ref (G.1 a) :: [a1, a2, a3, a4]) M (fV_ N)) (hr : (st.map fun v => v.category).sum ≤ 8) (k : wq_ C G Q (pc + 3) lv st N) : wq_ C G Q pc lv (a4 :: a3 :: a2 :: a1 :: .ref (G.1 a) :: st) M := w_v4 X hd hk hc ha hM hr (fun v N2 h => by obtain ⟨rfl, rfl⟩ := h; exact k)
theorem w_s4fV {a1 a2 a3 a4 : Value} {N : mm_} {y : MethodName} {cy : ByteArray} {ny idx : Nat} {ry2 : Option FieldType} (X : cx_ C G own cc nL ry (d + 1)) (hd : decode cc pc = .ok (.invokestatic idx, 3)) (hk : ls_ own idx y cy ny ry2 4) (hM : cm_ G y cy ny ry2 d [a1, a2, a3, a4] M (fV_ N)) (hr : (st.map fun v => v.category).sum ≤ 8) (k : wq_ C G Q (pc + 3) lv st N) : wq_ C G Q pc lv (a4 :: a3 :: a2 :: a1 :: st) M := w_s4 X hd hk hM hr (fun v N2 h => by obtain ⟨rfl, rfl⟩ := h; exact k)
theorem w_v5fV {a1 a2 a3 a4 a5 : Value} {N : mm_} {y : MethodName} {cy : ByteArray} {ny idx a ci n : Nat} {fs : List Nat} {T : u_T} {ry2 : Option FieldType} (X : cx_ C G own cc nL ry (d + 1)) (hd : decode cc pc = .ok (.invokevirtual idx, 3)) (hk : lk_ own idx y cy ny ry2 5) (hc : vwCl[ci]? = some (y.cls, T, n)) (ha : ds_[a]? = some (.inr (ci, fs))) (hM : cm_ G y cy ny ry2 d (.ref (G.1 a) :: [a1, a2, a3, a4, a5]) M (fV_ N)) (hr : (st.map fun v => v.category).sum ≤ 8) (k : wq_ C G Q (pc + 3) lv st N) : wq_ C G Q pc lv (a5 :: a4 :: a3 :: a2 :: a1 :: .ref (G.1 a) :: st) M := w_v5 X hd hk hc ha hM hr (fun v N2 h => by obtain ⟨rfl, rfl⟩ := h; exact k)
theorem w_s5fV {a1 a2 a3 a4 a5 : Value} {N : mm_} {y : MethodName} {cy : ByteArray} {ny idx : Nat} {ry2 : Option FieldType} (X : cx_ C G own cc nL ry (d + 1)) (hd : decode cc pc = .ok (.invokestatic idx, 3)) (hk : ls_ own idx y cy ny ry2 5) (hM : cm_ G y cy ny ry2 d [a1, a2, a3, a4, a5] M (fV_ N)) (hr : (st.map fun v => v.category).sum ≤ 8) (k : wq_ C G Q (pc + 3) lv st N) : wq_ C G Q pc lv (a5 :: a4 :: a3 :: a2 :: a1 :: st) M := w_s5 X hd hk hM hr (fun v N2 h => by obtain ⟨rfl, rfl⟩ := h; exact k)
theorem w_v0rI {f : Int32 → mm_ → Prop} {y : MethodName} {cy : ByteArray} {ny idx a ci n : Nat} {fs : List Nat} {T : u_T} {ry2 : Option FieldType} (X : cx_ C G own cc nL ry (d + 1)) (hd : decode cc pc = .ok (.invokevirtual idx, 3)) (hk : lk_ own idx y cy ny ry2 0) (hc : vwCl[ci]? = some (y.cls, T, n)) (ha : ds_[a]? = some (.inr (ci, fs))) (hM : cm_ G y cy ny ry2 d (.ref (G.1 a) :: []) M (rI_ f)) (hr : (st.map fun v => v.category).sum ≤ 8) (k : ∀ (r : Int32) (N : mm_), f r N → wq_ C G Q (pc + 3) lv (.int r :: st) N) : wq_ C G Q pc lv (.ref (G.1 a) :: st) M := w_v0 X hd hk hc ha hM hr (fun v N2 h => by obtain ⟨r, rfl, h2⟩ := h; exact k r N2 h2)
theorem w_s0rI {f : Int32 → mm_ → Prop} {y : MethodName} {cy : ByteArray} {ny idx : Nat} {ry2 : Option FieldType} (X : cx_ C G own cc nL ry (d + 1)) (hd : decode cc pc = .ok (.invokestatic idx, 3)) (hk : ls_ own idx y cy ny ry2 0) (hM : cm_ G y cy ny ry2 d [] M (rI_ f)) (hr : (st.map fun v => v.category).sum ≤ 8) (k : ∀ (r : Int32) (N : mm_), f r N → wq_ C G Q (pc + 3) lv (.int r :: st) N) : wq_ C G Q pc lv (st) M := w_s0 X hd hk hM hr (fun v N2 h => by obtain ⟨r, rfl, h2⟩ := h; exact k r N2 h2)
theorem w_v1rI {a1 : Value} {f : Int32 → mm_ → Prop} {y : MethodName} {cy : ByteArray} {ny idx a ci n : Nat} {fs : List Nat} {T : u_T} {ry2 : Option FieldType} (X : cx_ C G own cc nL ry (d + 1)) (hd : decode cc pc = .ok (.invokevirtual idx, 3)) (hk : lk_ own idx y cy ny ry2 1) (hc : vwCl[ci]? = some (y.cls, T, n)) (ha : ds_[a]? = some (.inr (ci, fs))) (hM : cm_ G y cy ny ry2 d (.ref (G.1 a) :: [a1]) M (rI_ f)) (hr : (st.map fun v => v.category).sum ≤ 8) (k : ∀ (r : Int32) (N : mm_), f r N → wq_ C G Q (pc + 3) lv (.int r :: st) N) : wq_ C G Q pc lv (a1 :: .ref (G.1 a) :: st) M := w_v1 X hd hk hc ha hM hr (fun v N2 h => by obtain ⟨r, rfl, h2⟩ := h; exact k r N2 h2)
theorem w_s1rI {a1 : Value} {f : Int32 → mm_ → Prop} {y : MethodName} {cy : ByteArray} {ny idx : Nat} {ry2 : Option FieldType} (X : cx_ C G own cc nL ry (d + 1)) (hd : decode cc pc = .ok (.invokestatic idx, 3)) (hk : ls_ own idx y cy ny ry2 1) (hM : cm_ G y cy ny ry2 d [a1] M (rI_ f)) (hr : (st.map fun v => v.category).sum ≤ 8) (k : ∀ (r : Int32) (N : mm_), f r N → wq_ C G Q (pc + 3) lv (.int r :: st) N) : wq_ C G Q pc lv (a1 :: st) M := w_s1 X hd hk hM hr (fun v N2 h => by obtain ⟨r, rfl, h2⟩ := h; exact k r N2 h2)
theorem w_v2rI {a1 a2 : Value} {f : Int32 → mm_ → Prop} {y : MethodName} {cy : ByteArray} {ny idx a ci n : Nat} {fs : List Nat} {T : u_T} {ry2 : Option FieldType} (X : cx_ C G own cc nL ry (d + 1)) (hd : decode cc pc = .ok (.invokevirtual idx, 3)) (hk : lk_ own idx y cy ny ry2 2) (hc : vwCl[ci]? = some (y.cls, T, n)) (ha : ds_[a]? = some (.inr (ci, fs))) (hM : cm_ G y cy ny ry2 d (.ref (G.1 a) :: [a1, a2]) M (rI_ f)) (hr : (st.map fun v => v.category).sum ≤ 8) (k : ∀ (r : Int32) (N : mm_), f r N → wq_ C G Q (pc + 3) lv (.int r :: st) N) : wq_ C G Q pc lv (a2 :: a1 :: .ref (G.1 a) :: st) M := w_v2 X hd hk hc ha hM hr (fun v N2 h => by obtain ⟨r, rfl, h2⟩ := h; exact k r N2 h2)
theorem w_s2rI {a1 a2 : Value} {f : Int32 → mm_ → Prop} {y : MethodName} {cy : ByteArray} {ny idx : Nat} {ry2 : Option FieldType} (X : cx_ C G own cc nL ry (d + 1)) (hd : decode cc pc = .ok (.invokestatic idx, 3)) (hk : ls_ own idx y cy ny ry2 2) (hM : cm_ G y cy ny ry2 d [a1, a2] M (rI_ f)) (hr : (st.map fun v => v.category).sum ≤ 8) (k : ∀ (r : Int32) (N : mm_), f r N → wq_ C G Q (pc + 3) lv (.int r :: st) N) : wq_ C G Q pc lv (a2 :: a1 :: st) M := w_s2 X hd hk hM hr (fun v N2 h => by obtain ⟨r, rfl, h2⟩ := h; exact k r N2 h2)
theorem w_v3rI {a1 a2 a3 : Value} {f : Int32 → mm_ → Prop} {y : MethodName} {cy : ByteArray} {ny idx a ci n : Nat} {fs : List Nat} {T : u_T} {ry2 : Option FieldType} (X : cx_ C G own cc nL ry (d + 1)) (hd : decode cc pc = .ok (.invokevirtual idx, 3)) (hk : lk_ own idx y cy ny ry2 3) (hc : vwCl[ci]? = some (y.cls, T, n)) (ha : ds_[a]? = some (.inr (ci, fs))) (hM : cm_ G y cy ny ry2 d (.ref (G.1 a) :: [a1, a2, a3]) M (rI_ f)) (hr : (st.map fun v => v.category).sum ≤ 8) (k : ∀ (r : Int32) (N : mm_), f r N → wq_ C G Q (pc + 3) lv (.int r :: st) N) : wq_ C G Q pc lv (a3 :: a2 :: a1 :: .ref (G.1 a) :: st) M := w_v3 X hd hk hc ha hM hr (fun v N2 h => by obtain ⟨r, rfl, h2⟩ := h; exact k r N2 h2)
theorem w_s3rI {a1 a2 a3 : Value} {f : Int32 → mm_ → Prop} {y : MethodName} {cy : ByteArray} {ny idx : Nat} {ry2 : Option FieldType} (X : cx_ C G own cc nL ry (d + 1)) (hd : decode cc pc = .ok (.invokestatic idx, 3)) (hk : ls_ own idx y cy ny ry2 3) (hM : cm_ G y cy ny ry2 d [a1, a2, a3] M (rI_ f)) (hr : (st.map fun v => v.category).sum ≤ 8) (k : ∀ (r : Int32) (N : mm_), f r N → wq_ C G Q (pc + 3) lv (.int r :: st) N) : wq_ C G Q pc lv (a3 :: a2 :: a1 :: st) M := w_s3 X hd hk hM hr (fun v N2 h => by obtain ⟨r, rfl, h2⟩ := h; exact k r N2 h2)
theorem w_v4rI {a1 a2 a3 a4 : Value} {f : Int32 → mm_ → Prop} {y : MethodName} {cy : ByteArray} {ny idx a ci n : Nat} {fs : List Nat} {T : u_T} {ry2 : Option FieldType} (X : cx_ C G own cc nL ry (d + 1)) (hd : decode cc pc = .ok (.invokevirtual idx, 3)) (hk : lk_ own idx y cy ny ry2 4) (hc : vwCl[ci]? = some (y.cls, T, n)) (ha : ds_[a]? = some (.inr (ci, fs))) (hM : cm_ G y cy ny ry2 d (.ref (G.1 a) :: [a1, a2, a3, a4]) M (rI_ f)) (hr : (st.map fun v => v.category).sum ≤ 8) (k : ∀ (r : Int32) (N : mm_), f r N → wq_ C G Q (pc + 3) lv (.int r :: st) N) : wq_ C G Q pc lv (a4 :: a3 :: a2 :: a1 :: .ref (G.1 a) :: st) M := w_v4 X hd hk hc ha hM hr (fun v N2 h => by obtain ⟨r, rfl, h2⟩ := h; exact k r N2 h2)
theorem w_s4rI {a1 a2 a3 a4 : Value} {f : Int32 → mm_ → Prop} {y : MethodName} {cy : ByteArray} {ny idx : Nat} {ry2 : Option FieldType} (X : cx_ C G own cc nL ry (d + 1)) (hd : decode cc pc = .ok (.invokestatic idx, 3)) (hk : ls_ own idx y cy ny ry2 4) (hM : cm_ G y cy ny ry2 d [a1, a2, a3, a4] M (rI_ f)) (hr : (st.map fun v => v.category).sum ≤ 8) (k : ∀ (r : Int32) (N : mm_), f r N → wq_ C G Q (pc + 3) lv (.int r :: st) N) : wq_ C G Q pc lv (a4 :: a3 :: a2 :: a1 :: st) M := w_s4 X hd hk hM hr (fun v N2 h => by obtain ⟨r, rfl, h2⟩ := h; exact k r N2 h2)
theorem w_v5rI {a1 a2 a3 a4 a5 : Value} {f : Int32 → mm_ → Prop} {y : MethodName} {cy : ByteArray} {ny idx a ci n : Nat} {fs : List Nat} {T : u_T} {ry2 : Option FieldType} (X : cx_ C G own cc nL ry (d + 1)) (hd : decode cc pc = .ok (.invokevirtual idx, 3)) (hk : lk_ own idx y cy ny ry2 5) (hc : vwCl[ci]? = some (y.cls, T, n)) (ha : ds_[a]? = some (.inr (ci, fs))) (hM : cm_ G y cy ny ry2 d (.ref (G.1 a) :: [a1, a2, a3, a4, a5]) M (rI_ f)) (hr : (st.map fun v => v.category).sum ≤ 8) (k : ∀ (r : Int32) (N : mm_), f r N → wq_ C G Q (pc + 3) lv (.int r :: st) N) : wq_ C G Q pc lv (a5 :: a4 :: a3 :: a2 :: a1 :: .ref (G.1 a) :: st) M := w_v5 X hd hk hc ha hM hr (fun v N2 h => by obtain ⟨r, rfl, h2⟩ := h; exact k r N2 h2)
theorem w_s5rI {a1 a2 a3 a4 a5 : Value} {f : Int32 → mm_ → Prop} {y : MethodName} {cy : ByteArray} {ny idx : Nat} {ry2 : Option FieldType} (X : cx_ C G own cc nL ry (d + 1)) (hd : decode cc pc = .ok (.invokestatic idx, 3)) (hk : ls_ own idx y cy ny ry2 5) (hM : cm_ G y cy ny ry2 d [a1, a2, a3, a4, a5] M (rI_ f)) (hr : (st.map fun v => v.category).sum ≤ 8) (k : ∀ (r : Int32) (N : mm_), f r N → wq_ C G Q (pc + 3) lv (.int r :: st) N) : wq_ C G Q pc lv (a5 :: a4 :: a3 :: a2 :: a1 :: st) M := w_s5 X hd hk hM hr (fun v N2 h => by obtain ⟨r, rfl, h2⟩ := h; exact k r N2 h2)
theorem w_v0rL {f : Int64 → mm_ → Prop} {y : MethodName} {cy : ByteArray} {ny idx a ci n : Nat} {fs : List Nat} {T : u_T} {ry2 : Option FieldType} (X : cx_ C G own cc nL ry (d + 1)) (hd : decode cc pc = .ok (.invokevirtual idx, 3)) (hk : lk_ own idx y cy ny ry2 0) (hc : vwCl[ci]? = some (y.cls, T, n)) (ha : ds_[a]? = some (.inr (ci, fs))) (hM : cm_ G y cy ny ry2 d (.ref (G.1 a) :: []) M (rL_ f)) (hr : (st.map fun v => v.category).sum ≤ 8) (k : ∀ (r : Int64) (N : mm_), f r N → wq_ C G Q (pc + 3) lv (.long r :: st) N) : wq_ C G Q pc lv (.ref (G.1 a) :: st) M := w_v0 X hd hk hc ha hM hr (fun v N2 h => by obtain ⟨r, rfl, h2⟩ := h; exact k r N2 h2)
theorem w_s0rL {f : Int64 → mm_ → Prop} {y : MethodName} {cy : ByteArray} {ny idx : Nat} {ry2 : Option FieldType} (X : cx_ C G own cc nL ry (d + 1)) (hd : decode cc pc = .ok (.invokestatic idx, 3)) (hk : ls_ own idx y cy ny ry2 0) (hM : cm_ G y cy ny ry2 d [] M (rL_ f)) (hr : (st.map fun v => v.category).sum ≤ 8) (k : ∀ (r : Int64) (N : mm_), f r N → wq_ C G Q (pc + 3) lv (.long r :: st) N) : wq_ C G Q pc lv (st) M := w_s0 X hd hk hM hr (fun v N2 h => by obtain ⟨r, rfl, h2⟩ := h; exact k r N2 h2)
theorem w_v1rL {a1 : Value} {f : Int64 → mm_ → Prop} {y : MethodName} {cy : ByteArray} {ny idx a ci n : Nat} {fs : List Nat} {T : u_T} {ry2 : Option FieldType} (X : cx_ C G own cc nL ry (d + 1)) (hd : decode cc pc = .ok (.invokevirtual idx, 3)) (hk : lk_ own idx y cy ny ry2 1) (hc : vwCl[ci]? = some (y.cls, T, n)) (ha : ds_[a]? = some (.inr (ci, fs))) (hM : cm_ G y cy ny ry2 d (.ref (G.1 a) :: [a1]) M (rL_ f)) (hr : (st.map fun v => v.category).sum ≤ 8) (k : ∀ (r : Int64) (N : mm_), f r N → wq_ C G Q (pc + 3) lv (.long r :: st) N) : wq_ C G Q pc lv (a1 :: .ref (G.1 a) :: st) M := w_v1 X hd hk hc ha hM hr (fun v N2 h => by obtain ⟨r, rfl, h2⟩ := h; exact k r N2 h2)
theorem w_s1rL {a1 : Value} {f : Int64 → mm_ → Prop} {y : MethodName} {cy : ByteArray} {ny idx : Nat} {ry2 : Option FieldType} (X : cx_ C G own cc nL ry (d + 1)) (hd : decode cc pc = .ok (.invokestatic idx, 3)) (hk : ls_ own idx y cy ny ry2 1) (hM : cm_ G y cy ny ry2 d [a1] M (rL_ f)) (hr : (st.map fun v => v.category).sum ≤ 8) (k : ∀ (r : Int64) (N : mm_), f r N → wq_ C G Q (pc + 3) lv (.long r :: st) N) : wq_ C G Q pc lv (a1 :: st) M := w_s1 X hd hk hM hr (fun v N2 h => by obtain ⟨r, rfl, h2⟩ := h; exact k r N2 h2)
theorem w_v2rL {a1 a2 : Value} {f : Int64 → mm_ → Prop} {y : MethodName} {cy : ByteArray} {ny idx a ci n : Nat} {fs : List Nat} {T : u_T} {ry2 : Option FieldType} (X : cx_ C G own cc nL ry (d + 1)) (hd : decode cc pc = .ok (.invokevirtual idx, 3)) (hk : lk_ own idx y cy ny ry2 2) (hc : vwCl[ci]? = some (y.cls, T, n)) (ha : ds_[a]? = some (.inr (ci, fs))) (hM : cm_ G y cy ny ry2 d (.ref (G.1 a) :: [a1, a2]) M (rL_ f)) (hr : (st.map fun v => v.category).sum ≤ 8) (k : ∀ (r : Int64) (N : mm_), f r N → wq_ C G Q (pc + 3) lv (.long r :: st) N) : wq_ C G Q pc lv (a2 :: a1 :: .ref (G.1 a) :: st) M := w_v2 X hd hk hc ha hM hr (fun v N2 h => by obtain ⟨r, rfl, h2⟩ := h; exact k r N2 h2)
theorem w_s2rL {a1 a2 : Value} {f : Int64 → mm_ → Prop} {y : MethodName} {cy : ByteArray} {ny idx : Nat} {ry2 : Option FieldType} (X : cx_ C G own cc nL ry (d + 1)) (hd : decode cc pc = .ok (.invokestatic idx, 3)) (hk : ls_ own idx y cy ny ry2 2) (hM : cm_ G y cy ny ry2 d [a1, a2] M (rL_ f)) (hr : (st.map fun v => v.category).sum ≤ 8) (k : ∀ (r : Int64) (N : mm_), f r N → wq_ C G Q (pc + 3) lv (.long r :: st) N) : wq_ C G Q pc lv (a2 :: a1 :: st) M := w_s2 X hd hk hM hr (fun v N2 h => by obtain ⟨r, rfl, h2⟩ := h; exact k r N2 h2)
theorem w_v3rL {a1 a2 a3 : Value} {f : Int64 → mm_ → Prop} {y : MethodName} {cy : ByteArray} {ny idx a ci n : Nat} {fs : List Nat} {T : u_T} {ry2 : Option FieldType} (X : cx_ C G own cc nL ry (d + 1)) (hd : decode cc pc = .ok (.invokevirtual idx, 3)) (hk : lk_ own idx y cy ny ry2 3) (hc : vwCl[ci]? = some (y.cls, T, n)) (ha : ds_[a]? = some (.inr (ci, fs))) (hM : cm_ G y cy ny ry2 d (.ref (G.1 a) :: [a1, a2, a3]) M (rL_ f)) (hr : (st.map fun v => v.category).sum ≤ 8) (k : ∀ (r : Int64) (N : mm_), f r N → wq_ C G Q (pc + 3) lv (.long r :: st) N) : wq_ C G Q pc lv (a3 :: a2 :: a1 :: .ref (G.1 a) :: st) M := w_v3 X hd hk hc ha hM hr (fun v N2 h => by obtain ⟨r, rfl, h2⟩ := h; exact k r N2 h2)
theorem w_s3rL {a1 a2 a3 : Value} {f : Int64 → mm_ → Prop} {y : MethodName} {cy : ByteArray} {ny idx : Nat} {ry2 : Option FieldType} (X : cx_ C G own cc nL ry (d + 1)) (hd : decode cc pc = .ok (.invokestatic idx, 3)) (hk : ls_ own idx y cy ny ry2 3) (hM : cm_ G y cy ny ry2 d [a1, a2, a3] M (rL_ f)) (hr : (st.map fun v => v.category).sum ≤ 8) (k : ∀ (r : Int64) (N : mm_), f r N → wq_ C G Q (pc + 3) lv (.long r :: st) N) : wq_ C G Q pc lv (a3 :: a2 :: a1 :: st) M := w_s3 X hd hk hM hr (fun v N2 h => by obtain ⟨r, rfl, h2⟩ := h; exact k r N2 h2)
theorem w_v4rL {a1 a2 a3 a4 : Value} {f : Int64 → mm_ → Prop} {y : MethodName} {cy : ByteArray} {ny idx a ci n : Nat} {fs : List Nat} {T : u_T} {ry2 : Option FieldType} (X : cx_ C G own cc nL ry (d + 1)) (hd : decode cc pc = .ok (.invokevirtual idx, 3)) (hk : lk_ own idx y cy ny ry2 4) (hc : vwCl[ci]? = some (y.cls, T, n)) (ha : ds_[a]? = some (.inr (ci, fs))) (hM : cm_ G y cy ny ry2 d (.ref (G.1 a) :: [a1, a2, a3, a4]) M (rL_ f)) (hr : (st.map fun v => v.category).sum ≤ 8) (k : ∀ (r : Int64) (N : mm_), f r N → wq_ C G Q (pc + 3) lv (.long r :: st) N) : wq_ C G Q pc lv (a4 :: a3 :: a2 :: a1 :: .ref (G.1 a) :: st) M := w_v4 X hd hk hc ha hM hr (fun v N2 h => by obtain ⟨r, rfl, h2⟩ := h; exact k r N2 h2)
theorem w_s4rL {a1 a2 a3 a4 : Value} {f : Int64 → mm_ → Prop} {y : MethodName} {cy : ByteArray} {ny idx : Nat} {ry2 : Option FieldType} (X : cx_ C G own cc nL ry (d + 1)) (hd : decode cc pc = .ok (.invokestatic idx, 3)) (hk : ls_ own idx y cy ny ry2 4) (hM : cm_ G y cy ny ry2 d [a1, a2, a3, a4] M (rL_ f)) (hr : (st.map fun v => v.category).sum ≤ 8) (k : ∀ (r : Int64) (N : mm_), f r N → wq_ C G Q (pc + 3) lv (.long r :: st) N) : wq_ C G Q pc lv (a4 :: a3 :: a2 :: a1 :: st) M := w_s4 X hd hk hM hr (fun v N2 h => by obtain ⟨r, rfl, h2⟩ := h; exact k r N2 h2)
theorem w_v5rL {a1 a2 a3 a4 a5 : Value} {f : Int64 → mm_ → Prop} {y : MethodName} {cy : ByteArray} {ny idx a ci n : Nat} {fs : List Nat} {T : u_T} {ry2 : Option FieldType} (X : cx_ C G own cc nL ry (d + 1)) (hd : decode cc pc = .ok (.invokevirtual idx, 3)) (hk : lk_ own idx y cy ny ry2 5) (hc : vwCl[ci]? = some (y.cls, T, n)) (ha : ds_[a]? = some (.inr (ci, fs))) (hM : cm_ G y cy ny ry2 d (.ref (G.1 a) :: [a1, a2, a3, a4, a5]) M (rL_ f)) (hr : (st.map fun v => v.category).sum ≤ 8) (k : ∀ (r : Int64) (N : mm_), f r N → wq_ C G Q (pc + 3) lv (.long r :: st) N) : wq_ C G Q pc lv (a5 :: a4 :: a3 :: a2 :: a1 :: .ref (G.1 a) :: st) M := w_v5 X hd hk hc ha hM hr (fun v N2 h => by obtain ⟨r, rfl, h2⟩ := h; exact k r N2 h2)
theorem w_s5rL {a1 a2 a3 a4 a5 : Value} {f : Int64 → mm_ → Prop} {y : MethodName} {cy : ByteArray} {ny idx : Nat} {ry2 : Option FieldType} (X : cx_ C G own cc nL ry (d + 1)) (hd : decode cc pc = .ok (.invokestatic idx, 3)) (hk : ls_ own idx y cy ny ry2 5) (hM : cm_ G y cy ny ry2 d [a1, a2, a3, a4, a5] M (rL_ f)) (hr : (st.map fun v => v.category).sum ≤ 8) (k : ∀ (r : Int64) (N : mm_), f r N → wq_ C G Q (pc + 3) lv (.long r :: st) N) : wq_ C G Q pc lv (a5 :: a4 :: a3 :: a2 :: a1 :: st) M := w_s5 X hd hk hM hr (fun v N2 h => by obtain ⟨r, rfl, h2⟩ := h; exact k r N2 h2)
theorem w_v0rV {f : mm_ → Prop} {y : MethodName} {cy : ByteArray} {ny idx a ci n : Nat} {fs : List Nat} {T : u_T} {ry2 : Option FieldType} (X : cx_ C G own cc nL ry (d + 1)) (hd : decode cc pc = .ok (.invokevirtual idx, 3)) (hk : lk_ own idx y cy ny ry2 0) (hc : vwCl[ci]? = some (y.cls, T, n)) (ha : ds_[a]? = some (.inr (ci, fs))) (hM : cm_ G y cy ny ry2 d (.ref (G.1 a) :: []) M (rV_ f)) (hr : (st.map fun v => v.category).sum ≤ 8) (k : ∀ N : mm_, f N → wq_ C G Q (pc + 3) lv st N) : wq_ C G Q pc lv (.ref (G.1 a) :: st) M := w_v0 X hd hk hc ha hM hr (fun v N2 h => by obtain ⟨rfl, h2⟩ := h; exact k N2 h2)
theorem w_s0rV {f : mm_ → Prop} {y : MethodName} {cy : ByteArray} {ny idx : Nat} {ry2 : Option FieldType} (X : cx_ C G own cc nL ry (d + 1)) (hd : decode cc pc = .ok (.invokestatic idx, 3)) (hk : ls_ own idx y cy ny ry2 0) (hM : cm_ G y cy ny ry2 d [] M (rV_ f)) (hr : (st.map fun v => v.category).sum ≤ 8) (k : ∀ N : mm_, f N → wq_ C G Q (pc + 3) lv st N) : wq_ C G Q pc lv (st) M := w_s0 X hd hk hM hr (fun v N2 h => by obtain ⟨rfl, h2⟩ := h; exact k N2 h2)
theorem w_v1rV {a1 : Value} {f : mm_ → Prop} {y : MethodName} {cy : ByteArray} {ny idx a ci n : Nat} {fs : List Nat} {T : u_T} {ry2 : Option FieldType} (X : cx_ C G own cc nL ry (d + 1)) (hd : decode cc pc = .ok (.invokevirtual idx, 3)) (hk : lk_ own idx y cy ny ry2 1) (hc : vwCl[ci]? = some (y.cls, T, n)) (ha : ds_[a]? = some (.inr (ci, fs))) (hM : cm_ G y cy ny ry2 d (.ref (G.1 a) :: [a1]) M (rV_ f)) (hr : (st.map fun v => v.category).sum ≤ 8) (k : ∀ N : mm_, f N → wq_ C G Q (pc + 3) lv st N) : wq_ C G Q pc lv (a1 :: .ref (G.1 a) :: st) M := w_v1 X hd hk hc ha hM hr (fun v N2 h => by obtain ⟨rfl, h2⟩ := h; exact k N2 h2)
theorem w_s1rV {a1 : Value} {f : mm_ → Prop} {y : MethodName} {cy : ByteArray} {ny idx : Nat} {ry2 : Option FieldType} (X : cx_ C G own cc nL ry (d + 1)) (hd : decode cc pc = .ok (.invokestatic idx, 3)) (hk : ls_ own idx y cy ny ry2 1) (hM : cm_ G y cy ny ry2 d [a1] M (rV_ f)) (hr : (st.map fun v => v.category).sum ≤ 8) (k : ∀ N : mm_, f N → wq_ C G Q (pc + 3) lv st N) : wq_ C G Q pc lv (a1 :: st) M := w_s1 X hd hk hM hr (fun v N2 h => by obtain ⟨rfl, h2⟩ := h; exact k N2 h2)
theorem w_v2rV {a1 a2 : Value} {f : mm_ → Prop} {y : MethodName} {cy : ByteArray} {ny idx a ci n : Nat} {fs : List Nat} {T : u_T} {ry2 : Option FieldType} (X : cx_ C G own cc nL ry (d + 1)) (hd : decode cc pc = .ok (.invokevirtual idx, 3)) (hk : lk_ own idx y cy ny ry2 2) (hc : vwCl[ci]? = some (y.cls, T, n)) (ha : ds_[a]? = some (.inr (ci, fs))) (hM : cm_ G y cy ny ry2 d (.ref (G.1 a) :: [a1, a2]) M (rV_ f)) (hr : (st.map fun v => v.category).sum ≤ 8) (k : ∀ N : mm_, f N → wq_ C G Q (pc + 3) lv st N) : wq_ C G Q pc lv (a2 :: a1 :: .ref (G.1 a) :: st) M := w_v2 X hd hk hc ha hM hr (fun v N2 h => by obtain ⟨rfl, h2⟩ := h; exact k N2 h2)
theorem w_s2rV {a1 a2 : Value} {f : mm_ → Prop} {y : MethodName} {cy : ByteArray} {ny idx : Nat} {ry2 : Option FieldType} (X : cx_ C G own cc nL ry (d + 1)) (hd : decode cc pc = .ok (.invokestatic idx, 3)) (hk : ls_ own idx y cy ny ry2 2) (hM : cm_ G y cy ny ry2 d [a1, a2] M (rV_ f)) (hr : (st.map fun v => v.category).sum ≤ 8) (k : ∀ N : mm_, f N → wq_ C G Q (pc + 3) lv st N) : wq_ C G Q pc lv (a2 :: a1 :: st) M := w_s2 X hd hk hM hr (fun v N2 h => by obtain ⟨rfl, h2⟩ := h; exact k N2 h2)
theorem w_v3rV {a1 a2 a3 : Value} {f : mm_ → Prop} {y : MethodName} {cy : ByteArray} {ny idx a ci n : Nat} {fs : List Nat} {T : u_T} {ry2 : Option FieldType} (X : cx_ C G own cc nL ry (d + 1)) (hd : decode cc pc = .ok (.invokevirtual idx, 3)) (hk : lk_ own idx y cy ny ry2 3) (hc : vwCl[ci]? = some (y.cls, T, n)) (ha : ds_[a]? = some (.inr (ci, fs))) (hM : cm_ G y cy ny ry2 d (.ref (G.1 a) :: [a1, a2, a3]) M (rV_ f)) (hr : (st.map fun v => v.category).sum ≤ 8) (k : ∀ N : mm_, f N → wq_ C G Q (pc + 3) lv st N) : wq_ C G Q pc lv (a3 :: a2 :: a1 :: .ref (G.1 a) :: st) M := w_v3 X hd hk hc ha hM hr (fun v N2 h => by obtain ⟨rfl, h2⟩ := h; exact k N2 h2)
theorem w_s3rV {a1 a2 a3 : Value} {f : mm_ → Prop} {y : MethodName} {cy : ByteArray} {ny idx : Nat} {ry2 : Option FieldType} (X : cx_ C G own cc nL ry (d + 1)) (hd : decode cc pc = .ok (.invokestatic idx, 3)) (hk : ls_ own idx y cy ny ry2 3) (hM : cm_ G y cy ny ry2 d [a1, a2, a3] M (rV_ f)) (hr : (st.map fun v => v.category).sum ≤ 8) (k : ∀ N : mm_, f N → wq_ C G Q (pc + 3) lv st N) : wq_ C G Q pc lv (a3 :: a2 :: a1 :: st) M := w_s3 X hd hk hM hr (fun v N2 h => by obtain ⟨rfl, h2⟩ := h; exact k N2 h2)
theorem w_v4rV {a1 a2 a3 a4 : Value} {f : mm_ → Prop} {y : MethodName} {cy : ByteArray} {ny idx a ci n : Nat} {fs : List Nat} {T : u_T} {ry2 : Option FieldType} (X : cx_ C G own cc nL ry (d + 1)) (hd : decode cc pc = .ok (.invokevirtual idx, 3)) (hk : lk_ own idx y cy ny ry2 4) (hc : vwCl[ci]? = some (y.cls, T, n)) (ha : ds_[a]? = some (.inr (ci, fs))) (hM : cm_ G y cy ny ry2 d (.ref (G.1 a) :: [a1, a2, a3, a4]) M (rV_ f)) (hr : (st.map fun v => v.category).sum ≤ 8) (k : ∀ N : mm_, f N → wq_ C G Q (pc + 3) lv st N) : wq_ C G Q pc lv (a4 :: a3 :: a2 :: a1 :: .ref (G.1 a) :: st) M := w_v4 X hd hk hc ha hM hr (fun v N2 h => by obtain ⟨rfl, h2⟩ := h; exact k N2 h2)
theorem w_s4rV {a1 a2 a3 a4 : Value} {f : mm_ → Prop} {y : MethodName} {cy : ByteArray} {ny idx : Nat} {ry2 : Option FieldType} (X : cx_ C G own cc nL ry (d + 1)) (hd : decode cc pc = .ok (.invokestatic idx, 3)) (hk : ls_ own idx y cy ny ry2 4) (hM : cm_ G y cy ny ry2 d [a1, a2, a3, a4] M (rV_ f)) (hr : (st.map fun v => v.category).sum ≤ 8) (k : ∀ N : mm_, f N → wq_ C G Q (pc + 3) lv st N) : wq_ C G Q pc lv (a4 :: a3 :: a2 :: a1 :: st) M := w_s4 X hd hk hM hr (fun v N2 h => by obtain ⟨rfl, h2⟩ := h; exact k N2 h2)
theorem w_v5rV {a1 a2 a3 a4 a5 : Value} {f : mm_ → Prop} {y : MethodName} {cy : ByteArray} {ny idx a ci n : Nat} {fs : List Nat} {T : u_T} {ry2 : Option FieldType} (X : cx_ C G own cc nL ry (d + 1)) (hd : decode cc pc = .ok (.invokevirtual idx, 3)) (hk : lk_ own idx y cy ny ry2 5) (hc : vwCl[ci]? = some (y.cls, T, n)) (ha : ds_[a]? = some (.inr (ci, fs))) (hM : cm_ G y cy ny ry2 d (.ref (G.1 a) :: [a1, a2, a3, a4, a5]) M (rV_ f)) (hr : (st.map fun v => v.category).sum ≤ 8) (k : ∀ N : mm_, f N → wq_ C G Q (pc + 3) lv st N) : wq_ C G Q pc lv (a5 :: a4 :: a3 :: a2 :: a1 :: .ref (G.1 a) :: st) M := w_v5 X hd hk hc ha hM hr (fun v N2 h => by obtain ⟨rfl, h2⟩ := h; exact k N2 h2)
theorem w_s5rV {a1 a2 a3 a4 a5 : Value} {f : mm_ → Prop} {y : MethodName} {cy : ByteArray} {ny idx : Nat} {ry2 : Option FieldType} (X : cx_ C G own cc nL ry (d + 1)) (hd : decode cc pc = .ok (.invokestatic idx, 3)) (hk : ls_ own idx y cy ny ry2 5) (hM : cm_ G y cy ny ry2 d [a1, a2, a3, a4, a5] M (rV_ f)) (hr : (st.map fun v => v.category).sum ≤ 8) (k : ∀ N : mm_, f N → wq_ C G Q (pc + 3) lv st N) : wq_ C G Q pc lv (a5 :: a4 :: a3 :: a2 :: a1 :: st) M := w_s5 X hd hk hM hr (fun v N2 h => by obtain ⟨rfl, h2⟩ := h; exact k N2 h2)
theorem w_irF {r x : Int32} {N : mm_} (X : cx_ C G own cc nL (some .int) d) (hd : decode cc pc = .ok (.ireturn, 1)) (h1 : x = r) (h2 : M = N) : wq_ C G (qe_ C G (fI_ r N)) pc lv [.int x] M := w_ireturn X hd ⟨by rw [h1], h2⟩
theorem w_irR {f : Int32 → mm_ → Prop} {x : Int32} (X : cx_ C G own cc nL (some .int) d) (hd : decode cc pc = .ok (.ireturn, 1)) (h : f x M) : wq_ C G (qe_ C G (rI_ f)) pc lv [.int x] M := w_ireturn X hd ⟨x, rfl, h⟩
theorem w_zrF {r x : Int32} {N : mm_} (X : cx_ C G own cc nL (some .boolean) d) (hd : decode cc pc = .ok (.ireturn, 1)) (hz : x = 0 ∨ x = 1) (h1 : x = r) (h2 : M = N) : wq_ C G (qe_ C G (fI_ r N)) pc lv [.int x] M := w_zreturn X hd (zb_ hz).1 ⟨by rw [h1], h2⟩
theorem w_zrR {f : Int32 → mm_ → Prop} {x : Int32} (X : cx_ C G own cc nL (some .boolean) d) (hd : decode cc pc = .ok (.ireturn, 1)) (hz : x = 0 ∨ x = 1) (h : f x M) : wq_ C G (qe_ C G (rI_ f)) pc lv [.int x] M := w_zreturn X hd (zb_ hz).1 ⟨x, rfl, h⟩
theorem w_lrF {r x : Int64} {N : mm_} (X : cx_ C G own cc nL (some .long) d) (hd : decode cc pc = .ok (.lreturn, 1)) (h1 : x = r) (h2 : M = N) : wq_ C G (qe_ C G (fL_ r N)) pc lv [.long x] M := w_lreturn X hd ⟨by rw [h1], h2⟩
theorem w_lrR {f : Int64 → mm_ → Prop} {x : Int64} (X : cx_ C G own cc nL (some .long) d) (hd : decode cc pc = .ok (.lreturn, 1)) (h : f x M) : wq_ C G (qe_ C G (rL_ f)) pc lv [.long x] M := w_lreturn X hd ⟨x, rfl, h⟩
theorem w_vrF {N : mm_} (X : cx_ C G own cc nL none d) (hd : decode cc pc = .ok (.return_, 1)) (h2 : M = N) : wq_ C G (qe_ C G (fV_ N)) pc lv [] M := w_vreturn X hd ⟨rfl, h2⟩
theorem w_vrR {f : mm_ → Prop} (X : cx_ C G own cc nL none d) (hd : decode cc pc = .ok (.return_, 1)) (h : f M) : wq_ C G (qe_ C G (rV_ f)) pc lv [] M := w_vreturn X hd ⟨rfl, h⟩
end KINDS
end
section
/-! the reference's leaves: bytes, faults -/
def il_ (c : Int32) : Int32 := if 97 ≤ c ∧ c ≤ 122 then 1 else 0
def ig_ (c : Int32) : Int32 := if 48 ≤ c ∧ c ≤ 57 then 1 else 0
def io_ (c : Int32) : Int32 := if il_ c = 1 ∨ c = 46 then 1 else 0
theorem il_01 (c : Int32) : il_ c = 0 ∨ il_ c = 1 := by unfold il_; split <;> simp
theorem ig_01 (c : Int32) : ig_ c = 0 ∨ ig_ c = 1 := by unfold ig_; split <;> simp
theorem io_01 (c : Int32) : io_ c = 0 ∨ io_ c = 1 := by unfold io_; split <;> simp
/-- the byte at place k of a tape of n bytes -/
def ba_ (M : mm_) (k : Int32) : Int32 := if k < M.1 0 2 then M.1 1 k.toNatClampNeg else -1
def fa_ (M : mm_) (f w : Int32) : mm_ := if M.1 0 3 = 0 then sI_ (sI_ M 0 3 f) 0 4 w else M
set_option maxRecDepth 100000 in
set_option maxHeartbeats 4000000 in
theorem c12_isLetter (G : gg_) (hG : gd_ G) (d : Nat) (M : mm_) (c : Int32) : cm_ G yX12_isLetter cX12_isLetter 1 (some .boolean) (d) [.int c] M (fI_ (il_ c) M) := by
  refine cm_of hG (by decide) (Nat.le_of_ble_eq_true rfl) (fun C X => ?_)
  refine w_iload_n X dX12_isLetter_0 rfl rfl ?_
  refine w_bipush (v := 97) X dX12_isLetter_1 (by decide) ?_
  refine w_icmp_lt (tgt := 16) X dX12_isLetter_3 (by decide) (fun h3 => ?_) (fun h3 => ?_)
  · refine w_iconst (v := 0) X dX12_isLetter_16 (by decide) ?_
    refine w_zrF X dX12_isLetter_17 (by first | exact Or.inl rfl | exact Or.inr rfl) ?_ rfl
    unfold il_
    first | exact (if_pos ⟨Int32.not_lt.mp h3, Int32.not_lt.mp h9⟩).symm | exact (if_neg (fun q => Int32.not_le.mpr h3 q.1)).symm | exact (if_neg (fun q => Int32.not_le.mpr h9 q.2)).symm
  · refine w_iload_n X dX12_isLetter_6 rfl rfl ?_
    refine w_bipush (v := 122) X dX12_isLetter_7 (by decide) ?_
    refine w_icmp_gt (tgt := 16) X dX12_isLetter_9 (by decide) (fun h9 => ?_) (fun h9 => ?_)
    · refine w_iconst (v := 0) X dX12_isLetter_16 (by decide) ?_
      refine w_zrF X dX12_isLetter_17 (by first | exact Or.inl rfl | exact Or.inr rfl) ?_ rfl
      unfold il_
      first | exact (if_pos ⟨Int32.not_lt.mp h3, Int32.not_lt.mp h9⟩).symm | exact (if_neg (fun q => Int32.not_le.mpr h3 q.1)).symm | exact (if_neg (fun q => Int32.not_le.mpr h9 q.2)).symm
    · refine w_iconst (v := 1) X dX12_isLetter_12 (by decide) ?_
      refine w_goto (tgt := 17) X dX12_isLetter_13 (by decide) ?_
      refine w_zrF X dX12_isLetter_17 (by first | exact Or.inl rfl | exact Or.inr rfl) ?_ rfl
      unfold il_
      first | exact (if_pos ⟨Int32.not_lt.mp h3, Int32.not_lt.mp h9⟩).symm | exact (if_neg (fun q => Int32.not_le.mpr h3 q.1)).symm | exact (if_neg (fun q => Int32.not_le.mpr h9 q.2)).symm
set_option maxRecDepth 100000 in
set_option maxHeartbeats 4000000 in
theorem c12_isFigure (G : gg_) (hG : gd_ G) (d : Nat) (M : mm_) (c : Int32) : cm_ G yX12_isFigure cX12_isFigure 1 (some .boolean) (d) [.int c] M (fI_ (ig_ c) M) := by
  refine cm_of hG (by decide) (Nat.le_of_ble_eq_true rfl) (fun C X => ?_)
  refine w_iload_n X dX12_isFigure_0 rfl rfl ?_
  refine w_bipush (v := 48) X dX12_isFigure_1 (by decide) ?_
  refine w_icmp_lt (tgt := 16) X dX12_isFigure_3 (by decide) (fun h3 => ?_) (fun h3 => ?_)
  · refine w_iconst (v := 0) X dX12_isFigure_16 (by decide) ?_
    refine w_zrF X dX12_isFigure_17 (by first | exact Or.inl rfl | exact Or.inr rfl) ?_ rfl
    unfold ig_
    first | exact (if_pos ⟨Int32.not_lt.mp h3, Int32.not_lt.mp h9⟩).symm | exact (if_neg (fun q => Int32.not_le.mpr h3 q.1)).symm | exact (if_neg (fun q => Int32.not_le.mpr h9 q.2)).symm
  · refine w_iload_n X dX12_isFigure_6 rfl rfl ?_
    refine w_bipush (v := 57) X dX12_isFigure_7 (by decide) ?_
    refine w_icmp_gt (tgt := 16) X dX12_isFigure_9 (by decide) (fun h9 => ?_) (fun h9 => ?_)
    · refine w_iconst (v := 0) X dX12_isFigure_16 (by decide) ?_
      refine w_zrF X dX12_isFigure_17 (by first | exact Or.inl rfl | exact Or.inr rfl) ?_ rfl
      unfold ig_
      first | exact (if_pos ⟨Int32.not_lt.mp h3, Int32.not_lt.mp h9⟩).symm | exact (if_neg (fun q => Int32.not_le.mpr h3 q.1)).symm | exact (if_neg (fun q => Int32.not_le.mpr h9 q.2)).symm
    · refine w_iconst (v := 1) X dX12_isFigure_12 (by decide) ?_
      refine w_goto (tgt := 17) X dX12_isFigure_13 (by decide) ?_
      refine w_zrF X dX12_isFigure_17 (by first | exact Or.inl rfl | exact Or.inr rfl) ?_ rfl
      unfold ig_
      first | exact (if_pos ⟨Int32.not_lt.mp h3, Int32.not_lt.mp h9⟩).symm | exact (if_neg (fun q => Int32.not_le.mpr h3 q.1)).symm | exact (if_neg (fun q => Int32.not_le.mpr h9 q.2)).symm
set_option maxRecDepth 100000 in
set_option maxHeartbeats 4000000 in
theorem c12_isOfRow (G : gg_) (hG : gd_ G) (d : Nat) (M : mm_) (c : Int32) : cm_ G yX12_isOfRow cX12_isOfRow 1 (some .boolean) (d + 1) [.int c] M (fI_ (io_ c) M) := by
  refine cm_of hG (by decide) (Nat.le_of_ble_eq_true rfl) (fun C X => ?_)
  refine w_iload_n X dX12_isOfRow_0 rfl rfl ?_
  refine w_s1fI X dX12_isOfRow_1 k12_isLetter (c12_isLetter G hG _ _ _) (Nat.le_of_ble_eq_true rfl) ?_
  refine w_if_ne (tgt := 13) X dX12_isOfRow_4 (by decide) (fun h4 => ?_) (fun h4 => ?_)
  · refine w_iconst (v := 1) X dX12_isOfRow_13 (by decide) ?_
    refine w_goto (tgt := 18) X dX12_isOfRow_14 (by decide) ?_
    refine w_zrF X dX12_isOfRow_18 (by first | exact Or.inl rfl | exact Or.inr rfl) ?_ rfl
    unfold io_
    rcases il_01 c with h0 | h0 <;> simp_all
  · refine w_iload_n X dX12_isOfRow_7 rfl rfl ?_
    refine w_bipush (v := 46) X dX12_isOfRow_8 (by decide) ?_
    refine w_icmp_ne (tgt := 17) X dX12_isOfRow_10 (by decide) (fun h10 => ?_) (fun h10 => ?_)
    · refine w_iconst (v := 0) X dX12_isOfRow_17 (by decide) ?_
      refine w_zrF X dX12_isOfRow_18 (by first | exact Or.inl rfl | exact Or.inr rfl) ?_ rfl
      unfold io_
      rcases il_01 c with h0 | h0 <;> simp_all
    · refine w_iconst (v := 1) X dX12_isOfRow_13 (by decide) ?_
      refine w_goto (tgt := 18) X dX12_isOfRow_14 (by decide) ?_
      refine w_zrF X dX12_isOfRow_18 (by first | exact Or.inl rfl | exact Or.inr rfl) ?_ rfl
      unfold io_
      rcases il_01 c with h0 | h0 <;> simp_all
set_option maxRecDepth 100000 in
set_option maxHeartbeats 4000000 in
theorem c12_byteAt (G : gg_) (hG : gd_ G) (d : Nat) (M : mm_) (k : Int32) (hk : k < M.1 0 2 → vp_in k 200) : cm_ G yX12_byteAt cX12_byteAt 2 (some .int) (d) [.ref (G.1 0), .int k] M (fI_ (ba_ M k) M) := by
  refine cm_of hG (by decide) (Nat.le_of_ble_eq_true rfl) (fun C X => ?_)
  refine w_iload_n X dX12_byteAt_0 rfl rfl ?_
  refine w_aload_n X dX12_byteAt_1 rfl rfl ?_
  refine g12_size X dX12_byteAt_2 ?_
  refine w_icmp_ge (tgt := 17) X dX12_byteAt_5 (by decide) (fun h5 => ?_) (fun h5 => ?_)
  · refine w_iconst (v := -1) X dX12_byteAt_17 (by decide) ?_
    refine w_irF X dX12_byteAt_18 ?_ rfl
    unfold ba_
    first | exact (if_pos (Int32.not_le.mp h5)).symm | exact (if_neg (Int32.not_lt.mpr h5)).symm
  · refine w_aload_n X dX12_byteAt_8 rfl rfl ?_
    refine g12_tape X dX12_byteAt_9 ?_
    refine w_iload_n X dX12_byteAt_12 rfl rfl ?_
    refine w_iaload X dX12_byteAt_13 rfl rfl (hk (Int32.not_le.mp h5)) ?_
    refine w_goto (tgt := 18) X dX12_byteAt_14 (by decide) ?_
    refine w_irF X dX12_byteAt_18 ?_ rfl
    unfold ba_
    first | exact (if_pos (Int32.not_le.mp h5)).symm | exact (if_neg (Int32.not_lt.mpr h5)).symm
set_option maxRecDepth 100000 in
set_option maxHeartbeats 4000000 in
theorem c12_fail (G : gg_) (hG : gd_ G) (d : Nat) (M : mm_) (f w : Int32) : cm_ G yX12_fail cX12_fail 3 none (d) [.ref (G.1 0), .int f, .int w] M (fV_ (fa_ M f w)) := by
  refine cm_of hG (by decide) (Nat.le_of_ble_eq_true rfl) (fun C X => ?_)
  refine w_aload_n X dX12_fail_0 rfl rfl ?_
  refine g12_fault X dX12_fail_1 ?_
  refine w_if_ne (tgt := 17) X dX12_fail_4 (by decide) (fun h4 => ?_) (fun h4 => ?_)
  · refine w_vrF X dX12_fail_17 ?_
    unfold fa_
    first | exact (if_pos (Decidable.not_not.mp h4)).symm | exact (if_neg h4).symm | exact (if_pos h4).symm
  · refine w_aload_n X dX12_fail_7 rfl rfl ?_
    refine w_iload_n X dX12_fail_8 rfl rfl ?_
    refine p12_fault X dX12_fail_9 ?_
    refine w_aload_n X dX12_fail_12 rfl rfl ?_
    refine w_iload_n X dX12_fail_13 rfl rfl ?_
    refine p12_place X dX12_fail_14 ?_
    refine w_vrF X dX12_fail_17 ?_
    unfold fa_
    first | exact (if_pos (Decidable.not_not.mp h4)).symm | exact (if_neg h4).symm | exact (if_pos h4).symm
set_option maxRecDepth 100000 in
set_option maxHeartbeats 4000000 in
theorem c12_fault (G : gg_) (hG : gd_ G) (d : Nat) (M : mm_) : cm_ G yX12_fault cX12_fault 1 (some .int) (d) [.ref (G.1 0)] M (fI_ (M.1 0 3) (sI_ M 0 0 0)) := by
  refine cm_of hG (by decide) (Nat.le_of_ble_eq_true rfl) (fun C X => ?_)
  refine w_aload_n X dX12_fault_0 rfl rfl ?_
  refine w_iconst (v := 0) X dX12_fault_1 (by decide) ?_
  refine p12_thrown X dX12_fault_2 ?_
  refine w_aload_n X dX12_fault_5 rfl rfl ?_
  refine g12_fault X dX12_fault_6 ?_
  exact w_irF X dX12_fault_9 (by simp [sI_]) rfl
set_option maxRecDepth 100000 in
set_option maxHeartbeats 4000000 in
theorem c12_wipe (G : gg_) (hG : gd_ G) (d : Nat) (M : mm_) : cm_ G yX12_wipe cX12_wipe 2 (some .int) (d) [.ref (G.1 0)] M (fI_ (M.1 0 2) (sI_ (sI_ M 0 0 0) 0 2 0)) := by
  refine cm_of hG (by decide) (Nat.le_of_ble_eq_true rfl) (fun C X => ?_)
  refine w_aload_n X dX12_wipe_0 rfl rfl ?_
  refine w_iconst (v := 0) X dX12_wipe_1 (by decide) ?_
  refine p12_thrown X dX12_wipe_2 ?_
  refine w_aload_n X dX12_wipe_5 rfl rfl ?_
  refine g12_size X dX12_wipe_6 ?_
  refine w_istore_n X dX12_wipe_9 rfl (by decide) ?_
  refine w_aload_n X dX12_wipe_10 rfl rfl ?_
  refine w_iconst (v := 0) X dX12_wipe_11 (by decide) ?_
  refine p12_size X dX12_wipe_12 ?_
  refine w_iload_n X dX12_wipe_15 rfl rfl ?_
  exact w_irF X dX12_wipe_16 (by simp [sI_]) rfl
end
section
/-! the reference's rows and names -/
theorem sI_sI (M : mm_) (a i : Nat) (v w : Int32) : sI_ (sI_ M a i v) a i w = sI_ M a i w := by
  unfold sI_; congr 1; funext x j; by_cases h : x = a ∧ j = i <;> simp [h]
theorem sL_sL (M : mm_) (a i : Nat) (v w : Int64) : sL_ (sL_ M a i v) a i w = sL_ M a i w := by
  unfold sL_; congr 2; funext x j; by_cases h : x = a ∧ j = i <;> simp [h]
theorem sI_at (M : mm_) (a i : Nat) (v : Int32) : (sI_ M a i v).1 a i = v := by simp [sI_]
theorem sI_ne (M : mm_) (a i : Nat) (v : Int32) {x j : Nat} (h : ¬ (x = a ∧ j = i)) : (sI_ M a i v).1 x j = M.1 x j := by simp only [sI_, if_neg h]
theorem sL_at (M : mm_) (a i : Nat) (v : Int64) : (sL_ M a i v).2.1 a i = v := by simp [sL_]
theorem sL_ne (M : mm_) (a i : Nat) (v : Int64) {x j : Nat} (h : ¬ (x = a ∧ j = i)) : (sL_ M a i v).2.1 x j = M.2.1 x j := by simp only [sL_, if_neg h]
theorem gI_sI (M : mm_) (a i : Nat) (v : Int32) (x j : Nat) : (sI_ M a i v).1 x j = if x = a ∧ j = i then v else M.1 x j := rfl
theorem gI_sL (M : mm_) (a i : Nat) (v : Int64) (x j : Nat) : (sL_ M a i v).1 x j = M.1 x j := rfl
theorem gL_sI (M : mm_) (a i : Nat) (v : Int32) (x j : Nat) : (sI_ M a i v).2.1 x j = M.2.1 x j := rfl
theorem gL_sL (M : mm_) (a i : Nat) (v : Int64) (x j : Nat) : (sL_ M a i v).2.1 x j = if x = a ∧ j = i then v else M.2.1 x j := rfl
/-- the tape has n bytes -/
def tz_ (M : mm_) (n : Nat) : Prop := M.1 0 2 = nI n ∧ n ≤ 200
def bf_ (M : mm_) (n k : Nat) : Int32 := if k < n then M.1 1 k else -1
theorem ba_bf {M : mm_} {n k : Nat} (h : tz_ M n) (hk : k < 2 ^ 31) : ba_ M (nI k) = bf_ M n k := by
  unfold ba_ bf_
  rw [h.1]
  have hn := h.2
  by_cases hc : k < n
  · rw [if_pos ((nI_ltI hk (by omega)).mpr hc), if_pos hc, pk_cl k rfl hk]
  · rw [if_neg (fun q => hc ((nI_ltI hk (by omega)).mp q)), if_neg hc]
theorem tz_in {M : mm_} {n k : Nat} (h : tz_ M n) (hk : k < 2 ^ 31) (q : nI k < M.1 0 2) : vp_in (nI k) 200 := by
  have hn := h.2
  rw [h.1] at q
  have := (nI_ltI hk (by omega)).mp q
  exact vp_in_nI (by omega) (by omega)
def rn_ (f : Nat → Int32) : Nat → Nat → Nat
  | 0, _ => 0
  | u + 1, k => if io_ (f k) = 1 then rn_ f u (k + 1) + 1 else 0
theorem rn_le (f : Nat → Int32) : ∀ u k, rn_ f u k ≤ u
  | 0, _ => Nat.le_refl _
  | u + 1, k => by
    unfold rn_
    split
    · exact Nat.succ_le_succ (rn_le f u (k + 1))
    · exact Nat.zero_le _
/-- how many letters and points stand from place k on -/
def rz_ (M : mm_) (n k : Nat) : Nat := rn_ (bf_ M n) (n - k) k
theorem rz_le (M : mm_) (n k : Nat) : rz_ M n k ≤ n - k := rn_le _ _ _
def nc_ (c : Int32) : Int32 := if c = 46 then 27 else c - 96
def nm_ (f : Nat → Int32) (k : Nat) : Nat → Int64
  | 0 => 0
  | j + 1 => (nm_ f k j <<< ((5 : Int32).toInt64 &&& 63)) ||| (nc_ (f (k + j))).toInt64
def dt_ (f : Nat → Int32) (k : Nat) : Nat → Nat
  | 0 => 0
  | j + 1 => if f (k + j) = 46 then dt_ f k j + 1 else dt_ f k j
theorem dt_le (f : Nat → Int32) (k : Nat) : ∀ j, dt_ f k j ≤ j
  | 0 => Nat.le_refl _
  | j + 1 => by
    have := dt_le f k j
    unfold dt_
    split <;> omega
abbrev ne_ (f : Nat → Int32) (k j : Nat) : Prop := 2 < j ∧ dt_ f k j = 1 ∧ ¬ f k = 46 ∧ ¬ f (k + j - 1) = 46
theorem io_bf {M : mm_} {n k : Nat} (h : ¬ k < n) : io_ (bf_ M n k) = 0 := by
  unfold bf_
  rw [if_neg h]
  decide +kernel
set_option maxRecDepth 100000 in
set_option maxHeartbeats 4000000 in
theorem c12_rowSize (G : gg_) (hG : gd_ G) (d : Nat) (M : mm_) (n k : Nat) (ht : tz_ M n) (hk : k < 2 ^ 30) : cm_ G yX12_rowSize cX12_rowSize 3 (some .int) (d + 2) [.ref (G.1 0), .int (nI k)] M (fI_ (nI (rz_ M n k)) M) := by
  refine cm_of hG (by decide) (Nat.le_of_ble_eq_true rfl) (fun C X => ?_)
  have hn := ht.2
  have lp : ∀ (u j : Nat), j + u = n - k → rz_ M n k = rn_ (bf_ M n) u (k + j) + j → wq_ C G (qe_ C G (fI_ (nI (rz_ M n k)) M)) 2 [some (.ref (G.1 0)), some (.int (nI k)), some (.int (nI j))] [] M := by
    intro u
    induction u with
    | zero =>
      intro j hj hr
      have hq : io_ (bf_ M n (k + j)) = 0 := io_bf (by omega)
      have er : rz_ M n k = j := by rw [hr]; simp [rn_]
      refine w_aload_n X dX12_rowSize_2 rfl rfl ?_
      refine w_iload_n X dX12_rowSize_3 rfl rfl ?_
      refine w_iload_n X dX12_rowSize_4 rfl rfl ?_
      refine w_iadd X dX12_rowSize_5 ?_
      rw [nI_add k j]
      refine w_v1fI X dX12_rowSize_6 k12_byteAt rfl rfl (c12_byteAt G hG _ _ (nI (k + j)) (fun q => tz_in ht (by omega) q)) (Nat.le_of_ble_eq_true rfl) ?_
      refine w_s1fI X dX12_rowSize_9 k12_isOfRow (c12_isOfRow G hG _ _ _) (Nat.le_of_ble_eq_true rfl) ?_
      rw [ba_bf ht (by omega)]
      refine w_if_eq (tgt := 21) X dX12_rowSize_12 (by decide) (fun h12 => ?_) (fun h12 => absurd (hq) h12)
      refine w_iload_n X dX12_rowSize_21 rfl rfl ?_
      exact w_irF X dX12_rowSize_22 (by rw [er]) rfl
    | succ u ih =>
      intro j hj hr
      refine w_aload_n X dX12_rowSize_2 rfl rfl ?_
      refine w_iload_n X dX12_rowSize_3 rfl rfl ?_
      refine w_iload_n X dX12_rowSize_4 rfl rfl ?_
      refine w_iadd X dX12_rowSize_5 ?_
      rw [nI_add k j]
      refine w_v1fI X dX12_rowSize_6 k12_byteAt rfl rfl (c12_byteAt G hG _ _ (nI (k + j)) (fun q => tz_in ht (by omega) q)) (Nat.le_of_ble_eq_true rfl) ?_
      refine w_s1fI X dX12_rowSize_9 k12_isOfRow (c12_isOfRow G hG _ _ _) (Nat.le_of_ble_eq_true rfl) ?_
      rw [ba_bf ht (by omega)]
      refine w_if_eq (tgt := 21) X dX12_rowSize_12 (by decide) (fun h12 => ?_) (fun h12 => ?_)
      · refine w_iload_n X dX12_rowSize_21 rfl rfl ?_
        refine w_irF X dX12_rowSize_22 ?_ rfl
        rw [hr]
        simp only [rn_]
        rw [if_neg (by rw [h12]; decide)]
        simp
      · refine w_iinc (v := 1) X dX12_rowSize_15 rfl (by decide) (by decide) ?_
        refine w_goto (tgt := 2) X dX12_rowSize_18 (by decide) ?_
        rw [nI_1 j]
        refine ih (j + 1) (by omega) ?_
        rw [hr]
        simp only [rn_]
        have h1 : io_ (bf_ M n (k + j)) = 1 := (io_01 _).resolve_left h12
        rw [if_pos h1, show k + (j + 1) = k + j + 1 from rfl]
        omega
  refine w_iconst (v := 0) X dX12_rowSize_0 (by decide) ?_
  refine w_istore_n X dX12_rowSize_1 rfl (by decide) ?_
  exact lp (n - k) 0 (by omega) rfl
end
section
section NROWS
variable {C : mc_} {G : gg_} {Q : State → Prop} {pc : Nat} {lv : List (Option Value)} {st : List Value} {M : mm_} {own : String} {cc : ByteArray} {nL : Nat} {ry : Option FieldType} {d : Nat}
theorem w_ialoadN {a n t i : Nat} (X : cx_ C G own cc nL ry d) (hd : decode cc pc = .ok (.iaload, 1)) (ha : ds_[a]? = some (.inl (t, n, 0))) (ht : (tt_ G)[t]? = some (G.2.1 t, .int)) (hin : i < n ∧ n < 2147483648) (k : wq_ C G Q (pc + 1) lv (.int (M.1 a i) :: st) M) : wq_ C G Q pc lv (.int (nI i) :: .ref (G.1 a) :: st) M := by
  refine w_iaload X hd ha ht (vp_in_nI hin.1 hin.2) ?_
  rw [pk_cl i rfl (by omega)]
  exact k
theorem w_baloadN {a n t i : Nat} (X : cx_ C G own cc nL ry d) (hd : decode cc pc = .ok (.baload, 1)) (ha : ds_[a]? = some (.inl (t, n, 0))) (ht : (tt_ G)[t]? = some (G.2.1 t, .boolean)) (hin : i < n ∧ n < 2147483648) (k : wq_ C G Q (pc + 1) lv (.int (M.1 a i) :: st) M) : wq_ C G Q pc lv (.int (nI i) :: .ref (G.1 a) :: st) M := by
  refine w_baload X hd ha ht (vp_in_nI hin.1 hin.2) ?_
  rw [pk_cl i rfl (by omega)]
  exact k
theorem w_laloadN {a n t i : Nat} (X : cx_ C G own cc nL ry d) (hd : decode cc pc = .ok (.laload, 1)) (ha : ds_[a]? = some (.inl (t, n, 1))) (ht : (tt_ G)[t]? = some (G.2.1 t, .long)) (hin : i < n ∧ n < 2147483648) (k : wq_ C G Q (pc + 1) lv (.long (M.2.1 a i) :: st) M) : wq_ C G Q pc lv (.int (nI i) :: .ref (G.1 a) :: st) M := by
  refine w_laload X hd ha ht (vp_in_nI hin.1 hin.2) ?_
  rw [pk_cl i rfl (by omega)]
  exact k
theorem w_iastoreN {a n t i : Nat} {x : Int32} (X : cx_ C G own cc nL ry d) (hd : decode cc pc = .ok (.iastore, 1)) (ha : ds_[a]? = some (.inl (t, n, 0))) (ht : (tt_ G)[t]? = some (G.2.1 t, .int)) (hin : i < n ∧ n < 2147483648) (k : wq_ C G Q (pc + 1) lv st (sI_ M a i (x))) : wq_ C G Q pc lv (.int x :: .int (nI i) :: .ref (G.1 a) :: st) M := by
  refine w_iastore X hd ha ht (vp_in_nI hin.1 hin.2) ?_
  rw [pk_cl i rfl (by omega)]
  exact k
theorem w_bastoreN {a n t i : Nat} {x : Int32} (X : cx_ C G own cc nL ry d) (hd : decode cc pc = .ok (.bastore, 1)) (ha : ds_[a]? = some (.inl (t, n, 0))) (ht : (tt_ G)[t]? = some (G.2.1 t, .boolean)) (hin : i < n ∧ n < 2147483648) (k : wq_ C G Q (pc + 1) lv st (sI_ M a i (vp_nar .boolean x))) : wq_ C G Q pc lv (.int x :: .int (nI i) :: .ref (G.1 a) :: st) M := by
  refine w_bastore X hd ha ht (vp_in_nI hin.1 hin.2) ?_
  rw [pk_cl i rfl (by omega)]
  exact k
theorem w_lastoreN {a n t i : Nat} {x : Int64} (X : cx_ C G own cc nL ry d) (hd : decode cc pc = .ok (.lastore, 1)) (ha : ds_[a]? = some (.inl (t, n, 1))) (ht : (tt_ G)[t]? = some (G.2.1 t, .long)) (hin : i < n ∧ n < 2147483648) (k : wq_ C G Q (pc + 1) lv st (sL_ M a i (x))) : wq_ C G Q pc lv (.long x :: .int (nI i) :: .ref (G.1 a) :: st) M := by
  refine w_lastore X hd ha ht (vp_in_nI hin.1 hin.2) ?_
  rw [pk_cl i rfl (by omega)]
  exact k
end NROWS
theorem nI_2048 (n : Nat) : (64 : Int32) * 32 + nI n = nI (2048 + n) := by rw [show (64 : Int32) * 32 = nI 2048 by decide +kernel, nI_add]
theorem nI_p (n : Nat) (h : 0 < n) : nI n - 1 = nI (n - 1) := by
  obtain ⟨k, rfl⟩ : ∃ k, n = k + 1 := ⟨n - 1, by omega⟩
  exact nI_pred k
theorem nI_z {n : Nat} (h : n < 2147483648) : nI n = 0 ↔ n = 0 := by rw [← nI_0, nI_eq h (by decide)]
/-- a step more in the row that is being made -/
def pu_ (M : mm_) (n : Nat) (t : Int32) (v : Int64) : mm_ := sI_ (sL_ (sI_ M 2 (2048 + n) t) 3 (2048 + n) v) 0 12 (nI (n + 1))
def wa_ (M : mm_) (n : Nat) (a b c : Int32) : mm_ := sI_ (sI_ (sI_ (sI_ M 7 n a) 8 n b) 9 n c) 0 20 (nI (n + 1))
def op_ (M : mm_) (n : Nat) (a : Int32) : mm_ := sI_ (sI_ M 11 n a) 0 22 (nI (n + 1))
def la_ (M : mm_) (n : Nat) : Int32 := if n = 0 then -1 else M.1 7 (n - 1)
def bg_ (M : mm_) : mm_ := sI_ (sI_ (sI_ (sI_ M 0 0 0) 0 3 0) 0 4 (-1)) 0 5 0
set_option maxRecDepth 100000 in
set_option maxHeartbeats 4000000 in
theorem c12_rowOf (G : gg_) (hG : gd_ G) (d : Nat) (M : mm_) (e : Int32) : cm_ G yX12_rowOf cX12_rowOf 1 (some .int) (d) [.int e] M (fI_ (64 * e) M) := by
  refine cm_of hG (by decide) (Nat.le_of_ble_eq_true rfl) (fun C X => ?_)
  refine w_bipush (v := 64) X dX12_rowOf_0 (by decide) ?_
  refine w_iload_n X dX12_rowOf_2 rfl rfl ?_
  refine w_imul X dX12_rowOf_3 ?_
  exact w_irF X dX12_rowOf_4 rfl rfl
set_option maxRecDepth 100000 in
set_option maxHeartbeats 4000000 in
theorem c12_put (G : gg_) (hG : gd_ G) (d : Nat) (M : mm_) (n : Nat) (hl : M.1 0 12 = nI n) (hn : n < 64) (t : Int32) (v : Int64) : cm_ G yX12_put cX12_put 4 none (d + 1) [.ref (G.1 0), .int t, .long v] M (fV_ (pu_ M n t v)) := by
  refine cm_of hG (by decide) (Nat.le_of_ble_eq_true rfl) (fun C X => ?_)
  refine w_aload_n X dX12_put_0 rfl rfl ?_
  refine g12_steps X dX12_put_1 ?_
  refine w_bipush (v := 32) X dX12_put_4 (by decide) ?_
  refine w_s1fI X dX12_put_6 k12_rowOf (c12_rowOf G hG _ _ _) (Nat.le_of_ble_eq_true rfl) ?_
  refine w_aload_n X dX12_put_9 rfl rfl ?_
  refine g12_length X dX12_put_10 ?_
  try simp only [gI_sI, gI_sL, gL_sI, gL_sL, false_and, and_false, and_self, if_false, if_true, reduceIte, Nat.reduceEqDiff, hl]
  refine w_iadd X dX12_put_13 ?_
  rw [nI_2048]
  refine w_iload_n X dX12_put_14 rfl rfl ?_
  refine w_iastoreN X dX12_put_15 rfl rfl (by omega) ?_
  refine w_aload_n X dX12_put_16 rfl rfl ?_
  refine g12_values X dX12_put_17 ?_
  refine w_bipush (v := 32) X dX12_put_20 (by decide) ?_
  refine w_s1fI X dX12_put_22 k12_rowOf (c12_rowOf G hG _ _ _) (Nat.le_of_ble_eq_true rfl) ?_
  refine w_aload_n X dX12_put_25 rfl rfl ?_
  refine g12_length X dX12_put_26 ?_
  try simp only [gI_sI, gI_sL, gL_sI, gL_sL, false_and, and_false, and_self, if_false, if_true, reduceIte, Nat.reduceEqDiff, hl]
  refine w_iadd X dX12_put_29 ?_
  rw [nI_2048]
  refine w_lload_n X dX12_put_30 rfl rfl ?_
  refine w_lastoreN X dX12_put_31 rfl rfl (by omega) ?_
  refine w_aload_n X dX12_put_32 rfl rfl ?_
  refine w_dup X dX12_put_33 rfl ?_
  refine g12_length X dX12_put_34 ?_
  try simp only [gI_sI, gI_sL, gL_sI, gL_sL, false_and, and_false, and_self, if_false, if_true, reduceIte, Nat.reduceEqDiff, hl]
  refine w_iconst (v := 1) X dX12_put_37 (by decide) ?_
  refine w_iadd X dX12_put_38 ?_
  refine p12_length X dX12_put_39 ?_
  exact w_vrF X dX12_put_42 (by unfold pu_; rw [nI_1])
set_option maxRecDepth 100000 in
set_option maxHeartbeats 4000000 in
theorem c12_wait (G : gg_) (hG : gd_ G) (d : Nat) (M : mm_) (n : Nat) (hl : M.1 0 20 = nI n) (hn : n < 64) (a b c : Int32) : cm_ G yX12_wait cX12_wait 4 none (d) [.ref (G.1 0), .int a, .int b, .int c] M (fV_ (wa_ M n a b c)) := by
  refine cm_of hG (by decide) (Nat.le_of_ble_eq_true rfl) (fun C X => ?_)
  refine w_aload_n X dX12_wait_0 rfl rfl ?_
  refine g12_waits X dX12_wait_1 ?_
  refine w_aload_n X dX12_wait_4 rfl rfl ?_
  refine g12_waiting X dX12_wait_5 ?_
  try simp only [gI_sI, gI_sL, gL_sI, gL_sL, false_and, and_false, and_self, if_false, if_true, reduceIte, Nat.reduceEqDiff, hl]
  refine w_iload_n X dX12_wait_8 rfl rfl ?_
  refine w_iastoreN X dX12_wait_9 rfl rfl (by omega) ?_
  refine w_aload_n X dX12_wait_10 rfl rfl ?_
  refine g12_waitPlaces X dX12_wait_11 ?_
  refine w_aload_n X dX12_wait_14 rfl rfl ?_
  refine g12_waiting X dX12_wait_15 ?_
  try simp only [gI_sI, gI_sL, gL_sI, gL_sL, false_and, and_false, and_self, if_false, if_true, reduceIte, Nat.reduceEqDiff, hl]
  refine w_iload_n X dX12_wait_18 rfl rfl ?_
  refine w_iastoreN X dX12_wait_19 rfl rfl (by omega) ?_
  refine w_aload_n X dX12_wait_20 rfl rfl ?_
  refine g12_waitValues X dX12_wait_21 ?_
  refine w_aload_n X dX12_wait_24 rfl rfl ?_
  refine g12_waiting X dX12_wait_25 ?_
  try simp only [gI_sI, gI_sL, gL_sI, gL_sL, false_and, and_false, and_self, if_false, if_true, reduceIte, Nat.reduceEqDiff, hl]
  refine w_iload_n X dX12_wait_28 rfl rfl ?_
  refine w_iastoreN X dX12_wait_29 rfl rfl (by omega) ?_
  refine w_aload_n X dX12_wait_30 rfl rfl ?_
  refine w_dup X dX12_wait_31 rfl ?_
  refine g12_waiting X dX12_wait_32 ?_
  try simp only [gI_sI, gI_sL, gL_sI, gL_sL, false_and, and_false, and_self, if_false, if_true, reduceIte, Nat.reduceEqDiff, hl]
  refine w_iconst (v := 1) X dX12_wait_35 (by decide) ?_
  refine w_iadd X dX12_wait_36 ?_
  refine p12_waiting X dX12_wait_37 ?_
  exact w_vrF X dX12_wait_40 (by unfold wa_; rw [nI_1])
set_option maxRecDepth 100000 in
set_option maxHeartbeats 4000000 in
theorem c12_operand (G : gg_) (hG : gd_ G) (d : Nat) (M : mm_) (n : Nat) (hl : M.1 0 22 = nI n) (hn : n < 64) (a : Int32) : cm_ G yX12_operand cX12_operand 2 none (d) [.ref (G.1 0), .int a] M (fV_ (op_ M n a)) := by
  refine cm_of hG (by decide) (Nat.le_of_ble_eq_true rfl) (fun C X => ?_)
  refine w_aload_n X dX12_operand_0 rfl rfl ?_
  refine g12_operands X dX12_operand_1 ?_
  refine w_aload_n X dX12_operand_4 rfl rfl ?_
  refine g12_operandCount X dX12_operand_5 ?_
  try simp only [gI_sI, gI_sL, gL_sI, gL_sL, false_and, and_false, and_self, if_false, if_true, reduceIte, Nat.reduceEqDiff, hl]
  refine w_iload_n X dX12_operand_8 rfl rfl ?_
  refine w_iastoreN X dX12_operand_9 rfl rfl (by omega) ?_
  refine w_aload_n X dX12_operand_10 rfl rfl ?_
  refine w_dup X dX12_operand_11 rfl ?_
  refine g12_operandCount X dX12_operand_12 ?_
  try simp only [gI_sI, gI_sL, gL_sI, gL_sL, false_and, and_false, and_self, if_false, if_true, reduceIte, Nat.reduceEqDiff, hl]
  refine w_iconst (v := 1) X dX12_operand_15 (by decide) ?_
  refine w_iadd X dX12_operand_16 ?_
  refine p12_operandCount X dX12_operand_17 ?_
  exact w_vrF X dX12_operand_20 (by unfold op_; rw [nI_1])
set_option maxRecDepth 100000 in
set_option maxHeartbeats 4000000 in
theorem c12_last (G : gg_) (hG : gd_ G) (d : Nat) (M : mm_) (n : Nat) (hl : M.1 0 20 = nI n) (hn : n ≤ 64) : cm_ G yX12_last cX12_last 1 (some .int) (d) [.ref (G.1 0)] M (fI_ (la_ M n) M) := by
  refine cm_of hG (by decide) (Nat.le_of_ble_eq_true rfl) (fun C X => ?_)
  refine w_aload_n X dX12_last_0 rfl rfl ?_
  refine g12_waiting X dX12_last_1 ?_
  try simp only [gI_sI, gI_sL, gL_sI, gL_sL, false_and, and_false, and_self, if_false, if_true, reduceIte, Nat.reduceEqDiff, hl]
  refine w_if_ne (tgt := 11) X dX12_last_4 (by decide) (fun h4 => ?_) (fun h4 => ?_)
  · refine w_aload_n X dX12_last_11 rfl rfl ?_
    refine g12_waits X dX12_last_12 ?_
    refine w_aload_n X dX12_last_15 rfl rfl ?_
    refine g12_waiting X dX12_last_16 ?_
    try simp only [gI_sI, gI_sL, gL_sI, gL_sL, false_and, and_false, and_self, if_false, if_true, reduceIte, Nat.reduceEqDiff, hl]
    refine w_iconst (v := 1) X dX12_last_19 (by decide) ?_
    refine w_isub X dX12_last_20 ?_
    have h0 : 0 < n := Nat.pos_of_ne_zero (fun q => h4 ((nI_z (by omega)).mpr q))
    rw [nI_p n h0]
    refine w_ialoadN X dX12_last_21 rfl rfl (by omega) ?_
    refine w_irF X dX12_last_22 ?_ rfl
    unfold la_
    first | exact (if_pos ((nI_z (by omega)).mp h4)).symm | exact (if_neg (fun q => h4 ((nI_z (by omega)).mpr q))).symm
  · refine w_iconst (v := -1) X dX12_last_7 (by decide) ?_
    refine w_goto (tgt := 22) X dX12_last_8 (by decide) ?_
    refine w_irF X dX12_last_22 ?_ rfl
    unfold la_
    first | exact (if_pos ((nI_z (by omega)).mp h4)).symm | exact (if_neg (fun q => h4 ((nI_z (by omega)).mpr q))).symm
set_option maxRecDepth 100000 in
set_option maxHeartbeats 4000000 in
theorem c12_begin (G : gg_) (hG : gd_ G) (d : Nat) (M : mm_) : cm_ G yX12_begin cX12_begin 1 none (d) [.ref (G.1 0)] M (fV_ (bg_ M)) := by
  refine cm_of hG (by decide) (Nat.le_of_ble_eq_true rfl) (fun C X => ?_)
  refine w_aload_n X dX12_begin_0 rfl rfl ?_
  refine w_iconst (v := 0) X dX12_begin_1 (by decide) ?_
  refine p12_thrown X dX12_begin_2 ?_
  refine w_aload_n X dX12_begin_5 rfl rfl ?_
  refine w_iconst (v := 0) X dX12_begin_6 (by decide) ?_
  refine p12_fault X dX12_begin_7 ?_
  refine w_aload_n X dX12_begin_10 rfl rfl ?_
  refine w_iconst (v := -1) X dX12_begin_11 (by decide) ?_
  refine p12_place X dX12_begin_12 ?_
  refine w_aload_n X dX12_begin_15 rfl rfl ?_
  refine w_iconst (v := 0) X dX12_begin_16 (by decide) ?_
  refine p12_at X dX12_begin_17 ?_
  exact w_vrF X dX12_begin_20 rfl
set_option maxRecDepth 100000 in
set_option maxHeartbeats 4000000 in
theorem c12_place (G : gg_) (hG : gd_ G) (d : Nat) (M : mm_) : cm_ G yX12_place cX12_place 1 (some .int) (d) [.ref (G.1 0)] M (fI_ (M.1 0 4) (sI_ M 0 0 0)) := by
  refine cm_of hG (by decide) (Nat.le_of_ble_eq_true rfl) (fun C X => ?_)
  refine w_aload_n X dX12_place_0 rfl rfl ?_
  refine w_iconst (v := 0) X dX12_place_1 (by decide) ?_
  refine p12_thrown X dX12_place_2 ?_
  refine w_aload_n X dX12_place_5 rfl rfl ?_
  refine g12_place X dX12_place_6 ?_
  try simp only [gI_sI, gI_sL, gL_sI, gL_sL, false_and, and_false, and_self, if_false, if_true, reduceIte, Nat.reduceEqDiff]
  exact w_irF X dX12_place_9 rfl rfl
set_option maxRecDepth 100000 in
set_option maxHeartbeats 4000000 in
theorem c12_value (G : gg_) (hG : gd_ G) (d : Nat) (M : mm_) : cm_ G yX12_value cX12_value 1 (some .int) (d) [.ref (G.1 0)] M (fI_ (M.1 0 41) (sI_ M 0 0 0)) := by
  refine cm_of hG (by decide) (Nat.le_of_ble_eq_true rfl) (fun C X => ?_)
  refine w_aload_n X dX12_value_0 rfl rfl ?_
  refine w_iconst (v := 0) X dX12_value_1 (by decide) ?_
  refine p12_thrown X dX12_value_2 ?_
  refine w_aload_n X dX12_value_5 rfl rfl ?_
  refine g12_value X dX12_value_6 ?_
  try simp only [gI_sI, gI_sL, gL_sI, gL_sL, false_and, and_false, and_self, if_false, if_true, reduceIte, Nat.reduceEqDiff]
  exact w_irF X dX12_value_9 rfl rfl
set_option maxRecDepth 100000 in
set_option maxHeartbeats 4000000 in
theorem c12_invoked (G : gg_) (hG : gd_ G) (d : Nat) (M : mm_) : cm_ G yX12_invoked cX12_invoked 1 (some .int) (d) [.ref (G.1 0)] M (fI_ (M.1 0 40) (sI_ M 0 0 0)) := by
  refine cm_of hG (by decide) (Nat.le_of_ble_eq_true rfl) (fun C X => ?_)
  refine w_aload_n X dX12_invoked_0 rfl rfl ?_
  refine w_iconst (v := 0) X dX12_invoked_1 (by decide) ?_
  refine p12_thrown X dX12_invoked_2 ?_
  refine w_aload_n X dX12_invoked_5 rfl rfl ?_
  refine g12_invoked X dX12_invoked_6 ?_
  try simp only [gI_sI, gI_sL, gL_sI, gL_sL, false_and, and_false, and_self, if_false, if_true, reduceIte, Nat.reduceEqDiff]
  exact w_irF X dX12_invoked_9 rfl rfl
set_option maxRecDepth 100000 in
set_option maxHeartbeats 4000000 in
theorem c12_records (G : gg_) (hG : gd_ G) (d : Nat) (M : mm_) : cm_ G yX12_records cX12_records 1 (some .int) (d) [.ref (G.1 0)] M (fI_ (M.1 0 35) (sI_ M 0 0 0)) := by
  refine cm_of hG (by decide) (Nat.le_of_ble_eq_true rfl) (fun C X => ?_)
  refine w_aload_n X dX12_records_0 rfl rfl ?_
  refine w_iconst (v := 0) X dX12_records_1 (by decide) ?_
  refine p12_thrown X dX12_records_2 ?_
  refine w_aload_n X dX12_records_5 rfl rfl ?_
  refine g12_recordCount X dX12_records_6 ?_
  try simp only [gI_sI, gI_sL, gL_sI, gL_sL, false_and, and_false, and_self, if_false, if_true, reduceIte, Nat.reduceEqDiff]
  exact w_irF X dX12_records_9 rfl rfl
set_option maxRecDepth 100000 in
set_option maxHeartbeats 4000000 in
theorem c12_keeps (G : gg_) (hG : gd_ G) (d : Nat) (M : mm_) : cm_ G yX12_keeps cX12_keeps 1 (some .int) (d) [.ref (G.1 0)] M (fI_ (M.1 0 37) (sI_ M 0 0 0)) := by
  refine cm_of hG (by decide) (Nat.le_of_ble_eq_true rfl) (fun C X => ?_)
  refine w_aload_n X dX12_keeps_0 rfl rfl ?_
  refine w_iconst (v := 0) X dX12_keeps_1 (by decide) ?_
  refine p12_thrown X dX12_keeps_2 ?_
  refine w_aload_n X dX12_keeps_5 rfl rfl ?_
  refine g12_keepCount X dX12_keeps_6 ?_
  try simp only [gI_sI, gI_sL, gL_sI, gL_sL, false_and, and_false, and_self, if_false, if_true, reduceIte, Nat.reduceEqDiff]
  exact w_irF X dX12_keeps_9 rfl rfl
set_option maxRecDepth 100000 in
set_option maxHeartbeats 4000000 in
theorem c12_clear (G : gg_) (hG : gd_ G) (d : Nat) (M : mm_) : cm_ G yX12_clear cX12_clear 2 (some .int) (d) [.ref (G.1 0)] M (fI_ (M.1 0 35) (sI_ (sI_ (sI_ M 0 0 0) 0 35 0) 0 37 0)) := by
  refine cm_of hG (by decide) (Nat.le_of_ble_eq_true rfl) (fun C X => ?_)
  refine w_aload_n X dX12_clear_0 rfl rfl ?_
  refine w_iconst (v := 0) X dX12_clear_1 (by decide) ?_
  refine p12_thrown X dX12_clear_2 ?_
  refine w_aload_n X dX12_clear_5 rfl rfl ?_
  refine g12_recordCount X dX12_clear_6 ?_
  try simp only [gI_sI, gI_sL, gL_sI, gL_sL, false_and, and_false, and_self, if_false, if_true, reduceIte, Nat.reduceEqDiff]
  refine w_istore_n X dX12_clear_9 rfl (by decide) ?_
  refine w_aload_n X dX12_clear_10 rfl rfl ?_
  refine w_iconst (v := 0) X dX12_clear_11 (by decide) ?_
  refine p12_recordCount X dX12_clear_12 ?_
  refine w_aload_n X dX12_clear_15 rfl rfl ?_
  refine w_iconst (v := 0) X dX12_clear_16 (by decide) ?_
  refine p12_keepCount X dX12_clear_17 ?_
  refine w_iload_n X dX12_clear_20 rfl rfl ?_
  exact w_irF X dX12_clear_21 rfl rfl
set_option maxRecDepth 100000 in
set_option maxHeartbeats 4000000 in
theorem c12_count (G : gg_) (hG : gd_ G) (d : Nat) (M : mm_) (w : Int32) : cm_ G yX12_count cX12_count 2 (some .boolean) (d + 1) [.ref (G.1 0), .int w] M (fI_ (if M.1 0 13 = 20 then 0 else 1) (if M.1 0 13 = 20 then fa_ M 3 w else sI_ M 0 13 (M.1 0 13 + 1))) := by
  refine cm_of hG (by decide) (Nat.le_of_ble_eq_true rfl) (fun C X => ?_)
  refine w_aload_n X dX12_count_0 rfl rfl ?_
  refine g12_nodes X dX12_count_1 ?_
  try simp only [gI_sI, gI_sL, gL_sI, gL_sL, false_and, and_false, and_self, if_false, if_true, reduceIte, Nat.reduceEqDiff]
  refine w_bipush (v := 20) X dX12_count_4 (by decide) ?_
  refine w_icmp_ne (tgt := 17) X dX12_count_6 (by decide) (fun h6 => ?_) (fun h6 => ?_)
  · refine w_aload_n X dX12_count_17 rfl rfl ?_
    refine w_dup X dX12_count_18 rfl ?_
    refine g12_nodes X dX12_count_19 ?_
    try simp only [gI_sI, gI_sL, gL_sI, gL_sL, false_and, and_false, and_self, if_false, if_true, reduceIte, Nat.reduceEqDiff]
    refine w_iconst (v := 1) X dX12_count_22 (by decide) ?_
    refine w_iadd X dX12_count_23 ?_
    refine p12_nodes X dX12_count_24 ?_
    refine w_iconst (v := 1) X dX12_count_27 (by decide) ?_
    refine w_zrF X dX12_count_28 (by first | exact Or.inl rfl | exact Or.inr rfl) ?_ ?_
    · first | exact (if_pos (Decidable.not_not.mp h6)).symm | exact (if_neg h6).symm | exact (if_pos h6).symm
    · first | exact (if_pos (Decidable.not_not.mp h6)).symm | exact (if_neg h6).symm | exact (if_pos h6).symm
  · refine w_aload_n X dX12_count_9 rfl rfl ?_
    refine w_iconst (v := 3) X dX12_count_10 (by decide) ?_
    refine w_iload_n X dX12_count_11 rfl rfl ?_
    refine w_v2fV X dX12_count_12 k12_fail rfl rfl (c12_fail G hG _ _ _ _) (Nat.le_of_ble_eq_true rfl) ?_
    refine w_iconst (v := 0) X dX12_count_15 (by decide) ?_
    refine w_zrF X dX12_count_16 (by first | exact Or.inl rfl | exact Or.inr rfl) ?_ ?_
    · first | exact (if_pos (Decidable.not_not.mp h6)).symm | exact (if_neg h6).symm | exact (if_pos h6).symm
    · first | exact (if_pos (Decidable.not_not.mp h6)).symm | exact (if_neg h6).symm | exact (if_pos h6).symm
end
section
theorem sI_self (M : mm_) (a i : Nat) : sI_ M a i (M.1 a i) = M := by
  unfold sI_
  obtain ⟨M1, M2, M3⟩ := M
  congr 1; funext x j
  by_cases h : x = a ∧ j = i
  · simp [h]
  · simp [h]
theorem ba_sL (M : mm_) (a i : Nat) (v : Int64) (k : Int32) : ba_ (sL_ M a i v) k = ba_ M k := rfl
theorem bf_sL (M : mm_) (a i : Nat) (v : Int64) (n k : Nat) : bf_ (sL_ M a i v) n k = bf_ M n k := rfl
theorem tz_sL {M : mm_} {a i n : Nat} {v : Int64} (h : tz_ M n) : tz_ (sL_ M a i v) n := h
theorem tz_sI {M : mm_} {a i n : Nat} {v : Int32} (h : tz_ M n) (hq : ¬ ((0 : Nat) = a ∧ 2 = i)) : tz_ (sI_ M a i v) n := ⟨by rw [sI_ne _ _ _ _ hq]; exact h.1, h.2⟩
theorem bf_sI {M : mm_} {a i n k : Nat} {v : Int32} (hq : a ≠ 1) : bf_ (sI_ M a i v) n k = bf_ M n k := by
  unfold bf_
  rw [sI_ne _ _ _ _ (fun q => hq q.1.symm)]
theorem nI_inj {a b : Nat} (ha : a < 2147483648) (hb : b < 2147483648) : nI a = nI b ↔ a = b := nI_eq ha hb
set_option maxRecDepth 100000 in
set_option maxHeartbeats 4000000 in
theorem c12_ended (G : gg_) (hG : gd_ G) (d : Nat) (M : mm_) (n k : Nat) (ht : tz_ M n) (ha : M.1 0 5 = nI k) (hk : k < 2147483648) : cm_ G yX12_ended cX12_ended 2 (some .boolean) (d + 1) [.ref (G.1 0)] M (fI_ (if bf_ M n k < 0 ∨ (¬ M.1 0 14 = 0 ∧ bf_ M n k ≤ 32) then 1 else 0) M) := by
  refine cm_of hG (by decide) (Nat.le_of_ble_eq_true rfl) (fun C X => ?_)
  refine w_aload_n X dX12_ended_0 rfl rfl ?_
  refine w_aload_n X dX12_ended_1 rfl rfl ?_
  refine g12_at X dX12_ended_2 ?_
  try simp only [gI_sI, gI_sL, gL_sI, gL_sL, false_and, and_false, and_self, if_false, if_true, reduceIte, Nat.reduceEqDiff, ha]
  refine w_v1fI X dX12_ended_5 k12_byteAt rfl rfl (c12_byteAt G hG _ _ (nI k) (fun q => tz_in ht hk q)) (Nat.le_of_ble_eq_true rfl) ?_
  rw [ba_bf ht hk]
  refine w_istore_n X dX12_ended_8 rfl (by decide) ?_
  refine w_iload_n X dX12_ended_9 rfl rfl ?_
  refine w_if_lt (tgt := 26) X dX12_ended_10 (by decide) (fun h10 => ?_) (fun h10 => ?_)
  · refine w_iconst (v := 1) X dX12_ended_26 (by decide) ?_
    refine w_goto (tgt := 31) X dX12_ended_27 (by decide) ?_
    refine w_zrF X dX12_ended_31 (by first | exact Or.inl rfl | exact Or.inr rfl) ?_ rfl
    first | (simp [h10]; done) | (simp_all; done)
  · refine w_aload_n X dX12_ended_13 rfl rfl ?_
    refine g12_inCommand X dX12_ended_14 ?_
    try simp only [gI_sI, gI_sL, gL_sI, gL_sL, false_and, and_false, and_self, if_false, if_true, reduceIte, Nat.reduceEqDiff, ha]
    refine w_if_eq (tgt := 30) X dX12_ended_17 (by decide) (fun h17 => ?_) (fun h17 => ?_)
    · refine w_iconst (v := 0) X dX12_ended_30 (by decide) ?_
      refine w_zrF X dX12_ended_31 (by first | exact Or.inl rfl | exact Or.inr rfl) ?_ rfl
      first | (simp [h10, h17]; done) | (simp_all; done)
    · refine w_iload_n X dX12_ended_20 rfl rfl ?_
      refine w_bipush (v := 32) X dX12_ended_21 (by decide) ?_
      refine w_icmp_gt (tgt := 30) X dX12_ended_23 (by decide) (fun h23 => ?_) (fun h23 => ?_)
      · refine w_iconst (v := 0) X dX12_ended_30 (by decide) ?_
        refine w_zrF X dX12_ended_31 (by first | exact Or.inl rfl | exact Or.inr rfl) ?_ rfl
        first | (simp [h10, h17, h23]; done) | (simp_all; done)
      · refine w_iconst (v := 1) X dX12_ended_26 (by decide) ?_
        refine w_goto (tgt := 31) X dX12_ended_27 (by decide) ?_
        refine w_zrF X dX12_ended_31 (by first | exact Or.inl rfl | exact Or.inr rfl) ?_ rfl
        first | (simp [h10, h17, h23]; done) | (simp_all; done)
set_option maxRecDepth 100000 in
set_option maxHeartbeats 4000000 in
theorem c12_want (G : gg_) (hG : gd_ G) (d : Nat) (M : mm_) (n k : Nat) (ht : tz_ M n) (ha : M.1 0 5 = nI k) (hk : k < 2147483647) (c : Int32) : cm_ G yX12_want cX12_want 2 none (d + 1) [.ref (G.1 0), .int c] M (fV_ (if M.1 0 3 = 0 then (if bf_ M n k = c then sI_ M 0 5 (nI (k + 1)) else fa_ M 1 (nI k)) else M)) := by
  refine cm_of hG (by decide) (Nat.le_of_ble_eq_true rfl) (fun C X => ?_)
  refine w_aload_n X dX12_want_0 rfl rfl ?_
  refine g12_fault X dX12_want_1 ?_
  try simp only [gI_sI, gI_sL, gL_sI, gL_sL, false_and, and_false, and_self, if_false, if_true, reduceIte, Nat.reduceEqDiff, ha]
  refine w_if_ne (tgt := 41) X dX12_want_4 (by decide) (fun h4 => ?_) (fun h4 => ?_)
  · refine w_vrF X dX12_want_41 ?_
    simp [h4, nI_1]
  · refine w_aload_n X dX12_want_7 rfl rfl ?_
    refine w_aload_n X dX12_want_8 rfl rfl ?_
    refine g12_at X dX12_want_9 ?_
    try simp only [gI_sI, gI_sL, gL_sI, gL_sL, false_and, and_false, and_self, if_false, if_true, reduceIte, Nat.reduceEqDiff, ha]
    refine w_v1fI X dX12_want_12 k12_byteAt rfl rfl (c12_byteAt G hG _ _ (nI k) (fun q => tz_in ht (by omega) q)) (Nat.le_of_ble_eq_true rfl) ?_
    rw [ba_bf ht (by omega)]
    refine w_iload_n X dX12_want_15 rfl rfl ?_
    refine w_icmp_ne (tgt := 32) X dX12_want_16 (by decide) (fun h16 => ?_) (fun h16 => ?_)
    · refine w_aload_n X dX12_want_32 rfl rfl ?_
      refine w_iconst (v := 1) X dX12_want_33 (by decide) ?_
      refine w_aload_n X dX12_want_34 rfl rfl ?_
      refine g12_at X dX12_want_35 ?_
      try simp only [gI_sI, gI_sL, gL_sI, gL_sL, false_and, and_false, and_self, if_false, if_true, reduceIte, Nat.reduceEqDiff, ha]
      refine w_v2fV X dX12_want_38 k12_fail rfl rfl (c12_fail G hG _ _ _ _) (Nat.le_of_ble_eq_true rfl) ?_
      refine w_vrF X dX12_want_41 ?_
      simp [h4, h16, nI_1]
    · refine w_aload_n X dX12_want_19 rfl rfl ?_
      refine w_dup X dX12_want_20 rfl ?_
      refine g12_at X dX12_want_21 ?_
      try simp only [gI_sI, gI_sL, gL_sI, gL_sL, false_and, and_false, and_self, if_false, if_true, reduceIte, Nat.reduceEqDiff, ha]
      refine w_iconst (v := 1) X dX12_want_24 (by decide) ?_
      refine w_iadd X dX12_want_25 ?_
      refine p12_at X dX12_want_26 ?_
      refine w_goto (tgt := 41) X dX12_want_29 (by decide) ?_
      refine w_vrF X dX12_want_41 ?_
      simp [h4, h16, nI_1]
set_option maxRecDepth 100000 in
set_option maxHeartbeats 4000000 in
theorem c12_endsAt (G : gg_) (hG : gd_ G) (d : Nat) (M : mm_) (n k : Nat) (ht : tz_ M n) (hk : k < 2147483648) : cm_ G yX12_endsAt cX12_endsAt 2 (some .boolean) (d) [.ref (G.1 0), .int (nI k)] M (fI_ (if bf_ M n k ≤ 32 then 1 else 0) M) := by
  refine cm_of hG (by decide) (Nat.le_of_ble_eq_true rfl) (fun C X => ?_)
  refine w_iload_n X dX12_endsAt_0 rfl rfl ?_
  refine w_aload_n X dX12_endsAt_1 rfl rfl ?_
  refine g12_size X dX12_endsAt_2 ?_
  try simp only [gI_sI, gI_sL, gL_sI, gL_sL, false_and, and_false, and_self, if_false, if_true, reduceIte, Nat.reduceEqDiff, ht.1]
  refine w_icmp_ge (tgt := 19) X dX12_endsAt_5 (by decide) (fun h5 => ?_) (fun h5 => ?_)
  · have eb : bf_ M n k = -1 := if_neg (fun q => Int32.not_le.mpr ((nI_ltI hk (by have := ht.2; omega)).mpr q) h5)
    refine w_iconst (v := 1) X dX12_endsAt_19 (by decide) ?_
    refine w_goto (tgt := 24) X dX12_endsAt_20 (by decide) ?_
    refine w_zrF X dX12_endsAt_24 (by first | exact Or.inl rfl | exact Or.inr rfl) ?_ rfl
    rw [eb]
    first | (simp [h5]; done) | (simp_all; done)
  · have hn := ht.2
    have hc : k < n := (nI_ltI hk (by omega)).mp (Int32.not_le.mp h5)
    have eb : bf_ M n k = M.1 1 k := if_pos hc
    refine w_aload_n X dX12_endsAt_8 rfl rfl ?_
    refine g12_tape X dX12_endsAt_9 ?_
    refine w_iload_n X dX12_endsAt_12 rfl rfl ?_
    refine w_ialoadN X dX12_endsAt_13 rfl rfl (⟨by omega, by omega⟩) ?_
    refine w_bipush (v := 32) X dX12_endsAt_14 (by decide) ?_
    refine w_icmp_gt (tgt := 23) X dX12_endsAt_16 (by decide) (fun h16 => ?_) (fun h16 => ?_)
    · refine w_iconst (v := 0) X dX12_endsAt_23 (by decide) ?_
      refine w_zrF X dX12_endsAt_24 (by first | exact Or.inl rfl | exact Or.inr rfl) ?_ rfl
      rw [eb]
      first | (simp [h5, h16]; done) | (simp_all; done)
    · refine w_iconst (v := 1) X dX12_endsAt_19 (by decide) ?_
      refine w_goto (tgt := 24) X dX12_endsAt_20 (by decide) ?_
      refine w_zrF X dX12_endsAt_24 (by first | exact Or.inl rfl | exact Or.inr rfl) ?_ rfl
      rw [eb]
      first | (simp [h5, h16]; done) | (simp_all; done)
set_option maxRecDepth 100000 in
set_option maxHeartbeats 4000000 in
theorem c12_wantBlank (G : gg_) (hG : gd_ G) (d : Nat) (M : mm_) (n k : Nat) (ht : tz_ M n) (ha : M.1 0 5 = nI k) (hk : k < 2147483648) : cm_ G yX12_wantBlank cX12_wantBlank 1 none (d + 1) [.ref (G.1 0)] M (fV_ (if M.1 0 3 = 0 ∧ ¬ bf_ M n k ≤ 32 then fa_ M 1 (nI k) else M)) := by
  refine cm_of hG (by decide) (Nat.le_of_ble_eq_true rfl) (fun C X => ?_)
  refine w_aload_n X dX12_wantBlank_0 rfl rfl ?_
  refine g12_fault X dX12_wantBlank_1 ?_
  try simp only [gI_sI, gI_sL, gL_sI, gL_sL, false_and, and_false, and_self, if_false, if_true, reduceIte, Nat.reduceEqDiff, ha, ht.1]
  refine w_if_ne (tgt := 41) X dX12_wantBlank_4 (by decide) (fun h4 => ?_) (fun h4 => ?_)
  · refine w_vrF X dX12_wantBlank_41 ?_
    try rw [eb]
    first | (simp [h4]; done) | (simp_all; done)
  · refine w_aload_n X dX12_wantBlank_7 rfl rfl ?_
    refine g12_at X dX12_wantBlank_8 ?_
    try simp only [gI_sI, gI_sL, gL_sI, gL_sL, false_and, and_false, and_self, if_false, if_true, reduceIte, Nat.reduceEqDiff, ha, ht.1]
    refine w_aload_n X dX12_wantBlank_11 rfl rfl ?_
    refine g12_size X dX12_wantBlank_12 ?_
    try simp only [gI_sI, gI_sL, gL_sI, gL_sL, false_and, and_false, and_self, if_false, if_true, reduceIte, Nat.reduceEqDiff, ha, ht.1]
    refine w_icmp_ge (tgt := 41) X dX12_wantBlank_15 (by decide) (fun h15 => ?_) (fun h15 => ?_)
    · have eb : bf_ M n k = -1 := if_neg (fun q => Int32.not_le.mpr ((nI_ltI hk (by have := ht.2; omega)).mpr q) h15)
      refine w_vrF X dX12_wantBlank_41 ?_
      try rw [eb]
      first | (simp [h4, h15]; done) | (simp_all; done)
    · have hn := ht.2
      have hc : k < n := (nI_ltI hk (by omega)).mp (Int32.not_le.mp h15)
      have eb : bf_ M n k = M.1 1 k := if_pos hc
      refine w_aload_n X dX12_wantBlank_18 rfl rfl ?_
      refine g12_tape X dX12_wantBlank_19 ?_
      refine w_aload_n X dX12_wantBlank_22 rfl rfl ?_
      refine g12_at X dX12_wantBlank_23 ?_
      try simp only [gI_sI, gI_sL, gL_sI, gL_sL, false_and, and_false, and_self, if_false, if_true, reduceIte, Nat.reduceEqDiff, ha, ht.1]
      refine w_ialoadN X dX12_wantBlank_26 rfl rfl (⟨by omega, by omega⟩) ?_
      refine w_bipush (v := 32) X dX12_wantBlank_27 (by decide) ?_
      refine w_icmp_le (tgt := 41) X dX12_wantBlank_29 (by decide) (fun h29 => ?_) (fun h29 => ?_)
      · refine w_vrF X dX12_wantBlank_41 ?_
        try rw [eb]
        first | (simp [h4, h15, h29]; done) | (simp_all; done)
      · refine w_aload_n X dX12_wantBlank_32 rfl rfl ?_
        refine w_iconst (v := 1) X dX12_wantBlank_33 (by decide) ?_
        refine w_aload_n X dX12_wantBlank_34 rfl rfl ?_
        refine g12_at X dX12_wantBlank_35 ?_
        try simp only [gI_sI, gI_sL, gL_sI, gL_sL, false_and, and_false, and_self, if_false, if_true, reduceIte, Nat.reduceEqDiff, ha, ht.1]
        refine w_v2fV X dX12_wantBlank_38 k12_fail rfl rfl (c12_fail G hG _ _ _ _) (Nat.le_of_ble_eq_true rfl) ?_
        refine w_vrF X dX12_wantBlank_41 ?_
        try rw [eb]
        first | (simp [h4, h15, h29]; done) | (simp_all; done)
set_option maxRecDepth 100000 in
set_option maxHeartbeats 4000000 in
theorem c12_isOver (G : gg_) (hG : gd_ G) (d : Nat) (M : mm_) (h y : Int32) : cm_ G yX12_isOver cX12_isOver 2 (some .boolean) (d) [.int h, .int y] M (fI_ (if (h = 47 ∨ h = 37) ∧ y = 0 then 1 else 0) M) := by
  refine cm_of hG (by decide) (Nat.le_of_ble_eq_true rfl) (fun C X => ?_)
  refine w_iload_n X dX12_isOver_0 rfl rfl ?_
  refine w_bipush (v := 47) X dX12_isOver_1 (by decide) ?_
  refine w_icmp_eq (tgt := 12) X dX12_isOver_3 (by decide) (fun h3 => ?_) (fun h3 => ?_)
  · refine w_iload_n X dX12_isOver_12 rfl rfl ?_
    refine w_if_ne (tgt := 20) X dX12_isOver_13 (by decide) (fun h13 => ?_) (fun h13 => ?_)
    · refine w_iconst (v := 0) X dX12_isOver_20 (by decide) ?_
      refine w_zrF X dX12_isOver_21 (by first | exact Or.inl rfl | exact Or.inr rfl) ?_ rfl
      first | (simp [h3, h13]; done) | (simp_all; done)
    · refine w_iconst (v := 1) X dX12_isOver_16 (by decide) ?_
      refine w_goto (tgt := 21) X dX12_isOver_17 (by decide) ?_
      refine w_zrF X dX12_isOver_21 (by first | exact Or.inl rfl | exact Or.inr rfl) ?_ rfl
      first | (simp [h3, h13]; done) | (simp_all; done)
  · refine w_iload_n X dX12_isOver_6 rfl rfl ?_
    refine w_bipush (v := 37) X dX12_isOver_7 (by decide) ?_
    refine w_icmp_ne (tgt := 20) X dX12_isOver_9 (by decide) (fun h9 => ?_) (fun h9 => ?_)
    · refine w_iconst (v := 0) X dX12_isOver_20 (by decide) ?_
      refine w_zrF X dX12_isOver_21 (by first | exact Or.inl rfl | exact Or.inr rfl) ?_ rfl
      first | (simp [h3, h9]; done) | (simp_all; done)
    · refine w_iload_n X dX12_isOver_12 rfl rfl ?_
      refine w_if_ne (tgt := 20) X dX12_isOver_13 (by decide) (fun h13 => ?_) (fun h13 => ?_)
      · refine w_iconst (v := 0) X dX12_isOver_20 (by decide) ?_
        refine w_zrF X dX12_isOver_21 (by first | exact Or.inl rfl | exact Or.inr rfl) ?_ rfl
        first | (simp [h3, h9, h13]; done) | (simp_all; done)
      · refine w_iconst (v := 1) X dX12_isOver_16 (by decide) ?_
        refine w_goto (tgt := 21) X dX12_isOver_17 (by decide) ?_
        refine w_zrF X dX12_isOver_21 (by first | exact Or.inl rfl | exact Or.inr rfl) ?_ rfl
        first | (simp [h3, h9, h13]; done) | (simp_all; done)
set_option maxRecDepth 100000 in
set_option maxHeartbeats 4000000 in
theorem c12_word (G : gg_) (hG : gd_ G) (d : Nat) (M : mm_) (a b c e : Int32) : cm_ G yX12_word cX12_word 4 (some .long) (d) [.int a, .int b, .int c, .int e] M (fL_ ((((a.toInt64 <<< ((15 : Int32).toInt64 &&& 63)) ||| (b.toInt64 <<< ((10 : Int32).toInt64 &&& 63))) ||| (c.toInt64 <<< ((5 : Int32).toInt64 &&& 63)) ||| e.toInt64) &&& 1048575) M) := by
  refine cm_of hG (by decide) (Nat.le_of_ble_eq_true rfl) (fun C X => ?_)
  refine w_iload_n X dX12_word_0 rfl rfl ?_
  refine w_i2l X dX12_word_1 ?_
  refine w_bipush (v := 15) X dX12_word_2 (by decide) ?_
  refine w_lshl X dX12_word_4 ?_
  refine w_iload_n X dX12_word_5 rfl rfl ?_
  refine w_i2l X dX12_word_6 ?_
  refine w_bipush (v := 10) X dX12_word_7 (by decide) ?_
  refine w_lshl X dX12_word_9 ?_
  refine w_lor X dX12_word_10 ?_
  refine w_iload_n X dX12_word_11 rfl rfl ?_
  refine w_i2l X dX12_word_12 ?_
  refine w_iconst (v := 5) X dX12_word_13 (by decide) ?_
  refine w_lshl X dX12_word_14 ?_
  refine w_lor X dX12_word_15 ?_
  refine w_iload_n X dX12_word_16 rfl rfl ?_
  refine w_i2l X dX12_word_17 ?_
  refine w_lor X dX12_word_18 ?_
  refine w_ldc2 X dX12_word_19 q12_279 ?_
  refine w_land X dX12_word_22 ?_
  exact w_lrF X dX12_word_23 rfl rfl
end
section
/-- the first place from k on where no blank stands -/
def sk_ (f : Nat → Int32) : Nat → Nat → Nat
  | 0, k => k
  | u + 1, k => if f k ≤ 32 then sk_ f u (k + 1) else k
def sp_ (M : mm_) (n k : Nat) : Nat := sk_ (bf_ M n) (n - k) k
theorem sk_ge (f : Nat → Int32) : ∀ u k, k ≤ sk_ f u k ∧ sk_ f u k ≤ k + u
  | 0, k => ⟨Nat.le_refl _, Nat.le_refl _⟩
  | u + 1, k => by
    have h := sk_ge f u (k + 1)
    unfold sk_
    split <;> omega
theorem sp_le {M : mm_} {n k : Nat} (h : k ≤ n) : k ≤ sp_ M n k ∧ sp_ M n k ≤ n := by
  have := sk_ge (bf_ M n) (n - k) k
  unfold sp_
  omega
def fm_ (M : mm_) (a : Int64) (b : Int32) : Nat → Nat → Int32
  | 0, _ => -1
  | u + 1, m => if M.2.1 5 m = a ∧ M.1 6 m = b then nI m else fm_ M a b u (m + 1)
def fj_ (M : mm_) : Nat → Nat → Int32
  | 0, _ => -1
  | u + 1, j => if M.1 12 j = 0 then nI j else fj_ M u (j + 1)
theorem lc_ {x y : Int64} : lg_cmp x y = 0 ↔ x = y := by
  unfold lg_cmp
  by_cases h1 : x > y
  · rw [if_pos h1]
    constructor
    · intro q; exact absurd q (by decide)
    · intro q; subst q; exact absurd h1 Int64.lt_irrefl
  · rw [if_neg h1]
    by_cases h2 : x = y <;> simp [h2]
set_option maxRecDepth 100000 in
set_option maxHeartbeats 4000000 in
theorem c12_skip (G : gg_) (hG : gd_ G) (d : Nat) (M : mm_) (n k : Nat) (ht : tz_ M n) (ha : M.1 0 5 = nI k) (hk : k < 1073741824) : cm_ G yX12_skip cX12_skip 1 none (d) [.ref (G.1 0)] M (fV_ (sI_ M 0 5 (nI (sp_ M n k)))) := by
  refine cm_of hG (by decide) (Nat.le_of_ble_eq_true rfl) (fun C X => ?_)
  have lp : ∀ (u j : Nat), u = n - j → j < 1073741824 → sp_ M n k = sk_ (bf_ M n) u j → wq_ C G (qe_ C G (fV_ (sI_ M 0 5 (nI (sp_ M n k))))) 0 [some (.ref (G.1 0))] [] (sI_ M 0 5 (nI j)) := by
    intro u
    induction u with
    | zero =>
      intro j hu hj hr
      have hn := ht.2
      refine w_aload_n X dX12_skip_0 rfl rfl ?_
      refine g12_at X dX12_skip_1 ?_
      try simp only [gI_sI, gI_sL, gL_sI, gL_sL, false_and, and_false, and_self, if_false, if_true, reduceIte, Nat.reduceEqDiff, ht.1]
      refine w_aload_n X dX12_skip_4 rfl rfl ?_
      refine g12_size X dX12_skip_5 ?_
      try simp only [gI_sI, gI_sL, gL_sI, gL_sL, false_and, and_false, and_self, if_false, if_true, reduceIte, Nat.reduceEqDiff, ht.1]
      refine w_icmp_ge (tgt := 38) X dX12_skip_8 (by decide) (fun h8 => ?_) (fun h8 => absurd (nI_le (by omega) (by omega)) h8)
      exact w_vrF X dX12_skip_38 (by rw [hr]; rfl)
    | succ u ih =>
      intro j hu hj hr
      have hn := ht.2
      have eb : bf_ M n j = M.1 1 j := if_pos (by omega)
      refine w_aload_n X dX12_skip_0 rfl rfl ?_
      refine g12_at X dX12_skip_1 ?_
      try simp only [gI_sI, gI_sL, gL_sI, gL_sL, false_and, and_false, and_self, if_false, if_true, reduceIte, Nat.reduceEqDiff, ht.1]
      refine w_aload_n X dX12_skip_4 rfl rfl ?_
      refine g12_size X dX12_skip_5 ?_
      try simp only [gI_sI, gI_sL, gL_sI, gL_sL, false_and, and_false, and_self, if_false, if_true, reduceIte, Nat.reduceEqDiff, ht.1]
      refine w_icmp_ge (tgt := 38) X dX12_skip_8 (by decide) (fun h8 => absurd h8 (nI_ge (by omega) (by omega))) (fun h8 => ?_)
      refine w_aload_n X dX12_skip_11 rfl rfl ?_
      refine g12_tape X dX12_skip_12 ?_
      refine w_aload_n X dX12_skip_15 rfl rfl ?_
      refine g12_at X dX12_skip_16 ?_
      try simp only [gI_sI, gI_sL, gL_sI, gL_sL, false_and, and_false, and_self, if_false, if_true, reduceIte, Nat.reduceEqDiff, ht.1]
      refine w_ialoadN X dX12_skip_19 rfl rfl (by omega) ?_
      try simp only [gI_sI, gI_sL, gL_sI, gL_sL, false_and, and_false, and_self, if_false, if_true, reduceIte, Nat.reduceEqDiff, ht.1]
      refine w_bipush (v := 32) X dX12_skip_20 (by decide) ?_
      refine w_icmp_gt (tgt := 38) X dX12_skip_22 (by decide) (fun h22 => ?_) (fun h22 => ?_)
      · refine w_vrF X dX12_skip_38 ?_
        rw [hr]
        simp only [sk_]
        rw [if_neg (by rw [eb]; exact Int32.not_le.mpr h22)]
      · refine w_aload_n X dX12_skip_25 rfl rfl ?_
        refine w_dup X dX12_skip_26 rfl ?_
        refine g12_at X dX12_skip_27 ?_
        try simp only [gI_sI, gI_sL, gL_sI, gL_sL, false_and, and_false, and_self, if_false, if_true, reduceIte, Nat.reduceEqDiff, ht.1]
        refine w_iconst (v := 1) X dX12_skip_30 (by decide) ?_
        refine w_iadd X dX12_skip_31 ?_
        refine p12_at X dX12_skip_32 ?_
        refine w_goto (tgt := 0) X dX12_skip_35 (by decide) ?_
        rw [sI_sI, nI_1]
        refine ih (j + 1) (by omega) (by omega) ?_
        rw [hr]
        simp only [sk_]
        rw [if_pos (by rw [eb]; exact Int32.not_lt.mp h22)]
  have e0 : sI_ M 0 5 (nI k) = M := by rw [← ha]; exact sI_self M 0 5
  refine (show wq_ C G (qe_ C G (fV_ (sI_ M 0 5 (nI (sp_ M n k))))) 0 (en_ 1 [.ref (G.1 0)]) [] (sI_ M 0 5 (nI k)) → wq_ C G (qe_ C G (fV_ (sI_ M 0 5 (nI (sp_ M n k))))) 0 (en_ 1 [.ref (G.1 0)]) [] M from fun h => by rw [e0] at h; exact h) ?_
  exact lp (n - k) k rfl hk rfl
set_option maxRecDepth 100000 in
set_option maxHeartbeats 4000000 in
theorem c12_wantEnd (G : gg_) (hG : gd_ G) (d : Nat) (M : mm_) (n k : Nat) (ht : tz_ M n) (ha : M.1 0 5 = nI k) (hk : k < 1073741824) : cm_ G yX12_wantEnd cX12_wantEnd 1 none (d + 1) [.ref (G.1 0)] M (fV_ (if M.1 0 3 = 0 ∧ sp_ M n k < n then fa_ (sI_ M 0 5 (nI (sp_ M n k))) 1 (nI (sp_ M n k)) else sI_ M 0 5 (nI (sp_ M n k)))) := by
  refine cm_of hG (by decide) (Nat.le_of_ble_eq_true rfl) (fun C X => ?_)
  refine w_aload_n X dX12_wantEnd_0 rfl rfl ?_
  refine w_v0fV X dX12_wantEnd_1 k12_skip rfl rfl (c12_skip G hG _ _ n k ht ha hk) (Nat.le_of_ble_eq_true rfl) ?_
  have hq : sp_ M n k < 2147483648 := by have := (sk_ge (bf_ M n) (n - k) k).2; have := ht.2; unfold sp_; omega
  refine w_aload_n X dX12_wantEnd_4 rfl rfl ?_
  refine g12_fault X dX12_wantEnd_5 ?_
  try simp only [gI_sI, gI_sL, gL_sI, gL_sL, false_and, and_false, and_self, if_false, if_true, reduceIte, Nat.reduceEqDiff, ht.1]
  refine w_if_ne (tgt := 31) X dX12_wantEnd_8 (by decide) (fun h8 => ?_) (fun h8 => ?_)
  · refine w_vrF X dX12_wantEnd_31 ?_
    first | (simp [h8]; done) | (simp [h8, e9]; done)
  · refine w_aload_n X dX12_wantEnd_11 rfl rfl ?_
    refine g12_at X dX12_wantEnd_12 ?_
    try simp only [gI_sI, gI_sL, gL_sI, gL_sL, false_and, and_false, and_self, if_false, if_true, reduceIte, Nat.reduceEqDiff, ht.1]
    refine w_aload_n X dX12_wantEnd_15 rfl rfl ?_
    refine g12_size X dX12_wantEnd_16 ?_
    try simp only [gI_sI, gI_sL, gL_sI, gL_sL, false_and, and_false, and_self, if_false, if_true, reduceIte, Nat.reduceEqDiff, ht.1]
    refine w_icmp_ge (tgt := 31) X dX12_wantEnd_19 (by decide) (fun h19 => ?_) (fun h19 => ?_)
    · have e9 : ¬ sp_ M n k < n := fun q => Int32.not_le.mpr ((nI_ltI hq (by have := ht.2; omega)).mpr q) h19
      refine w_vrF X dX12_wantEnd_31 ?_
      first | (simp [h8, h19]; done) | (simp [h8, e9]; done)
    · have e9 : sp_ M n k < n := (nI_ltI hq (by have := ht.2; omega)).mp (Int32.not_le.mp h19)
      refine w_aload_n X dX12_wantEnd_22 rfl rfl ?_
      refine w_iconst (v := 1) X dX12_wantEnd_23 (by decide) ?_
      refine w_aload_n X dX12_wantEnd_24 rfl rfl ?_
      refine g12_at X dX12_wantEnd_25 ?_
      try simp only [gI_sI, gI_sL, gL_sI, gL_sL, false_and, and_false, and_self, if_false, if_true, reduceIte, Nat.reduceEqDiff, ht.1]
      refine w_v2fV X dX12_wantEnd_28 k12_fail rfl rfl (c12_fail G hG _ _ _ _) (Nat.le_of_ble_eq_true rfl) ?_
      refine w_vrF X dX12_wantEnd_31 ?_
      first | (simp [h8, h19]; done) | (simp [h8, e9]; done)
set_option maxRecDepth 100000 in
set_option maxHeartbeats 4000000 in
theorem c12_findMethod (G : gg_) (hG : gd_ G) (d : Nat) (M : mm_) (c : Nat) (hm : M.1 0 9 = nI c) (hc : c ≤ 16) (a : Int64) (b : Int32) : cm_ G yX12_findMethod cX12_findMethod 5 (some .int) (d) [.ref (G.1 0), .long a, .int b] M (fI_ (fm_ M a b c 0) M) := by
  refine cm_of hG (by decide) (Nat.le_of_ble_eq_true rfl) (fun C X => ?_)
  have lp : ∀ (u j : Nat), j + u = c → fm_ M a b c 0 = fm_ M a b u j → wq_ C G (qe_ C G (fI_ (fm_ M a b c 0) M)) 3 [some (.ref (G.1 0)), some (.long a), none, some (.int b), some (.int (nI j))] [] M := by
    intro u
    induction u with
    | zero =>
      intro j hu hr
      refine w_iload X dX12_findMethod_3 rfl ?_
      refine w_aload_n X dX12_findMethod_5 rfl rfl ?_
      refine g12_methods X dX12_findMethod_6 ?_
      try simp only [gI_sI, gI_sL, gL_sI, gL_sL, false_and, and_false, and_self, if_false, if_true, reduceIte, Nat.reduceEqDiff, hm]
      refine w_icmp_ge (tgt := 44) X dX12_findMethod_9 (by decide) (fun h9 => ?_) (fun h9 => absurd (nI_le (by omega) (by omega)) h9)
      refine w_iconst (v := -1) X dX12_findMethod_44 (by decide) ?_
      exact w_irF X dX12_findMethod_45 (by rw [hr]; rfl) rfl
    | succ u ih =>
      intro j hu hr
      refine w_iload X dX12_findMethod_3 rfl ?_
      refine w_aload_n X dX12_findMethod_5 rfl rfl ?_
      refine g12_methods X dX12_findMethod_6 ?_
      try simp only [gI_sI, gI_sL, gL_sI, gL_sL, false_and, and_false, and_self, if_false, if_true, reduceIte, Nat.reduceEqDiff, hm]
      refine w_icmp_ge (tgt := 44) X dX12_findMethod_9 (by decide) (fun h9 => absurd h9 (nI_ge (by omega) (by omega))) (fun h9 => ?_)
      refine w_aload_n X dX12_findMethod_12 rfl rfl ?_
      refine g12_names X dX12_findMethod_13 ?_
      refine w_iload X dX12_findMethod_16 rfl ?_
      refine w_laloadN X dX12_findMethod_18 rfl rfl (by omega) ?_
      try simp only [gI_sI, gI_sL, gL_sI, gL_sL, false_and, and_false, and_self, if_false, if_true, reduceIte, Nat.reduceEqDiff, hm]
      refine w_lload_n X dX12_findMethod_19 rfl rfl ?_
      refine w_lcmp X dX12_findMethod_20 ?_
      refine w_if_ne (tgt := 38) X dX12_findMethod_21 (by decide) (fun h21 => ?_) (fun h21 => ?_)
      · refine w_iinc (v := 1) X dX12_findMethod_38 rfl (by decide) (by decide) ?_
        refine w_goto (tgt := 3) X dX12_findMethod_41 (by decide) ?_
        rw [nI_1]
        refine ih (j + 1) (by omega) ?_
        rw [hr]
        simp only [fm_]
        first | exact (if_neg (fun q => h21 (lc_.mpr q.1))).symm | exact (if_neg (fun q => h32 q.2)).symm | exact if_neg (fun q => h21 (lc_.mpr q.1)) | exact if_neg (fun q => h32 q.2)
      · refine w_aload_n X dX12_findMethod_24 rfl rfl ?_
        refine g12_parameters X dX12_findMethod_25 ?_
        refine w_iload X dX12_findMethod_28 rfl ?_
        refine w_ialoadN X dX12_findMethod_30 rfl rfl (by omega) ?_
        try simp only [gI_sI, gI_sL, gL_sI, gL_sL, false_and, and_false, and_self, if_false, if_true, reduceIte, Nat.reduceEqDiff, hm]
        refine w_iload_n X dX12_findMethod_31 rfl rfl ?_
        refine w_icmp_ne (tgt := 38) X dX12_findMethod_32 (by decide) (fun h32 => ?_) (fun h32 => ?_)
        · refine w_iinc (v := 1) X dX12_findMethod_38 rfl (by decide) (by decide) ?_
          refine w_goto (tgt := 3) X dX12_findMethod_41 (by decide) ?_
          rw [nI_1]
          refine ih (j + 1) (by omega) ?_
          rw [hr]
          simp only [fm_]
          first | exact (if_neg (fun q => h21 (lc_.mpr q.1))).symm | exact (if_neg (fun q => h32 q.2)).symm | exact if_neg (fun q => h21 (lc_.mpr q.1)) | exact if_neg (fun q => h32 q.2)
        · refine w_iload X dX12_findMethod_35 rfl ?_
          refine w_irF X dX12_findMethod_37 ?_ rfl
          rw [hr]
          simp only [fm_]
          exact (if_pos ⟨lc_.mp h21, h32⟩).symm
  refine w_iconst (v := 0) X dX12_findMethod_0 (by decide) ?_
  refine w_istore X dX12_findMethod_1 (by decide) ?_
  exact lp c 0 (by omega) rfl
set_option maxRecDepth 100000 in
set_option maxHeartbeats 4000000 in
theorem c12_freeJob (G : gg_) (hG : gd_ G) (d : Nat) (M : mm_) : cm_ G yX12_freeJob cX12_freeJob 2 (some .int) (d) [.ref (G.1 0)] M (fI_ (fj_ M 8 0) M) := by
  refine cm_of hG (by decide) (Nat.le_of_ble_eq_true rfl) (fun C X => ?_)
  have lp : ∀ (u j : Nat), j + u = 8 → fj_ M 8 0 = fj_ M u j → wq_ C G (qe_ C G (fI_ (fj_ M 8 0) M)) 2 [some (.ref (G.1 0)), some (.int (nI j))] [] M := by
    intro u
    induction u with
    | zero =>
      intro j hu hr
      refine w_iload_n X dX12_freeJob_2 rfl rfl ?_
      refine w_bipush (v := 8) X dX12_freeJob_3 (by decide) ?_
      refine w_icmp_ge (tgt := 25) X dX12_freeJob_5 (by decide) (fun h5 => ?_) (fun h5 => absurd (nI_le (a := 8) (by omega) (by omega)) h5)
      refine w_iconst (v := -1) X dX12_freeJob_25 (by decide) ?_
      exact w_irF X dX12_freeJob_26 (by rw [hr]; rfl) rfl
    | succ u ih =>
      intro j hu hr
      refine w_iload_n X dX12_freeJob_2 rfl rfl ?_
      refine w_bipush (v := 8) X dX12_freeJob_3 (by decide) ?_
      refine w_icmp_ge (tgt := 25) X dX12_freeJob_5 (by decide) (fun h5 => absurd h5 (nI_ge (b := 8) (by omega) (by omega))) (fun h5 => ?_)
      refine w_aload_n X dX12_freeJob_8 rfl rfl ?_
      refine g12_kinds X dX12_freeJob_9 ?_
      refine w_iload_n X dX12_freeJob_12 rfl rfl ?_
      refine w_ialoadN X dX12_freeJob_13 rfl rfl (by omega) ?_
      try simp only [gI_sI, gI_sL, gL_sI, gL_sL, false_and, and_false, and_self, if_false, if_true, reduceIte, Nat.reduceEqDiff]
      refine w_if_ne (tgt := 19) X dX12_freeJob_14 (by decide) (fun h14 => ?_) (fun h14 => ?_)
      · refine w_iinc (v := 1) X dX12_freeJob_19 rfl (by decide) (by decide) ?_
        refine w_goto (tgt := 2) X dX12_freeJob_22 (by decide) ?_
        rw [nI_1]
        refine ih (j + 1) (by omega) ?_
        rw [hr]
        simp only [fj_]
        simp_all
      · refine w_iload_n X dX12_freeJob_17 rfl rfl ?_
        refine w_irF X dX12_freeJob_18 ?_ rfl
        rw [hr]
        simp only [fj_]
        simp_all
  refine w_iconst (v := 0) X dX12_freeJob_0 (by decide) ?_
  refine w_istore_n X dX12_freeJob_1 rfl (by decide) ?_
  exact lp 8 0 (by omega) rfl
end
section
theorem nI_p1 (n : Nat) (k : Nat) (h : 0 < k + n) : nI (k + n) - 1 = nI (k + n - 1) := nI_p _ h
set_option maxRecDepth 100000 in
set_option maxHeartbeats 4000000 in
theorem c12_isName (G : gg_) (hG : gd_ G) (d : Nat) (M : mm_) (n k j : Nat) (ht : tz_ M n) (hk : k + j < 1073741824) : cm_ G yX12_isName cX12_isName 6 (some .boolean) (d + 1) [.ref (G.1 0), .int (nI k), .int (nI j)] M (fI_ (if ne_ (bf_ M n) k j then 1 else 0) (sL_ M 0 24 (nm_ (bf_ M n) k j))) := by
  refine cm_of hG (by decide) (Nat.le_of_ble_eq_true rfl) (fun C X => ?_)
  have lp : ∀ (u i : Nat) (w5 : Option Value), i + u = j → wq_ C G (qe_ C G (fI_ (if ne_ (bf_ M n) k j then 1 else 0) (sL_ M 0 24 (nm_ (bf_ M n) k j)))) 10 [some (.ref (G.1 0)), some (.int (nI k)), some (.int (nI j)), some (.int (nI (dt_ (bf_ M n) k i))), some (.int (nI i)), w5] [] (sL_ M 0 24 (nm_ (bf_ M n) k i)) := by
    intro u
    induction u with
    | zero =>
      intro i w5 hu
      refine w_iload X dX12_isName_10 rfl ?_
      refine w_iload_n X dX12_isName_12 rfl rfl ?_
      refine w_icmp_ge (tgt := 76) X dX12_isName_13 (by decide) (fun h13 => ?_) (fun h13 => absurd (by rw [show i = j by omega]; exact Int32.le_refl _) h13)
      obtain rfl : i = j := by omega
      refine w_iload_n X dX12_isName_76 rfl rfl ?_
      refine w_iconst (v := 2) X dX12_isName_77 (by decide) ?_
      refine w_icmp_le (tgt := 114) X dX12_isName_78 (by decide) (fun h78 => ?_) (fun h78 => ?_)
      · have e78 : ¬ 2 < i := fun q => Int32.not_le.mpr (nI_lt (a := 2) q (by omega)) h78
        refine w_iconst (v := 0) X dX12_isName_114 (by decide) ?_
        refine w_zrF X dX12_isName_115 (by first | exact Or.inl rfl | exact Or.inr rfl) ?_ rfl
        simp only [ne_]
        simp [hu, e78]
      · have e78 : 2 < i := (nI_ltI (a := 2) (by omega) (by omega)).mp (Int32.not_le.mp h78)
        refine w_iload_n X dX12_isName_81 rfl rfl ?_
        refine w_iconst (v := 1) X dX12_isName_82 (by decide) ?_
        refine w_icmp_ne (tgt := 114) X dX12_isName_83 (by decide) (fun h83 => ?_) (fun h83 => ?_)
        · have e83 : ¬ dt_ (bf_ M n) k i = 1 := fun q => h83 (by rw [q]; rfl)
          refine w_iconst (v := 0) X dX12_isName_114 (by decide) ?_
          refine w_zrF X dX12_isName_115 (by first | exact Or.inl rfl | exact Or.inr rfl) ?_ rfl
          simp only [ne_]
          simp [hu, e78, e83]
        · have e83 : dt_ (bf_ M n) k i = 1 := by
            have hd9 := dt_le (bf_ M n) k i
            exact (nI_eq (b := 1) (by omega) (by omega)).mp h83
          refine w_aload_n X dX12_isName_86 rfl rfl ?_
          refine w_iload_n X dX12_isName_87 rfl rfl ?_
          refine w_v1fI X dX12_isName_88 k12_byteAt rfl rfl (c12_byteAt G hG _ _ (nI k) (fun q => tz_in (tz_sL ht) (by omega) q)) (Nat.le_of_ble_eq_true rfl) ?_
          rw [ba_sL, ba_bf ht (by omega)]
          refine w_bipush (v := 46) X dX12_isName_91 (by decide) ?_
          refine w_icmp_eq (tgt := 114) X dX12_isName_93 (by decide) (fun h93 => ?_) (fun h93 => ?_)
          · refine w_iconst (v := 0) X dX12_isName_114 (by decide) ?_
            refine w_zrF X dX12_isName_115 (by first | exact Or.inl rfl | exact Or.inr rfl) ?_ rfl
            simp only [ne_]
            simp [hu, e78, e83, h93]
          · refine w_aload_n X dX12_isName_96 rfl rfl ?_
            refine w_iload_n X dX12_isName_97 rfl rfl ?_
            refine w_iload_n X dX12_isName_98 rfl rfl ?_
            refine w_iadd X dX12_isName_99 ?_
            refine w_iconst (v := 1) X dX12_isName_100 (by decide) ?_
            refine w_isub X dX12_isName_101 ?_
            rw [nI_add k i, nI_p1 i k (by omega)]
            refine w_v1fI X dX12_isName_102 k12_byteAt rfl rfl (c12_byteAt G hG _ _ (nI (k + i - 1)) (fun q => tz_in (tz_sL ht) (by omega) q)) (Nat.le_of_ble_eq_true rfl) ?_
            rw [ba_sL, ba_bf ht (by omega)]
            refine w_bipush (v := 46) X dX12_isName_105 (by decide) ?_
            refine w_icmp_eq (tgt := 114) X dX12_isName_107 (by decide) (fun h107 => ?_) (fun h107 => ?_)
            · refine w_iconst (v := 0) X dX12_isName_114 (by decide) ?_
              refine w_zrF X dX12_isName_115 (by first | exact Or.inl rfl | exact Or.inr rfl) ?_ rfl
              simp only [ne_]
              simp [hu, e78, e83, h93, h107]
            · refine w_iconst (v := 1) X dX12_isName_110 (by decide) ?_
              refine w_goto (tgt := 115) X dX12_isName_111 (by decide) ?_
              refine w_zrF X dX12_isName_115 (by first | exact Or.inl rfl | exact Or.inr rfl) ?_ rfl
              simp only [ne_]
              simp [hu, e78, e83, h93, h107]
    | succ u ih =>
      intro i w5 hu
      refine w_iload X dX12_isName_10 rfl ?_
      refine w_iload_n X dX12_isName_12 rfl rfl ?_
      refine w_icmp_ge (tgt := 76) X dX12_isName_13 (by decide) (fun h13 => absurd h13 (nI_ge (by omega) (by omega))) (fun h13 => ?_)
      refine w_aload_n X dX12_isName_16 rfl rfl ?_
      refine w_iload_n X dX12_isName_17 rfl rfl ?_
      refine w_iload X dX12_isName_18 rfl ?_
      refine w_iadd X dX12_isName_20 ?_
      rw [nI_add k i]
      refine w_v1fI X dX12_isName_21 k12_byteAt rfl rfl (c12_byteAt G hG _ _ (nI (k + i)) (fun q => tz_in (tz_sL ht) (by omega) q)) (Nat.le_of_ble_eq_true rfl) ?_
      rw [ba_sL, ba_bf ht (by omega)]
      refine w_istore X dX12_isName_24 (by decide) ?_
      refine w_iload X dX12_isName_26 rfl ?_
      refine w_bipush (v := 46) X dX12_isName_28 (by decide) ?_
      refine w_icmp_ne (tgt := 39) X dX12_isName_30 (by decide) (fun h30 => ?_) (fun h30 => ?_)
      · refine w_iload_n X dX12_isName_39 rfl rfl ?_
        refine w_istore_n X dX12_isName_40 rfl (by decide) ?_
        refine w_aload_n X dX12_isName_41 rfl rfl ?_
        refine w_aload_n X dX12_isName_42 rfl rfl ?_
        refine g12_rowName X dX12_isName_43 ?_
        try simp only [gI_sI, gI_sL, gL_sI, gL_sL, false_and, and_false, and_self, if_false, if_true, reduceIte, Nat.reduceEqDiff]
        refine w_iconst (v := 5) X dX12_isName_46 (by decide) ?_
        refine w_lshl X dX12_isName_47 ?_
        refine w_iload X dX12_isName_48 rfl ?_
        refine w_bipush (v := 46) X dX12_isName_50 (by decide) ?_
        refine w_icmp_ne (tgt := 60) X dX12_isName_52 (by decide) (fun h52 => ?_) (fun h52 => absurd h52 h30)
        refine w_iload X dX12_isName_60 rfl ?_
        refine w_bipush (v := 96) X dX12_isName_62 (by decide) ?_
        refine w_isub X dX12_isName_64 ?_
        refine w_i2l X dX12_isName_65 ?_
        refine w_lor X dX12_isName_66 ?_
        refine p12_rowName X dX12_isName_67 ?_
        refine w_iinc (v := 1) X dX12_isName_70 rfl (by decide) (by decide) ?_
        refine w_goto (tgt := 10) X dX12_isName_73 (by decide) ?_
        have e := ih (i + 1) (some (.int (bf_ M n (k + i)))) (by omega)
        simp only [dt_, nm_, nc_] at e
        first | rw [if_neg h30, if_neg h30] at e | rw [if_pos h30, if_pos h30] at e
        try rw [nI_1 (dt_ (bf_ M n) k i)]
        rw [sL_sL, nI_1 i]
        exact e
      · refine w_iload_n X dX12_isName_33 rfl rfl ?_
        refine w_iconst (v := 1) X dX12_isName_34 (by decide) ?_
        refine w_iadd X dX12_isName_35 ?_
        refine w_goto (tgt := 40) X dX12_isName_36 (by decide) ?_
        refine w_istore_n X dX12_isName_40 rfl (by decide) ?_
        refine w_aload_n X dX12_isName_41 rfl rfl ?_
        refine w_aload_n X dX12_isName_42 rfl rfl ?_
        refine g12_rowName X dX12_isName_43 ?_
        try simp only [gI_sI, gI_sL, gL_sI, gL_sL, false_and, and_false, and_self, if_false, if_true, reduceIte, Nat.reduceEqDiff]
        refine w_iconst (v := 5) X dX12_isName_46 (by decide) ?_
        refine w_lshl X dX12_isName_47 ?_
        refine w_iload X dX12_isName_48 rfl ?_
        refine w_bipush (v := 46) X dX12_isName_50 (by decide) ?_
        refine w_icmp_ne (tgt := 60) X dX12_isName_52 (by decide) (fun h52 => absurd h30 h52) (fun h52 => ?_)
        refine w_bipush (v := 27) X dX12_isName_55 (by decide) ?_
        refine w_goto (tgt := 65) X dX12_isName_57 (by decide) ?_
        refine w_i2l X dX12_isName_65 ?_
        refine w_lor X dX12_isName_66 ?_
        refine p12_rowName X dX12_isName_67 ?_
        refine w_iinc (v := 1) X dX12_isName_70 rfl (by decide) (by decide) ?_
        refine w_goto (tgt := 10) X dX12_isName_73 (by decide) ?_
        have e := ih (i + 1) (some (.int (bf_ M n (k + i)))) (by omega)
        simp only [dt_, nm_, nc_] at e
        first | rw [if_neg h30, if_neg h30] at e | rw [if_pos h30, if_pos h30] at e
        try rw [nI_1 (dt_ (bf_ M n) k i)]
        rw [sL_sL, nI_1 i]
        exact e
  refine w_iconst (v := 0) X dX12_isName_0 (by decide) ?_
  refine w_istore_n X dX12_isName_1 rfl (by decide) ?_
  refine w_aload_n X dX12_isName_2 rfl rfl ?_
  refine w_lconst (v := 0) X dX12_isName_3 (by decide) ?_
  refine p12_rowName X dX12_isName_4 ?_
  refine w_iconst (v := 0) X dX12_isName_7 (by decide) ?_
  refine w_istore X dX12_isName_8 (by decide) ?_
  exact lp j 0 none (by omega)
set_option maxRecDepth 100000 in
set_option maxHeartbeats 4000000 in
theorem c12_rowAt (G : gg_) (hG : gd_ G) (d : Nat) (M : mm_) (n k : Nat) (ht : tz_ M n) (hk : k < 536870912) : cm_ G yX12_rowAt cX12_rowAt 4 (some .long) (d + 3) [.ref (G.1 0), .int (nI k)] M (fL_ (if 8 < rz_ M n k then 0 else nm_ (bf_ M n) k (rz_ M n k)) (sL_ M 0 24 (nm_ (bf_ M n) k (min (rz_ M n k) 12)))) := by
  refine cm_of hG (by decide) (Nat.le_of_ble_eq_true rfl) (fun C X => ?_)
  refine w_aload_n X dX12_rowAt_0 rfl rfl ?_
  refine w_iload_n X dX12_rowAt_1 rfl rfl ?_
  refine w_v1fI X dX12_rowAt_2 k12_rowSize rfl rfl (c12_rowSize G hG _ _ n k ht (by omega)) (Nat.le_of_ble_eq_true rfl) ?_
  refine w_istore_n X dX12_rowAt_5 rfl (by decide) ?_
  have hz := rz_le M n k
  have hn := ht.2
  refine w_aload_n X dX12_rowAt_6 rfl rfl ?_
  refine w_iload_n X dX12_rowAt_7 rfl rfl ?_
  refine w_iload_n X dX12_rowAt_8 rfl rfl ?_
  refine w_bipush (v := 12) X dX12_rowAt_9 (by decide) ?_
  refine w_icmp_le (tgt := 19) X dX12_rowAt_11 (by decide) (fun h11 => ?_) (fun h11 => ?_)
  · have e11 : rz_ M n k ≤ 12 := (nI_leI (b := 12) (by omega) (by omega)).mp h11
    refine w_iload_n X dX12_rowAt_19 rfl rfl ?_
    refine w_v2fI X dX12_rowAt_20 k12_isName rfl rfl (c12_isName G hG _ _ n k (rz_ M n k) ht (by omega)) (Nat.le_of_ble_eq_true rfl) ?_
    refine w_istore_n X dX12_rowAt_23 rfl (by decide) ?_
    refine w_iload_n X dX12_rowAt_24 rfl rfl ?_
    refine w_bipush (v := 8) X dX12_rowAt_25 (by decide) ?_
    refine w_icmp_le (tgt := 34) X dX12_rowAt_27 (by decide) (fun h27 => ?_) (fun h27 => ?_)
    · have e27 : rz_ M n k ≤ 8 := (nI_leI (b := 8) (by omega) (by omega)).mp h27
      refine w_iload_n X dX12_rowAt_34 rfl rfl ?_
      refine w_if_eq (tgt := 45) X dX12_rowAt_35 (by decide) (fun h35 => ?_) (fun h35 => ?_)
      · refine w_aload_n X dX12_rowAt_45 rfl rfl ?_
        refine g12_rowName X dX12_rowAt_46 ?_
        try simp only [gI_sI, gI_sL, gL_sI, gL_sL, false_and, and_false, and_self, if_false, if_true, reduceIte, Nat.reduceEqDiff]
        refine w_lrF X dX12_rowAt_49 ?_ ?_
        · first | exact (if_neg (by omega)).symm | exact (if_pos (by omega)).symm
        · first | rw [show min (rz_ M n k) 12 = rz_ M n k by omega] | rw [show min (rz_ M n k) 12 = 12 by omega]
      · refine w_aload_n X dX12_rowAt_38 rfl rfl ?_
        refine g12_rowName X dX12_rowAt_39 ?_
        try simp only [gI_sI, gI_sL, gL_sI, gL_sL, false_and, and_false, and_self, if_false, if_true, reduceIte, Nat.reduceEqDiff]
        refine w_goto (tgt := 49) X dX12_rowAt_42 (by decide) ?_
        refine w_lrF X dX12_rowAt_49 ?_ ?_
        · first | exact (if_neg (by omega)).symm | exact (if_pos (by omega)).symm
        · first | rw [show min (rz_ M n k) 12 = rz_ M n k by omega] | rw [show min (rz_ M n k) 12 = 12 by omega]
    · have e27 : 8 < rz_ M n k := Nat.not_le.mp (fun q => h27 (nI_le (b := 8) q (by omega)))
      refine w_lconst (v := 0) X dX12_rowAt_30 (by decide) ?_
      refine w_goto (tgt := 49) X dX12_rowAt_31 (by decide) ?_
      refine w_lrF X dX12_rowAt_49 ?_ ?_
      · first | exact (if_neg (by omega)).symm | exact (if_pos (by omega)).symm
      · first | rw [show min (rz_ M n k) 12 = rz_ M n k by omega] | rw [show min (rz_ M n k) 12 = 12 by omega]
  · have e11 : 12 < rz_ M n k := Nat.not_le.mp (fun q => h11 (nI_le (b := 12) q (by omega)))
    refine w_bipush (v := 12) X dX12_rowAt_14 (by decide) ?_
    refine w_goto (tgt := 20) X dX12_rowAt_16 (by decide) ?_
    refine w_v2fI X dX12_rowAt_20 k12_isName rfl rfl (c12_isName G hG _ _ n k 12 ht (by omega)) (Nat.le_of_ble_eq_true rfl) ?_
    refine w_istore_n X dX12_rowAt_23 rfl (by decide) ?_
    refine w_iload_n X dX12_rowAt_24 rfl rfl ?_
    refine w_bipush (v := 8) X dX12_rowAt_25 (by decide) ?_
    refine w_icmp_le (tgt := 34) X dX12_rowAt_27 (by decide) (fun h27 => absurd h27 (fun q => by have := (nI_leI (b := 8) (by omega) (by omega)).mp q; omega)) (fun h27 => ?_)
    refine w_lconst (v := 0) X dX12_rowAt_30 (by decide) ?_
    refine w_goto (tgt := 49) X dX12_rowAt_31 (by decide) ?_
    refine w_lrF X dX12_rowAt_49 ?_ ?_
    · first | exact (if_neg (by omega)).symm | exact (if_pos (by omega)).symm
    · first | rw [show min (rz_ M n k) 12 = rz_ M n k by omega] | rw [show min (rz_ M n k) 12 = 12 by omega]
end
section
/-! names and patterns -/
theorem nI_12 (b p : Nat) : (12 : Int32) * nI b + nI p = nI (12 * b + p) := by rw [show (12 : Int32) = nI 12 from rfl, pk_mul, nI_add]
def ns_ (x : Int64) : Nat → Nat → Nat
  | 0, n => n
  | u + 1, n => if x >>> (((5 : Int32) * nI n).toInt64 &&& 63) = 0 then n else ns_ x u (n + 1)
theorem ns_le (x : Int64) : ∀ u n, ns_ x u n ≤ n + u
  | 0, n => Nat.le_refl _
  | u + 1, n => by
    have := ns_le x u (n + 1)
    unfold ns_
    split <;> omega
def nb_ (x : Int64) (k n : Int32) : Int32 := if ((x >>> (((5 : Int32) * (n - 1 - k)).toInt64 &&& 63)) &&& 31).toInt32 = 27 then 46 else 96 + ((x >>> (((5 : Int32) * (n - 1 - k)).toInt64 &&& 63)) &&& 31).toInt32
def sr_ (f : Nat → Int32) : Nat → Nat → Int32 → Int32
  | 0, _, x => x
  | u + 1, p, x => sr_ f u (p + 1) (if (x >>> (nI p &&& 31)) &&& 1 = 1 ∧ f p = 42 then x ||| ((2 : Int32) <<< (nI p &&& 31)) else x)
def fi_ (f : Nat → Int32) (dn c : Int32) : Nat → Nat → Int32 → Int32
  | 0, _, x => x
  | u + 1, p, x => fi_ f dn c u (p + 1) (if (dn >>> (nI p &&& 31)) &&& 1 = 1 then (if f p = 42 then x ||| ((1 : Int32) <<< (nI p &&& 31)) else if f p = 63 ∨ f p = c then x ||| ((2 : Int32) <<< (nI p &&& 31)) else x) else x)
def fo_ (f : Nat → Int32) (z : Nat) (c : Nat → Int32) : Nat → Nat → Int32 → Int32
  | 0, _, x => x
  | u + 1, k, x => fo_ f z c u (k + 1) (sr_ f z 0 (fi_ f x (c k) z 0 0))
/-- the pattern of job b -/
def pa_ (M : mm_) (b : Nat) : Nat → Int32 := fun p => M.1 17 (12 * b + p)
/-- a pattern f of z signs fits the name x -/
def ft_ (f : Nat → Int32) (z : Nat) (x : Int64) : Int32 := if (fo_ f z (fun k => nb_ x (nI k) (nI (ns_ x 12 0))) (ns_ x 12 0) 0 (sr_ f z 0 1) >>> (nI z &&& 31)) &&& 1 = 1 then 1 else 0
set_option maxRecDepth 100000 in
set_option maxHeartbeats 4000000 in
theorem c12_nameSize (G : gg_) (hG : gd_ G) (d : Nat) (M : mm_) (m : Nat) (hm : m < 16) : cm_ G yX12_nameSize cX12_nameSize 3 (some .int) (d) [.ref (G.1 0), .int (nI m)] M (fI_ (nI (ns_ (M.2.1 5 m) 12 0)) M) := by
  refine cm_of hG (by decide) (Nat.le_of_ble_eq_true rfl) (fun C X => ?_)
  have lp : ∀ (u j : Nat), j + u = 12 → ns_ (M.2.1 5 m) 12 0 = ns_ (M.2.1 5 m) u j → wq_ C G (qe_ C G (fI_ (nI (ns_ (M.2.1 5 m) 12 0)) M)) 2 [some (.ref (G.1 0)), some (.int (nI m)), some (.int (nI j))] [] M := by
    intro u
    induction u with
    | zero =>
      intro j hu hr
      refine w_iload_n X dX12_nameSize_2 rfl rfl ?_
      refine w_bipush (v := 12) X dX12_nameSize_3 (by decide) ?_
      refine w_icmp_ge (tgt := 29) X dX12_nameSize_5 (by decide) (fun h5 => ?_) (fun h5 => absurd (nI_le (a := 12) (by omega) (by omega)) h5)
      refine w_iload_n X dX12_nameSize_29 rfl rfl ?_
      exact w_irF X dX12_nameSize_30 (by rw [hr]; rfl) rfl
    | succ u ih =>
      intro j hu hr
      refine w_iload_n X dX12_nameSize_2 rfl rfl ?_
      refine w_bipush (v := 12) X dX12_nameSize_3 (by decide) ?_
      refine w_icmp_ge (tgt := 29) X dX12_nameSize_5 (by decide) (fun h5 => absurd h5 (nI_ge (b := 12) (by omega) (by omega))) (fun h5 => ?_)
      refine w_aload_n X dX12_nameSize_8 rfl rfl ?_
      refine g12_names X dX12_nameSize_9 ?_
      refine w_iload_n X dX12_nameSize_12 rfl rfl ?_
      refine w_laloadN X dX12_nameSize_13 rfl rfl (by omega) ?_
      refine w_iconst (v := 5) X dX12_nameSize_14 (by decide) ?_
      refine w_iload_n X dX12_nameSize_15 rfl rfl ?_
      refine w_imul X dX12_nameSize_16 ?_
      refine w_lshr X dX12_nameSize_17 ?_
      refine w_lconst (v := 0) X dX12_nameSize_18 (by decide) ?_
      refine w_lcmp X dX12_nameSize_19 ?_
      refine w_if_eq (tgt := 29) X dX12_nameSize_20 (by decide) (fun h20 => ?_) (fun h20 => ?_)
      · refine w_iload_n X dX12_nameSize_29 rfl rfl ?_
        refine w_irF X dX12_nameSize_30 ?_ rfl
        rw [hr]
        simp only [ns_]
        rw [if_pos (lc_.mp h20)]
      · refine w_iinc (v := 1) X dX12_nameSize_23 rfl (by decide) (by decide) ?_
        refine w_goto (tgt := 2) X dX12_nameSize_26 (by decide) ?_
        rw [nI_1]
        refine ih (j + 1) (by omega) ?_
        rw [hr]
        simp only [ns_]
        exact if_neg (fun q => h20 (lc_.mpr q))
  refine w_iconst (v := 0) X dX12_nameSize_0 (by decide) ?_
  refine w_istore_n X dX12_nameSize_1 rfl (by decide) ?_
  exact lp 12 0 (by omega) rfl
set_option maxRecDepth 100000 in
set_option maxHeartbeats 4000000 in
theorem c12_nameByte (G : gg_) (hG : gd_ G) (d : Nat) (M : mm_) (m : Nat) (hm : m < 16) (k n : Int32) : cm_ G yX12_nameByte cX12_nameByte 5 (some .int) (d) [.ref (G.1 0), .int (nI m), .int k, .int n] M (fI_ (nb_ (M.2.1 5 m) k n) M) := by
  refine cm_of hG (by decide) (Nat.le_of_ble_eq_true rfl) (fun C X => ?_)
  refine w_aload_n X dX12_nameByte_0 rfl rfl ?_
  refine g12_names X dX12_nameByte_1 ?_
  refine w_iload_n X dX12_nameByte_4 rfl rfl ?_
  refine w_laloadN X dX12_nameByte_5 rfl rfl (by omega) ?_
  refine w_iconst (v := 5) X dX12_nameByte_6 (by decide) ?_
  refine w_iload_n X dX12_nameByte_7 rfl rfl ?_
  refine w_iconst (v := 1) X dX12_nameByte_8 (by decide) ?_
  refine w_isub X dX12_nameByte_9 ?_
  refine w_iload_n X dX12_nameByte_10 rfl rfl ?_
  refine w_isub X dX12_nameByte_11 ?_
  refine w_imul X dX12_nameByte_12 ?_
  refine w_lshr X dX12_nameByte_13 ?_
  refine w_ldc2 X dX12_nameByte_14 q12_332 ?_
  refine w_land X dX12_nameByte_17 ?_
  refine w_l2i X dX12_nameByte_18 ?_
  refine w_istore X dX12_nameByte_19 (by decide) ?_
  refine w_iload X dX12_nameByte_21 rfl ?_
  refine w_bipush (v := 27) X dX12_nameByte_23 (by decide) ?_
  refine w_icmp_ne (tgt := 33) X dX12_nameByte_25 (by decide) (fun h25 => ?_) (fun h25 => ?_)
  · refine w_bipush (v := 96) X dX12_nameByte_33 (by decide) ?_
    refine w_iload X dX12_nameByte_35 rfl ?_
    refine w_iadd X dX12_nameByte_37 ?_
    refine w_irF X dX12_nameByte_38 ?_ rfl
    unfold nb_
    first | exact (if_pos h25).symm | exact (if_neg h25).symm
  · refine w_bipush (v := 46) X dX12_nameByte_28 (by decide) ?_
    refine w_goto (tgt := 38) X dX12_nameByte_30 (by decide) ?_
    refine w_irF X dX12_nameByte_38 ?_ rfl
    unfold nb_
    first | exact (if_pos h25).symm | exact (if_neg h25).symm
set_option maxRecDepth 100000 in
set_option maxHeartbeats 4000000 in
theorem c12_starred (G : gg_) (hG : gd_ G) (d : Nat) (M : mm_) (b z : Nat) (hb : b < 8) (hz : M.1 18 b = nI z) (hz2 : z ≤ 12) (x : Int32) : cm_ G yX12_starred cX12_starred 5 (some .int) (d) [.ref (G.1 0), .int (nI b), .int x] M (fI_ (sr_ (pa_ M b) z 0 x) M) := by
  refine cm_of hG (by decide) (Nat.le_of_ble_eq_true rfl) (fun C X => ?_)
  have lp : ∀ (u p : Nat) (y : Int32), p + u = z → sr_ (pa_ M b) z 0 x = sr_ (pa_ M b) u p y → wq_ C G (qe_ C G (fI_ (sr_ (pa_ M b) z 0 x) M)) 5 [some (.ref (G.1 0)), some (.int (nI b)), some (.int x), some (.int y), some (.int (nI p))] [] M := by
    intro u
    induction u with
    | zero =>
      intro p y hu hr
      refine w_iload X dX12_starred_5 rfl ?_
      refine w_aload_n X dX12_starred_7 rfl rfl ?_
      refine g12_patternSizes X dX12_starred_8 ?_
      refine w_iload_n X dX12_starred_11 rfl rfl ?_
      refine w_ialoadN X dX12_starred_12 rfl rfl (by omega) ?_
      try simp only [gI_sI, gI_sL, gL_sI, gL_sL, false_and, and_false, and_self, if_false, if_true, reduceIte, Nat.reduceEqDiff, hz]
      refine w_icmp_ge (tgt := 60) X dX12_starred_13 (by decide) (fun h13 => ?_) (fun h13 => absurd (nI_le (by omega) (by omega)) h13)
      refine w_iload_n X dX12_starred_60 rfl rfl ?_
      exact w_irF X dX12_starred_61 (by rw [hr]; rfl) rfl
    | succ u ih =>
      intro p y hu hr
      refine w_iload X dX12_starred_5 rfl ?_
      refine w_aload_n X dX12_starred_7 rfl rfl ?_
      refine g12_patternSizes X dX12_starred_8 ?_
      refine w_iload_n X dX12_starred_11 rfl rfl ?_
      refine w_ialoadN X dX12_starred_12 rfl rfl (by omega) ?_
      try simp only [gI_sI, gI_sL, gL_sI, gL_sL, false_and, and_false, and_self, if_false, if_true, reduceIte, Nat.reduceEqDiff, hz]
      refine w_icmp_ge (tgt := 60) X dX12_starred_13 (by decide) (fun h13 => absurd h13 (nI_ge (by omega) (by omega))) (fun h13 => ?_)
      refine w_iload_n X dX12_starred_16 rfl rfl ?_
      refine w_iload X dX12_starred_17 rfl ?_
      refine w_ishr X dX12_starred_19 ?_
      refine w_iconst (v := 1) X dX12_starred_20 (by decide) ?_
      refine w_iand X dX12_starred_21 ?_
      refine w_iconst (v := 1) X dX12_starred_22 (by decide) ?_
      refine w_icmp_ne (tgt := 52) X dX12_starred_23 (by decide) (fun h23 => ?_) (fun h23 => ?_)
      · refine w_iload_n X dX12_starred_52 rfl rfl ?_
        refine w_istore_n X dX12_starred_53 rfl (by decide) ?_
        refine w_iinc (v := 1) X dX12_starred_54 rfl (by decide) (by decide) ?_
        refine w_goto (tgt := 5) X dX12_starred_57 (by decide) ?_
        rw [nI_1]
        refine ih (p + 1) _ (by omega) ?_
        rw [hr]
        simp only [sr_]
        simp [pa_, h13, h23]
      · refine w_aload_n X dX12_starred_26 rfl rfl ?_
        refine g12_patterns X dX12_starred_27 ?_
        refine w_bipush (v := 12) X dX12_starred_30 (by decide) ?_
        refine w_iload_n X dX12_starred_32 rfl rfl ?_
        refine w_imul X dX12_starred_33 ?_
        refine w_iload X dX12_starred_34 rfl ?_
        refine w_iadd X dX12_starred_36 ?_
        rw [nI_12]
        refine w_ialoadN X dX12_starred_37 rfl rfl (by omega) ?_
        try simp only [gI_sI, gI_sL, gL_sI, gL_sL, false_and, and_false, and_self, if_false, if_true, reduceIte, Nat.reduceEqDiff, hz]
        refine w_bipush (v := 42) X dX12_starred_38 (by decide) ?_
        refine w_icmp_ne (tgt := 52) X dX12_starred_40 (by decide) (fun h40 => ?_) (fun h40 => ?_)
        · refine w_iload_n X dX12_starred_52 rfl rfl ?_
          refine w_istore_n X dX12_starred_53 rfl (by decide) ?_
          refine w_iinc (v := 1) X dX12_starred_54 rfl (by decide) (by decide) ?_
          refine w_goto (tgt := 5) X dX12_starred_57 (by decide) ?_
          rw [nI_1]
          refine ih (p + 1) _ (by omega) ?_
          rw [hr]
          simp only [sr_]
          simp [pa_, h13, h23, h40]
        · refine w_iload_n X dX12_starred_43 rfl rfl ?_
          refine w_iconst (v := 2) X dX12_starred_44 (by decide) ?_
          refine w_iload X dX12_starred_45 rfl ?_
          refine w_ishl X dX12_starred_47 ?_
          refine w_ior X dX12_starred_48 ?_
          refine w_goto (tgt := 53) X dX12_starred_49 (by decide) ?_
          refine w_istore_n X dX12_starred_53 rfl (by decide) ?_
          refine w_iinc (v := 1) X dX12_starred_54 rfl (by decide) (by decide) ?_
          refine w_goto (tgt := 5) X dX12_starred_57 (by decide) ?_
          rw [nI_1]
          refine ih (p + 1) _ (by omega) ?_
          rw [hr]
          simp only [sr_]
          simp [pa_, h13, h23, h40]
  refine w_iload_n X dX12_starred_0 rfl rfl ?_
  refine w_istore_n X dX12_starred_1 rfl (by decide) ?_
  refine w_iconst (v := 0) X dX12_starred_2 (by decide) ?_
  refine w_istore X dX12_starred_3 (by decide) ?_
  exact lp z 0 x (by omega) rfl
set_option maxRecDepth 100000 in
set_option maxHeartbeats 4000000 in
theorem c12_fits (G : gg_) (hG : gd_ G) (d : Nat) (M : mm_) (b z m : Nat) (hb : b < 8) (hz : M.1 18 b = nI z) (hz2 : z ≤ 12) (hm : m < 16) : cm_ G yX12_fits cX12_fits 10 (some .boolean) (d + 1) [.ref (G.1 0), .int (nI b), .int (nI m)] M (fI_ (ft_ (pa_ M b) z (M.2.1 5 m)) M) := by
  refine cm_of hG (by decide) (Nat.le_of_ble_eq_true rfl) (fun C X => ?_)
  have hn := ns_le (M.2.1 5 m) 12 0
  have lp : ∀ (u k : Nat) (dn : Int32) (w7 w8 w9 : Option Value), k + u = (ns_ (M.2.1 5 m) 12 0) → fo_ (pa_ M b) z (fun k => nb_ (M.2.1 5 m) (nI k) (nI (ns_ (M.2.1 5 m) 12 0))) (ns_ (M.2.1 5 m) 12 0) 0 (sr_ (pa_ M b) z 0 1) = fo_ (pa_ M b) z (fun k => nb_ (M.2.1 5 m) (nI k) (nI (ns_ (M.2.1 5 m) 12 0))) u k dn → wq_ C G (qe_ C G (fI_ (ft_ (pa_ M b) z (M.2.1 5 m)) M)) 25 [some (.ref (G.1 0)), some (.int (nI b)), some (.int (nI m)), some (.int (nI (ns_ (M.2.1 5 m) 12 0))), some (.int (nI z)), some (.int dn), some (.int (nI k)), w7, w8, w9] [] M := by
    intro u
    induction u with
    | zero =>
      intro k dn w7 w8 w9 hu hr
      refine w_iload X dX12_fits_25 rfl ?_
      refine w_iload_n X dX12_fits_27 rfl rfl ?_
      refine w_icmp_ge (tgt := 141) X dX12_fits_28 (by decide) (fun h28 => ?_) (fun h28 => absurd (nI_le (by omega) (by omega)) h28)
      refine w_iload X dX12_fits_141 rfl ?_
      refine w_iload X dX12_fits_143 rfl ?_
      refine w_ishr X dX12_fits_145 ?_
      refine w_iconst (v := 1) X dX12_fits_146 (by decide) ?_
      refine w_iand X dX12_fits_147 ?_
      refine w_iconst (v := 1) X dX12_fits_148 (by decide) ?_
      refine w_icmp_ne (tgt := 156) X dX12_fits_149 (by decide) (fun h149 => ?_) (fun h149 => ?_)
      · refine w_iconst (v := 0) X dX12_fits_156 (by decide) ?_
        refine w_zrF X dX12_fits_157 (by first | exact Or.inl rfl | exact Or.inr rfl) ?_ rfl
        unfold ft_
        rw [hr]
        simp only [fo_]
        simp [h28, h149]
      · refine w_iconst (v := 1) X dX12_fits_152 (by decide) ?_
        refine w_goto (tgt := 157) X dX12_fits_153 (by decide) ?_
        refine w_zrF X dX12_fits_157 (by first | exact Or.inl rfl | exact Or.inr rfl) ?_ rfl
        unfold ft_
        rw [hr]
        simp only [fo_]
        simp [h28, h149]
    | succ u ih =>
      intro k dn w7 w8 w9 hu hr
      have lpi : ∀ (v p : Nat) (y : Int32) (w9 : Option Value), p + v = z → fi_ (pa_ M b) dn (nb_ (M.2.1 5 m) (nI k) (nI (ns_ (M.2.1 5 m) 12 0))) z 0 0 = fi_ (pa_ M b) dn (nb_ (M.2.1 5 m) (nI k) (nI (ns_ (M.2.1 5 m) 12 0))) v p y → wq_ C G (qe_ C G (fI_ (ft_ (pa_ M b) z (M.2.1 5 m)) M)) 37 [some (.ref (G.1 0)), some (.int (nI b)), some (.int (nI m)), some (.int (nI (ns_ (M.2.1 5 m) 12 0))), some (.int (nI z)), some (.int dn), some (.int (nI k)), some (.int y), some (.int (nI p)), w9] [] M := by
        intro v
        induction v with
        | zero =>
          intro p y w9 hp he
          refine w_iload X dX12_fits_37 rfl ?_
          refine w_iload X dX12_fits_39 rfl ?_
          refine w_icmp_ge (tgt := 126) X dX12_fits_41 (by decide) (fun h41 => ?_) (fun h41 => absurd (nI_le (by omega) (by omega)) h41)
          refine w_aload_n X dX12_fits_126 rfl rfl ?_
          refine w_iload_n X dX12_fits_127 rfl rfl ?_
          refine w_iload X dX12_fits_128 rfl ?_
          refine w_v2fI X dX12_fits_130 k12_starred rfl rfl (c12_starred G hG _ _ b z hb hz hz2 _) (Nat.le_of_ble_eq_true rfl) ?_
          refine w_istore X dX12_fits_133 (by decide) ?_
          refine w_iinc (v := 1) X dX12_fits_135 rfl (by decide) (by decide) ?_
          refine w_goto (tgt := 25) X dX12_fits_138 (by decide) ?_
          rw [nI_1]
          refine ih (k + 1) _ _ _ _ (by omega) ?_
          rw [hr]
          simp only [fo_]
          rw [he]
          simp only [fi_]
        | succ v ihv =>
          intro p y w9 hp he
          refine w_iload X dX12_fits_37 rfl ?_
          refine w_iload X dX12_fits_39 rfl ?_
          refine w_icmp_ge (tgt := 126) X dX12_fits_41 (by decide) (fun h41 => absurd h41 (nI_ge (by omega) (by omega))) (fun h41 => ?_)
          refine w_iload X dX12_fits_44 rfl ?_
          refine w_iload X dX12_fits_46 rfl ?_
          refine w_ishr X dX12_fits_48 ?_
          refine w_iconst (v := 1) X dX12_fits_49 (by decide) ?_
          refine w_iand X dX12_fits_50 ?_
          refine w_iconst (v := 1) X dX12_fits_51 (by decide) ?_
          refine w_icmp_ne (tgt := 120) X dX12_fits_52 (by decide) (fun h52 => ?_) (fun h52 => ?_)
          · refine w_iinc (v := 1) X dX12_fits_120 rfl (by decide) (by decide) ?_
            refine w_goto (tgt := 37) X dX12_fits_123 (by decide) ?_
            rw [nI_1]
            refine ihv (p + 1) _ _ (by omega) ?_
            rw [he]
            simp only [fi_]
            first | (simp [pa_, h41, h52]; done) | (rw [h103] at h73; simp [pa_, h41, h52]; done)
          · refine w_aload_n X dX12_fits_55 rfl rfl ?_
            refine g12_patterns X dX12_fits_56 ?_
            refine w_bipush (v := 12) X dX12_fits_59 (by decide) ?_
            refine w_iload_n X dX12_fits_61 rfl rfl ?_
            refine w_imul X dX12_fits_62 ?_
            refine w_iload X dX12_fits_63 rfl ?_
            refine w_iadd X dX12_fits_65 ?_
            rw [nI_12]
            refine w_ialoadN X dX12_fits_66 rfl rfl (by omega) ?_
            try simp only [gI_sI, gI_sL, gL_sI, gL_sL, false_and, and_false, and_self, if_false, if_true, reduceIte, Nat.reduceEqDiff]
            refine w_istore X dX12_fits_67 (by decide) ?_
            refine w_iload X dX12_fits_69 rfl ?_
            refine w_bipush (v := 42) X dX12_fits_71 (by decide) ?_
            refine w_icmp_ne (tgt := 86) X dX12_fits_73 (by decide) (fun h73 => ?_) (fun h73 => ?_)
            · refine w_iload X dX12_fits_86 rfl ?_
              refine w_bipush (v := 63) X dX12_fits_88 (by decide) ?_
              refine w_icmp_eq (tgt := 106) X dX12_fits_90 (by decide) (fun h90 => ?_) (fun h90 => ?_)
              · refine w_iload X dX12_fits_106 rfl ?_
                refine w_iconst (v := 2) X dX12_fits_108 (by decide) ?_
                refine w_iload X dX12_fits_109 rfl ?_
                refine w_ishl X dX12_fits_111 ?_
                refine w_ior X dX12_fits_112 ?_
                refine w_goto (tgt := 118) X dX12_fits_113 (by decide) ?_
                refine w_istore X dX12_fits_118 (by decide) ?_
                refine w_iinc (v := 1) X dX12_fits_120 rfl (by decide) (by decide) ?_
                refine w_goto (tgt := 37) X dX12_fits_123 (by decide) ?_
                rw [nI_1]
                refine ihv (p + 1) _ _ (by omega) ?_
                rw [he]
                simp only [fi_]
                first | (simp [pa_, h41, h52, h73, h90]; done) | (rw [h103] at h73; simp [pa_, h41, h52, h73, h90]; done)
              · refine w_iload X dX12_fits_93 rfl ?_
                refine w_aload_n X dX12_fits_95 rfl rfl ?_
                refine w_iload_n X dX12_fits_96 rfl rfl ?_
                refine w_iload X dX12_fits_97 rfl ?_
                refine w_iload_n X dX12_fits_99 rfl rfl ?_
                refine w_v3fI X dX12_fits_100 k12_nameByte rfl rfl (c12_nameByte G hG _ _ m hm _ _) (Nat.le_of_ble_eq_true rfl) ?_
                refine w_icmp_ne (tgt := 116) X dX12_fits_103 (by decide) (fun h103 => ?_) (fun h103 => ?_)
                · refine w_iload X dX12_fits_116 rfl ?_
                  refine w_istore X dX12_fits_118 (by decide) ?_
                  refine w_iinc (v := 1) X dX12_fits_120 rfl (by decide) (by decide) ?_
                  refine w_goto (tgt := 37) X dX12_fits_123 (by decide) ?_
                  rw [nI_1]
                  refine ihv (p + 1) _ _ (by omega) ?_
                  rw [he]
                  simp only [fi_]
                  first | (simp [pa_, h41, h52, h73, h90, h103]; done) | (rw [h103] at h73; simp [pa_, h41, h52, h73, h90, h103]; done)
                · refine w_iload X dX12_fits_106 rfl ?_
                  refine w_iconst (v := 2) X dX12_fits_108 (by decide) ?_
                  refine w_iload X dX12_fits_109 rfl ?_
                  refine w_ishl X dX12_fits_111 ?_
                  refine w_ior X dX12_fits_112 ?_
                  refine w_goto (tgt := 118) X dX12_fits_113 (by decide) ?_
                  refine w_istore X dX12_fits_118 (by decide) ?_
                  refine w_iinc (v := 1) X dX12_fits_120 rfl (by decide) (by decide) ?_
                  refine w_goto (tgt := 37) X dX12_fits_123 (by decide) ?_
                  rw [nI_1]
                  refine ihv (p + 1) _ _ (by omega) ?_
                  rw [he]
                  simp only [fi_]
                  first | (simp [pa_, h41, h52, h73, h90, h103]; done) | (rw [h103] at h73; simp [pa_, h41, h52, h73, h90, h103]; done)
            · refine w_iload X dX12_fits_76 rfl ?_
              refine w_iconst (v := 1) X dX12_fits_78 (by decide) ?_
              refine w_iload X dX12_fits_79 rfl ?_
              refine w_ishl X dX12_fits_81 ?_
              refine w_ior X dX12_fits_82 ?_
              refine w_goto (tgt := 118) X dX12_fits_83 (by decide) ?_
              refine w_istore X dX12_fits_118 (by decide) ?_
              refine w_iinc (v := 1) X dX12_fits_120 rfl (by decide) (by decide) ?_
              refine w_goto (tgt := 37) X dX12_fits_123 (by decide) ?_
              rw [nI_1]
              refine ihv (p + 1) _ _ (by omega) ?_
              rw [he]
              simp only [fi_]
              first | (simp [pa_, h41, h52, h73]; done) | (rw [h103] at h73; simp [pa_, h41, h52, h73]; done)
      refine w_iload X dX12_fits_25 rfl ?_
      refine w_iload_n X dX12_fits_27 rfl rfl ?_
      refine w_icmp_ge (tgt := 141) X dX12_fits_28 (by decide) (fun h28 => absurd h28 (nI_ge (by omega) (by omega))) (fun h28 => ?_)
      refine w_iconst (v := 0) X dX12_fits_31 (by decide) ?_
      refine w_istore X dX12_fits_32 (by decide) ?_
      refine w_iconst (v := 0) X dX12_fits_34 (by decide) ?_
      refine w_istore X dX12_fits_35 (by decide) ?_
      exact lpi z 0 0 _ (by omega) rfl
  refine w_aload_n X dX12_fits_0 rfl rfl ?_
  refine w_iload_n X dX12_fits_1 rfl rfl ?_
  refine w_v1fI X dX12_fits_2 k12_nameSize rfl rfl (c12_nameSize G hG _ _ m hm) (Nat.le_of_ble_eq_true rfl) ?_
  refine w_istore_n X dX12_fits_5 rfl (by decide) ?_
  refine w_aload_n X dX12_fits_6 rfl rfl ?_
  refine g12_patternSizes X dX12_fits_7 ?_
  refine w_iload_n X dX12_fits_10 rfl rfl ?_
  refine w_ialoadN X dX12_fits_11 rfl rfl (by omega) ?_
  try simp only [gI_sI, gI_sL, gL_sI, gL_sL, false_and, and_false, and_self, if_false, if_true, reduceIte, Nat.reduceEqDiff, hz]
  refine w_istore X dX12_fits_12 (by decide) ?_
  refine w_aload_n X dX12_fits_14 rfl rfl ?_
  refine w_iload_n X dX12_fits_15 rfl rfl ?_
  refine w_iconst (v := 1) X dX12_fits_16 (by decide) ?_
  refine w_v2fI X dX12_fits_17 k12_starred rfl rfl (c12_starred G hG _ _ b z hb hz hz2 _) (Nat.le_of_ble_eq_true rfl) ?_
  refine w_istore X dX12_fits_20 (by decide) ?_
  refine w_iconst (v := 0) X dX12_fits_22 (by decide) ?_
  refine w_istore X dX12_fits_23 (by decide) ?_
  exact lp _ 0 _ _ _ _ (by omega) rfl
end
section
section SWITCH
variable {C : mc_} {G : gg_} {Q : State → Prop} {pc : Nat} {lv : List (Option Value)} {st : List Value} {M : mm_} {own : String} {cc : ByteArray} {nL : Nat} {ry : Option FieldType} {d : Nat}
theorem w_lookup {dflt : Int} {ps : Array (Int × Int)} {len : Nat} {x : Int32} {off : Int} {tgt : Nat} (X : cx_ C G own cc nL ry d) (hd : decode cc pc = .ok (.lookupswitch dflt ps, len)) (hp : (ps.toList.zip (ps.toList.drop 1)).all (fun (a, next) => a.1 < next.1) = true) (ho : Op.lookupswitch.offset ps.toList dflt x.toInt = off) (ht : (pc : Int) + off = (tgt : Int)) (k : wq_ C G Q tgt lv st M) : wq_ C G Q pc lv (.int x :: st) M := by
  obtain ⟨p, l, e, R, s, m, args, below, meth, c, cs, sl⟩ := C
  obtain ⟨hx, hb, hml, hrt, hown, hts, hK, hG, hbs, hlk, hfr, hlo, hcs, hsl⟩ := X
  intro H locs ls hl hP hS
  exact lv_lookup hx hb hd hp ho ht (k H locs ls hl hP hS)
theorem w_tableOut {dflt lo hi : Int} {offs : Array Int} {len : Nat} {x : Int32} {tgt : Nat} (X : cx_ C G own cc nL ry d) (hd : decode cc pc = .ok (.tableswitch dflt lo hi offs, len)) (h : x.toInt < lo ∨ hi < x.toInt) (ht : (pc : Int) + dflt = (tgt : Int)) (k : wq_ C G Q tgt lv st M) : wq_ C G Q pc lv (.int x :: st) M := by
  obtain ⟨p, l, e, R, s, m, args, below, meth, c, cs, sl⟩ := C
  obtain ⟨hx, hb, hml, hrt, hown, hts, hK, hG, hbs, hlk, hfr, hlo, hcs, hsl⟩ := X
  intro H locs ls hl hP hS
  exact lv_tableOut hx hb hd h ht (k H locs ls hl hP hS)
theorem w_tableIn {dflt lo hi : Int} {offs : Array Int} {len : Nat} {x : Int32} {off : Int} {tgt : Nat} (X : cx_ C G own cc nL ry d) (hd : decode cc pc = .ok (.tableswitch dflt lo hi offs, len)) (h1 : ¬ x.toInt < lo) (h2 : ¬ hi < x.toInt) (ho : offs[(x.toInt - lo).toNat]? = some off) (ht : (pc : Int) + off = (tgt : Int)) (k : wq_ C G Q tgt lv st M) : wq_ C G Q pc lv (.int x :: st) M := by
  obtain ⟨p, l, e, R, s, m, args, below, meth, c, cs, sl⟩ := C
  obtain ⟨hx, hb, hml, hrt, hown, hts, hK, hG, hbs, hlk, hfr, hlo, hcs, hsl⟩ := X
  intro H locs ls hl hP hS
  exact lv_tableIn hx hb hd h1 h2 ho ht (k H locs ls hl hP hS)
end SWITCH
/-- what a sign between two values makes -/
def rs_ (h x y : Int32) : Int32 := if h = 43 then x + y else if h = 45 then x - y else if h = 42 then x * y else if h = 47 then x / y else if h = 37 then x - x / y * y else if h = 60 then (if x < y then 1 else 0) else if h = 62 then (if y < x then 1 else 0) else (if x = y then 1 else 0)
theorem nI_m (a b p : Nat) : nI a * nI b + nI p = nI (a * b + p) := by rw [pk_mul, nI_add]
/-- row t is a copy of the row that was made, as far as n -/
def kx_ (M : mm_) (t : Nat) : Nat → mm_
  | 0 => M
  | j + 1 => sL_ (sI_ (kx_ M t j) 2 (64 * t + j) (M.1 2 (2048 + j))) 3 (64 * t + j) (M.2.1 3 (2048 + j))
theorem kx_I {M : mm_} {t : Nat} (ht : t < 32) : ∀ (j : Nat), j ≤ 64 → ∀ (a i : Nat), (kx_ M t j).1 a i = if a = 2 ∧ 64 * t ≤ i ∧ i < 64 * t + j then M.1 2 (2048 + (i - 64 * t)) else M.1 a i
  | 0, _, a, i => by
    rw [if_neg (by omega)]; rfl
  | j + 1, hj, a, i => by
    simp only [kx_, gI_sL, gI_sI]
    rw [kx_I ht j (by omega) a i]
    by_cases h : a = 2 ∧ i = 64 * t + j
    · obtain ⟨rfl, rfl⟩ := h
      rw [if_pos ⟨rfl, rfl⟩, if_pos ⟨rfl, by omega, by omega⟩, show 64 * t + j - 64 * t = j by omega]
    · rw [if_neg h]
      by_cases h2 : a = 2 ∧ 64 * t ≤ i ∧ i < 64 * t + j
      · rw [if_pos h2, if_pos ⟨h2.1, h2.2.1, by omega⟩]
      · rw [if_neg h2, if_neg (fun q => h2 ⟨q.1, q.2.1, by have := q.2.2; have : ¬ i = 64 * t + j := fun z => h ⟨q.1, z⟩; omega⟩)]
theorem kx_L {M : mm_} {t : Nat} (ht : t < 32) : ∀ (j : Nat), j ≤ 64 → ∀ (a i : Nat), (kx_ M t j).2.1 a i = if a = 3 ∧ 64 * t ≤ i ∧ i < 64 * t + j then M.2.1 3 (2048 + (i - 64 * t)) else M.2.1 a i
  | 0, _, a, i => by
    rw [if_neg (by omega)]; rfl
  | j + 1, hj, a, i => by
    simp only [kx_, gL_sL, gL_sI]
    rw [kx_L ht j (by omega) a i]
    by_cases h : a = 3 ∧ i = 64 * t + j
    · obtain ⟨rfl, rfl⟩ := h
      rw [if_pos ⟨rfl, rfl⟩, if_pos ⟨rfl, by omega, by omega⟩, show 64 * t + j - 64 * t = j by omega]
    · rw [if_neg h]
      by_cases h2 : a = 3 ∧ 64 * t ≤ i ∧ i < 64 * t + j
      · rw [if_pos h2, if_pos ⟨h2.1, h2.2.1, by omega⟩]
      · rw [if_neg h2, if_neg (fun q => h2 ⟨q.1, q.2.1, by have := q.2.2; have : ¬ i = 64 * t + j := fun z => h ⟨q.1, z⟩; omega⟩)]
set_option maxRecDepth 100000 in
set_option maxHeartbeats 4000000 in
theorem c12_result (G : gg_) (hG : gd_ G) (d : Nat) (M : mm_) (h x y : Int32) (hy : h = 47 ∨ h = 37 → ¬ y = 0) : cm_ G yX12_result cX12_result 3 (some .int) (d) [.int h, .int x, .int y] M (fI_ (rs_ h x y) M) := by
  refine cm_of hG (by decide) (Nat.le_of_ble_eq_true rfl) (fun C X => ?_)
  refine w_iload_n X dX12_result_0 rfl rfl ?_
  by_cases h1_37 : h = 37
  · refine w_lookup (tgt := 84) (off := 83) X dX12_result_1 (by decide) (by rw [h1_37]; decide) (by decide) ?_
    refine w_iload_n X dX12_result_84 rfl rfl ?_
    refine w_iload_n X dX12_result_85 rfl rfl ?_
    refine w_irem X dX12_result_86 (hy (Or.inr h1_37)) ?_
    refine w_irF X dX12_result_87 ?_ rfl
    unfold rs_
    first | (simp [h1_37]; done) | (simp_all; done)
  by_cases h1_42 : h = 42
  · refine w_lookup (tgt := 76) (off := 75) X dX12_result_1 (by decide) (by rw [h1_42]; decide) (by decide) ?_
    refine w_iload_n X dX12_result_76 rfl rfl ?_
    refine w_iload_n X dX12_result_77 rfl rfl ?_
    refine w_imul X dX12_result_78 ?_
    refine w_irF X dX12_result_79 ?_ rfl
    unfold rs_
    first | (simp [h1_42]; done) | (simp_all; done)
  by_cases h1_43 : h = 43
  · refine w_lookup (tgt := 68) (off := 67) X dX12_result_1 (by decide) (by rw [h1_43]; decide) (by decide) ?_
    refine w_iload_n X dX12_result_68 rfl rfl ?_
    refine w_iload_n X dX12_result_69 rfl rfl ?_
    refine w_iadd X dX12_result_70 ?_
    refine w_irF X dX12_result_71 ?_ rfl
    unfold rs_
    first | (simp [h1_43]; done) | (simp_all; done)
  by_cases h1_45 : h = 45
  · refine w_lookup (tgt := 72) (off := 71) X dX12_result_1 (by decide) (by rw [h1_45]; decide) (by decide) ?_
    refine w_iload_n X dX12_result_72 rfl rfl ?_
    refine w_iload_n X dX12_result_73 rfl rfl ?_
    refine w_isub X dX12_result_74 ?_
    refine w_irF X dX12_result_75 ?_ rfl
    unfold rs_
    first | (simp [h1_45]; done) | (simp_all; done)
  by_cases h1_47 : h = 47
  · refine w_lookup (tgt := 80) (off := 79) X dX12_result_1 (by decide) (by rw [h1_47]; decide) (by decide) ?_
    refine w_iload_n X dX12_result_80 rfl rfl ?_
    refine w_iload_n X dX12_result_81 rfl rfl ?_
    refine w_idiv X dX12_result_82 (hy (Or.inl h1_47)) ?_
    refine w_irF X dX12_result_83 ?_ rfl
    unfold rs_
    first | (simp [h1_47]; done) | (simp_all; done)
  by_cases h1_60 : h = 60
  · refine w_lookup (tgt := 88) (off := 87) X dX12_result_1 (by decide) (by rw [h1_60]; decide) (by decide) ?_
    refine w_iload_n X dX12_result_88 rfl rfl ?_
    refine w_iload_n X dX12_result_89 rfl rfl ?_
    refine w_icmp_ge (tgt := 97) X dX12_result_90 (by decide) (fun h90 => ?_) (fun h90 => ?_)
    · refine w_iconst (v := 0) X dX12_result_97 (by decide) ?_
      refine w_irF X dX12_result_98 ?_ rfl
      unfold rs_
      first | (simp [h1_60, h90]; done) | (simp_all; done)
    · refine w_iconst (v := 1) X dX12_result_93 (by decide) ?_
      refine w_goto (tgt := 98) X dX12_result_94 (by decide) ?_
      refine w_irF X dX12_result_98 ?_ rfl
      unfold rs_
      first | (simp [h1_60, h90]; done) | (simp_all; done)
  by_cases h1_62 : h = 62
  · refine w_lookup (tgt := 99) (off := 98) X dX12_result_1 (by decide) (by rw [h1_62]; decide) (by decide) ?_
    refine w_iload_n X dX12_result_99 rfl rfl ?_
    refine w_iload_n X dX12_result_100 rfl rfl ?_
    refine w_icmp_le (tgt := 108) X dX12_result_101 (by decide) (fun h101 => ?_) (fun h101 => ?_)
    · refine w_iconst (v := 0) X dX12_result_108 (by decide) ?_
      refine w_irF X dX12_result_109 ?_ rfl
      unfold rs_
      first | (simp [h1_62, h101]; done) | (simp_all; done)
    · refine w_iconst (v := 1) X dX12_result_104 (by decide) ?_
      refine w_goto (tgt := 109) X dX12_result_105 (by decide) ?_
      refine w_irF X dX12_result_109 ?_ rfl
      unfold rs_
      first | (simp [h1_62, h101]; done) | (simp_all; done)
  have t1_37 : (37 : Int) ≠ (h).toInt := fun q => h1_37 (Int32.toInt_inj.mp (by rw [← q]; decide))
  have t1_42 : (42 : Int) ≠ (h).toInt := fun q => h1_42 (Int32.toInt_inj.mp (by rw [← q]; decide))
  have t1_43 : (43 : Int) ≠ (h).toInt := fun q => h1_43 (Int32.toInt_inj.mp (by rw [← q]; decide))
  have t1_45 : (45 : Int) ≠ (h).toInt := fun q => h1_45 (Int32.toInt_inj.mp (by rw [← q]; decide))
  have t1_47 : (47 : Int) ≠ (h).toInt := fun q => h1_47 (Int32.toInt_inj.mp (by rw [← q]; decide))
  have t1_60 : (60 : Int) ≠ (h).toInt := fun q => h1_60 (Int32.toInt_inj.mp (by rw [← q]; decide))
  have t1_62 : (62 : Int) ≠ (h).toInt := fun q => h1_62 (Int32.toInt_inj.mp (by rw [← q]; decide))
  refine w_lookup (tgt := 110) (off := 109) X dX12_result_1 (by decide) (by simp only [Op.lookupswitch.offset, t1_37, t1_42, t1_43, t1_45, t1_47, t1_60, t1_62, if_false]) (by decide) ?_
  refine w_iload_n X dX12_result_110 rfl rfl ?_
  refine w_iload_n X dX12_result_111 rfl rfl ?_
  refine w_icmp_ne (tgt := 119) X dX12_result_112 (by decide) (fun h112 => ?_) (fun h112 => ?_)
  · refine w_iconst (v := 0) X dX12_result_119 (by decide) ?_
    refine w_irF X dX12_result_120 ?_ rfl
    unfold rs_
    first | (simp [h1_37, h1_42, h1_43, h1_45, h1_47, h1_60, h1_62, h112]; done) | (simp_all; done)
  · refine w_iconst (v := 1) X dX12_result_115 (by decide) ?_
    refine w_goto (tgt := 120) X dX12_result_116 (by decide) ?_
    refine w_irF X dX12_result_120 ?_ rfl
    unfold rs_
    first | (simp [h1_37, h1_42, h1_43, h1_45, h1_47, h1_60, h1_62, h112]; done) | (simp_all; done)
set_option maxRecDepth 100000 in
set_option maxHeartbeats 4000000 in
theorem c12_keepExpression (G : gg_) (hG : gd_ G) (d : Nat) (M : mm_) (t n : Nat) (ht : t < 32) (hl : M.1 0 12 = nI n) (hn : n ≤ 64) : cm_ G yX12_keepExpression cX12_keepExpression 3 none (d + 1) [.ref (G.1 0), .int (nI t)] M (fV_ (sI_ (kx_ M t n) 4 t (nI n))) := by
  refine cm_of hG (by decide) (Nat.le_of_ble_eq_true rfl) (fun C X => ?_)
  have e12 : ∀ j, j ≤ n → (kx_ M t j).1 0 12 = nI n := fun j hj => by rw [kx_I ht j (by omega), if_neg (by omega)]; exact hl
  have e2 : ∀ j, j < n → (kx_ M t j).1 2 (2048 + j) = M.1 2 (2048 + j) := fun j hj => by rw [kx_I ht j (by omega), if_neg (by omega)]
  have e3 : ∀ j, j < n → (kx_ M t j).2.1 3 (2048 + j) = M.2.1 3 (2048 + j) := fun j hj => by rw [kx_L ht j (by omega), if_neg (by omega)]
  have e64 : ∀ j, (64 : Int32) * nI t + nI j = nI (64 * t + j) := fun j => nI_m 64 t j
  have lp : ∀ (u j : Nat), j + u = n → wq_ C G (qe_ C G (fV_ (sI_ (kx_ M t n) 4 t (nI n)))) 2 [some (.ref (G.1 0)), some (.int (nI t)), some (.int (nI j))] [] (kx_ M t j) := by
    intro u
    induction u with
    | zero =>
      intro j hu
      obtain rfl : j = n := by omega
      refine w_iload_n X dX12_keepExpression_2 rfl rfl ?_
      refine w_aload_n X dX12_keepExpression_3 rfl rfl ?_
      refine g12_length X dX12_keepExpression_4 ?_
      try simp only [gI_sI, gI_sL, gL_sI, gL_sL, false_and, and_false, and_self, if_false, if_true, reduceIte, Nat.reduceEqDiff, e12 j (Nat.le_refl _)]
      refine w_icmp_ge (tgt := 62) X dX12_keepExpression_7 (by decide) (fun h7 => ?_) (fun h7 => absurd (Int32.le_refl _) h7)
      refine w_aload_n X dX12_keepExpression_62 rfl rfl ?_
      refine g12_lengths X dX12_keepExpression_63 ?_
      refine w_iload_n X dX12_keepExpression_66 rfl rfl ?_
      refine w_aload_n X dX12_keepExpression_67 rfl rfl ?_
      refine g12_length X dX12_keepExpression_68 ?_
      try simp only [gI_sI, gI_sL, gL_sI, gL_sL, false_and, and_false, and_self, if_false, if_true, reduceIte, Nat.reduceEqDiff, e12 j (Nat.le_refl _)]
      refine w_iastoreN X dX12_keepExpression_71 rfl rfl (by omega) ?_
      exact w_vrF X dX12_keepExpression_72 rfl
    | succ u ih =>
      intro j hu
      refine w_iload_n X dX12_keepExpression_2 rfl rfl ?_
      refine w_aload_n X dX12_keepExpression_3 rfl rfl ?_
      refine g12_length X dX12_keepExpression_4 ?_
      try simp only [gI_sI, gI_sL, gL_sI, gL_sL, false_and, and_false, and_self, if_false, if_true, reduceIte, Nat.reduceEqDiff, e12 j (by omega), e2 j (by omega), e3 j (by omega)]
      refine w_icmp_ge (tgt := 62) X dX12_keepExpression_7 (by decide) (fun h7 => absurd h7 (nI_ge (by omega) (by omega))) (fun h7 => ?_)
      refine w_aload_n X dX12_keepExpression_10 rfl rfl ?_
      refine g12_steps X dX12_keepExpression_11 ?_
      refine w_iload_n X dX12_keepExpression_14 rfl rfl ?_
      refine w_s1fI X dX12_keepExpression_15 k12_rowOf (c12_rowOf G hG _ _ _) (Nat.le_of_ble_eq_true rfl) ?_
      refine w_iload_n X dX12_keepExpression_18 rfl rfl ?_
      refine w_iadd X dX12_keepExpression_19 ?_
      rw [e64]
      refine w_aload_n X dX12_keepExpression_20 rfl rfl ?_
      refine g12_steps X dX12_keepExpression_21 ?_
      refine w_bipush (v := 32) X dX12_keepExpression_24 (by decide) ?_
      refine w_s1fI X dX12_keepExpression_26 k12_rowOf (c12_rowOf G hG _ _ _) (Nat.le_of_ble_eq_true rfl) ?_
      refine w_iload_n X dX12_keepExpression_29 rfl rfl ?_
      refine w_iadd X dX12_keepExpression_30 ?_
      rw [nI_2048]
      refine w_ialoadN X dX12_keepExpression_31 rfl rfl (by omega) ?_
      try simp only [gI_sI, gI_sL, gL_sI, gL_sL, false_and, and_false, and_self, if_false, if_true, reduceIte, Nat.reduceEqDiff, e12 j (by omega), e2 j (by omega), e3 j (by omega)]
      refine w_iastoreN X dX12_keepExpression_32 rfl rfl (by omega) ?_
      refine w_aload_n X dX12_keepExpression_33 rfl rfl ?_
      refine g12_values X dX12_keepExpression_34 ?_
      refine w_iload_n X dX12_keepExpression_37 rfl rfl ?_
      refine w_s1fI X dX12_keepExpression_38 k12_rowOf (c12_rowOf G hG _ _ _) (Nat.le_of_ble_eq_true rfl) ?_
      refine w_iload_n X dX12_keepExpression_41 rfl rfl ?_
      refine w_iadd X dX12_keepExpression_42 ?_
      rw [e64]
      refine w_aload_n X dX12_keepExpression_43 rfl rfl ?_
      refine g12_values X dX12_keepExpression_44 ?_
      refine w_bipush (v := 32) X dX12_keepExpression_47 (by decide) ?_
      refine w_s1fI X dX12_keepExpression_49 k12_rowOf (c12_rowOf G hG _ _ _) (Nat.le_of_ble_eq_true rfl) ?_
      refine w_iload_n X dX12_keepExpression_52 rfl rfl ?_
      refine w_iadd X dX12_keepExpression_53 ?_
      rw [nI_2048]
      refine w_laloadN X dX12_keepExpression_54 rfl rfl (by omega) ?_
      try simp only [gI_sI, gI_sL, gL_sI, gL_sL, false_and, and_false, and_self, if_false, if_true, reduceIte, Nat.reduceEqDiff, e12 j (by omega), e2 j (by omega), e3 j (by omega)]
      refine w_lastoreN X dX12_keepExpression_55 rfl rfl (by omega) ?_
      refine w_iinc (v := 1) X dX12_keepExpression_56 rfl (by decide) (by decide) ?_
      refine w_goto (tgt := 2) X dX12_keepExpression_59 (by decide) ?_
      rw [nI_1]
      exact ih (j + 1) (by omega)
  refine w_iconst (v := 0) X dX12_keepExpression_0 (by decide) ?_
  refine w_istore_n X dX12_keepExpression_1 rfl (by decide) ?_
  exact lp n 0 (by omega)
end
section
/-! the reference's face: readers with arguments, feed -/
def ps_ (M : mm_) (n : Nat) (v : Int32) : mm_ := sI_ (sI_ M 26 n v) 0 47 (nI (n + 1))
/-- the bytes of x, the lowest first, behind a tape of z -/
def fb_ (x : Int64) (j : Nat) : Int32 := ((x >>> (((8 : Int32) * nI j).toInt64 &&& 63)) &&& 255).toInt32
def fd_ (M : mm_) (x : Int64) (z : Nat) : Nat → mm_
  | 0 => M
  | j + 1 => sI_ (sI_ (fd_ M x z j) 1 (z + j) (fb_ x j)) 0 2 (nI (z + j + 1))
theorem fd_2 {M : mm_} {x : Int64} {z : Nat} (h : M.1 0 2 = nI z) : ∀ j, (fd_ M x z j).1 0 2 = nI (z + j)
  | 0 => h
  | j + 1 => by simp [fd_, gI_sI]; rfl
def jt_ (j w : Int32) : Int32 := if j < 0 ∨ ¬ j < 8 then 1 else if w < 0 ∨ ¬ w ≤ 1 then 2 else 0
theorem i8_ {j : Int32} (h0 : ¬ j < 0) (h1 : j < 8) : ∃ b : Nat, b < 8 ∧ j = nI b := by
  obtain ⟨b, hb, rfl⟩ := nI_of h0
  exact ⟨b, (nI_ltI (b := 8) hb (by omega)).mp h1, rfl⟩
theorem iN_ {j : Int32} {n : Nat} (hn : n < 2147483648) (h0 : ¬ j < 0) (h1 : j < nI n) : ∃ b : Nat, b < n ∧ j = nI b := by
  obtain ⟨b, hb, rfl⟩ := nI_of h0
  exact ⟨b, (nI_ltI hb hn).mp h1, rfl⟩
theorem iL_ {j : Int32} {n : Nat} (hn : n < 2147483648) (h0 : ¬ j < 0) (h1 : j ≤ nI n) : ∃ b : Nat, b ≤ n ∧ j = nI b := by
  obtain ⟨b, hb, rfl⟩ := nI_of h0
  exact ⟨b, (nI_leI hb hn).mp h1, rfl⟩
set_option maxRecDepth 100000 in
set_option maxHeartbeats 4000000 in
theorem c12_push (G : gg_) (hG : gd_ G) (d : Nat) (M : mm_) (n : Nat) (hl : M.1 0 47 = nI n) (hn : n < 512) (v : Int32) : cm_ G yX12_push cX12_push 2 none (d) [.ref (G.1 0), .int v] M (fV_ (ps_ M n v)) := by
  refine cm_of hG (by decide) (Nat.le_of_ble_eq_true rfl) (fun C X => ?_)
  refine w_aload_n X dX12_push_0 rfl rfl ?_
  refine g12_stack X dX12_push_1 ?_
  refine w_aload_n X dX12_push_4 rfl rfl ?_
  refine g12_height X dX12_push_5 ?_
  try simp only [gI_sI, gI_sL, gL_sI, gL_sL, false_and, and_false, and_self, if_false, if_true, reduceIte, Nat.reduceEqDiff, hl]
  refine w_iload_n X dX12_push_8 rfl rfl ?_
  refine w_iastoreN X dX12_push_9 rfl rfl (by omega) ?_
  refine w_aload_n X dX12_push_10 rfl rfl ?_
  refine w_dup X dX12_push_11 rfl ?_
  refine g12_height X dX12_push_12 ?_
  try simp only [gI_sI, gI_sL, gL_sI, gL_sL, false_and, and_false, and_self, if_false, if_true, reduceIte, Nat.reduceEqDiff, hl]
  refine w_iconst (v := 1) X dX12_push_15 (by decide) ?_
  refine w_iadd X dX12_push_16 ?_
  refine p12_height X dX12_push_17 ?_
  exact w_vrF X dX12_push_20 (by unfold ps_; rw [nI_1])
set_option maxRecDepth 100000 in
set_option maxHeartbeats 4000000 in
theorem c12_feed_bad (G : gg_) (hG : gd_ G) (d : Nat) (M : mm_) (w : Int32) (x : Int64) (hw : w < 1 ∨ 8 < w) : cm_ G yX12_feed cX12_feed 5 (some .int) (d) [.ref (G.1 0), .int w, .long x] M (fI_ 0 (sI_ M 0 0 1)) := by
  refine cm_of hG (by decide) (Nat.le_of_ble_eq_true rfl) (fun C X => ?_)
  refine w_aload_n X dX12_feed_0 rfl rfl ?_
  refine w_iload_n X dX12_feed_1 rfl rfl ?_
  refine w_iconst (v := 1) X dX12_feed_2 (by decide) ?_
  refine w_icmp_lt (tgt := 12) X dX12_feed_3 (by decide) (fun h3 => ?_) (fun h3 => ?_)
  · refine w_iconst (v := 1) X dX12_feed_12 (by decide) ?_
    refine w_goto (tgt := 17) X dX12_feed_13 (by decide) ?_
    refine p12_thrown X dX12_feed_17 ?_
    refine w_aload_n X dX12_feed_20 rfl rfl ?_
    refine g12_thrown X dX12_feed_21 ?_
    try simp only [gI_sI, gI_sL, gL_sI, gL_sL, false_and, and_false, and_self, if_false, if_true, reduceIte, Nat.reduceEqDiff]
    refine w_if_le (tgt := 29) X dX12_feed_24 (by decide) (fun h24 => absurd h24 (by decide)) (fun h24 => ?_)
    refine w_iconst (v := 0) X dX12_feed_27 (by decide) ?_
    exact w_irF X dX12_feed_28 rfl rfl
  · refine w_iload_n X dX12_feed_6 rfl rfl ?_
    refine w_bipush (v := 8) X dX12_feed_7 (by decide) ?_
    refine w_icmp_le (tgt := 16) X dX12_feed_9 (by decide) (fun h9 => absurd h9 (Int32.not_le.mpr (hw.resolve_left h3))) (fun h9 => ?_)
    refine w_iconst (v := 1) X dX12_feed_12 (by decide) ?_
    refine w_goto (tgt := 17) X dX12_feed_13 (by decide) ?_
    refine p12_thrown X dX12_feed_17 ?_
    refine w_aload_n X dX12_feed_20 rfl rfl ?_
    refine g12_thrown X dX12_feed_21 ?_
    try simp only [gI_sI, gI_sL, gL_sI, gL_sL, false_and, and_false, and_self, if_false, if_true, reduceIte, Nat.reduceEqDiff]
    refine w_if_le (tgt := 29) X dX12_feed_24 (by decide) (fun h24 => absurd h24 (by decide)) (fun h24 => ?_)
    refine w_iconst (v := 0) X dX12_feed_27 (by decide) ?_
    exact w_irF X dX12_feed_28 rfl rfl
set_option maxRecDepth 100000 in
set_option maxHeartbeats 4000000 in
theorem c12_feed_full (G : gg_) (hG : gd_ G) (d : Nat) (M : mm_) (z w : Nat) (x : Int64) (hz : M.1 0 2 = nI z) (hw : 1 ≤ w ∧ w ≤ 8) (hf : 200 < z + w) (hz2 : z ≤ 200) : cm_ G yX12_feed cX12_feed 5 (some .int) (d) [.ref (G.1 0), .int (nI w), .long x] M (fI_ (-1) (sI_ M 0 0 0)) := by
  refine cm_of hG (by decide) (Nat.le_of_ble_eq_true rfl) (fun C X => ?_)
  refine w_aload_n X dX12_feed_0 rfl rfl ?_
  refine w_iload_n X dX12_feed_1 rfl rfl ?_
  refine w_iconst (v := 1) X dX12_feed_2 (by decide) ?_
  refine w_icmp_lt (tgt := 12) X dX12_feed_3 (by decide) (fun h3 => absurd h3 (nI_nlt (b := 1) (by omega) (by omega))) (fun h3 => ?_)
  refine w_iload_n X dX12_feed_6 rfl rfl ?_
  refine w_bipush (v := 8) X dX12_feed_7 (by decide) ?_
  refine w_icmp_le (tgt := 16) X dX12_feed_9 (by decide) (fun h9 => ?_) (fun h9 => absurd (nI_le (b := 8) (by omega) (by omega)) h9)
  refine w_iconst (v := 0) X dX12_feed_16 (by decide) ?_
  refine p12_thrown X dX12_feed_17 ?_
  refine w_aload_n X dX12_feed_20 rfl rfl ?_
  refine g12_thrown X dX12_feed_21 ?_
  try simp only [gI_sI, gI_sL, gL_sI, gL_sL, false_and, and_false, and_self, if_false, if_true, reduceIte, Nat.reduceEqDiff, hz]
  refine w_if_le (tgt := 29) X dX12_feed_24 (by decide) (fun h24 => ?_) (fun h24 => absurd (by decide) h24)
  refine w_aload_n X dX12_feed_29 rfl rfl ?_
  refine g12_size X dX12_feed_30 ?_
  try simp only [gI_sI, gI_sL, gL_sI, gL_sL, false_and, and_false, and_self, if_false, if_true, reduceIte, Nat.reduceEqDiff, hz]
  refine w_iload_n X dX12_feed_33 rfl rfl ?_
  refine w_iadd X dX12_feed_34 ?_
  refine w_sipush (v := 200) X dX12_feed_35 (by decide) ?_
  refine w_icmp_le (tgt := 43) X dX12_feed_38 (by decide) (fun h38 => absurd h38 (by rw [nI_add]; exact nI_ge (a := 200) (by omega) (by omega))) (fun h38 => ?_)
  refine w_iconst (v := -1) X dX12_feed_41 (by decide) ?_
  exact w_irF X dX12_feed_42 rfl rfl
set_option maxRecDepth 100000 in
set_option maxHeartbeats 4000000 in
theorem c12_feed_ok (G : gg_) (hG : gd_ G) (d : Nat) (M : mm_) (z w : Nat) (x : Int64) (hz : M.1 0 2 = nI z) (hw : 1 ≤ w ∧ w ≤ 8) (hf : z + w ≤ 200) : cm_ G yX12_feed cX12_feed 5 (some .int) (d) [.ref (G.1 0), .int (nI w), .long x] M (fI_ (nI (z + w)) (fd_ (sI_ M 0 0 0) x z w)) := by
  refine cm_of hG (by decide) (Nat.le_of_ble_eq_true rfl) (fun C X => ?_)
  have lp : ∀ (u j : Nat), j + u = w → wq_ C G (qe_ C G (fI_ (nI (z + w)) (fd_ (sI_ M 0 0 0) x z w))) 46 [some (.ref (G.1 0)), some (.int (nI w)), some (.long x), none, some (.int (nI j))] [] (fd_ (sI_ M 0 0 0) x z j) := by
    intro u
    induction u with
    | zero =>
      intro j hu
      obtain rfl : j = w := by omega
      refine w_iload X dX12_feed_46 rfl ?_
      refine w_iload_n X dX12_feed_48 rfl rfl ?_
      refine w_icmp_ge (tgt := 89) X dX12_feed_49 (by decide) (fun h49 => ?_) (fun h49 => absurd (Int32.le_refl _) h49)
      refine w_aload_n X dX12_feed_89 rfl rfl ?_
      refine g12_size X dX12_feed_90 ?_
      try simp only [gI_sI, gI_sL, gL_sI, gL_sL, false_and, and_false, and_self, if_false, if_true, reduceIte, Nat.reduceEqDiff, fd_2 (M := sI_ M 0 0 0) (x := x) (z := z) hz j]
      exact w_irF X dX12_feed_93 rfl rfl
    | succ u ih =>
      intro j hu
      refine w_iload X dX12_feed_46 rfl ?_
      refine w_iload_n X dX12_feed_48 rfl rfl ?_
      refine w_icmp_ge (tgt := 89) X dX12_feed_49 (by decide) (fun h49 => absurd h49 (nI_ge (by omega) (by omega))) (fun h49 => ?_)
      refine w_aload_n X dX12_feed_52 rfl rfl ?_
      refine g12_tape X dX12_feed_53 ?_
      refine w_aload_n X dX12_feed_56 rfl rfl ?_
      refine g12_size X dX12_feed_57 ?_
      try simp only [gI_sI, gI_sL, gL_sI, gL_sL, false_and, and_false, and_self, if_false, if_true, reduceIte, Nat.reduceEqDiff, fd_2 (M := sI_ M 0 0 0) (x := x) (z := z) hz j]
      refine w_lload_n X dX12_feed_60 rfl rfl ?_
      refine w_bipush (v := 8) X dX12_feed_61 (by decide) ?_
      refine w_iload X dX12_feed_63 rfl ?_
      refine w_imul X dX12_feed_65 ?_
      refine w_lshr X dX12_feed_66 ?_
      refine w_ldc2 X dX12_feed_67 q12_121 ?_
      refine w_land X dX12_feed_70 ?_
      refine w_l2i X dX12_feed_71 ?_
      refine w_iastoreN X dX12_feed_72 rfl rfl (by omega) ?_
      refine w_aload_n X dX12_feed_73 rfl rfl ?_
      refine w_dup X dX12_feed_74 rfl ?_
      refine g12_size X dX12_feed_75 ?_
      try simp only [gI_sI, gI_sL, gL_sI, gL_sL, false_and, and_false, and_self, if_false, if_true, reduceIte, Nat.reduceEqDiff, fd_2 (M := sI_ M 0 0 0) (x := x) (z := z) hz j]
      refine w_iconst (v := 1) X dX12_feed_78 (by decide) ?_
      refine w_iadd X dX12_feed_79 ?_
      refine p12_size X dX12_feed_80 ?_
      refine w_iinc (v := 1) X dX12_feed_83 rfl (by decide) (by decide) ?_
      refine w_goto (tgt := 46) X dX12_feed_86 (by decide) ?_
      rw [nI_1, nI_1]
      exact ih (j + 1) (by omega)
  refine w_aload_n X dX12_feed_0 rfl rfl ?_
  refine w_iload_n X dX12_feed_1 rfl rfl ?_
  refine w_iconst (v := 1) X dX12_feed_2 (by decide) ?_
  refine w_icmp_lt (tgt := 12) X dX12_feed_3 (by decide) (fun h3 => absurd h3 (nI_nlt (b := 1) (by omega) (by omega))) (fun h3 => ?_)
  refine w_iload_n X dX12_feed_6 rfl rfl ?_
  refine w_bipush (v := 8) X dX12_feed_7 (by decide) ?_
  refine w_icmp_le (tgt := 16) X dX12_feed_9 (by decide) (fun h9 => ?_) (fun h9 => absurd (nI_le (b := 8) (by omega) (by omega)) h9)
  refine w_iconst (v := 0) X dX12_feed_16 (by decide) ?_
  refine p12_thrown X dX12_feed_17 ?_
  refine w_aload_n X dX12_feed_20 rfl rfl ?_
  refine g12_thrown X dX12_feed_21 ?_
  try simp only [gI_sI, gI_sL, gL_sI, gL_sL, false_and, and_false, and_self, if_false, if_true, reduceIte, Nat.reduceEqDiff, hz]
  refine w_if_le (tgt := 29) X dX12_feed_24 (by decide) (fun h24 => ?_) (fun h24 => absurd (by decide) h24)
  refine w_aload_n X dX12_feed_29 rfl rfl ?_
  refine g12_size X dX12_feed_30 ?_
  try simp only [gI_sI, gI_sL, gL_sI, gL_sL, false_and, and_false, and_self, if_false, if_true, reduceIte, Nat.reduceEqDiff, hz]
  refine w_iload_n X dX12_feed_33 rfl rfl ?_
  refine w_iadd X dX12_feed_34 ?_
  refine w_sipush (v := 200) X dX12_feed_35 (by decide) ?_
  refine w_icmp_le (tgt := 43) X dX12_feed_38 (by decide) (fun h38 => ?_) (fun h38 => absurd (by rw [nI_add]; exact nI_le (b := 200) (by omega) (by omega)) h38)
  refine w_iconst (v := 0) X dX12_feed_43 (by decide) ?_
  refine w_istore X dX12_feed_44 (by decide) ?_
  exact lp w 0 (by omega)
set_option maxRecDepth 100000 in
set_option maxHeartbeats 4000000 in
theorem c12_job (G : gg_) (hG : gd_ G) (d : Nat) (M : mm_) (j w : Int32) : cm_ G yX12_job cX12_job 3 (some .int) (d) [.ref (G.1 0), .int j, .int w] M (fI_ (if 0 < jt_ j w then 0 else if w = 0 then M.1 12 j.toNatClampNeg else if M.1 12 j.toNatClampNeg = 1 then M.1 14 j.toNatClampNeg - M.1 15 j.toNatClampNeg else 0) (sI_ M 0 0 (jt_ j w))) := by
  refine cm_of hG (by decide) (Nat.le_of_ble_eq_true rfl) (fun C X => ?_)
  refine w_aload_n X dX12_job_0 rfl rfl ?_
  refine w_iload_n X dX12_job_1 rfl rfl ?_
  refine w_if_lt (tgt := 11) X dX12_job_2 (by decide) (fun h2 => ?_) (fun h2 => ?_)
  · refine w_iconst (v := 1) X dX12_job_11 (by decide) ?_
    refine w_goto (tgt := 29) X dX12_job_12 (by decide) ?_
    refine p12_thrown X dX12_job_29 ?_
    refine w_aload_n X dX12_job_32 rfl rfl ?_
    refine g12_thrown X dX12_job_33 ?_
    try simp only [gI_sI, gI_sL, gL_sI, gL_sL, false_and, and_false, and_self, if_false, if_true, reduceIte, Nat.reduceEqDiff]
    refine w_if_le (tgt := 41) X dX12_job_36 (by decide) (fun h36 => absurd h36 (by decide)) (fun h36 => ?_)
    refine w_iconst (v := 0) X dX12_job_39 (by decide) ?_
    refine w_irF X dX12_job_40 ?_ ?_
    · first | (simp [jt_, h2, h36]; done) | (simp_all [jt_]; done)
    · simp [jt_, h2, h36]
  · refine w_iload_n X dX12_job_5 rfl rfl ?_
    refine w_bipush (v := 8) X dX12_job_6 (by decide) ?_
    refine w_icmp_lt (tgt := 15) X dX12_job_8 (by decide) (fun h8 => ?_) (fun h8 => ?_)
    · refine w_iload_n X dX12_job_15 rfl rfl ?_
      refine w_if_lt (tgt := 24) X dX12_job_16 (by decide) (fun h16 => ?_) (fun h16 => ?_)
      · refine w_iconst (v := 2) X dX12_job_24 (by decide) ?_
        refine w_goto (tgt := 29) X dX12_job_25 (by decide) ?_
        refine p12_thrown X dX12_job_29 ?_
        refine w_aload_n X dX12_job_32 rfl rfl ?_
        refine g12_thrown X dX12_job_33 ?_
        try simp only [gI_sI, gI_sL, gL_sI, gL_sL, false_and, and_false, and_self, if_false, if_true, reduceIte, Nat.reduceEqDiff]
        refine w_if_le (tgt := 41) X dX12_job_36 (by decide) (fun h36 => absurd h36 (by decide)) (fun h36 => ?_)
        refine w_iconst (v := 0) X dX12_job_39 (by decide) ?_
        refine w_irF X dX12_job_40 ?_ ?_
        · first | (simp [jt_, h2, h8, h16, h36]; done) | (simp_all [jt_]; done)
        · simp [jt_, h2, h8, h16, h36]
      · refine w_iload_n X dX12_job_19 rfl rfl ?_
        refine w_iconst (v := 1) X dX12_job_20 (by decide) ?_
        refine w_icmp_le (tgt := 28) X dX12_job_21 (by decide) (fun h21 => ?_) (fun h21 => ?_)
        · refine w_iconst (v := 0) X dX12_job_28 (by decide) ?_
          refine p12_thrown X dX12_job_29 ?_
          refine w_aload_n X dX12_job_32 rfl rfl ?_
          refine g12_thrown X dX12_job_33 ?_
          try simp only [gI_sI, gI_sL, gL_sI, gL_sL, false_and, and_false, and_self, if_false, if_true, reduceIte, Nat.reduceEqDiff]
          refine w_if_le (tgt := 41) X dX12_job_36 (by decide) (fun h36 => ?_) (fun h36 => absurd (by decide) h36)
          refine w_iload_n X dX12_job_41 rfl rfl ?_
          refine w_if_ne (tgt := 54) X dX12_job_42 (by decide) (fun h42 => ?_) (fun h42 => ?_)
          · refine w_aload_n X dX12_job_54 rfl rfl ?_
            refine g12_kinds X dX12_job_55 ?_
            refine w_iload_n X dX12_job_58 rfl rfl ?_
            refine w_iaload X dX12_job_59 rfl rfl (by obtain ⟨b, hb, eb⟩ := i8_ h2 h8; rw [eb]; exact vp_in_nI hb (by omega)) ?_
            try simp only [gI_sI, gI_sL, gL_sI, gL_sL, false_and, and_false, and_self, if_false, if_true, reduceIte, Nat.reduceEqDiff]
            refine w_iconst (v := 1) X dX12_job_60 (by decide) ?_
            refine w_icmp_ne (tgt := 80) X dX12_job_61 (by decide) (fun h61 => ?_) (fun h61 => ?_)
            · refine w_iconst (v := 0) X dX12_job_80 (by decide) ?_
              refine w_irF X dX12_job_81 ?_ ?_
              · first | (simp [jt_, h2, h8, h16, h21, h36, h42, h61]; done) | (simp_all [jt_]; done)
              · simp [jt_, h2, h8, h16, h21, h36, h42, h61]
            · refine w_aload_n X dX12_job_64 rfl rfl ?_
              refine g12_limits X dX12_job_65 ?_
              refine w_iload_n X dX12_job_68 rfl rfl ?_
              refine w_iaload X dX12_job_69 rfl rfl (by obtain ⟨b, hb, eb⟩ := i8_ h2 h8; rw [eb]; exact vp_in_nI hb (by omega)) ?_
              try simp only [gI_sI, gI_sL, gL_sI, gL_sL, false_and, and_false, and_self, if_false, if_true, reduceIte, Nat.reduceEqDiff]
              refine w_aload_n X dX12_job_70 rfl rfl ?_
              refine g12_mades X dX12_job_71 ?_
              refine w_iload_n X dX12_job_74 rfl rfl ?_
              refine w_iaload X dX12_job_75 rfl rfl (by obtain ⟨b, hb, eb⟩ := i8_ h2 h8; rw [eb]; exact vp_in_nI hb (by omega)) ?_
              try simp only [gI_sI, gI_sL, gL_sI, gL_sL, false_and, and_false, and_self, if_false, if_true, reduceIte, Nat.reduceEqDiff]
              refine w_isub X dX12_job_76 ?_
              refine w_goto (tgt := 81) X dX12_job_77 (by decide) ?_
              refine w_irF X dX12_job_81 ?_ ?_
              · first | (simp [jt_, h2, h8, h16, h21, h36, h42, h61]; done) | (simp_all [jt_]; done)
              · simp [jt_, h2, h8, h16, h21, h36, h42, h61]
          · refine w_aload_n X dX12_job_45 rfl rfl ?_
            refine g12_kinds X dX12_job_46 ?_
            refine w_iload_n X dX12_job_49 rfl rfl ?_
            refine w_iaload X dX12_job_50 rfl rfl (by obtain ⟨b, hb, eb⟩ := i8_ h2 h8; rw [eb]; exact vp_in_nI hb (by omega)) ?_
            try simp only [gI_sI, gI_sL, gL_sI, gL_sL, false_and, and_false, and_self, if_false, if_true, reduceIte, Nat.reduceEqDiff]
            refine w_goto (tgt := 81) X dX12_job_51 (by decide) ?_
            refine w_irF X dX12_job_81 ?_ ?_
            · first | (simp [jt_, h2, h8, h16, h21, h36, h42]; done) | (simp_all [jt_]; done)
            · simp [jt_, h2, h8, h16, h21, h36, h42]
        · refine w_iconst (v := 2) X dX12_job_24 (by decide) ?_
          refine w_goto (tgt := 29) X dX12_job_25 (by decide) ?_
          refine p12_thrown X dX12_job_29 ?_
          refine w_aload_n X dX12_job_32 rfl rfl ?_
          refine g12_thrown X dX12_job_33 ?_
          try simp only [gI_sI, gI_sL, gL_sI, gL_sL, false_and, and_false, and_self, if_false, if_true, reduceIte, Nat.reduceEqDiff]
          refine w_if_le (tgt := 41) X dX12_job_36 (by decide) (fun h36 => absurd h36 (by decide)) (fun h36 => ?_)
          refine w_iconst (v := 0) X dX12_job_39 (by decide) ?_
          refine w_irF X dX12_job_40 ?_ ?_
          · first | (simp [jt_, h2, h8, h16, h21, h36]; done) | (simp_all [jt_]; done)
          · simp [jt_, h2, h8, h16, h21, h36]
    · refine w_iconst (v := 1) X dX12_job_11 (by decide) ?_
      refine w_goto (tgt := 29) X dX12_job_12 (by decide) ?_
      refine p12_thrown X dX12_job_29 ?_
      refine w_aload_n X dX12_job_32 rfl rfl ?_
      refine g12_thrown X dX12_job_33 ?_
      try simp only [gI_sI, gI_sL, gL_sI, gL_sL, false_and, and_false, and_self, if_false, if_true, reduceIte, Nat.reduceEqDiff]
      refine w_if_le (tgt := 41) X dX12_job_36 (by decide) (fun h36 => absurd h36 (by decide)) (fun h36 => ?_)
      refine w_iconst (v := 0) X dX12_job_39 (by decide) ?_
      refine w_irF X dX12_job_40 ?_ ?_
      · first | (simp [jt_, h2, h8, h36]; done) | (simp_all [jt_]; done)
      · simp [jt_, h2, h8, h36]
def kt_ (c j w : Int32) (m : Int32) : Int32 := if j < 0 ∨ ¬ j < c then 1 else if w < 0 ∨ ¬ w ≤ m then 2 else 0
set_option maxRecDepth 100000 in
set_option maxHeartbeats 4000000 in
theorem c12_kept (G : gg_) (hG : gd_ G) (d : Nat) (M : mm_) (c : Nat) (hc : M.1 0 37 = nI c) (hc2 : c ≤ 40) (j w : Int32) : cm_ G yX12_kept cX12_kept 3 (some .int) (d) [.ref (G.1 0), .int j, .int w] M (fI_ (if 0 < kt_ (nI c) j w 6 then 0 else M.1 22 (7 * j + w).toNatClampNeg) (sI_ M 0 0 (kt_ (nI c) j w 6))) := by
  refine cm_of hG (by decide) (Nat.le_of_ble_eq_true rfl) (fun C X => ?_)
  refine w_aload_n X dX12_kept_0 rfl rfl ?_
  refine w_iload_n X dX12_kept_1 rfl rfl ?_
  refine w_if_lt (tgt := 13) X dX12_kept_2 (by decide) (fun h2 => ?_) (fun h2 => ?_)
  · refine w_iconst (v := 1) X dX12_kept_13 (by decide) ?_
    refine w_goto (tgt := 32) X dX12_kept_14 (by decide) ?_
    refine p12_thrown X dX12_kept_32 ?_
    refine w_aload_n X dX12_kept_35 rfl rfl ?_
    refine g12_thrown X dX12_kept_36 ?_
    try simp only [gI_sI, gI_sL, gL_sI, gL_sL, false_and, and_false, and_self, if_false, if_true, reduceIte, Nat.reduceEqDiff, hc]
    refine w_if_le (tgt := 46) X dX12_kept_39 (by decide) (fun h39 => absurd h39 (by decide)) (fun h39 => ?_)
    refine w_iconst (v := 0) X dX12_kept_42 (by decide) ?_
    refine w_goto (tgt := 57) X dX12_kept_43 (by decide) ?_
    refine w_irF X dX12_kept_57 ?_ ?_
    · first | (simp [kt_, h2, h39]; done) | (simp_all [kt_]; done)
    · simp [kt_, h2, h39]
  · refine w_iload_n X dX12_kept_5 rfl rfl ?_
    refine w_aload_n X dX12_kept_6 rfl rfl ?_
    refine g12_keepCount X dX12_kept_7 ?_
    try simp only [gI_sI, gI_sL, gL_sI, gL_sL, false_and, and_false, and_self, if_false, if_true, reduceIte, Nat.reduceEqDiff, hc]
    refine w_icmp_lt (tgt := 17) X dX12_kept_10 (by decide) (fun h10 => ?_) (fun h10 => ?_)
    · refine w_iload_n X dX12_kept_17 rfl rfl ?_
      refine w_if_lt (tgt := 27) X dX12_kept_18 (by decide) (fun h18 => ?_) (fun h18 => ?_)
      · refine w_iconst (v := 2) X dX12_kept_27 (by decide) ?_
        refine w_goto (tgt := 32) X dX12_kept_28 (by decide) ?_
        refine p12_thrown X dX12_kept_32 ?_
        refine w_aload_n X dX12_kept_35 rfl rfl ?_
        refine g12_thrown X dX12_kept_36 ?_
        try simp only [gI_sI, gI_sL, gL_sI, gL_sL, false_and, and_false, and_self, if_false, if_true, reduceIte, Nat.reduceEqDiff, hc]
        refine w_if_le (tgt := 46) X dX12_kept_39 (by decide) (fun h39 => absurd h39 (by decide)) (fun h39 => ?_)
        refine w_iconst (v := 0) X dX12_kept_42 (by decide) ?_
        refine w_goto (tgt := 57) X dX12_kept_43 (by decide) ?_
        refine w_irF X dX12_kept_57 ?_ ?_
        · first | (simp [kt_, h2, h10, h18, h39]; done) | (simp_all [kt_]; done)
        · simp [kt_, h2, h10, h18, h39]
      · refine w_iload_n X dX12_kept_21 rfl rfl ?_
        refine w_bipush (v := 6) X dX12_kept_22 (by decide) ?_
        refine w_icmp_le (tgt := 31) X dX12_kept_24 (by decide) (fun h24 => ?_) (fun h24 => ?_)
        · refine w_iconst (v := 0) X dX12_kept_31 (by decide) ?_
          refine p12_thrown X dX12_kept_32 ?_
          refine w_aload_n X dX12_kept_35 rfl rfl ?_
          refine g12_thrown X dX12_kept_36 ?_
          try simp only [gI_sI, gI_sL, gL_sI, gL_sL, false_and, and_false, and_self, if_false, if_true, reduceIte, Nat.reduceEqDiff, hc]
          refine w_if_le (tgt := 46) X dX12_kept_39 (by decide) (fun h39 => ?_) (fun h39 => absurd (by decide) h39)
          refine w_aload_n X dX12_kept_46 rfl rfl ?_
          refine g12_keptOnes X dX12_kept_47 ?_
          refine w_bipush (v := 7) X dX12_kept_50 (by decide) ?_
          refine w_iload_n X dX12_kept_52 rfl rfl ?_
          refine w_imul X dX12_kept_53 ?_
          refine w_iload_n X dX12_kept_54 rfl rfl ?_
          refine w_iadd X dX12_kept_55 ?_
          refine w_iaload X dX12_kept_56 rfl rfl (by obtain ⟨b, hb, eb⟩ := iN_ (n := c) (by omega) h2 h10; obtain ⟨e, he, ee⟩ := iL_ (n := 6) (by omega) h18 h24; rw [eb, ee, show (7 : Int32) = nI 7 from rfl, nI_m]; exact vp_in_nI (by omega) (by omega)) ?_
          try simp only [gI_sI, gI_sL, gL_sI, gL_sL, false_and, and_false, and_self, if_false, if_true, reduceIte, Nat.reduceEqDiff, hc]
          refine w_irF X dX12_kept_57 ?_ ?_
          · first | (simp [kt_, h2, h10, h18, h24, h39]; done) | (simp_all [kt_]; done)
          · simp [kt_, h2, h10, h18, h24, h39]
        · refine w_iconst (v := 2) X dX12_kept_27 (by decide) ?_
          refine w_goto (tgt := 32) X dX12_kept_28 (by decide) ?_
          refine p12_thrown X dX12_kept_32 ?_
          refine w_aload_n X dX12_kept_35 rfl rfl ?_
          refine g12_thrown X dX12_kept_36 ?_
          try simp only [gI_sI, gI_sL, gL_sI, gL_sL, false_and, and_false, and_self, if_false, if_true, reduceIte, Nat.reduceEqDiff, hc]
          refine w_if_le (tgt := 46) X dX12_kept_39 (by decide) (fun h39 => absurd h39 (by decide)) (fun h39 => ?_)
          refine w_iconst (v := 0) X dX12_kept_42 (by decide) ?_
          refine w_goto (tgt := 57) X dX12_kept_43 (by decide) ?_
          refine w_irF X dX12_kept_57 ?_ ?_
          · first | (simp [kt_, h2, h10, h18, h24, h39]; done) | (simp_all [kt_]; done)
          · simp [kt_, h2, h10, h18, h24, h39]
    · refine w_iconst (v := 1) X dX12_kept_13 (by decide) ?_
      refine w_goto (tgt := 32) X dX12_kept_14 (by decide) ?_
      refine p12_thrown X dX12_kept_32 ?_
      refine w_aload_n X dX12_kept_35 rfl rfl ?_
      refine g12_thrown X dX12_kept_36 ?_
      try simp only [gI_sI, gI_sL, gL_sI, gL_sL, false_and, and_false, and_self, if_false, if_true, reduceIte, Nat.reduceEqDiff, hc]
      refine w_if_le (tgt := 46) X dX12_kept_39 (by decide) (fun h39 => absurd h39 (by decide)) (fun h39 => ?_)
      refine w_iconst (v := 0) X dX12_kept_42 (by decide) ?_
      refine w_goto (tgt := 57) X dX12_kept_43 (by decide) ?_
      refine w_irF X dX12_kept_57 ?_ ?_
      · first | (simp [kt_, h2, h10, h39]; done) | (simp_all [kt_]; done)
      · simp [kt_, h2, h10, h39]
end
section
/-! patterns, small numbers, jobs -/
theorem fa_0 {M : mm_} {f w : Int32} (h : M.1 0 3 = 0) : fa_ M f w = sI_ (sI_ M 0 3 f) 0 4 w := if_pos h
theorem fa_1 {M : mm_} {f w : Int32} (h : ¬ M.1 0 3 = 0) : fa_ M f w = M := if_neg h
def rq_ (n : Nat) : Nat → mm_ → Nat → Nat → mm_
  | 0, M, _, _ => M
  | u + 1, M, k, p => if 32 < bf_ M n k then (if io_ (bf_ M n k) = 0 ∧ ¬ bf_ M n k = 42 ∧ ¬ bf_ M n k = 63 then fa_ M 1 (nI k) else if p = 12 then fa_ M 3 (nI k) else rq_ n u (sI_ (sI_ (sI_ M 19 p (bf_ M n k)) 0 33 (nI (p + 1))) 0 5 (nI (k + 1))) (k + 1) (p + 1)) else M
def rp_ (M : mm_) (n k : Nat) : mm_ := if sp_ M n k < n then rq_ n (n - sp_ M n k) (sI_ (sI_ M 0 5 (nI (sp_ M n k))) 0 33 0) (sp_ M n k) 0 else fa_ (sI_ (sI_ M 0 5 (nI (sp_ M n k))) 0 33 0) 1 (nI (sp_ M n k))
def dw_ (v c : Int32) : Int32 := if v * 10 + c - 48 ≤ 999 then v * 10 + c - 48 else 999
def dv_ (f : Nat → Int32) : Nat → Nat → Int32 → Nat × Int32
  | 0, k, v => (k, v)
  | u + 1, k, v => if ig_ (f k) = 1 then dv_ f u (k + 1) (dw_ v (f k)) else (k, v)
theorem ig_bf {M : mm_} {n k : Nat} (h : ¬ k < n) : ig_ (bf_ M n k) = 0 := by
  unfold bf_
  rw [if_neg h]
  decide +kernel
theorem dv_le (f : Nat → Int32) : ∀ u k v, k ≤ (dv_ f u k v).1 ∧ (dv_ f u k v).1 ≤ k + u
  | 0, k, v => ⟨Nat.le_refl _, Nat.le_refl _⟩
  | u + 1, k, v => by
    unfold dv_
    split
    · have := dv_le f u (k + 1) (dw_ v (f k)); omega
    · simp
set_option maxRecDepth 100000 in
set_option maxHeartbeats 4000000 in
theorem c12_readPattern (G : gg_) (hG : gd_ G) (d : Nat) (M : mm_) (n k : Nat) (ht : tz_ M n) (ha : M.1 0 5 = nI k) (hk : k < 536870912) (hf : M.1 0 3 = 0) : cm_ G yX12_readPattern cX12_readPattern 2 none (d + 2) [.ref (G.1 0)] M (fV_ (rp_ M n k)) := by
  refine cm_of hG (by decide) (Nat.le_of_ble_eq_true rfl) (fun C X => ?_)
  generalize hR : rp_ M n k = R
  have lpf : ∀ (N : mm_) (w1 : Option Value), ¬ N.1 0 3 = 0 → N = R → wq_ C G (qe_ C G (fV_ R)) 29 [some (.ref (G.1 0)), w1] [] N := by
    intro N w1 h3 hr
    refine w_aload_n X dX12_readPattern_29 rfl rfl ?_
    refine g12_fault X dX12_readPattern_30 ?_
    refine w_if_ne (tgt := 156) X dX12_readPattern_33 (by decide) (fun h33 => ?_) (fun h33 => absurd h33 h3)
    exact w_vrF X dX12_readPattern_156 hr
  have lp : ∀ (u : Nat) (N : mm_) (q p : Nat) (w1 : Option Value), tz_ N n → N.1 0 5 = nI q → N.1 0 33 = nI p → p ≤ 12 → N.1 0 3 = 0 → u = n - q → q < 1073741824 → R = rq_ n u N q p → wq_ C G (qe_ C G (fV_ R)) 29 [some (.ref (G.1 0)), w1] [] N := by
    intro u
    induction u with
    | zero =>
      intro N q p w1 hz h5 hp hp2 h3 hu hq hr
      have hn := hz.2
      refine w_aload_n X dX12_readPattern_29 rfl rfl ?_
      refine g12_fault X dX12_readPattern_30 ?_
      try simp only [gI_sI, gI_sL, gL_sI, gL_sL, false_and, and_false, and_self, if_false, if_true, reduceIte, Nat.reduceEqDiff, hz.1, h5, hp, h3]
      refine w_if_ne (tgt := 156) X dX12_readPattern_33 (by decide) (fun h33 => absurd rfl h33) (fun h33 => ?_)
      refine w_aload_n X dX12_readPattern_36 rfl rfl ?_
      refine g12_at X dX12_readPattern_37 ?_
      try simp only [gI_sI, gI_sL, gL_sI, gL_sL, false_and, and_false, and_self, if_false, if_true, reduceIte, Nat.reduceEqDiff, hz.1, h5, hp, h3]
      refine w_aload_n X dX12_readPattern_40 rfl rfl ?_
      refine g12_size X dX12_readPattern_41 ?_
      try simp only [gI_sI, gI_sL, gL_sI, gL_sL, false_and, and_false, and_self, if_false, if_true, reduceIte, Nat.reduceEqDiff, hz.1, h5, hp, h3]
      refine w_icmp_ge (tgt := 156) X dX12_readPattern_44 (by decide) (fun h44 => ?_) (fun h44 => absurd (nI_le (by omega) (by omega)) h44)
      exact w_vrF X dX12_readPattern_156 (by rw [hr]; rfl)
    | succ u ih =>
      intro N q p w1 hz h5 hp hp2 h3 hu hq hr
      have hn := hz.2
      have eb : bf_ N n q = N.1 1 q := if_pos (by omega)
      refine w_aload_n X dX12_readPattern_29 rfl rfl ?_
      refine g12_fault X dX12_readPattern_30 ?_
      try simp only [gI_sI, gI_sL, gL_sI, gL_sL, false_and, and_false, and_self, if_false, if_true, reduceIte, Nat.reduceEqDiff, hz.1, h5, hp, h3]
      refine w_if_ne (tgt := 156) X dX12_readPattern_33 (by decide) (fun h33 => absurd rfl h33) (fun h33 => ?_)
      refine w_aload_n X dX12_readPattern_36 rfl rfl ?_
      refine g12_at X dX12_readPattern_37 ?_
      try simp only [gI_sI, gI_sL, gL_sI, gL_sL, false_and, and_false, and_self, if_false, if_true, reduceIte, Nat.reduceEqDiff, hz.1, h5, hp, h3]
      refine w_aload_n X dX12_readPattern_40 rfl rfl ?_
      refine g12_size X dX12_readPattern_41 ?_
      try simp only [gI_sI, gI_sL, gL_sI, gL_sL, false_and, and_false, and_self, if_false, if_true, reduceIte, Nat.reduceEqDiff, hz.1, h5, hp, h3]
      refine w_icmp_ge (tgt := 156) X dX12_readPattern_44 (by decide) (fun h44 => absurd h44 (nI_ge (by omega) (by omega))) (fun h44 => ?_)
      refine w_aload_n X dX12_readPattern_47 rfl rfl ?_
      refine g12_tape X dX12_readPattern_48 ?_
      refine w_aload_n X dX12_readPattern_51 rfl rfl ?_
      refine g12_at X dX12_readPattern_52 ?_
      try simp only [gI_sI, gI_sL, gL_sI, gL_sL, false_and, and_false, and_self, if_false, if_true, reduceIte, Nat.reduceEqDiff, hz.1, h5, hp, h3]
      refine w_ialoadN X dX12_readPattern_55 rfl rfl (by omega) ?_
      try simp only [gI_sI, gI_sL, gL_sI, gL_sL, false_and, and_false, and_self, if_false, if_true, reduceIte, Nat.reduceEqDiff, hz.1, h5, hp, h3]
      refine w_bipush (v := 32) X dX12_readPattern_56 (by decide) ?_
      refine w_icmp_le (tgt := 156) X dX12_readPattern_58 (by decide) (fun h58 => ?_) (fun h58 => ?_)
      · refine w_vrF X dX12_readPattern_156 ?_
        rw [hr]
        simp only [rq_]
        rw [if_neg (by rw [eb]; exact Int32.not_lt.mpr h58)]
      · refine w_aload_n X dX12_readPattern_61 rfl rfl ?_
        refine g12_tape X dX12_readPattern_62 ?_
        refine w_aload_n X dX12_readPattern_65 rfl rfl ?_
        refine g12_at X dX12_readPattern_66 ?_
        try simp only [gI_sI, gI_sL, gL_sI, gL_sL, false_and, and_false, and_self, if_false, if_true, reduceIte, Nat.reduceEqDiff, hz.1, h5, hp, h3]
        refine w_ialoadN X dX12_readPattern_69 rfl rfl (by omega) ?_
        try simp only [gI_sI, gI_sL, gL_sI, gL_sL, false_and, and_false, and_self, if_false, if_true, reduceIte, Nat.reduceEqDiff, hz.1, h5, hp, h3]
        refine w_istore_n X dX12_readPattern_70 rfl (by decide) ?_
        refine w_iload_n X dX12_readPattern_71 rfl rfl ?_
        refine w_s1fI X dX12_readPattern_72 k12_isOfRow (c12_isOfRow G hG _ _ _) (Nat.le_of_ble_eq_true rfl) ?_
        refine w_if_ne (tgt := 102) X dX12_readPattern_75 (by decide) (fun h75 => ?_) (fun h75 => ?_)
        · refine w_aload_n X dX12_readPattern_102 rfl rfl ?_
          refine g12_newPatternSize X dX12_readPattern_103 ?_
          try simp only [gI_sI, gI_sL, gL_sI, gL_sL, false_and, and_false, and_self, if_false, if_true, reduceIte, Nat.reduceEqDiff, hz.1, h5, hp, h3]
          refine w_bipush (v := 12) X dX12_readPattern_106 (by decide) ?_
          refine w_icmp_ne (tgt := 123) X dX12_readPattern_108 (by decide) (fun h108 => ?_) (fun h108 => ?_)
          · have e108 : ¬ p = 12 := fun q => h108 (by rw [q]; rfl)
            refine w_aload_n X dX12_readPattern_123 rfl rfl ?_
            refine g12_newPattern X dX12_readPattern_124 ?_
            refine w_aload_n X dX12_readPattern_127 rfl rfl ?_
            refine g12_newPatternSize X dX12_readPattern_128 ?_
            try simp only [gI_sI, gI_sL, gL_sI, gL_sL, false_and, and_false, and_self, if_false, if_true, reduceIte, Nat.reduceEqDiff, hz.1, h5, hp, h3]
            refine w_iload_n X dX12_readPattern_131 rfl rfl ?_
            refine w_iastoreN X dX12_readPattern_132 rfl rfl (by have : ¬ p = 12 := e108; omega) ?_
            refine w_aload_n X dX12_readPattern_133 rfl rfl ?_
            refine w_dup X dX12_readPattern_134 rfl ?_
            refine g12_newPatternSize X dX12_readPattern_135 ?_
            try simp only [gI_sI, gI_sL, gL_sI, gL_sL, false_and, and_false, and_self, if_false, if_true, reduceIte, Nat.reduceEqDiff, hz.1, h5, hp, h3]
            refine w_iconst (v := 1) X dX12_readPattern_138 (by decide) ?_
            refine w_iadd X dX12_readPattern_139 ?_
            refine p12_newPatternSize X dX12_readPattern_140 ?_
            refine w_aload_n X dX12_readPattern_143 rfl rfl ?_
            refine w_dup X dX12_readPattern_144 rfl ?_
            refine g12_at X dX12_readPattern_145 ?_
            try simp only [gI_sI, gI_sL, gL_sI, gL_sL, false_and, and_false, and_self, if_false, if_true, reduceIte, Nat.reduceEqDiff, hz.1, h5, hp, h3]
            refine w_iconst (v := 1) X dX12_readPattern_148 (by decide) ?_
            refine w_iadd X dX12_readPattern_149 ?_
            refine p12_at X dX12_readPattern_150 ?_
            refine w_goto (tgt := 29) X dX12_readPattern_153 (by decide) ?_
            rw [nI_1, nI_1]
            refine ih _ (q + 1) (p + 1) _ (tz_sI (tz_sI (tz_sI hz (by omega)) (by omega)) (by omega)) (by simp [sI_]) (by simp [sI_]) (by omega) (by simp [sI_, h3]) (by omega) (by omega) ?_
            rw [hr]
            simp only [rq_]
            simp [eb, h3, h3, h58, h75, e108]
          · have e108 : p = 12 := (nI_eq (b := 12) (by omega) (by omega)).mp h108
            refine w_aload_n X dX12_readPattern_111 rfl rfl ?_
            refine w_iconst (v := 3) X dX12_readPattern_112 (by decide) ?_
            refine w_aload_n X dX12_readPattern_113 rfl rfl ?_
            refine g12_at X dX12_readPattern_114 ?_
            try simp only [gI_sI, gI_sL, gL_sI, gL_sL, false_and, and_false, and_self, if_false, if_true, reduceIte, Nat.reduceEqDiff, hz.1, h5, hp, h3]
            refine w_v2fV X dX12_readPattern_117 k12_fail rfl rfl (c12_fail G hG _ _ _ _) (Nat.le_of_ble_eq_true rfl) ?_
            rw [fa_0 h3]
            refine w_goto (tgt := 153) X dX12_readPattern_120 (by decide) ?_
            refine w_goto (tgt := 29) X dX12_readPattern_153 (by decide) ?_
            refine lpf _ _ (by simp [sI_]) ?_
            rw [hr]
            simp only [rq_]
            simp [eb, h3, h3, h58, h75, e108, fa_0 h3]
        · refine w_iload_n X dX12_readPattern_78 rfl rfl ?_
          refine w_bipush (v := 42) X dX12_readPattern_79 (by decide) ?_
          refine w_icmp_eq (tgt := 102) X dX12_readPattern_81 (by decide) (fun h81 => ?_) (fun h81 => ?_)
          · refine w_aload_n X dX12_readPattern_102 rfl rfl ?_
            refine g12_newPatternSize X dX12_readPattern_103 ?_
            try simp only [gI_sI, gI_sL, gL_sI, gL_sL, false_and, and_false, and_self, if_false, if_true, reduceIte, Nat.reduceEqDiff, hz.1, h5, hp, h3]
            refine w_bipush (v := 12) X dX12_readPattern_106 (by decide) ?_
            refine w_icmp_ne (tgt := 123) X dX12_readPattern_108 (by decide) (fun h108 => ?_) (fun h108 => ?_)
            · have e108 : ¬ p = 12 := fun q => h108 (by rw [q]; rfl)
              refine w_aload_n X dX12_readPattern_123 rfl rfl ?_
              refine g12_newPattern X dX12_readPattern_124 ?_
              refine w_aload_n X dX12_readPattern_127 rfl rfl ?_
              refine g12_newPatternSize X dX12_readPattern_128 ?_
              try simp only [gI_sI, gI_sL, gL_sI, gL_sL, false_and, and_false, and_self, if_false, if_true, reduceIte, Nat.reduceEqDiff, hz.1, h5, hp, h3]
              refine w_iload_n X dX12_readPattern_131 rfl rfl ?_
              refine w_iastoreN X dX12_readPattern_132 rfl rfl (by have : ¬ p = 12 := e108; omega) ?_
              refine w_aload_n X dX12_readPattern_133 rfl rfl ?_
              refine w_dup X dX12_readPattern_134 rfl ?_
              refine g12_newPatternSize X dX12_readPattern_135 ?_
              try simp only [gI_sI, gI_sL, gL_sI, gL_sL, false_and, and_false, and_self, if_false, if_true, reduceIte, Nat.reduceEqDiff, hz.1, h5, hp, h3]
              refine w_iconst (v := 1) X dX12_readPattern_138 (by decide) ?_
              refine w_iadd X dX12_readPattern_139 ?_
              refine p12_newPatternSize X dX12_readPattern_140 ?_
              refine w_aload_n X dX12_readPattern_143 rfl rfl ?_
              refine w_dup X dX12_readPattern_144 rfl ?_
              refine g12_at X dX12_readPattern_145 ?_
              try simp only [gI_sI, gI_sL, gL_sI, gL_sL, false_and, and_false, and_self, if_false, if_true, reduceIte, Nat.reduceEqDiff, hz.1, h5, hp, h3]
              refine w_iconst (v := 1) X dX12_readPattern_148 (by decide) ?_
              refine w_iadd X dX12_readPattern_149 ?_
              refine p12_at X dX12_readPattern_150 ?_
              refine w_goto (tgt := 29) X dX12_readPattern_153 (by decide) ?_
              rw [nI_1, nI_1]
              refine ih _ (q + 1) (p + 1) _ (tz_sI (tz_sI (tz_sI hz (by omega)) (by omega)) (by omega)) (by simp [sI_]) (by simp [sI_]) (by omega) (by simp [sI_, h3]) (by omega) (by omega) ?_
              rw [hr]
              simp only [rq_]
              simp [eb, h3, h3, h58, h75, h81, e108]
            · have e108 : p = 12 := (nI_eq (b := 12) (by omega) (by omega)).mp h108
              refine w_aload_n X dX12_readPattern_111 rfl rfl ?_
              refine w_iconst (v := 3) X dX12_readPattern_112 (by decide) ?_
              refine w_aload_n X dX12_readPattern_113 rfl rfl ?_
              refine g12_at X dX12_readPattern_114 ?_
              try simp only [gI_sI, gI_sL, gL_sI, gL_sL, false_and, and_false, and_self, if_false, if_true, reduceIte, Nat.reduceEqDiff, hz.1, h5, hp, h3]
              refine w_v2fV X dX12_readPattern_117 k12_fail rfl rfl (c12_fail G hG _ _ _ _) (Nat.le_of_ble_eq_true rfl) ?_
              rw [fa_0 h3]
              refine w_goto (tgt := 153) X dX12_readPattern_120 (by decide) ?_
              refine w_goto (tgt := 29) X dX12_readPattern_153 (by decide) ?_
              refine lpf _ _ (by simp [sI_]) ?_
              rw [hr]
              simp only [rq_]
              simp [eb, h3, h3, h58, h75, h81, e108, fa_0 h3]
          · refine w_iload_n X dX12_readPattern_84 rfl rfl ?_
            refine w_bipush (v := 63) X dX12_readPattern_85 (by decide) ?_
            refine w_icmp_eq (tgt := 102) X dX12_readPattern_87 (by decide) (fun h87 => ?_) (fun h87 => ?_)
            · refine w_aload_n X dX12_readPattern_102 rfl rfl ?_
              refine g12_newPatternSize X dX12_readPattern_103 ?_
              try simp only [gI_sI, gI_sL, gL_sI, gL_sL, false_and, and_false, and_self, if_false, if_true, reduceIte, Nat.reduceEqDiff, hz.1, h5, hp, h3]
              refine w_bipush (v := 12) X dX12_readPattern_106 (by decide) ?_
              refine w_icmp_ne (tgt := 123) X dX12_readPattern_108 (by decide) (fun h108 => ?_) (fun h108 => ?_)
              · have e108 : ¬ p = 12 := fun q => h108 (by rw [q]; rfl)
                refine w_aload_n X dX12_readPattern_123 rfl rfl ?_
                refine g12_newPattern X dX12_readPattern_124 ?_
                refine w_aload_n X dX12_readPattern_127 rfl rfl ?_
                refine g12_newPatternSize X dX12_readPattern_128 ?_
                try simp only [gI_sI, gI_sL, gL_sI, gL_sL, false_and, and_false, and_self, if_false, if_true, reduceIte, Nat.reduceEqDiff, hz.1, h5, hp, h3]
                refine w_iload_n X dX12_readPattern_131 rfl rfl ?_
                refine w_iastoreN X dX12_readPattern_132 rfl rfl (by have : ¬ p = 12 := e108; omega) ?_
                refine w_aload_n X dX12_readPattern_133 rfl rfl ?_
                refine w_dup X dX12_readPattern_134 rfl ?_
                refine g12_newPatternSize X dX12_readPattern_135 ?_
                try simp only [gI_sI, gI_sL, gL_sI, gL_sL, false_and, and_false, and_self, if_false, if_true, reduceIte, Nat.reduceEqDiff, hz.1, h5, hp, h3]
                refine w_iconst (v := 1) X dX12_readPattern_138 (by decide) ?_
                refine w_iadd X dX12_readPattern_139 ?_
                refine p12_newPatternSize X dX12_readPattern_140 ?_
                refine w_aload_n X dX12_readPattern_143 rfl rfl ?_
                refine w_dup X dX12_readPattern_144 rfl ?_
                refine g12_at X dX12_readPattern_145 ?_
                try simp only [gI_sI, gI_sL, gL_sI, gL_sL, false_and, and_false, and_self, if_false, if_true, reduceIte, Nat.reduceEqDiff, hz.1, h5, hp, h3]
                refine w_iconst (v := 1) X dX12_readPattern_148 (by decide) ?_
                refine w_iadd X dX12_readPattern_149 ?_
                refine p12_at X dX12_readPattern_150 ?_
                refine w_goto (tgt := 29) X dX12_readPattern_153 (by decide) ?_
                rw [nI_1, nI_1]
                refine ih _ (q + 1) (p + 1) _ (tz_sI (tz_sI (tz_sI hz (by omega)) (by omega)) (by omega)) (by simp [sI_]) (by simp [sI_]) (by omega) (by simp [sI_, h3]) (by omega) (by omega) ?_
                rw [hr]
                simp only [rq_]
                simp [eb, h3, h3, h58, h75, h81, h87, e108]
              · have e108 : p = 12 := (nI_eq (b := 12) (by omega) (by omega)).mp h108
                refine w_aload_n X dX12_readPattern_111 rfl rfl ?_
                refine w_iconst (v := 3) X dX12_readPattern_112 (by decide) ?_
                refine w_aload_n X dX12_readPattern_113 rfl rfl ?_
                refine g12_at X dX12_readPattern_114 ?_
                try simp only [gI_sI, gI_sL, gL_sI, gL_sL, false_and, and_false, and_self, if_false, if_true, reduceIte, Nat.reduceEqDiff, hz.1, h5, hp, h3]
                refine w_v2fV X dX12_readPattern_117 k12_fail rfl rfl (c12_fail G hG _ _ _ _) (Nat.le_of_ble_eq_true rfl) ?_
                rw [fa_0 h3]
                refine w_goto (tgt := 153) X dX12_readPattern_120 (by decide) ?_
                refine w_goto (tgt := 29) X dX12_readPattern_153 (by decide) ?_
                refine lpf _ _ (by simp [sI_]) ?_
                rw [hr]
                simp only [rq_]
                simp [eb, h3, h3, h58, h75, h81, h87, e108, fa_0 h3]
            · refine w_aload_n X dX12_readPattern_90 rfl rfl ?_
              refine w_iconst (v := 1) X dX12_readPattern_91 (by decide) ?_
              refine w_aload_n X dX12_readPattern_92 rfl rfl ?_
              refine g12_at X dX12_readPattern_93 ?_
              try simp only [gI_sI, gI_sL, gL_sI, gL_sL, false_and, and_false, and_self, if_false, if_true, reduceIte, Nat.reduceEqDiff, hz.1, h5, hp, h3]
              refine w_v2fV X dX12_readPattern_96 k12_fail rfl rfl (c12_fail G hG _ _ _ _) (Nat.le_of_ble_eq_true rfl) ?_
              rw [fa_0 h3]
              refine w_goto (tgt := 153) X dX12_readPattern_99 (by decide) ?_
              refine w_goto (tgt := 29) X dX12_readPattern_153 (by decide) ?_
              refine lpf _ _ (by simp [sI_]) ?_
              rw [hr]
              simp only [rq_]
              simp [eb, h3, h3, h58, h75, h81, h87, fa_0 h3]
  refine w_aload_n X dX12_readPattern_0 rfl rfl ?_
  refine w_v0fV X dX12_readPattern_1 k12_skip rfl rfl (c12_skip G hG _ _ n k ht ha (by omega)) (Nat.le_of_ble_eq_true rfl) ?_
  have hn := ht.2
  have hq : sp_ M n k < 1073741824 := by have := (sk_ge (bf_ M n) (n - k) k).2; unfold sp_; omega
  refine w_aload_n X dX12_readPattern_4 rfl rfl ?_
  refine w_iconst (v := 0) X dX12_readPattern_5 (by decide) ?_
  refine p12_newPatternSize X dX12_readPattern_6 ?_
  refine w_aload_n X dX12_readPattern_9 rfl rfl ?_
  refine g12_at X dX12_readPattern_10 ?_
  try simp only [gI_sI, gI_sL, gL_sI, gL_sL, false_and, and_false, and_self, if_false, if_true, reduceIte, Nat.reduceEqDiff, ht.1]
  refine w_aload_n X dX12_readPattern_13 rfl rfl ?_
  refine g12_size X dX12_readPattern_14 ?_
  try simp only [gI_sI, gI_sL, gL_sI, gL_sL, false_and, and_false, and_self, if_false, if_true, reduceIte, Nat.reduceEqDiff, ht.1]
  refine w_icmp_lt (tgt := 29) X dX12_readPattern_17 (by decide) (fun h17 => ?_) (fun h17 => ?_)
  · have e17 : sp_ M n k < n := (nI_ltI (by omega) (by omega)).mp h17
    refine lp (n - sp_ M n k) _ (sp_ M n k) 0 _ (tz_sI (tz_sI ht (by omega)) (by omega)) (by simp [sI_]) (by simp [sI_]; rfl) (by omega) (by simp [sI_, hf]) rfl (by omega) ?_
    rw [← hR]
    unfold rp_
    rw [if_pos e17]
  · have e17 : ¬ sp_ M n k < n := fun q => h17 ((nI_ltI (by omega) (by omega)).mpr q)
    refine w_aload_n X dX12_readPattern_20 rfl rfl ?_
    refine w_iconst (v := 1) X dX12_readPattern_21 (by decide) ?_
    refine w_aload_n X dX12_readPattern_22 rfl rfl ?_
    refine g12_at X dX12_readPattern_23 ?_
    try simp only [gI_sI, gI_sL, gL_sI, gL_sL, false_and, and_false, and_self, if_false, if_true, reduceIte, Nat.reduceEqDiff, ht.1]
    refine w_v2fV X dX12_readPattern_26 k12_fail rfl rfl (c12_fail G hG _ _ _ _) (Nat.le_of_ble_eq_true rfl) ?_
    rw [fa_0 (by simp [sI_, hf])]
    refine lpf _ _ (by simp [sI_]) ?_
    rw [← hR]
    unfold rp_
    rw [if_neg e17, fa_0 (by simp [sI_, hf])]
end
section
theorem bf_fa {M : mm_} {f w : Int32} {n k : Nat} : bf_ (fa_ M f w) n k = bf_ M n k := by
  unfold fa_
  split
  · rw [bf_sI (by omega), bf_sI (by omega)]
  · rfl
theorem tz_fa {M : mm_} {f w : Int32} {n : Nat} (h : tz_ M n) : tz_ (fa_ M f w) n := by
  unfold fa_
  split
  · exact tz_sI (tz_sI h (by omega)) (by omega)
  · exact h
theorem fa_at {M : mm_} {f w : Int32} {a i : Nat} (h : ¬ (a = 0 ∧ (i = 3 ∨ i = 4))) : (fa_ M f w).1 a i = M.1 a i := by
  unfold fa_
  split
  · rw [sI_ne _ _ _ _ (fun q => h ⟨q.1, Or.inr q.2⟩), sI_ne _ _ _ _ (fun q => h ⟨q.1, Or.inl q.2⟩)]
  · rfl
/-- behind the figures: the fault of a number that is too great or too small, then the blank that must follow -/
def sn_ (M : mm_) (n : Nat) (least : Int32) (s : Nat) (k : Nat) (v : Int32) : mm_ :=
  let N := if v < least ∨ ¬ v ≤ 99 then fa_ (sI_ M 0 5 (nI k)) 2 (nI s) else sI_ M 0 5 (nI k)
  if N.1 0 3 = 0 ∧ ¬ bf_ M n k ≤ 32 then fa_ N 1 (nI k) else N
def pj_ (M : mm_) (b : Nat) : Nat → mm_
  | 0 => M
  | j + 1 => sI_ (pj_ M b j) 17 (12 * b + j) (M.1 19 j)
theorem pj_I {M : mm_} {b : Nat} : ∀ (j : Nat) (a i : Nat), a ≠ 17 → (pj_ M b j).1 a i = M.1 a i
  | 0, a, i, h => rfl
  | j + 1, a, i, h => by rw [pj_, sI_ne _ _ _ _ (fun q => h q.1), pj_I j a i h]
def zj_ (M : mm_) (b : Nat) : Nat → mm_
  | 0 => M
  | j + 1 => sI_ (zj_ M b j) 20 (48 * b + j) 0
def nj_ (M : mm_) (b z : Nat) (kd : Int32) : mm_ := zj_ (pj_ (sI_ (sI_ (sI_ (sI_ (sI_ M 12 b kd) 15 b 0) 14 b 0) 16 b (vp_nar .boolean 0)) 18 b (nI z)) b z) b 48
def zk_ (M : mm_) : Nat → mm_
  | 0 => M
  | j + 1 => sI_ (zk_ M j) 12 j 0
def nk_ (M : mm_) : Nat → Nat
  | 0 => 0
  | j + 1 => if M.1 12 j ≤ 0 then nk_ M j else nk_ M j + 1
theorem zk_I {M : mm_} : ∀ (j : Nat) (a i : Nat), ¬ (a = 12 ∧ i < j) → (zk_ M j).1 a i = M.1 a i
  | 0, a, i, h => rfl
  | j + 1, a, i, h => by rw [zk_, sI_ne _ _ _ _ (fun q => h ⟨q.1, by omega⟩), zk_I j a i (fun q => h ⟨q.1, by omega⟩)]
set_option maxRecDepth 100000 in
set_option maxHeartbeats 4000000 in
theorem c12_smallNumber (G : gg_) (hG : gd_ G) (d : Nat) (M : mm_) (n k s : Nat) (ht : tz_ M n) (ha : M.1 0 5 = nI k) (hk : k < 536870912) (hs : s = sp_ M n k) (least : Int32) : cm_ G yX12_smallNumber cX12_smallNumber 4 (some .int) (d + 2) [.ref (G.1 0), .int least] M (fI_ (if ig_ (bf_ M n s) = 0 then 0 else (dv_ (bf_ M n) (n - s) s 0).2) (if ig_ (bf_ M n s) = 0 then fa_ (sI_ M 0 5 (nI s)) 1 (nI s) else sn_ M n least s (dv_ (bf_ M n) (n - s) s 0).1 (dv_ (bf_ M n) (n - s) s 0).2)) := by
  refine cm_of hG (by decide) (Nat.le_of_ble_eq_true rfl) (fun C X => ?_)
  have hn := ht.2
  have hq : s < 1073741824 := by rw [hs]; have := (sk_ge (bf_ M n) (n - k) k).2; unfold sp_; omega
  have lp : ∀ (u q : Nat) (v : Int32), ¬ ig_ (bf_ M n s) = 0 → u = n - q → q < 1073741824 → dv_ (bf_ M n) (n - s) s 0 = dv_ (bf_ M n) u q v → wq_ C G (qe_ C G (fI_ (if ig_ (bf_ M n s) = 0 then 0 else (dv_ (bf_ M n) (n - s) s 0).2) (if ig_ (bf_ M n s) = 0 then fa_ (sI_ M 0 5 (nI s)) 1 (nI s) else sn_ M n least s (dv_ (bf_ M n) (n - s) s 0).1 (dv_ (bf_ M n) (n - s) s 0).2))) 36 [some (.ref (G.1 0)), some (.int least), some (.int (nI s)), some (.int v)] [] (sI_ M 0 5 (nI q)) := by
    intro u
    induction u with
    | zero =>
      intro q v hg hu hq2 hr
      have er : dv_ (bf_ M n) (n - s) s 0 = (q, v) := hr
      have e47 : ig_ (bf_ M n q) = 0 := ig_bf (by omega)
      refine w_aload_n X dX12_smallNumber_36 rfl rfl ?_
      refine w_aload_n X dX12_smallNumber_37 rfl rfl ?_
      refine g12_at X dX12_smallNumber_38 ?_
      try simp only [gI_sI, gI_sL, gL_sI, gL_sL, false_and, and_false, and_self, if_false, if_true, reduceIte, Nat.reduceEqDiff]
      refine w_v1fI X dX12_smallNumber_41 k12_byteAt rfl rfl (c12_byteAt G hG _ _ (nI q) (fun z => tz_in (tz_sI ht (by omega)) (by omega) z)) (Nat.le_of_ble_eq_true rfl) ?_
      rw [ba_bf (tz_sI ht (by omega)) (by omega), bf_sI (by omega)]
      refine w_s1fI X dX12_smallNumber_44 k12_isFigure (c12_isFigure G hG _ _ _) (Nat.le_of_ble_eq_true rfl) ?_
      refine w_if_eq (tgt := 95) X dX12_smallNumber_47 (by decide) (fun h47 => ?_) (fun h47 => absurd (e47) h47)
      refine w_iload_n X dX12_smallNumber_95 rfl rfl ?_
      refine w_iload_n X dX12_smallNumber_96 rfl rfl ?_
      refine w_icmp_lt (tgt := 106) X dX12_smallNumber_97 (by decide) (fun h97 => ?_) (fun h97 => ?_)
      · refine w_aload_n X dX12_smallNumber_106 rfl rfl ?_
        refine w_iconst (v := 2) X dX12_smallNumber_107 (by decide) ?_
        refine w_iload_n X dX12_smallNumber_108 rfl rfl ?_
        refine w_v2fV X dX12_smallNumber_109 k12_fail rfl rfl (c12_fail G hG _ _ _ _) (Nat.le_of_ble_eq_true rfl) ?_
        refine w_aload_n X dX12_smallNumber_112 rfl rfl ?_
        refine w_v0fV X dX12_smallNumber_113 k12_wantBlank rfl rfl (c12_wantBlank G hG _ _ n q (tz_fa (tz_sI ht (by omega))) (by rw [fa_at (by omega)]; simp [sI_]) (by omega)) (Nat.le_of_ble_eq_true rfl) ?_
        refine w_iload_n X dX12_smallNumber_116 rfl rfl ?_
        refine w_irF X dX12_smallNumber_117 ?_ ?_
        · rw [if_neg hg, er]
        · rw [if_neg hg, er]
          simp only [sn_]
          try rw [bf_fa]
          rw [bf_sI (by omega)]
          simp [e47, h97]
      · refine w_iload_n X dX12_smallNumber_100 rfl rfl ?_
        refine w_bipush (v := 99) X dX12_smallNumber_101 (by decide) ?_
        refine w_icmp_le (tgt := 112) X dX12_smallNumber_103 (by decide) (fun h103 => ?_) (fun h103 => ?_)
        · refine w_aload_n X dX12_smallNumber_112 rfl rfl ?_
          refine w_v0fV X dX12_smallNumber_113 k12_wantBlank rfl rfl (c12_wantBlank G hG _ _ n q (tz_sI ht (by omega)) (by simp [sI_]) (by omega)) (Nat.le_of_ble_eq_true rfl) ?_
          refine w_iload_n X dX12_smallNumber_116 rfl rfl ?_
          refine w_irF X dX12_smallNumber_117 ?_ ?_
          · rw [if_neg hg, er]
          · rw [if_neg hg, er]
            simp only [sn_]
            try rw [bf_fa]
            rw [bf_sI (by omega)]
            simp [e47, h97, h103]
        · refine w_aload_n X dX12_smallNumber_106 rfl rfl ?_
          refine w_iconst (v := 2) X dX12_smallNumber_107 (by decide) ?_
          refine w_iload_n X dX12_smallNumber_108 rfl rfl ?_
          refine w_v2fV X dX12_smallNumber_109 k12_fail rfl rfl (c12_fail G hG _ _ _ _) (Nat.le_of_ble_eq_true rfl) ?_
          refine w_aload_n X dX12_smallNumber_112 rfl rfl ?_
          refine w_v0fV X dX12_smallNumber_113 k12_wantBlank rfl rfl (c12_wantBlank G hG _ _ n q (tz_fa (tz_sI ht (by omega))) (by rw [fa_at (by omega)]; simp [sI_]) (by omega)) (Nat.le_of_ble_eq_true rfl) ?_
          refine w_iload_n X dX12_smallNumber_116 rfl rfl ?_
          refine w_irF X dX12_smallNumber_117 ?_ ?_
          · rw [if_neg hg, er]
          · rw [if_neg hg, er]
            simp only [sn_]
            try rw [bf_fa]
            rw [bf_sI (by omega)]
            simp [e47, h97, h103]
    | succ u ih =>
      intro q v hg hu hq2 hr
      refine w_aload_n X dX12_smallNumber_36 rfl rfl ?_
      refine w_aload_n X dX12_smallNumber_37 rfl rfl ?_
      refine g12_at X dX12_smallNumber_38 ?_
      try simp only [gI_sI, gI_sL, gL_sI, gL_sL, false_and, and_false, and_self, if_false, if_true, reduceIte, Nat.reduceEqDiff]
      refine w_v1fI X dX12_smallNumber_41 k12_byteAt rfl rfl (c12_byteAt G hG _ _ (nI q) (fun z => tz_in (tz_sI ht (by omega)) (by omega) z)) (Nat.le_of_ble_eq_true rfl) ?_
      rw [ba_bf (tz_sI ht (by omega)) (by omega), bf_sI (by omega)]
      refine w_s1fI X dX12_smallNumber_44 k12_isFigure (c12_isFigure G hG _ _ _) (Nat.le_of_ble_eq_true rfl) ?_
      refine w_if_eq (tgt := 95) X dX12_smallNumber_47 (by decide) (fun h47 => ?_) (fun h47 => ?_)
      · have er : dv_ (bf_ M n) (n - s) s 0 = (q, v) := by rw [hr]; simp only [dv_]; rw [if_neg (by rw [h47]; decide)]
        refine w_iload_n X dX12_smallNumber_95 rfl rfl ?_
        refine w_iload_n X dX12_smallNumber_96 rfl rfl ?_
        refine w_icmp_lt (tgt := 106) X dX12_smallNumber_97 (by decide) (fun h97 => ?_) (fun h97 => ?_)
        · refine w_aload_n X dX12_smallNumber_106 rfl rfl ?_
          refine w_iconst (v := 2) X dX12_smallNumber_107 (by decide) ?_
          refine w_iload_n X dX12_smallNumber_108 rfl rfl ?_
          refine w_v2fV X dX12_smallNumber_109 k12_fail rfl rfl (c12_fail G hG _ _ _ _) (Nat.le_of_ble_eq_true rfl) ?_
          refine w_aload_n X dX12_smallNumber_112 rfl rfl ?_
          refine w_v0fV X dX12_smallNumber_113 k12_wantBlank rfl rfl (c12_wantBlank G hG _ _ n q (tz_fa (tz_sI ht (by omega))) (by rw [fa_at (by omega)]; simp [sI_]) (by omega)) (Nat.le_of_ble_eq_true rfl) ?_
          refine w_iload_n X dX12_smallNumber_116 rfl rfl ?_
          refine w_irF X dX12_smallNumber_117 ?_ ?_
          · rw [if_neg hg, er]
          · rw [if_neg hg, er]
            simp only [sn_]
            try rw [bf_fa]
            rw [bf_sI (by omega)]
            simp [h47, h97]
        · refine w_iload_n X dX12_smallNumber_100 rfl rfl ?_
          refine w_bipush (v := 99) X dX12_smallNumber_101 (by decide) ?_
          refine w_icmp_le (tgt := 112) X dX12_smallNumber_103 (by decide) (fun h103 => ?_) (fun h103 => ?_)
          · refine w_aload_n X dX12_smallNumber_112 rfl rfl ?_
            refine w_v0fV X dX12_smallNumber_113 k12_wantBlank rfl rfl (c12_wantBlank G hG _ _ n q (tz_sI ht (by omega)) (by simp [sI_]) (by omega)) (Nat.le_of_ble_eq_true rfl) ?_
            refine w_iload_n X dX12_smallNumber_116 rfl rfl ?_
            refine w_irF X dX12_smallNumber_117 ?_ ?_
            · rw [if_neg hg, er]
            · rw [if_neg hg, er]
              simp only [sn_]
              try rw [bf_fa]
              rw [bf_sI (by omega)]
              simp [h47, h97, h103]
          · refine w_aload_n X dX12_smallNumber_106 rfl rfl ?_
            refine w_iconst (v := 2) X dX12_smallNumber_107 (by decide) ?_
            refine w_iload_n X dX12_smallNumber_108 rfl rfl ?_
            refine w_v2fV X dX12_smallNumber_109 k12_fail rfl rfl (c12_fail G hG _ _ _ _) (Nat.le_of_ble_eq_true rfl) ?_
            refine w_aload_n X dX12_smallNumber_112 rfl rfl ?_
            refine w_v0fV X dX12_smallNumber_113 k12_wantBlank rfl rfl (c12_wantBlank G hG _ _ n q (tz_fa (tz_sI ht (by omega))) (by rw [fa_at (by omega)]; simp [sI_]) (by omega)) (Nat.le_of_ble_eq_true rfl) ?_
            refine w_iload_n X dX12_smallNumber_116 rfl rfl ?_
            refine w_irF X dX12_smallNumber_117 ?_ ?_
            · rw [if_neg hg, er]
            · rw [if_neg hg, er]
              simp only [sn_]
              try rw [bf_fa]
              rw [bf_sI (by omega)]
              simp [h47, h97, h103]
      · have e47 : ig_ (bf_ M n q) = 1 := (ig_01 _).resolve_left h47
        refine w_iload_n X dX12_smallNumber_50 rfl rfl ?_
        refine w_bipush (v := 10) X dX12_smallNumber_51 (by decide) ?_
        refine w_imul X dX12_smallNumber_53 ?_
        refine w_aload_n X dX12_smallNumber_54 rfl rfl ?_
        refine w_aload_n X dX12_smallNumber_55 rfl rfl ?_
        refine g12_at X dX12_smallNumber_56 ?_
        try simp only [gI_sI, gI_sL, gL_sI, gL_sL, false_and, and_false, and_self, if_false, if_true, reduceIte, Nat.reduceEqDiff]
        refine w_v1fI X dX12_smallNumber_59 k12_byteAt rfl rfl (c12_byteAt G hG _ _ (nI q) (fun z => tz_in (tz_sI ht (by omega)) (by omega) z)) (Nat.le_of_ble_eq_true rfl) ?_
        rw [ba_bf (tz_sI ht (by omega)) (by omega), bf_sI (by omega)]
        refine w_iadd X dX12_smallNumber_62 ?_
        refine w_bipush (v := 48) X dX12_smallNumber_63 (by decide) ?_
        refine w_isub X dX12_smallNumber_65 ?_
        refine w_istore_n X dX12_smallNumber_66 rfl (by decide) ?_
        refine w_iload_n X dX12_smallNumber_67 rfl rfl ?_
        refine w_sipush (v := 999) X dX12_smallNumber_68 (by decide) ?_
        refine w_icmp_le (tgt := 80) X dX12_smallNumber_71 (by decide) (fun h71 => ?_) (fun h71 => ?_)
        · refine w_iload_n X dX12_smallNumber_80 rfl rfl ?_
          refine w_istore_n X dX12_smallNumber_81 rfl (by decide) ?_
          refine w_aload_n X dX12_smallNumber_82 rfl rfl ?_
          refine w_dup X dX12_smallNumber_83 rfl ?_
          refine g12_at X dX12_smallNumber_84 ?_
          try simp only [gI_sI, gI_sL, gL_sI, gL_sL, false_and, and_false, and_self, if_false, if_true, reduceIte, Nat.reduceEqDiff]
          refine w_iconst (v := 1) X dX12_smallNumber_87 (by decide) ?_
          refine w_iadd X dX12_smallNumber_88 ?_
          refine p12_at X dX12_smallNumber_89 ?_
          refine w_goto (tgt := 36) X dX12_smallNumber_92 (by decide) ?_
          rw [sI_sI, nI_1]
          refine ih (q + 1) _ hg (by omega) (by omega) ?_
          rw [hr]
          simp only [dv_]
          rw [if_pos e47]
          simp [dw_, h71]
        · refine w_sipush (v := 999) X dX12_smallNumber_74 (by decide) ?_
          refine w_goto (tgt := 81) X dX12_smallNumber_77 (by decide) ?_
          refine w_istore_n X dX12_smallNumber_81 rfl (by decide) ?_
          refine w_aload_n X dX12_smallNumber_82 rfl rfl ?_
          refine w_dup X dX12_smallNumber_83 rfl ?_
          refine g12_at X dX12_smallNumber_84 ?_
          try simp only [gI_sI, gI_sL, gL_sI, gL_sL, false_and, and_false, and_self, if_false, if_true, reduceIte, Nat.reduceEqDiff]
          refine w_iconst (v := 1) X dX12_smallNumber_87 (by decide) ?_
          refine w_iadd X dX12_smallNumber_88 ?_
          refine p12_at X dX12_smallNumber_89 ?_
          refine w_goto (tgt := 36) X dX12_smallNumber_92 (by decide) ?_
          rw [sI_sI, nI_1]
          refine ih (q + 1) _ hg (by omega) (by omega) ?_
          rw [hr]
          simp only [dv_]
          rw [if_pos e47]
          simp [dw_, h71]
  refine w_aload_n X dX12_smallNumber_0 rfl rfl ?_
  refine w_v0fV X dX12_smallNumber_1 k12_skip rfl rfl (c12_skip G hG _ _ n k ht ha (by omega)) (Nat.le_of_ble_eq_true rfl) ?_
  rw [← hs]
  refine w_aload_n X dX12_smallNumber_4 rfl rfl ?_
  refine g12_at X dX12_smallNumber_5 ?_
  try simp only [gI_sI, gI_sL, gL_sI, gL_sL, false_and, and_false, and_self, if_false, if_true, reduceIte, Nat.reduceEqDiff]
  refine w_istore_n X dX12_smallNumber_8 rfl (by decide) ?_
  refine w_aload_n X dX12_smallNumber_9 rfl rfl ?_
  refine w_aload_n X dX12_smallNumber_10 rfl rfl ?_
  refine g12_at X dX12_smallNumber_11 ?_
  try simp only [gI_sI, gI_sL, gL_sI, gL_sL, false_and, and_false, and_self, if_false, if_true, reduceIte, Nat.reduceEqDiff]
  refine w_v1fI X dX12_smallNumber_14 k12_byteAt rfl rfl (c12_byteAt G hG _ _ (nI s) (fun z => tz_in (tz_sI ht (by omega)) (by omega) z)) (Nat.le_of_ble_eq_true rfl) ?_
  rw [ba_bf (tz_sI ht (by omega)) (by omega), bf_sI (by omega)]
  refine w_s1fI X dX12_smallNumber_17 k12_isFigure (c12_isFigure G hG _ _ _) (Nat.le_of_ble_eq_true rfl) ?_
  refine w_if_ne (tgt := 34) X dX12_smallNumber_20 (by decide) (fun h20 => ?_) (fun h20 => ?_)
  · refine w_iconst (v := 0) X dX12_smallNumber_34 (by decide) ?_
    refine w_istore_n X dX12_smallNumber_35 rfl (by decide) ?_
    exact lp (n - s) s 0 h20 rfl hq rfl
  · refine w_aload_n X dX12_smallNumber_23 rfl rfl ?_
    refine w_iconst (v := 1) X dX12_smallNumber_24 (by decide) ?_
    refine w_aload_n X dX12_smallNumber_25 rfl rfl ?_
    refine g12_at X dX12_smallNumber_26 ?_
    try simp only [gI_sI, gI_sL, gL_sI, gL_sL, false_and, and_false, and_self, if_false, if_true, reduceIte, Nat.reduceEqDiff]
    refine w_v2fV X dX12_smallNumber_29 k12_fail rfl rfl (c12_fail G hG _ _ _ _) (Nat.le_of_ble_eq_true rfl) ?_
    refine w_iconst (v := 0) X dX12_smallNumber_32 (by decide) ?_
    exact w_irF X dX12_smallNumber_33 (if_pos h20).symm (if_pos h20).symm
set_option maxRecDepth 100000 in
set_option maxHeartbeats 4000000 in
theorem c12_newJob (G : gg_) (hG : gd_ G) (d : Nat) (M : mm_) (b z : Nat) (hb : b < 8) (hz : M.1 0 33 = nI z) (hz2 : z ≤ 12) (kd : Int32) : cm_ G yX12_newJob cX12_newJob 4 (some .int) d [.ref (G.1 0), .int kd, .int (nI b)] M (fI_ (nI b) (nj_ M b z kd)) := by
  refine cm_of hG (by decide) (Nat.le_of_ble_eq_true rfl) (fun C X => ?_)
  have e33 : ∀ j, (pj_ (sI_ (sI_ (sI_ (sI_ (sI_ M 12 b kd) 15 b 0) 14 b 0) 16 b (vp_nar .boolean 0)) 18 b (nI z)) b j).1 0 33 = nI z := fun j => by rw [pj_I j 0 33 (by omega)]; simp [sI_, hz]
  have e19 : ∀ j i, (pj_ (sI_ (sI_ (sI_ (sI_ (sI_ M 12 b kd) 15 b 0) 14 b 0) 16 b (vp_nar .boolean 0)) 18 b (nI z)) b j).1 19 i = M.1 19 i := fun j i => by rw [pj_I j 19 i (by omega)]; simp [sI_]
  have e48 : ∀ j, (48 : Int32) * nI b + nI j = nI (48 * b + j) := fun j => nI_m 48 b j
  have l2 : ∀ (u j : Nat), j + u = 48 → wq_ C G (qe_ C G (fI_ (nI b) (nj_ M b z kd))) 73 [some (.ref (G.1 0)), some (.int kd), some (.int (nI b)), some (.int (nI j))] [] (zj_ (pj_ (sI_ (sI_ (sI_ (sI_ (sI_ M 12 b kd) 15 b 0) 14 b 0) 16 b (vp_nar .boolean 0)) 18 b (nI z)) b z) b j) := by
    intro u
    induction u with
    | zero =>
      intro j hu
      obtain rfl : j = 48 := by omega
      refine w_iload_n X dX12_newJob_73 rfl rfl ?_
      refine w_bipush (v := 48) X dX12_newJob_74 (by decide) ?_
      refine w_icmp_ge (tgt := 97) X dX12_newJob_76 (by decide) (fun h76 => ?_) (fun h76 => absurd (by decide) h76)
      refine w_iload_n X dX12_newJob_97 rfl rfl ?_
      exact w_irF X dX12_newJob_98 rfl rfl
    | succ u ih =>
      intro j hu
      refine w_iload_n X dX12_newJob_73 rfl rfl ?_
      refine w_bipush (v := 48) X dX12_newJob_74 (by decide) ?_
      refine w_icmp_ge (tgt := 97) X dX12_newJob_76 (by decide) (fun h76 => absurd h76 (nI_ge (b := 48) (by omega) (by omega))) (fun h76 => ?_)
      refine w_aload_n X dX12_newJob_79 rfl rfl ?_
      refine g12_counts X dX12_newJob_80 ?_
      refine w_bipush (v := 48) X dX12_newJob_83 (by decide) ?_
      refine w_iload_n X dX12_newJob_85 rfl rfl ?_
      refine w_imul X dX12_newJob_86 ?_
      refine w_iload_n X dX12_newJob_87 rfl rfl ?_
      refine w_iadd X dX12_newJob_88 ?_
      rw [e48]
      refine w_iconst (v := 0) X dX12_newJob_89 (by decide) ?_
      refine w_iastoreN X dX12_newJob_90 rfl rfl (by omega) ?_
      refine w_iinc (v := 1) X dX12_newJob_91 rfl (by decide) (by decide) ?_
      refine w_goto (tgt := 73) X dX12_newJob_94 (by decide) ?_
      rw [nI_1]
      exact ih (j + 1) (by omega)
  have l1 : ∀ (u j : Nat), j + u = z → wq_ C G (qe_ C G (fI_ (nI b) (nj_ M b z kd))) 40 [some (.ref (G.1 0)), some (.int kd), some (.int (nI b)), some (.int (nI j))] [] (pj_ (sI_ (sI_ (sI_ (sI_ (sI_ M 12 b kd) 15 b 0) 14 b 0) 16 b (vp_nar .boolean 0)) 18 b (nI z)) b j) := by
    intro u
    induction u with
    | zero =>
      intro j hu
      obtain rfl : j = z := by omega
      refine w_iload_n X dX12_newJob_40 rfl rfl ?_
      refine w_aload_n X dX12_newJob_41 rfl rfl ?_
      refine g12_newPatternSize X dX12_newJob_42 ?_
      try simp only [gI_sI, gI_sL, gL_sI, gL_sL, false_and, and_false, and_self, if_false, if_true, reduceIte, Nat.reduceEqDiff, e33]
      refine w_icmp_ge (tgt := 71) X dX12_newJob_45 (by decide) (fun h45 => ?_) (fun h45 => absurd (Int32.le_refl _) h45)
      refine w_iconst (v := 0) X dX12_newJob_71 (by decide) ?_
      refine w_istore_n X dX12_newJob_72 rfl (by decide) ?_
      exact l2 48 0 (by omega)
    | succ u ih =>
      intro j hu
      refine w_iload_n X dX12_newJob_40 rfl rfl ?_
      refine w_aload_n X dX12_newJob_41 rfl rfl ?_
      refine g12_newPatternSize X dX12_newJob_42 ?_
      try simp only [gI_sI, gI_sL, gL_sI, gL_sL, false_and, and_false, and_self, if_false, if_true, reduceIte, Nat.reduceEqDiff, e33, e19]
      refine w_icmp_ge (tgt := 71) X dX12_newJob_45 (by decide) (fun h45 => absurd h45 (nI_ge (by omega) (by omega))) (fun h45 => ?_)
      refine w_aload_n X dX12_newJob_48 rfl rfl ?_
      refine g12_patterns X dX12_newJob_49 ?_
      refine w_bipush (v := 12) X dX12_newJob_52 (by decide) ?_
      refine w_iload_n X dX12_newJob_54 rfl rfl ?_
      refine w_imul X dX12_newJob_55 ?_
      refine w_iload_n X dX12_newJob_56 rfl rfl ?_
      refine w_iadd X dX12_newJob_57 ?_
      rw [nI_12]
      refine w_aload_n X dX12_newJob_58 rfl rfl ?_
      refine g12_newPattern X dX12_newJob_59 ?_
      refine w_iload_n X dX12_newJob_62 rfl rfl ?_
      refine w_ialoadN X dX12_newJob_63 rfl rfl (by omega) ?_
      try simp only [gI_sI, gI_sL, gL_sI, gL_sL, false_and, and_false, and_self, if_false, if_true, reduceIte, Nat.reduceEqDiff, e33, e19]
      refine w_iastoreN X dX12_newJob_64 rfl rfl (by omega) ?_
      refine w_iinc (v := 1) X dX12_newJob_65 rfl (by decide) (by decide) ?_
      refine w_goto (tgt := 40) X dX12_newJob_68 (by decide) ?_
      rw [nI_1]
      have e := ih (j + 1) (by omega)
      simp only [pj_] at e
      rw [show (sI_ (sI_ (sI_ (sI_ (sI_ M 12 b kd) 15 b 0) 14 b 0) 16 b (vp_nar .boolean 0)) 18 b (nI z)).1 19 j = M.1 19 j by simp [sI_]] at e
      exact e
  refine w_aload_n X dX12_newJob_0 rfl rfl ?_
  refine g12_kinds X dX12_newJob_1 ?_
  refine w_iload_n X dX12_newJob_4 rfl rfl ?_
  refine w_iload_n X dX12_newJob_5 rfl rfl ?_
  refine w_iastoreN X dX12_newJob_6 rfl rfl (by omega) ?_
  refine w_aload_n X dX12_newJob_7 rfl rfl ?_
  refine g12_mades X dX12_newJob_8 ?_
  refine w_iload_n X dX12_newJob_11 rfl rfl ?_
  refine w_iconst (v := 0) X dX12_newJob_12 (by decide) ?_
  refine w_iastoreN X dX12_newJob_13 rfl rfl (by omega) ?_
  refine w_aload_n X dX12_newJob_14 rfl rfl ?_
  refine g12_limits X dX12_newJob_15 ?_
  refine w_iload_n X dX12_newJob_18 rfl rfl ?_
  refine w_iconst (v := 0) X dX12_newJob_19 (by decide) ?_
  refine w_iastoreN X dX12_newJob_20 rfl rfl (by omega) ?_
  refine w_aload_n X dX12_newJob_21 rfl rfl ?_
  refine g12_conditioned X dX12_newJob_22 ?_
  refine w_iload_n X dX12_newJob_25 rfl rfl ?_
  refine w_iconst (v := 0) X dX12_newJob_26 (by decide) ?_
  refine w_bastoreN X dX12_newJob_27 rfl rfl (by omega) ?_
  refine w_aload_n X dX12_newJob_28 rfl rfl ?_
  refine g12_patternSizes X dX12_newJob_29 ?_
  refine w_iload_n X dX12_newJob_32 rfl rfl ?_
  refine w_aload_n X dX12_newJob_33 rfl rfl ?_
  refine g12_newPatternSize X dX12_newJob_34 ?_
  try simp only [gI_sI, gI_sL, gL_sI, gL_sL, false_and, and_false, and_self, if_false, if_true, reduceIte, Nat.reduceEqDiff, hz]
  refine w_iastoreN X dX12_newJob_37 rfl rfl (by omega) ?_
  refine w_iconst (v := 0) X dX12_newJob_38 (by decide) ?_
  refine w_istore_n X dX12_newJob_39 rfl (by decide) ?_
  exact l1 z 0 (by omega)
end
section
def vv_ (c : Int32) : Int32 := if c = 114 then 3 else if c = 120 then 4 else if c = 110 then 5 else if c = 107 then 6 else c - 97
def ow_ (c : Int32) : Int32 := if 97 ≤ c ∧ c ≤ 99 then 1 else 0
theorem ow_01 (c : Int32) : ow_ c = 0 ∨ ow_ c = 1 := by unfold ow_; split <;> simp
def vo_ (M : mm_) (c : Int32) : Int32 := if (¬ ow_ c = 0 ∧ vv_ c < M.1 0 15) ∨ (¬ M.1 0 14 = 0 ∧ (¬ ow_ c = 0 ∨ (¬ vv_ c < 3 ∧ ¬ 6 < vv_ c ∧ ¬ c = 100 ∧ ¬ c = 101 ∧ ¬ c = 102 ∧ ¬ c = 103))) then vv_ c else -1
theorem nI_k (n : Nat) (k : Nat) (x : Int32) (h : x = nI k) : nI n + x = nI (n + k) := by rw [h, nI_add]
/-- a record more, if there is room -/
def rc_ (M : mm_) (c : Nat) (j m e : Int32) : mm_ := if c < 300 then sI_ (sI_ (sI_ (sI_ (sI_ (sI_ M 21 (5 * c) j) 21 (5 * c + 1) m) 21 (5 * c + 2) (M.1 0 58)) 21 (5 * c + 3) (if M.1 0 59 = 0 then 0 else 1)) 21 (5 * c + 4) e) 0 35 (nI (c + 1)) else M
def rd_ (M : mm_) (c b : Nat) (m e : Int32) : mm_ := if M.1 15 b + 1 = M.1 14 b then sI_ (sI_ (rc_ M c (nI b) m e) 15 b (M.1 15 b + 1)) 12 b 0 else sI_ (rc_ M c (nI b) m e) 15 b (M.1 15 b + 1)
def kp_ (M : mm_) (c e : Nat) : Nat → mm_
  | 0 => M
  | j + 1 => sI_ (kp_ M c e j) 22 (7 * c + 2 + j) (M.1 24 (3 * e + j))
theorem kp_I {M : mm_} {c e : Nat} : ∀ (j : Nat) (a i : Nat), a ≠ 22 → (kp_ M c e j).1 a i = M.1 a i
  | 0, a, i, h => rfl
  | j + 1, a, i, h => by rw [kp_, sI_ne _ _ _ _ (fun q => h q.1), kp_I j a i h]
def ko_ (M : mm_) (c e : Nat) (j pt v : Int32) : mm_ := if c = 40 then M else sI_ (sI_ (sI_ (kp_ (sI_ (sI_ M 22 (7 * c) j) 22 (7 * c + 1) (M.1 23 e)) c e 3) 22 (7 * c + 5) (pt - 1)) 22 (7 * c + 6) v) 0 37 (nI (c + 1))
set_option maxRecDepth 100000 in
set_option maxHeartbeats 4000000 in
theorem c12_variableOf (G : gg_) (hG : gd_ G) (d : Nat) (M : mm_) (c : Int32) : cm_ G yX12_variableOf cX12_variableOf 4 (some .int) d [.ref (G.1 0), .int c] M (fI_ (vo_ M c) M) := by
  refine cm_of hG (by decide) (Nat.le_of_ble_eq_true rfl) (fun C X => ?_)
  have j64 : ∀ w v : Int32, w = ow_ c → v = vv_ c → wq_ C G (qe_ C G (fI_ (vo_ M c) M)) 64 [some (.ref (G.1 0)), some (.int c), some (.int v), some (.int w)] [] M := by
    intro w v hw hv
    refine w_iload_n X dX12_variableOf_64 rfl rfl ?_
    refine w_if_eq (tgt := 76) X dX12_variableOf_65 (by decide) (fun h65 => ?_) (fun h65 => ?_)
    · refine w_aload_n X dX12_variableOf_76 rfl rfl ?_
      refine g12_inCommand X dX12_variableOf_77 ?_
      refine w_if_eq (tgt := 126) X dX12_variableOf_80 (by decide) (fun h80 => ?_) (fun h80 => ?_)
      · refine w_iconst (v := -1) X dX12_variableOf_126 (by decide) ?_
        refine w_irF X dX12_variableOf_127 ?_ rfl
        unfold vo_
        rw [← hw, ← hv]
        first | (simp [h65, h80]; done) | (simp_all; done)
      · refine w_iload_n X dX12_variableOf_83 rfl rfl ?_
        refine w_if_ne (tgt := 122) X dX12_variableOf_84 (by decide) (fun h84 => absurd h65 h84) (fun h84 => ?_)
        refine w_iload_n X dX12_variableOf_87 rfl rfl ?_
        refine w_iconst (v := 3) X dX12_variableOf_88 (by decide) ?_
        refine w_icmp_lt (tgt := 126) X dX12_variableOf_89 (by decide) (fun h89 => ?_) (fun h89 => ?_)
        · refine w_iconst (v := -1) X dX12_variableOf_126 (by decide) ?_
          refine w_irF X dX12_variableOf_127 ?_ rfl
          unfold vo_
          rw [← hw, ← hv]
          first | (simp [h65, h80, h84, h89]; done) | (simp_all; done)
        · refine w_iload_n X dX12_variableOf_92 rfl rfl ?_
          refine w_bipush (v := 6) X dX12_variableOf_93 (by decide) ?_
          refine w_icmp_gt (tgt := 126) X dX12_variableOf_95 (by decide) (fun h95 => ?_) (fun h95 => ?_)
          · refine w_iconst (v := -1) X dX12_variableOf_126 (by decide) ?_
            refine w_irF X dX12_variableOf_127 ?_ rfl
            unfold vo_
            rw [← hw, ← hv]
            first | (simp [h65, h80, h84, h89, h95]; done) | (simp_all; done)
          · refine w_iload_n X dX12_variableOf_98 rfl rfl ?_
            refine w_bipush (v := 100) X dX12_variableOf_99 (by decide) ?_
            refine w_icmp_eq (tgt := 126) X dX12_variableOf_101 (by decide) (fun h101 => ?_) (fun h101 => ?_)
            · refine w_iconst (v := -1) X dX12_variableOf_126 (by decide) ?_
              refine w_irF X dX12_variableOf_127 ?_ rfl
              unfold vo_
              rw [← hw, ← hv]
              first | (simp [h65, h80, h84, h89, h95, h101]; done) | (simp_all; done)
            · refine w_iload_n X dX12_variableOf_104 rfl rfl ?_
              refine w_bipush (v := 101) X dX12_variableOf_105 (by decide) ?_
              refine w_icmp_eq (tgt := 126) X dX12_variableOf_107 (by decide) (fun h107 => ?_) (fun h107 => ?_)
              · refine w_iconst (v := -1) X dX12_variableOf_126 (by decide) ?_
                refine w_irF X dX12_variableOf_127 ?_ rfl
                unfold vo_
                rw [← hw, ← hv]
                first | (simp [h65, h80, h84, h89, h95, h101, h107]; done) | (simp_all; done)
              · refine w_iload_n X dX12_variableOf_110 rfl rfl ?_
                refine w_bipush (v := 102) X dX12_variableOf_111 (by decide) ?_
                refine w_icmp_eq (tgt := 126) X dX12_variableOf_113 (by decide) (fun h113 => ?_) (fun h113 => ?_)
                · refine w_iconst (v := -1) X dX12_variableOf_126 (by decide) ?_
                  refine w_irF X dX12_variableOf_127 ?_ rfl
                  unfold vo_
                  rw [← hw, ← hv]
                  first | (simp [h65, h80, h84, h89, h95, h101, h107, h113]; done) | (simp_all; done)
                · refine w_iload_n X dX12_variableOf_116 rfl rfl ?_
                  refine w_bipush (v := 103) X dX12_variableOf_117 (by decide) ?_
                  refine w_icmp_eq (tgt := 126) X dX12_variableOf_119 (by decide) (fun h119 => ?_) (fun h119 => ?_)
                  · refine w_iconst (v := -1) X dX12_variableOf_126 (by decide) ?_
                    refine w_irF X dX12_variableOf_127 ?_ rfl
                    unfold vo_
                    rw [← hw, ← hv]
                    first | (simp [h65, h80, h84, h89, h95, h101, h107, h113, h119]; done) | (simp_all; done)
                  · refine w_iload_n X dX12_variableOf_122 rfl rfl ?_
                    refine w_goto (tgt := 127) X dX12_variableOf_123 (by decide) ?_
                    refine w_irF X dX12_variableOf_127 ?_ rfl
                    unfold vo_
                    rw [← hw, ← hv]
                    first | (simp [h65, h80, h84, h89, h95, h101, h107, h113, h119]; done) | (simp_all; done)
    · refine w_iload_n X dX12_variableOf_68 rfl rfl ?_
      refine w_aload_n X dX12_variableOf_69 rfl rfl ?_
      refine g12_variables X dX12_variableOf_70 ?_
      refine w_icmp_lt (tgt := 122) X dX12_variableOf_73 (by decide) (fun h73 => ?_) (fun h73 => ?_)
      · refine w_iload_n X dX12_variableOf_122 rfl rfl ?_
        refine w_goto (tgt := 127) X dX12_variableOf_123 (by decide) ?_
        refine w_irF X dX12_variableOf_127 ?_ rfl
        unfold vo_
        rw [← hw, ← hv]
        first | (simp [h65, h73]; done) | (simp_all; done)
      · refine w_aload_n X dX12_variableOf_76 rfl rfl ?_
        refine g12_inCommand X dX12_variableOf_77 ?_
        refine w_if_eq (tgt := 126) X dX12_variableOf_80 (by decide) (fun h80 => ?_) (fun h80 => ?_)
        · refine w_iconst (v := -1) X dX12_variableOf_126 (by decide) ?_
          refine w_irF X dX12_variableOf_127 ?_ rfl
          unfold vo_
          rw [← hw, ← hv]
          first | (simp [h65, h73, h80]; done) | (simp_all; done)
        · refine w_iload_n X dX12_variableOf_83 rfl rfl ?_
          refine w_if_ne (tgt := 122) X dX12_variableOf_84 (by decide) (fun h84 => ?_) (fun h84 => absurd h84 h65)
          refine w_iload_n X dX12_variableOf_122 rfl rfl ?_
          refine w_goto (tgt := 127) X dX12_variableOf_123 (by decide) ?_
          refine w_irF X dX12_variableOf_127 ?_ rfl
          unfold vo_
          rw [← hw, ← hv]
          first | (simp [h65, h73, h80, h84]; done) | (simp_all; done)
  have j46 : ∀ v : Int32, v = vv_ c → wq_ C G (qe_ C G (fI_ (vo_ M c) M)) 46 [some (.ref (G.1 0)), some (.int c), some (.int v), none] [] M := by
    intro v hv
    refine w_iload_n X dX12_variableOf_46 rfl rfl ?_
    refine w_bipush (v := 97) X dX12_variableOf_47 (by decide) ?_
    refine w_icmp_lt (tgt := 62) X dX12_variableOf_49 (by decide) (fun h49 => ?_) (fun h49 => ?_)
    · refine w_iconst (v := 0) X dX12_variableOf_62 (by decide) ?_
      refine w_istore_n X dX12_variableOf_63 rfl (by decide) ?_
      refine j64 _ _ ?_ hv
      unfold ow_
      exact (if_neg (fun z => Int32.not_le.mpr h49 z.1)).symm
    · refine w_iload_n X dX12_variableOf_52 rfl rfl ?_
      refine w_bipush (v := 99) X dX12_variableOf_53 (by decide) ?_
      refine w_icmp_gt (tgt := 62) X dX12_variableOf_55 (by decide) (fun h55 => ?_) (fun h55 => ?_)
      · refine w_iconst (v := 0) X dX12_variableOf_62 (by decide) ?_
        refine w_istore_n X dX12_variableOf_63 rfl (by decide) ?_
        refine j64 _ _ ?_ hv
        unfold ow_
        exact (if_neg (fun z => Int32.not_le.mpr h55 z.2)).symm
      · refine w_iconst (v := 1) X dX12_variableOf_58 (by decide) ?_
        refine w_goto (tgt := 63) X dX12_variableOf_59 (by decide) ?_
        refine w_istore_n X dX12_variableOf_63 rfl (by decide) ?_
        refine j64 _ _ ?_ hv
        unfold ow_
        exact (if_pos ⟨Int32.not_lt.mp h49, Int32.not_lt.mp h55⟩).symm
  refine w_iload_n X dX12_variableOf_0 rfl rfl ?_
  refine w_bipush (v := 114) X dX12_variableOf_1 (by decide) ?_
  refine w_icmp_ne (tgt := 10) X dX12_variableOf_3 (by decide) (fun h3 => ?_) (fun h3 => ?_)
  · refine w_iload_n X dX12_variableOf_10 rfl rfl ?_
    refine w_bipush (v := 120) X dX12_variableOf_11 (by decide) ?_
    refine w_icmp_ne (tgt := 20) X dX12_variableOf_13 (by decide) (fun h13 => ?_) (fun h13 => ?_)
    · refine w_iload_n X dX12_variableOf_20 rfl rfl ?_
      refine w_bipush (v := 110) X dX12_variableOf_21 (by decide) ?_
      refine w_icmp_ne (tgt := 30) X dX12_variableOf_23 (by decide) (fun h23 => ?_) (fun h23 => ?_)
      · refine w_iload_n X dX12_variableOf_30 rfl rfl ?_
        refine w_bipush (v := 107) X dX12_variableOf_31 (by decide) ?_
        refine w_icmp_ne (tgt := 41) X dX12_variableOf_33 (by decide) (fun h33 => ?_) (fun h33 => ?_)
        · refine w_iload_n X dX12_variableOf_41 rfl rfl ?_
          refine w_bipush (v := 97) X dX12_variableOf_42 (by decide) ?_
          refine w_isub X dX12_variableOf_44 ?_
          refine w_istore_n X dX12_variableOf_45 rfl (by decide) ?_
          refine j46 _ ?_
          unfold vv_
          simp [h3, h13, h23, h33]
        · refine w_bipush (v := 6) X dX12_variableOf_36 (by decide) ?_
          refine w_goto (tgt := 45) X dX12_variableOf_38 (by decide) ?_
          refine w_istore_n X dX12_variableOf_45 rfl (by decide) ?_
          refine j46 _ ?_
          unfold vv_
          simp [h3, h13, h23, h33]
      · refine w_iconst (v := 5) X dX12_variableOf_26 (by decide) ?_
        refine w_goto (tgt := 45) X dX12_variableOf_27 (by decide) ?_
        refine w_istore_n X dX12_variableOf_45 rfl (by decide) ?_
        refine j46 _ ?_
        unfold vv_
        simp [h3, h13, h23]
    · refine w_iconst (v := 4) X dX12_variableOf_16 (by decide) ?_
      refine w_goto (tgt := 45) X dX12_variableOf_17 (by decide) ?_
      refine w_istore_n X dX12_variableOf_45 rfl (by decide) ?_
      refine j46 _ ?_
      unfold vv_
      simp [h3, h13]
  · refine w_iconst (v := 3) X dX12_variableOf_6 (by decide) ?_
    refine w_goto (tgt := 45) X dX12_variableOf_7 (by decide) ?_
    refine w_istore_n X dX12_variableOf_45 rfl (by decide) ?_
    refine j46 _ ?_
    unfold vv_
    simp [h3]
set_option maxRecDepth 100000 in
set_option maxHeartbeats 4000000 in
theorem c12_record (G : gg_) (hG : gd_ G) (d : Nat) (M : mm_) (c b : Nat) (hc : M.1 0 35 = nI c) (hc2 : c ≤ 300) (hb : b < 8) (m e : Int32) : cm_ G yX12_record cX12_record 5 none (d) [.ref (G.1 0), .int (nI b), .int m, .int e] M (fV_ (rd_ M c b m e)) := by
  refine cm_of hG (by decide) (Nat.le_of_ble_eq_true rfl) (fun C X => ?_)
  refine w_aload_n X dX12_record_0 rfl rfl ?_
  refine g12_recordCount X dX12_record_1 ?_
  try simp only [gI_sI, gI_sL, gL_sI, gL_sL, false_and, and_false, and_self, if_false, if_true, reduceIte, Nat.reduceEqDiff, hc]
  refine w_sipush (v := 300) X dX12_record_4 (by decide) ?_
  refine w_icmp_ge (tgt := 90) X dX12_record_7 (by decide) (fun h7 => ?_) (fun h7 => ?_)
  · have e7 : ¬ c < 300 := fun q => Int32.not_le.mpr (nI_lt (b := 300) q (by omega)) h7
    refine w_aload_n X dX12_record_90 rfl rfl ?_
    refine g12_mades X dX12_record_91 ?_
    refine w_iload_n X dX12_record_94 rfl rfl ?_
    refine w_dup2 X dX12_record_95 rfl rfl ?_
    refine w_ialoadN X dX12_record_96 rfl rfl (by omega) ?_
    try simp only [gI_sI, gI_sL, gL_sI, gL_sL, false_and, and_false, and_self, if_false, if_true, reduceIte, Nat.reduceEqDiff, hc]
    refine w_iconst (v := 1) X dX12_record_97 (by decide) ?_
    refine w_iadd X dX12_record_98 ?_
    refine w_iastoreN X dX12_record_99 rfl rfl (by omega) ?_
    refine w_aload_n X dX12_record_100 rfl rfl ?_
    refine g12_mades X dX12_record_101 ?_
    refine w_iload_n X dX12_record_104 rfl rfl ?_
    refine w_ialoadN X dX12_record_105 rfl rfl (by omega) ?_
    try simp only [gI_sI, gI_sL, gL_sI, gL_sL, false_and, and_false, and_self, if_false, if_true, reduceIte, Nat.reduceEqDiff, hc]
    refine w_aload_n X dX12_record_106 rfl rfl ?_
    refine g12_limits X dX12_record_107 ?_
    refine w_iload_n X dX12_record_110 rfl rfl ?_
    refine w_ialoadN X dX12_record_111 rfl rfl (by omega) ?_
    try simp only [gI_sI, gI_sL, gL_sI, gL_sL, false_and, and_false, and_self, if_false, if_true, reduceIte, Nat.reduceEqDiff, hc]
    refine w_icmp_ne (tgt := 122) X dX12_record_112 (by decide) (fun h112 => ?_) (fun h112 => ?_)
    · refine w_vrF X dX12_record_122 ?_
      unfold rd_ rc_
      simp [e7, h112, nI_1]
    · refine w_aload_n X dX12_record_115 rfl rfl ?_
      refine g12_kinds X dX12_record_116 ?_
      refine w_iload_n X dX12_record_119 rfl rfl ?_
      refine w_iconst (v := 0) X dX12_record_120 (by decide) ?_
      refine w_iastoreN X dX12_record_121 rfl rfl (by omega) ?_
      refine w_vrF X dX12_record_122 ?_
      unfold rd_ rc_
      simp [e7, h112, nI_1]
  · have e7 : c < 300 := (nI_ltI (b := 300) (by omega) (by omega)).mp (Int32.not_le.mp h7)
    refine w_iconst (v := 5) X dX12_record_10 (by decide) ?_
    refine w_aload_n X dX12_record_11 rfl rfl ?_
    refine g12_recordCount X dX12_record_12 ?_
    try simp only [gI_sI, gI_sL, gL_sI, gL_sL, false_and, and_false, and_self, if_false, if_true, reduceIte, Nat.reduceEqDiff, hc]
    refine w_imul X dX12_record_15 ?_
    rw [show (5 : Int32) * nI c = nI (5 * c) from pk_mul 5 c]
    refine w_istore X dX12_record_16 (by decide) ?_
    refine w_aload_n X dX12_record_18 rfl rfl ?_
    refine g12_records X dX12_record_19 ?_
    refine w_iload X dX12_record_22 rfl ?_
    refine w_iload_n X dX12_record_24 rfl rfl ?_
    refine w_iastoreN X dX12_record_25 rfl rfl (by omega) ?_
    refine w_aload_n X dX12_record_26 rfl rfl ?_
    refine g12_records X dX12_record_27 ?_
    refine w_iload X dX12_record_30 rfl ?_
    refine w_iconst (v := 1) X dX12_record_32 (by decide) ?_
    refine w_iadd X dX12_record_33 ?_
    rw [nI_k (5 * c) 1 1 rfl]
    refine w_iload_n X dX12_record_34 rfl rfl ?_
    refine w_iastoreN X dX12_record_35 rfl rfl (by omega) ?_
    refine w_aload_n X dX12_record_36 rfl rfl ?_
    refine g12_records X dX12_record_37 ?_
    refine w_iload X dX12_record_40 rfl ?_
    refine w_iconst (v := 2) X dX12_record_42 (by decide) ?_
    refine w_iadd X dX12_record_43 ?_
    rw [nI_k (5 * c) 2 2 rfl]
    refine w_aload_n X dX12_record_44 rfl rfl ?_
    refine g12_probeValue X dX12_record_45 ?_
    try simp only [gI_sI, gI_sL, gL_sI, gL_sL, false_and, and_false, and_self, if_false, if_true, reduceIte, Nat.reduceEqDiff, hc]
    refine w_iastoreN X dX12_record_48 rfl rfl (by omega) ?_
    refine w_aload_n X dX12_record_49 rfl rfl ?_
    refine g12_records X dX12_record_50 ?_
    refine w_iload X dX12_record_53 rfl ?_
    refine w_iconst (v := 3) X dX12_record_55 (by decide) ?_
    refine w_iadd X dX12_record_56 ?_
    rw [nI_k (5 * c) 3 3 rfl]
    refine w_aload_n X dX12_record_57 rfl rfl ?_
    refine g12_probeThrew X dX12_record_58 ?_
    try simp only [gI_sI, gI_sL, gL_sI, gL_sL, false_and, and_false, and_self, if_false, if_true, reduceIte, Nat.reduceEqDiff, hc]
    refine w_if_eq (tgt := 68) X dX12_record_61 (by decide) (fun h61 => ?_) (fun h61 => ?_)
    · refine w_iconst (v := 0) X dX12_record_68 (by decide) ?_
      refine w_iastoreN X dX12_record_69 rfl rfl (by omega) ?_
      refine w_aload_n X dX12_record_70 rfl rfl ?_
      refine g12_records X dX12_record_71 ?_
      refine w_iload X dX12_record_74 rfl ?_
      refine w_iconst (v := 4) X dX12_record_76 (by decide) ?_
      refine w_iadd X dX12_record_77 ?_
      rw [nI_k (5 * c) 4 4 rfl]
      refine w_iload_n X dX12_record_78 rfl rfl ?_
      refine w_iastoreN X dX12_record_79 rfl rfl (by omega) ?_
      refine w_aload_n X dX12_record_80 rfl rfl ?_
      refine w_dup X dX12_record_81 rfl ?_
      refine g12_recordCount X dX12_record_82 ?_
      try simp only [gI_sI, gI_sL, gL_sI, gL_sL, false_and, and_false, and_self, if_false, if_true, reduceIte, Nat.reduceEqDiff, hc]
      refine w_iconst (v := 1) X dX12_record_85 (by decide) ?_
      refine w_iadd X dX12_record_86 ?_
      refine p12_recordCount X dX12_record_87 ?_
      refine w_aload_n X dX12_record_90 rfl rfl ?_
      refine g12_mades X dX12_record_91 ?_
      refine w_iload_n X dX12_record_94 rfl rfl ?_
      refine w_dup2 X dX12_record_95 rfl rfl ?_
      refine w_ialoadN X dX12_record_96 rfl rfl (by omega) ?_
      try simp only [gI_sI, gI_sL, gL_sI, gL_sL, false_and, and_false, and_self, if_false, if_true, reduceIte, Nat.reduceEqDiff, hc]
      refine w_iconst (v := 1) X dX12_record_97 (by decide) ?_
      refine w_iadd X dX12_record_98 ?_
      refine w_iastoreN X dX12_record_99 rfl rfl (by omega) ?_
      refine w_aload_n X dX12_record_100 rfl rfl ?_
      refine g12_mades X dX12_record_101 ?_
      refine w_iload_n X dX12_record_104 rfl rfl ?_
      refine w_ialoadN X dX12_record_105 rfl rfl (by omega) ?_
      try simp only [gI_sI, gI_sL, gL_sI, gL_sL, false_and, and_false, and_self, if_false, if_true, reduceIte, Nat.reduceEqDiff, hc]
      refine w_aload_n X dX12_record_106 rfl rfl ?_
      refine g12_limits X dX12_record_107 ?_
      refine w_iload_n X dX12_record_110 rfl rfl ?_
      refine w_ialoadN X dX12_record_111 rfl rfl (by omega) ?_
      try simp only [gI_sI, gI_sL, gL_sI, gL_sL, false_and, and_false, and_self, if_false, if_true, reduceIte, Nat.reduceEqDiff, hc]
      refine w_icmp_ne (tgt := 122) X dX12_record_112 (by decide) (fun h112 => ?_) (fun h112 => ?_)
      · refine w_vrF X dX12_record_122 ?_
        unfold rd_ rc_
        simp [e7, h61, h112, nI_1]
      · refine w_aload_n X dX12_record_115 rfl rfl ?_
        refine g12_kinds X dX12_record_116 ?_
        refine w_iload_n X dX12_record_119 rfl rfl ?_
        refine w_iconst (v := 0) X dX12_record_120 (by decide) ?_
        refine w_iastoreN X dX12_record_121 rfl rfl (by omega) ?_
        refine w_vrF X dX12_record_122 ?_
        unfold rd_ rc_
        simp [e7, h61, h112, nI_1]
    · refine w_iconst (v := 1) X dX12_record_64 (by decide) ?_
      refine w_goto (tgt := 69) X dX12_record_65 (by decide) ?_
      refine w_iastoreN X dX12_record_69 rfl rfl (by omega) ?_
      refine w_aload_n X dX12_record_70 rfl rfl ?_
      refine g12_records X dX12_record_71 ?_
      refine w_iload X dX12_record_74 rfl ?_
      refine w_iconst (v := 4) X dX12_record_76 (by decide) ?_
      refine w_iadd X dX12_record_77 ?_
      rw [nI_k (5 * c) 4 4 rfl]
      refine w_iload_n X dX12_record_78 rfl rfl ?_
      refine w_iastoreN X dX12_record_79 rfl rfl (by omega) ?_
      refine w_aload_n X dX12_record_80 rfl rfl ?_
      refine w_dup X dX12_record_81 rfl ?_
      refine g12_recordCount X dX12_record_82 ?_
      try simp only [gI_sI, gI_sL, gL_sI, gL_sL, false_and, and_false, and_self, if_false, if_true, reduceIte, Nat.reduceEqDiff, hc]
      refine w_iconst (v := 1) X dX12_record_85 (by decide) ?_
      refine w_iadd X dX12_record_86 ?_
      refine p12_recordCount X dX12_record_87 ?_
      refine w_aload_n X dX12_record_90 rfl rfl ?_
      refine g12_mades X dX12_record_91 ?_
      refine w_iload_n X dX12_record_94 rfl rfl ?_
      refine w_dup2 X dX12_record_95 rfl rfl ?_
      refine w_ialoadN X dX12_record_96 rfl rfl (by omega) ?_
      try simp only [gI_sI, gI_sL, gL_sI, gL_sL, false_and, and_false, and_self, if_false, if_true, reduceIte, Nat.reduceEqDiff, hc]
      refine w_iconst (v := 1) X dX12_record_97 (by decide) ?_
      refine w_iadd X dX12_record_98 ?_
      refine w_iastoreN X dX12_record_99 rfl rfl (by omega) ?_
      refine w_aload_n X dX12_record_100 rfl rfl ?_
      refine g12_mades X dX12_record_101 ?_
      refine w_iload_n X dX12_record_104 rfl rfl ?_
      refine w_ialoadN X dX12_record_105 rfl rfl (by omega) ?_
      try simp only [gI_sI, gI_sL, gL_sI, gL_sL, false_and, and_false, and_self, if_false, if_true, reduceIte, Nat.reduceEqDiff, hc]
      refine w_aload_n X dX12_record_106 rfl rfl ?_
      refine g12_limits X dX12_record_107 ?_
      refine w_iload_n X dX12_record_110 rfl rfl ?_
      refine w_ialoadN X dX12_record_111 rfl rfl (by omega) ?_
      try simp only [gI_sI, gI_sL, gL_sI, gL_sL, false_and, and_false, and_self, if_false, if_true, reduceIte, Nat.reduceEqDiff, hc]
      refine w_icmp_ne (tgt := 122) X dX12_record_112 (by decide) (fun h112 => ?_) (fun h112 => ?_)
      · refine w_vrF X dX12_record_122 ?_
        unfold rd_ rc_
        simp [e7, h61, h112, nI_1]
      · refine w_aload_n X dX12_record_115 rfl rfl ?_
        refine g12_kinds X dX12_record_116 ?_
        refine w_iload_n X dX12_record_119 rfl rfl ?_
        refine w_iconst (v := 0) X dX12_record_120 (by decide) ?_
        refine w_iastoreN X dX12_record_121 rfl rfl (by omega) ?_
        refine w_vrF X dX12_record_122 ?_
        unfold rd_ rc_
        simp [e7, h61, h112, nI_1]
set_option maxRecDepth 100000 in
set_option maxHeartbeats 4000000 in
theorem c12_keepOne (G : gg_) (hG : gd_ G) (d : Nat) (M : mm_) (c e : Nat) (hc : M.1 0 37 = nI c) (hc2 : c ≤ 40) (he : e ≤ 10) (j pt v : Int32) : cm_ G yX12_keepOne cX12_keepOne 7 none (d) [.ref (G.1 0), .int j, .int (nI e), .int pt, .int v] M (fV_ (ko_ M c e j pt v)) := by
  refine cm_of hG (by decide) (Nat.le_of_ble_eq_true rfl) (fun C X => ?_)
  have e37 : ∀ i, (kp_ (sI_ (sI_ M 22 (7 * c) j) 22 (7 * c + 1) (M.1 23 e)) c e i).1 0 37 = nI c := fun i => by rw [kp_I i 0 37 (by omega)]; simp [sI_, hc]
  have e24 : ∀ i k, (kp_ (sI_ (sI_ M 22 (7 * c) j) 22 (7 * c + 1) (M.1 23 e)) c e i).1 24 k = M.1 24 k := fun i k => by rw [kp_I i 24 k (by omega)]; simp [sI_]
  have lp : ∀ (u i : Nat), i + u = 3 → ¬ c = 40 → wq_ C G (qe_ C G (fV_ (ko_ M c e j pt v))) 45 [some (.ref (G.1 0)), some (.int j), some (.int (nI e)), some (.int pt), some (.int v), some (.int (nI (7 * c))), some (.int (nI i))] [] (kp_ (sI_ (sI_ M 22 (7 * c) j) 22 (7 * c + 1) (M.1 23 e)) c e i) := by
    intro u
    induction u with
    | zero =>
      intro i hu hc3
      obtain rfl : i = 3 := by omega
      refine w_iload X dX12_keepOne_45 rfl ?_
      refine w_iconst (v := 3) X dX12_keepOne_47 (by decide) ?_
      refine w_icmp_ge (tgt := 80) X dX12_keepOne_48 (by decide) (fun h48 => ?_) (fun h48 => absurd (by decide) h48)
      refine w_aload_n X dX12_keepOne_80 rfl rfl ?_
      refine g12_keptOnes X dX12_keepOne_81 ?_
      refine w_iload X dX12_keepOne_84 rfl ?_
      refine w_iconst (v := 5) X dX12_keepOne_86 (by decide) ?_
      refine w_iadd X dX12_keepOne_87 ?_
      rw [nI_k (7 * c) 5 5 rfl]
      refine w_iload_n X dX12_keepOne_88 rfl rfl ?_
      refine w_iconst (v := 1) X dX12_keepOne_89 (by decide) ?_
      refine w_isub X dX12_keepOne_90 ?_
      refine w_iastoreN X dX12_keepOne_91 rfl rfl (by omega) ?_
      refine w_aload_n X dX12_keepOne_92 rfl rfl ?_
      refine g12_keptOnes X dX12_keepOne_93 ?_
      refine w_iload X dX12_keepOne_96 rfl ?_
      refine w_bipush (v := 6) X dX12_keepOne_98 (by decide) ?_
      refine w_iadd X dX12_keepOne_100 ?_
      rw [nI_k (7 * c) 6 6 rfl]
      refine w_iload X dX12_keepOne_101 rfl ?_
      refine w_iastoreN X dX12_keepOne_103 rfl rfl (by omega) ?_
      refine w_aload_n X dX12_keepOne_104 rfl rfl ?_
      refine w_dup X dX12_keepOne_105 rfl ?_
      refine g12_keepCount X dX12_keepOne_106 ?_
      try simp only [gI_sI, gI_sL, gL_sI, gL_sL, false_and, and_false, and_self, if_false, if_true, reduceIte, Nat.reduceEqDiff, e37]
      refine w_iconst (v := 1) X dX12_keepOne_109 (by decide) ?_
      refine w_iadd X dX12_keepOne_110 ?_
      refine p12_keepCount X dX12_keepOne_111 ?_
      refine w_vrF X dX12_keepOne_114 ?_
      unfold ko_
      rw [if_neg hc3, nI_1]
    | succ u ih =>
      intro i hu hc3
      refine w_iload X dX12_keepOne_45 rfl ?_
      refine w_iconst (v := 3) X dX12_keepOne_47 (by decide) ?_
      refine w_icmp_ge (tgt := 80) X dX12_keepOne_48 (by decide) (fun h48 => absurd h48 (nI_ge (b := 3) (by omega) (by omega))) (fun h48 => ?_)
      refine w_aload_n X dX12_keepOne_51 rfl rfl ?_
      refine g12_keptOnes X dX12_keepOne_52 ?_
      refine w_iload X dX12_keepOne_55 rfl ?_
      refine w_iconst (v := 2) X dX12_keepOne_57 (by decide) ?_
      refine w_iadd X dX12_keepOne_58 ?_
      refine w_iload X dX12_keepOne_59 rfl ?_
      refine w_iadd X dX12_keepOne_61 ?_
      rw [nI_k (7 * c) 2 2 rfl, nI_add]
      refine w_aload_n X dX12_keepOne_62 rfl rfl ?_
      refine g12_runParameters X dX12_keepOne_63 ?_
      refine w_iconst (v := 3) X dX12_keepOne_66 (by decide) ?_
      refine w_iload_n X dX12_keepOne_67 rfl rfl ?_
      refine w_imul X dX12_keepOne_68 ?_
      refine w_iload X dX12_keepOne_69 rfl ?_
      refine w_iadd X dX12_keepOne_71 ?_
      rw [show (3 : Int32) = nI 3 from rfl, nI_m]
      refine w_ialoadN X dX12_keepOne_72 rfl rfl (by omega) ?_
      try simp only [gI_sI, gI_sL, gL_sI, gL_sL, false_and, and_false, and_self, if_false, if_true, reduceIte, Nat.reduceEqDiff, e24]
      refine w_iastoreN X dX12_keepOne_73 rfl rfl (by omega) ?_
      refine w_iinc (v := 1) X dX12_keepOne_74 rfl (by decide) (by decide) ?_
      refine w_goto (tgt := 45) X dX12_keepOne_77 (by decide) ?_
      rw [nI_1]
      have ee := ih (i + 1) (by omega) hc3
      simp only [kp_] at ee
      rw [show (sI_ (sI_ M 22 (7 * c) j) 22 (7 * c + 1) (M.1 23 e)).1 24 (3 * e + i) = M.1 24 (3 * e + i) by simp [sI_]] at ee
      exact ee
  refine w_aload_n X dX12_keepOne_0 rfl rfl ?_
  refine g12_keepCount X dX12_keepOne_1 ?_
  try simp only [gI_sI, gI_sL, gL_sI, gL_sL, false_and, and_false, and_self, if_false, if_true, reduceIte, Nat.reduceEqDiff, hc]
  refine w_bipush (v := 40) X dX12_keepOne_4 (by decide) ?_
  refine w_icmp_ne (tgt := 10) X dX12_keepOne_6 (by decide) (fun h6 => ?_) (fun h6 => ?_)
  · have e6 : ¬ c = 40 := fun q => h6 (by rw [q]; rfl)
    refine w_bipush (v := 7) X dX12_keepOne_10 (by decide) ?_
    refine w_aload_n X dX12_keepOne_12 rfl rfl ?_
    refine g12_keepCount X dX12_keepOne_13 ?_
    try simp only [gI_sI, gI_sL, gL_sI, gL_sL, false_and, and_false, and_self, if_false, if_true, reduceIte, Nat.reduceEqDiff, hc]
    refine w_imul X dX12_keepOne_16 ?_
    rw [show (7 : Int32) * nI c = nI (7 * c) from pk_mul 7 c]
    refine w_istore X dX12_keepOne_17 (by decide) ?_
    refine w_aload_n X dX12_keepOne_19 rfl rfl ?_
    refine g12_keptOnes X dX12_keepOne_20 ?_
    refine w_iload X dX12_keepOne_23 rfl ?_
    refine w_iload_n X dX12_keepOne_25 rfl rfl ?_
    refine w_iastoreN X dX12_keepOne_26 rfl rfl (by omega) ?_
    refine w_aload_n X dX12_keepOne_27 rfl rfl ?_
    refine g12_keptOnes X dX12_keepOne_28 ?_
    refine w_iload X dX12_keepOne_31 rfl ?_
    refine w_iconst (v := 1) X dX12_keepOne_33 (by decide) ?_
    refine w_iadd X dX12_keepOne_34 ?_
    rw [nI_k (7 * c) 1 1 rfl]
    refine w_aload_n X dX12_keepOne_35 rfl rfl ?_
    refine g12_runMethods X dX12_keepOne_36 ?_
    refine w_iload_n X dX12_keepOne_39 rfl rfl ?_
    refine w_ialoadN X dX12_keepOne_40 rfl rfl (by omega) ?_
    try simp only [gI_sI, gI_sL, gL_sI, gL_sL, false_and, and_false, and_self, if_false, if_true, reduceIte, Nat.reduceEqDiff, hc]
    refine w_iastoreN X dX12_keepOne_41 rfl rfl (by omega) ?_
    refine w_iconst (v := 0) X dX12_keepOne_42 (by decide) ?_
    refine w_istore X dX12_keepOne_43 (by decide) ?_
    exact lp 3 0 (by omega) e6
  · have e6 : c = 40 := (nI_eq (b := 40) (by omega) (by omega)).mp h6
    refine w_vrF X dX12_keepOne_9 ?_
    unfold ko_
    rw [if_pos e6]
end
section
def ct_ (c j m w k : Int32) : Int32 := if (j < 0 ∨ 8 ≤ j ∨ m < 0 ∨ c ≤ m) ∨ ¬ k = 2 then 1 else if w < 0 ∨ ¬ w ≤ 2 then 2 else 0
theorem nI_m3 (b m e : Nat) : (48 : Int32) * nI b + 3 * nI m + nI e = nI (48 * b + 3 * m + e) := by rw [show (48 : Int32) = nI 48 from rfl, show (3 : Int32) = nI 3 from rfl, pk_mul, pk_mul, nI_add, nI_add]
set_option maxRecDepth 100000 in
set_option maxHeartbeats 4000000 in
theorem c12_record_ (G : gg_) (hG : gd_ G) (d : Nat) (M : mm_) (c : Nat) (hc : M.1 0 35 = nI c) (hc2 : c ≤ 300) (j w : Int32) : cm_ G yX12_record_ cX12_record_ 3 (some .int) (d) [.ref (G.1 0), .int j, .int w] M (fI_ (if 0 < kt_ (nI c) j w 4 then 0 else M.1 21 (5 * j + w).toNatClampNeg) (sI_ M 0 0 (kt_ (nI c) j w 4))) := by
  refine cm_of hG (by decide) (Nat.le_of_ble_eq_true rfl) (fun C X => ?_)
  refine w_aload_n X dX12_record__0 rfl rfl ?_
  refine w_iload_n X dX12_record__1 rfl rfl ?_
  refine w_if_lt (tgt := 13) X dX12_record__2 (by decide) (fun h2 => ?_) (fun h2 => ?_)
  · refine w_iconst (v := 1) X dX12_record__13 (by decide) ?_
    refine w_goto (tgt := 31) X dX12_record__14 (by decide) ?_
    refine p12_thrown X dX12_record__31 ?_
    refine w_aload_n X dX12_record__34 rfl rfl ?_
    refine g12_thrown X dX12_record__35 ?_
    try simp only [gI_sI, gI_sL, gL_sI, gL_sL, false_and, and_false, and_self, if_false, if_true, reduceIte, Nat.reduceEqDiff, hc]
    refine w_if_le (tgt := 45) X dX12_record__38 (by decide) (fun h38 => absurd h38 (by decide)) (fun h38 => ?_)
    refine w_iconst (v := 0) X dX12_record__41 (by decide) ?_
    refine w_goto (tgt := 55) X dX12_record__42 (by decide) ?_
    refine w_irF X dX12_record__55 ?_ ?_
    · first | (simp [kt_, h2, h38]; done) | (simp_all [kt_]; done)
    · simp [kt_, h2, h38]
  · refine w_iload_n X dX12_record__5 rfl rfl ?_
    refine w_aload_n X dX12_record__6 rfl rfl ?_
    refine g12_recordCount X dX12_record__7 ?_
    try simp only [gI_sI, gI_sL, gL_sI, gL_sL, false_and, and_false, and_self, if_false, if_true, reduceIte, Nat.reduceEqDiff, hc]
    refine w_icmp_lt (tgt := 17) X dX12_record__10 (by decide) (fun h10 => ?_) (fun h10 => ?_)
    · refine w_iload_n X dX12_record__17 rfl rfl ?_
      refine w_if_lt (tgt := 26) X dX12_record__18 (by decide) (fun h18 => ?_) (fun h18 => ?_)
      · refine w_iconst (v := 2) X dX12_record__26 (by decide) ?_
        refine w_goto (tgt := 31) X dX12_record__27 (by decide) ?_
        refine p12_thrown X dX12_record__31 ?_
        refine w_aload_n X dX12_record__34 rfl rfl ?_
        refine g12_thrown X dX12_record__35 ?_
        try simp only [gI_sI, gI_sL, gL_sI, gL_sL, false_and, and_false, and_self, if_false, if_true, reduceIte, Nat.reduceEqDiff, hc]
        refine w_if_le (tgt := 45) X dX12_record__38 (by decide) (fun h38 => absurd h38 (by decide)) (fun h38 => ?_)
        refine w_iconst (v := 0) X dX12_record__41 (by decide) ?_
        refine w_goto (tgt := 55) X dX12_record__42 (by decide) ?_
        refine w_irF X dX12_record__55 ?_ ?_
        · first | (simp [kt_, h2, h10, h18, h38]; done) | (simp_all [kt_]; done)
        · simp [kt_, h2, h10, h18, h38]
      · refine w_iload_n X dX12_record__21 rfl rfl ?_
        refine w_iconst (v := 4) X dX12_record__22 (by decide) ?_
        refine w_icmp_le (tgt := 30) X dX12_record__23 (by decide) (fun h23 => ?_) (fun h23 => ?_)
        · refine w_iconst (v := 0) X dX12_record__30 (by decide) ?_
          refine p12_thrown X dX12_record__31 ?_
          refine w_aload_n X dX12_record__34 rfl rfl ?_
          refine g12_thrown X dX12_record__35 ?_
          try simp only [gI_sI, gI_sL, gL_sI, gL_sL, false_and, and_false, and_self, if_false, if_true, reduceIte, Nat.reduceEqDiff, hc]
          refine w_if_le (tgt := 45) X dX12_record__38 (by decide) (fun h38 => ?_) (fun h38 => absurd (by decide) h38)
          refine w_aload_n X dX12_record__45 rfl rfl ?_
          refine g12_records X dX12_record__46 ?_
          refine w_iconst (v := 5) X dX12_record__49 (by decide) ?_
          refine w_iload_n X dX12_record__50 rfl rfl ?_
          refine w_imul X dX12_record__51 ?_
          refine w_iload_n X dX12_record__52 rfl rfl ?_
          refine w_iadd X dX12_record__53 ?_
          refine w_iaload X dX12_record__54 rfl rfl (by obtain ⟨b, hb, eb⟩ := iN_ (n := c) (by omega) h2 h10; obtain ⟨e, he, ee⟩ := iL_ (n := 4) (by omega) h18 h23; rw [eb, ee, show (5 : Int32) = nI 5 from rfl, nI_m]; exact vp_in_nI (by omega) (by omega)) ?_
          try simp only [gI_sI, gI_sL, gL_sI, gL_sL, false_and, and_false, and_self, if_false, if_true, reduceIte, Nat.reduceEqDiff, hc]
          refine w_irF X dX12_record__55 ?_ ?_
          · first | (simp [kt_, h2, h10, h18, h23, h38]; done) | (simp_all [kt_]; done)
          · simp [kt_, h2, h10, h18, h23, h38]
        · refine w_iconst (v := 2) X dX12_record__26 (by decide) ?_
          refine w_goto (tgt := 31) X dX12_record__27 (by decide) ?_
          refine p12_thrown X dX12_record__31 ?_
          refine w_aload_n X dX12_record__34 rfl rfl ?_
          refine g12_thrown X dX12_record__35 ?_
          try simp only [gI_sI, gI_sL, gL_sI, gL_sL, false_and, and_false, and_self, if_false, if_true, reduceIte, Nat.reduceEqDiff, hc]
          refine w_if_le (tgt := 45) X dX12_record__38 (by decide) (fun h38 => absurd h38 (by decide)) (fun h38 => ?_)
          refine w_iconst (v := 0) X dX12_record__41 (by decide) ?_
          refine w_goto (tgt := 55) X dX12_record__42 (by decide) ?_
          refine w_irF X dX12_record__55 ?_ ?_
          · first | (simp [kt_, h2, h10, h18, h23, h38]; done) | (simp_all [kt_]; done)
          · simp [kt_, h2, h10, h18, h23, h38]
    · refine w_iconst (v := 1) X dX12_record__13 (by decide) ?_
      refine w_goto (tgt := 31) X dX12_record__14 (by decide) ?_
      refine p12_thrown X dX12_record__31 ?_
      refine w_aload_n X dX12_record__34 rfl rfl ?_
      refine g12_thrown X dX12_record__35 ?_
      try simp only [gI_sI, gI_sL, gL_sI, gL_sL, false_and, and_false, and_self, if_false, if_true, reduceIte, Nat.reduceEqDiff, hc]
      refine w_if_le (tgt := 45) X dX12_record__38 (by decide) (fun h38 => absurd h38 (by decide)) (fun h38 => ?_)
      refine w_iconst (v := 0) X dX12_record__41 (by decide) ?_
      refine w_goto (tgt := 55) X dX12_record__42 (by decide) ?_
      refine w_irF X dX12_record__55 ?_ ?_
      · first | (simp [kt_, h2, h10, h38]; done) | (simp_all [kt_]; done)
      · simp [kt_, h2, h10, h38]
set_option maxRecDepth 100000 in
set_option maxHeartbeats 4000000 in
theorem c12_counted (G : gg_) (hG : gd_ G) (d : Nat) (M : mm_) (c : Nat) (hc : M.1 0 9 = nI c) (hc2 : c ≤ 16) (j m w : Int32) : cm_ G yX12_counted cX12_counted 5 (some .int) d [.ref (G.1 0), .int j, .int m, .int w] M (fI_ (if 0 < ct_ (nI c) j m w (M.1 12 j.toNatClampNeg) then 0 else M.1 20 (48 * j + 3 * m + w).toNatClampNeg) (sI_ M 0 0 (ct_ (nI c) j m w (M.1 12 j.toNatClampNeg)))) := by
  refine cm_of hG (by decide) (Nat.le_of_ble_eq_true rfl) (fun C X => ?_)
  have j0 : (j < 0 ∨ 8 ≤ j ∨ m < 0 ∨ nI c ≤ m) → wq_ C G (qe_ C G (fI_ (if 0 < ct_ (nI c) j m w (M.1 12 j.toNatClampNeg) then 0 else M.1 20 (48 * j + 3 * m + w).toNatClampNeg) (sI_ M 0 0 (ct_ (nI c) j m w (M.1 12 j.toNatClampNeg))))) 29 [some (.ref (G.1 0)), some (.int j), some (.int m), some (.int w), some (.int 0)] [] M := by
    intro hb
    refine w_aload_n X dX12_counted_29 rfl rfl ?_
    refine w_iload X dX12_counted_30 rfl ?_
    refine w_if_eq (tgt := 45) X dX12_counted_32 (by decide) (fun h32 => ?_) (fun h32 => absurd (rfl) h32)
    refine w_iconst (v := 1) X dX12_counted_45 (by decide) ?_
    refine w_goto (tgt := 63) X dX12_counted_46 (by decide) ?_
    refine p12_thrown X dX12_counted_63 ?_
    refine w_aload_n X dX12_counted_66 rfl rfl ?_
    refine g12_thrown X dX12_counted_67 ?_
    try simp only [gI_sI, gI_sL, gL_sI, gL_sL, false_and, and_false, and_self, if_false, if_true, reduceIte, Nat.reduceEqDiff]
    refine w_if_le (tgt := 77) X dX12_counted_70 (by decide) (fun h70 => absurd h70 (by decide)) (fun h70 => ?_)
    refine w_iconst (v := 0) X dX12_counted_73 (by decide) ?_
    refine w_goto (tgt := 92) X dX12_counted_74 (by decide) ?_
    exact w_irF X dX12_counted_92 (by simp [ct_, hb]) (by simp [ct_, hb])
  have j1 : ¬ j < 0 → ¬ 8 ≤ j → ¬ m < 0 → ¬ nI c ≤ m → wq_ C G (qe_ C G (fI_ (if 0 < ct_ (nI c) j m w (M.1 12 j.toNatClampNeg) then 0 else M.1 20 (48 * j + 3 * m + w).toNatClampNeg) (sI_ M 0 0 (ct_ (nI c) j m w (M.1 12 j.toNatClampNeg))))) 29 [some (.ref (G.1 0)), some (.int j), some (.int m), some (.int w), some (.int 1)] [] M := by
    intro a1 a2 a3 a4
    obtain ⟨b, hb, eb⟩ := i8_ a1 (Int32.not_le.mp a2)
    obtain ⟨q, hq, eq⟩ := iN_ (n := c) (by omega) a3 (Int32.not_le.mp a4)
    refine w_aload_n X dX12_counted_29 rfl rfl ?_
    refine w_iload X dX12_counted_30 rfl ?_
    refine w_if_eq (tgt := 45) X dX12_counted_32 (by decide) (fun h32 => absurd h32 (by decide)) (fun h32 => ?_)
    refine w_aload_n X dX12_counted_35 rfl rfl ?_
    refine g12_kinds X dX12_counted_36 ?_
    refine w_iload_n X dX12_counted_39 rfl rfl ?_
    refine w_iaload X dX12_counted_40 rfl rfl (by first | (rw [eb]; exact vp_in_nI hb (by omega)) | (obtain ⟨e, he, ee⟩ := iL_ (n := 2) (by omega) h50 h55; rw [eb, eq, ee, nI_m3]; exact vp_in_nI (by omega) (by omega))) ?_
    try simp only [gI_sI, gI_sL, gL_sI, gL_sL, false_and, and_false, and_self, if_false, if_true, reduceIte, Nat.reduceEqDiff]
    refine w_iconst (v := 2) X dX12_counted_41 (by decide) ?_
    refine w_icmp_eq (tgt := 49) X dX12_counted_42 (by decide) (fun h42 => ?_) (fun h42 => ?_)
    · refine w_iload_n X dX12_counted_49 rfl rfl ?_
      refine w_if_lt (tgt := 58) X dX12_counted_50 (by decide) (fun h50 => ?_) (fun h50 => ?_)
      · refine w_iconst (v := 2) X dX12_counted_58 (by decide) ?_
        refine w_goto (tgt := 63) X dX12_counted_59 (by decide) ?_
        refine p12_thrown X dX12_counted_63 ?_
        refine w_aload_n X dX12_counted_66 rfl rfl ?_
        refine g12_thrown X dX12_counted_67 ?_
        try simp only [gI_sI, gI_sL, gL_sI, gL_sL, false_and, and_false, and_self, if_false, if_true, reduceIte, Nat.reduceEqDiff]
        refine w_if_le (tgt := 77) X dX12_counted_70 (by decide) (fun h70 => absurd h70 (by decide)) (fun h70 => ?_)
        refine w_iconst (v := 0) X dX12_counted_73 (by decide) ?_
        refine w_goto (tgt := 92) X dX12_counted_74 (by decide) ?_
        refine w_irF X dX12_counted_92 ?_ ?_
        · simp [ct_, a1, a2, a3, a4, h32, h42, h50, h70]
        · simp [ct_, a1, a2, a3, a4, h32, h42, h50, h70]
      · refine w_iload_n X dX12_counted_53 rfl rfl ?_
        refine w_iconst (v := 2) X dX12_counted_54 (by decide) ?_
        refine w_icmp_le (tgt := 62) X dX12_counted_55 (by decide) (fun h55 => ?_) (fun h55 => ?_)
        · refine w_iconst (v := 0) X dX12_counted_62 (by decide) ?_
          refine p12_thrown X dX12_counted_63 ?_
          refine w_aload_n X dX12_counted_66 rfl rfl ?_
          refine g12_thrown X dX12_counted_67 ?_
          try simp only [gI_sI, gI_sL, gL_sI, gL_sL, false_and, and_false, and_self, if_false, if_true, reduceIte, Nat.reduceEqDiff]
          refine w_if_le (tgt := 77) X dX12_counted_70 (by decide) (fun h70 => ?_) (fun h70 => absurd (by decide) h70)
          refine w_aload_n X dX12_counted_77 rfl rfl ?_
          refine g12_counts X dX12_counted_78 ?_
          refine w_bipush (v := 48) X dX12_counted_81 (by decide) ?_
          refine w_iload_n X dX12_counted_83 rfl rfl ?_
          refine w_imul X dX12_counted_84 ?_
          refine w_iconst (v := 3) X dX12_counted_85 (by decide) ?_
          refine w_iload_n X dX12_counted_86 rfl rfl ?_
          refine w_imul X dX12_counted_87 ?_
          refine w_iadd X dX12_counted_88 ?_
          refine w_iload_n X dX12_counted_89 rfl rfl ?_
          refine w_iadd X dX12_counted_90 ?_
          refine w_iaload X dX12_counted_91 rfl rfl (by first | (rw [eb]; exact vp_in_nI hb (by omega)) | (obtain ⟨e, he, ee⟩ := iL_ (n := 2) (by omega) h50 h55; rw [eb, eq, ee, nI_m3]; exact vp_in_nI (by omega) (by omega))) ?_
          try simp only [gI_sI, gI_sL, gL_sI, gL_sL, false_and, and_false, and_self, if_false, if_true, reduceIte, Nat.reduceEqDiff]
          refine w_irF X dX12_counted_92 ?_ ?_
          · simp [ct_, a1, a2, a3, a4, h32, h42, h50, h55, h70]
          · simp [ct_, a1, a2, a3, a4, h32, h42, h50, h55, h70]
        · refine w_iconst (v := 2) X dX12_counted_58 (by decide) ?_
          refine w_goto (tgt := 63) X dX12_counted_59 (by decide) ?_
          refine p12_thrown X dX12_counted_63 ?_
          refine w_aload_n X dX12_counted_66 rfl rfl ?_
          refine g12_thrown X dX12_counted_67 ?_
          try simp only [gI_sI, gI_sL, gL_sI, gL_sL, false_and, and_false, and_self, if_false, if_true, reduceIte, Nat.reduceEqDiff]
          refine w_if_le (tgt := 77) X dX12_counted_70 (by decide) (fun h70 => absurd h70 (by decide)) (fun h70 => ?_)
          refine w_iconst (v := 0) X dX12_counted_73 (by decide) ?_
          refine w_goto (tgt := 92) X dX12_counted_74 (by decide) ?_
          refine w_irF X dX12_counted_92 ?_ ?_
          · simp [ct_, a1, a2, a3, a4, h32, h42, h50, h55, h70]
          · simp [ct_, a1, a2, a3, a4, h32, h42, h50, h55, h70]
    · refine w_iconst (v := 1) X dX12_counted_45 (by decide) ?_
      refine w_goto (tgt := 63) X dX12_counted_46 (by decide) ?_
      refine p12_thrown X dX12_counted_63 ?_
      refine w_aload_n X dX12_counted_66 rfl rfl ?_
      refine g12_thrown X dX12_counted_67 ?_
      try simp only [gI_sI, gI_sL, gL_sI, gL_sL, false_and, and_false, and_self, if_false, if_true, reduceIte, Nat.reduceEqDiff]
      refine w_if_le (tgt := 77) X dX12_counted_70 (by decide) (fun h70 => absurd h70 (by decide)) (fun h70 => ?_)
      refine w_iconst (v := 0) X dX12_counted_73 (by decide) ?_
      refine w_goto (tgt := 92) X dX12_counted_74 (by decide) ?_
      refine w_irF X dX12_counted_92 ?_ ?_
      · simp [ct_, a1, a2, a3, a4, h32, h42, h70]
      · simp [ct_, a1, a2, a3, a4, h32, h42, h70]
  refine w_iload_n X dX12_counted_0 rfl rfl ?_
  refine w_if_lt (tgt := 26) X dX12_counted_1 (by decide) (fun h1 => ?_) (fun h1 => ?_)
  · refine w_iconst (v := 0) X dX12_counted_26 (by decide) ?_
    refine w_istore X dX12_counted_27 (by decide) ?_
    exact j0 (by first | exact Or.inl h1 | exact Or.inr (Or.inl h7) | exact Or.inr (Or.inr (Or.inl h11)) | exact Or.inr (Or.inr (Or.inr h19)))
  · refine w_iload_n X dX12_counted_4 rfl rfl ?_
    refine w_bipush (v := 8) X dX12_counted_5 (by decide) ?_
    refine w_icmp_ge (tgt := 26) X dX12_counted_7 (by decide) (fun h7 => ?_) (fun h7 => ?_)
    · refine w_iconst (v := 0) X dX12_counted_26 (by decide) ?_
      refine w_istore X dX12_counted_27 (by decide) ?_
      exact j0 (by first | exact Or.inl h1 | exact Or.inr (Or.inl h7) | exact Or.inr (Or.inr (Or.inl h11)) | exact Or.inr (Or.inr (Or.inr h19)))
    · refine w_iload_n X dX12_counted_10 rfl rfl ?_
      refine w_if_lt (tgt := 26) X dX12_counted_11 (by decide) (fun h11 => ?_) (fun h11 => ?_)
      · refine w_iconst (v := 0) X dX12_counted_26 (by decide) ?_
        refine w_istore X dX12_counted_27 (by decide) ?_
        exact j0 (by first | exact Or.inl h1 | exact Or.inr (Or.inl h7) | exact Or.inr (Or.inr (Or.inl h11)) | exact Or.inr (Or.inr (Or.inr h19)))
      · refine w_iload_n X dX12_counted_14 rfl rfl ?_
        refine w_aload_n X dX12_counted_15 rfl rfl ?_
        refine g12_methods X dX12_counted_16 ?_
        try simp only [gI_sI, gI_sL, gL_sI, gL_sL, false_and, and_false, and_self, if_false, if_true, reduceIte, Nat.reduceEqDiff, hc]
        refine w_icmp_ge (tgt := 26) X dX12_counted_19 (by decide) (fun h19 => ?_) (fun h19 => ?_)
        · refine w_iconst (v := 0) X dX12_counted_26 (by decide) ?_
          refine w_istore X dX12_counted_27 (by decide) ?_
          exact j0 (by first | exact Or.inl h1 | exact Or.inr (Or.inl h7) | exact Or.inr (Or.inr (Or.inl h11)) | exact Or.inr (Or.inr (Or.inr h19)))
        · refine w_iconst (v := 1) X dX12_counted_22 (by decide) ?_
          refine w_goto (tgt := 27) X dX12_counted_23 (by decide) ?_
          refine w_istore X dX12_counted_27 (by decide) ?_
          exact j1 h1 h7 h11 h19
end
section
/-! the reference's parser: one reduction, by what waits -/
theorem nI_s1 (n : Nat) : nI (n + 1) - 1 = nI n := nI_pred n
theorem nI_d (a b : Nat) (h : b < a) : nI a - nI b - 1 = nI (a - b - 1) := by rw [pk_sub (by omega), nI_p _ (by omega)]
set_option maxRecDepth 100000 in
set_option maxHeartbeats 4000000 in
theorem c12_reduce_1 (G : gg_) (hG : gd_ G) (d : Nat) (M : mm_) (w q ln oc : Nat) (hw : M.1 0 20 = nI (w + 1)) (hl : M.1 0 12 = nI ln) (ho : M.1 0 22 = nI (oc + 1)) (hq : M.1 8 w = nI q) (hw2 : w < 64) (hl2 : ln < 64) (ho2 : oc < 64) (hql : q < ln) (hk : M.1 7 w = 1) : cm_ G yX12_reduce cX12_reduce 4 none (d + 2) [.ref (G.1 0)] M (fV_ (sI_ (sL_ (sI_ M 0 20 (nI w)) 3 (2048 + q) (nI (ln - q - 1)).toInt64) 0 22 (nI oc))) := by
  refine cm_of hG (by decide) (Nat.le_of_ble_eq_true rfl) (fun C X => ?_)
  refine w_aload_n X dX12_reduce_0 rfl rfl ?_
  refine w_dup X dX12_reduce_1 rfl ?_
  refine g12_waiting X dX12_reduce_2 ?_
  try simp only [gI_sI, gI_sL, gL_sI, gL_sL, false_and, and_false, and_self, if_false, if_true, reduceIte, Nat.reduceEqDiff, hw, hl, ho, hq, hk, nI_s1]
  refine w_iconst (v := 1) X dX12_reduce_5 (by decide) ?_
  refine w_isub X dX12_reduce_6 ?_
  rw [nI_s1]
  refine p12_waiting X dX12_reduce_7 ?_
  refine w_aload_n X dX12_reduce_10 rfl rfl ?_
  refine g12_waits X dX12_reduce_11 ?_
  refine w_aload_n X dX12_reduce_14 rfl rfl ?_
  refine g12_waiting X dX12_reduce_15 ?_
  try simp only [gI_sI, gI_sL, gL_sI, gL_sL, false_and, and_false, and_self, if_false, if_true, reduceIte, Nat.reduceEqDiff, hw, hl, ho, hq, hk, nI_s1]
  refine w_ialoadN X dX12_reduce_18 rfl rfl (by omega) ?_
  try simp only [gI_sI, gI_sL, gL_sI, gL_sL, false_and, and_false, and_self, if_false, if_true, reduceIte, Nat.reduceEqDiff, hw, hl, ho, hq, hk, nI_s1]
  refine w_istore_n X dX12_reduce_19 rfl (by decide) ?_
  refine w_aload_n X dX12_reduce_20 rfl rfl ?_
  refine g12_waitPlaces X dX12_reduce_21 ?_
  refine w_aload_n X dX12_reduce_24 rfl rfl ?_
  refine g12_waiting X dX12_reduce_25 ?_
  try simp only [gI_sI, gI_sL, gL_sI, gL_sL, false_and, and_false, and_self, if_false, if_true, reduceIte, Nat.reduceEqDiff, hw, hl, ho, hq, hk, nI_s1]
  refine w_ialoadN X dX12_reduce_28 rfl rfl (by omega) ?_
  try simp only [gI_sI, gI_sL, gL_sI, gL_sL, false_and, and_false, and_self, if_false, if_true, reduceIte, Nat.reduceEqDiff, hw, hl, ho, hq, hk, nI_s1]
  refine w_istore_n X dX12_reduce_29 rfl (by decide) ?_
  refine w_aload_n X dX12_reduce_30 rfl rfl ?_
  refine g12_waitValues X dX12_reduce_31 ?_
  refine w_aload_n X dX12_reduce_34 rfl rfl ?_
  refine g12_waiting X dX12_reduce_35 ?_
  try simp only [gI_sI, gI_sL, gL_sI, gL_sL, false_and, and_false, and_self, if_false, if_true, reduceIte, Nat.reduceEqDiff, hw, hl, ho, hq, hk, nI_s1]
  refine w_ialoadN X dX12_reduce_38 rfl rfl (by omega) ?_
  try simp only [gI_sI, gI_sL, gL_sI, gL_sL, false_and, and_false, and_self, if_false, if_true, reduceIte, Nat.reduceEqDiff, hw, hl, ho, hq, hk, nI_s1]
  refine w_istore_n X dX12_reduce_39 rfl (by decide) ?_
  refine w_iload_n X dX12_reduce_40 rfl rfl ?_
  refine w_iconst (v := 1) X dX12_reduce_41 (by decide) ?_
  refine w_icmp_ne (tgt := 79) X dX12_reduce_42 (by decide) (fun h42 => absurd rfl h42) (fun h42 => ?_)
  refine w_aload_n X dX12_reduce_45 rfl rfl ?_
  refine g12_values X dX12_reduce_46 ?_
  refine w_bipush (v := 32) X dX12_reduce_49 (by decide) ?_
  refine w_s1fI X dX12_reduce_51 k12_rowOf (c12_rowOf G hG _ _ _) (Nat.le_of_ble_eq_true rfl) ?_
  refine w_iload_n X dX12_reduce_54 rfl rfl ?_
  refine w_iadd X dX12_reduce_55 ?_
  rw [nI_2048]
  refine w_aload_n X dX12_reduce_56 rfl rfl ?_
  refine g12_length X dX12_reduce_57 ?_
  try simp only [gI_sI, gI_sL, gL_sI, gL_sL, false_and, and_false, and_self, if_false, if_true, reduceIte, Nat.reduceEqDiff, hw, hl, ho, hq, hk, nI_s1]
  refine w_iload_n X dX12_reduce_60 rfl rfl ?_
  refine w_isub X dX12_reduce_61 ?_
  refine w_iconst (v := 1) X dX12_reduce_62 (by decide) ?_
  refine w_isub X dX12_reduce_63 ?_
  rw [nI_d ln q hql]
  refine w_i2l X dX12_reduce_64 ?_
  refine w_lastoreN X dX12_reduce_65 rfl rfl (by omega) ?_
  refine w_aload_n X dX12_reduce_66 rfl rfl ?_
  refine w_dup X dX12_reduce_67 rfl ?_
  refine g12_operandCount X dX12_reduce_68 ?_
  try simp only [gI_sI, gI_sL, gL_sI, gL_sL, false_and, and_false, and_self, if_false, if_true, reduceIte, Nat.reduceEqDiff, hw, hl, ho, hq, hk, nI_s1]
  refine w_iconst (v := 1) X dX12_reduce_71 (by decide) ?_
  refine w_isub X dX12_reduce_72 ?_
  rw [nI_s1]
  refine p12_operandCount X dX12_reduce_73 ?_
  refine w_goto (tgt := 162) X dX12_reduce_76 (by decide) ?_
  exact w_vrF X dX12_reduce_162 rfl
set_option maxRecDepth 100000 in
set_option maxHeartbeats 4000000 in
theorem c12_reduce_2 (G : gg_) (hG : gd_ G) (d : Nat) (M : mm_) (w q ln oc : Nat) (hw : M.1 0 20 = nI (w + 1)) (hl : M.1 0 12 = nI ln) (ho : M.1 0 22 = nI (oc + 1)) (hq : M.1 8 w = nI q) (hw2 : w < 64) (hl2 : ln < 64) (ho2 : oc < 64) (hql : q < ln) (hk : M.1 7 w = 2) : cm_ G yX12_reduce cX12_reduce 4 none (d + 2) [.ref (G.1 0)] M (fV_ (sI_ (sL_ (sI_ M 0 20 (nI w)) 3 (2048 + q) (nI (ln - q - 1)).toInt64) 11 oc (M.1 9 w))) := by
  refine cm_of hG (by decide) (Nat.le_of_ble_eq_true rfl) (fun C X => ?_)
  refine w_aload_n X dX12_reduce_0 rfl rfl ?_
  refine w_dup X dX12_reduce_1 rfl ?_
  refine g12_waiting X dX12_reduce_2 ?_
  try simp only [gI_sI, gI_sL, gL_sI, gL_sL, false_and, and_false, and_self, if_false, if_true, reduceIte, Nat.reduceEqDiff, hw, hl, ho, hq, hk, nI_s1]
  refine w_iconst (v := 1) X dX12_reduce_5 (by decide) ?_
  refine w_isub X dX12_reduce_6 ?_
  rw [nI_s1]
  refine p12_waiting X dX12_reduce_7 ?_
  refine w_aload_n X dX12_reduce_10 rfl rfl ?_
  refine g12_waits X dX12_reduce_11 ?_
  refine w_aload_n X dX12_reduce_14 rfl rfl ?_
  refine g12_waiting X dX12_reduce_15 ?_
  try simp only [gI_sI, gI_sL, gL_sI, gL_sL, false_and, and_false, and_self, if_false, if_true, reduceIte, Nat.reduceEqDiff, hw, hl, ho, hq, hk, nI_s1]
  refine w_ialoadN X dX12_reduce_18 rfl rfl (by omega) ?_
  try simp only [gI_sI, gI_sL, gL_sI, gL_sL, false_and, and_false, and_self, if_false, if_true, reduceIte, Nat.reduceEqDiff, hw, hl, ho, hq, hk, nI_s1]
  refine w_istore_n X dX12_reduce_19 rfl (by decide) ?_
  refine w_aload_n X dX12_reduce_20 rfl rfl ?_
  refine g12_waitPlaces X dX12_reduce_21 ?_
  refine w_aload_n X dX12_reduce_24 rfl rfl ?_
  refine g12_waiting X dX12_reduce_25 ?_
  try simp only [gI_sI, gI_sL, gL_sI, gL_sL, false_and, and_false, and_self, if_false, if_true, reduceIte, Nat.reduceEqDiff, hw, hl, ho, hq, hk, nI_s1]
  refine w_ialoadN X dX12_reduce_28 rfl rfl (by omega) ?_
  try simp only [gI_sI, gI_sL, gL_sI, gL_sL, false_and, and_false, and_self, if_false, if_true, reduceIte, Nat.reduceEqDiff, hw, hl, ho, hq, hk, nI_s1]
  refine w_istore_n X dX12_reduce_29 rfl (by decide) ?_
  refine w_aload_n X dX12_reduce_30 rfl rfl ?_
  refine g12_waitValues X dX12_reduce_31 ?_
  refine w_aload_n X dX12_reduce_34 rfl rfl ?_
  refine g12_waiting X dX12_reduce_35 ?_
  try simp only [gI_sI, gI_sL, gL_sI, gL_sL, false_and, and_false, and_self, if_false, if_true, reduceIte, Nat.reduceEqDiff, hw, hl, ho, hq, hk, nI_s1]
  refine w_ialoadN X dX12_reduce_38 rfl rfl (by omega) ?_
  try simp only [gI_sI, gI_sL, gL_sI, gL_sL, false_and, and_false, and_self, if_false, if_true, reduceIte, Nat.reduceEqDiff, hw, hl, ho, hq, hk, nI_s1]
  refine w_istore_n X dX12_reduce_39 rfl (by decide) ?_
  refine w_iload_n X dX12_reduce_40 rfl rfl ?_
  refine w_iconst (v := 1) X dX12_reduce_41 (by decide) ?_
  refine w_icmp_ne (tgt := 79) X dX12_reduce_42 (by decide) (fun h42 => ?_) (fun h42 => absurd h42 (by decide))
  refine w_iload_n X dX12_reduce_79 rfl rfl ?_
  refine w_iconst (v := 2) X dX12_reduce_80 (by decide) ?_
  refine w_icmp_ne (tgt := 120) X dX12_reduce_81 (by decide) (fun h81 => absurd rfl h81) (fun h81 => ?_)
  refine w_aload_n X dX12_reduce_84 rfl rfl ?_
  refine g12_values X dX12_reduce_85 ?_
  refine w_bipush (v := 32) X dX12_reduce_88 (by decide) ?_
  refine w_s1fI X dX12_reduce_90 k12_rowOf (c12_rowOf G hG _ _ _) (Nat.le_of_ble_eq_true rfl) ?_
  refine w_iload_n X dX12_reduce_93 rfl rfl ?_
  refine w_iadd X dX12_reduce_94 ?_
  rw [nI_2048]
  refine w_aload_n X dX12_reduce_95 rfl rfl ?_
  refine g12_length X dX12_reduce_96 ?_
  try simp only [gI_sI, gI_sL, gL_sI, gL_sL, false_and, and_false, and_self, if_false, if_true, reduceIte, Nat.reduceEqDiff, hw, hl, ho, hq, hk, nI_s1]
  refine w_iload_n X dX12_reduce_99 rfl rfl ?_
  refine w_isub X dX12_reduce_100 ?_
  refine w_iconst (v := 1) X dX12_reduce_101 (by decide) ?_
  refine w_isub X dX12_reduce_102 ?_
  rw [nI_d ln q hql]
  refine w_i2l X dX12_reduce_103 ?_
  refine w_lastoreN X dX12_reduce_104 rfl rfl (by omega) ?_
  refine w_aload_n X dX12_reduce_105 rfl rfl ?_
  refine g12_operands X dX12_reduce_106 ?_
  refine w_aload_n X dX12_reduce_109 rfl rfl ?_
  refine g12_operandCount X dX12_reduce_110 ?_
  try simp only [gI_sI, gI_sL, gL_sI, gL_sL, false_and, and_false, and_self, if_false, if_true, reduceIte, Nat.reduceEqDiff, hw, hl, ho, hq, hk, nI_s1]
  refine w_iconst (v := 1) X dX12_reduce_113 (by decide) ?_
  refine w_isub X dX12_reduce_114 ?_
  rw [nI_s1]
  refine w_iload_n X dX12_reduce_115 rfl rfl ?_
  refine w_iastoreN X dX12_reduce_116 rfl rfl (by omega) ?_
  refine w_goto (tgt := 162) X dX12_reduce_117 (by decide) ?_
  exact w_vrF X dX12_reduce_162 rfl
set_option maxRecDepth 100000 in
set_option maxHeartbeats 4000000 in
theorem c12_reduce_6 (G : gg_) (hG : gd_ G) (d : Nat) (M : mm_) (w q ln oc : Nat) (hw : M.1 0 20 = nI (w + 1)) (hl : M.1 0 12 = nI ln) (ho : M.1 0 22 = nI (oc + 1)) (hq : M.1 8 w = nI q) (hw2 : w < 64) (hl2 : ln < 64) (ho2 : oc < 64) (hk : M.1 7 w = 6) : cm_ G yX12_reduce cX12_reduce 4 none (d + 2) [.ref (G.1 0)] M (fV_ (pu_ (sI_ M 0 20 (nI w)) ln (if M.1 9 w = 45 then 3 else 4) 0)) := by
  refine cm_of hG (by decide) (Nat.le_of_ble_eq_true rfl) (fun C X => ?_)
  refine w_aload_n X dX12_reduce_0 rfl rfl ?_
  refine w_dup X dX12_reduce_1 rfl ?_
  refine g12_waiting X dX12_reduce_2 ?_
  try simp only [gI_sI, gI_sL, gL_sI, gL_sL, false_and, and_false, and_self, if_false, if_true, reduceIte, Nat.reduceEqDiff, hw, hl, ho, hq, hk, nI_s1]
  refine w_iconst (v := 1) X dX12_reduce_5 (by decide) ?_
  refine w_isub X dX12_reduce_6 ?_
  rw [nI_s1]
  refine p12_waiting X dX12_reduce_7 ?_
  refine w_aload_n X dX12_reduce_10 rfl rfl ?_
  refine g12_waits X dX12_reduce_11 ?_
  refine w_aload_n X dX12_reduce_14 rfl rfl ?_
  refine g12_waiting X dX12_reduce_15 ?_
  try simp only [gI_sI, gI_sL, gL_sI, gL_sL, false_and, and_false, and_self, if_false, if_true, reduceIte, Nat.reduceEqDiff, hw, hl, ho, hq, hk, nI_s1]
  refine w_ialoadN X dX12_reduce_18 rfl rfl (by omega) ?_
  try simp only [gI_sI, gI_sL, gL_sI, gL_sL, false_and, and_false, and_self, if_false, if_true, reduceIte, Nat.reduceEqDiff, hw, hl, ho, hq, hk, nI_s1]
  refine w_istore_n X dX12_reduce_19 rfl (by decide) ?_
  refine w_aload_n X dX12_reduce_20 rfl rfl ?_
  refine g12_waitPlaces X dX12_reduce_21 ?_
  refine w_aload_n X dX12_reduce_24 rfl rfl ?_
  refine g12_waiting X dX12_reduce_25 ?_
  try simp only [gI_sI, gI_sL, gL_sI, gL_sL, false_and, and_false, and_self, if_false, if_true, reduceIte, Nat.reduceEqDiff, hw, hl, ho, hq, hk, nI_s1]
  refine w_ialoadN X dX12_reduce_28 rfl rfl (by omega) ?_
  try simp only [gI_sI, gI_sL, gL_sI, gL_sL, false_and, and_false, and_self, if_false, if_true, reduceIte, Nat.reduceEqDiff, hw, hl, ho, hq, hk, nI_s1]
  refine w_istore_n X dX12_reduce_29 rfl (by decide) ?_
  refine w_aload_n X dX12_reduce_30 rfl rfl ?_
  refine g12_waitValues X dX12_reduce_31 ?_
  refine w_aload_n X dX12_reduce_34 rfl rfl ?_
  refine g12_waiting X dX12_reduce_35 ?_
  try simp only [gI_sI, gI_sL, gL_sI, gL_sL, false_and, and_false, and_self, if_false, if_true, reduceIte, Nat.reduceEqDiff, hw, hl, ho, hq, hk, nI_s1]
  refine w_ialoadN X dX12_reduce_38 rfl rfl (by omega) ?_
  try simp only [gI_sI, gI_sL, gL_sI, gL_sL, false_and, and_false, and_self, if_false, if_true, reduceIte, Nat.reduceEqDiff, hw, hl, ho, hq, hk, nI_s1]
  refine w_istore_n X dX12_reduce_39 rfl (by decide) ?_
  refine w_iload_n X dX12_reduce_40 rfl rfl ?_
  refine w_iconst (v := 1) X dX12_reduce_41 (by decide) ?_
  refine w_icmp_ne (tgt := 79) X dX12_reduce_42 (by decide) (fun h42 => ?_) (fun h42 => absurd h42 (by decide))
  refine w_iload_n X dX12_reduce_79 rfl rfl ?_
  refine w_iconst (v := 2) X dX12_reduce_80 (by decide) ?_
  refine w_icmp_ne (tgt := 120) X dX12_reduce_81 (by decide) (fun h81 => ?_) (fun h81 => absurd h81 (by decide))
  refine w_iload_n X dX12_reduce_120 rfl rfl ?_
  refine w_bipush (v := 6) X dX12_reduce_121 (by decide) ?_
  refine w_icmp_ne (tgt := 145) X dX12_reduce_123 (by decide) (fun h123 => absurd rfl h123) (fun h123 => ?_)
  refine w_aload_n X dX12_reduce_126 rfl rfl ?_
  refine w_iload_n X dX12_reduce_127 rfl rfl ?_
  refine w_bipush (v := 45) X dX12_reduce_128 (by decide) ?_
  refine w_icmp_ne (tgt := 137) X dX12_reduce_130 (by decide) (fun h130 => ?_) (fun h130 => ?_)
  · refine w_iconst (v := 4) X dX12_reduce_137 (by decide) ?_
    refine w_lconst (v := 0) X dX12_reduce_138 (by decide) ?_
    refine w_v2fV X dX12_reduce_139 k12_put rfl rfl (c12_put G hG _ _ ln (by simp [sI_, hl]) (by omega) _ _) (Nat.le_of_ble_eq_true rfl) ?_
    refine w_goto (tgt := 162) X dX12_reduce_142 (by decide) ?_
    exact w_vrF X dX12_reduce_162 (by simp [h42, h81, h123, h130])
  · refine w_iconst (v := 3) X dX12_reduce_133 (by decide) ?_
    refine w_goto (tgt := 138) X dX12_reduce_134 (by decide) ?_
    refine w_lconst (v := 0) X dX12_reduce_138 (by decide) ?_
    refine w_v2fV X dX12_reduce_139 k12_put rfl rfl (c12_put G hG _ _ ln (by simp [sI_, hl]) (by omega) _ _) (Nat.le_of_ble_eq_true rfl) ?_
    refine w_goto (tgt := 162) X dX12_reduce_142 (by decide) ?_
    exact w_vrF X dX12_reduce_162 (by simp [h42, h81, h123, h130])
set_option maxRecDepth 100000 in
set_option maxHeartbeats 4000000 in
theorem c12_reduce_b (G : gg_) (hG : gd_ G) (d : Nat) (M : mm_) (w q ln oc : Nat) (hw : M.1 0 20 = nI (w + 1)) (hl : M.1 0 12 = nI ln) (ho : M.1 0 22 = nI (oc + 1)) (hq : M.1 8 w = nI q) (hw2 : w < 64) (hl2 : ln < 64) (ho2 : oc < 64) (hk : M.1 7 w = 3 ∨ M.1 7 w = 4 ∨ M.1 7 w = 5) : cm_ G yX12_reduce cX12_reduce 4 none (d + 2) [.ref (G.1 0)] M (fV_ (sI_ (pu_ (sI_ M 0 20 (nI w)) ln 2 (M.1 9 w).toInt64) 0 22 (nI oc))) := by
  refine cm_of hG (by decide) (Nat.le_of_ble_eq_true rfl) (fun C X => ?_)
  refine w_aload_n X dX12_reduce_0 rfl rfl ?_
  refine w_dup X dX12_reduce_1 rfl ?_
  refine g12_waiting X dX12_reduce_2 ?_
  try simp only [gI_sI, gI_sL, gL_sI, gL_sL, false_and, and_false, and_self, if_false, if_true, reduceIte, Nat.reduceEqDiff, hw, hl, ho, hq, nI_s1]
  refine w_iconst (v := 1) X dX12_reduce_5 (by decide) ?_
  refine w_isub X dX12_reduce_6 ?_
  rw [nI_s1]
  refine p12_waiting X dX12_reduce_7 ?_
  refine w_aload_n X dX12_reduce_10 rfl rfl ?_
  refine g12_waits X dX12_reduce_11 ?_
  refine w_aload_n X dX12_reduce_14 rfl rfl ?_
  refine g12_waiting X dX12_reduce_15 ?_
  try simp only [gI_sI, gI_sL, gL_sI, gL_sL, false_and, and_false, and_self, if_false, if_true, reduceIte, Nat.reduceEqDiff, hw, hl, ho, hq, nI_s1]
  refine w_ialoadN X dX12_reduce_18 rfl rfl (by omega) ?_
  try simp only [gI_sI, gI_sL, gL_sI, gL_sL, false_and, and_false, and_self, if_false, if_true, reduceIte, Nat.reduceEqDiff, hw, hl, ho, hq, nI_s1]
  refine w_istore_n X dX12_reduce_19 rfl (by decide) ?_
  refine w_aload_n X dX12_reduce_20 rfl rfl ?_
  refine g12_waitPlaces X dX12_reduce_21 ?_
  refine w_aload_n X dX12_reduce_24 rfl rfl ?_
  refine g12_waiting X dX12_reduce_25 ?_
  try simp only [gI_sI, gI_sL, gL_sI, gL_sL, false_and, and_false, and_self, if_false, if_true, reduceIte, Nat.reduceEqDiff, hw, hl, ho, hq, nI_s1]
  refine w_ialoadN X dX12_reduce_28 rfl rfl (by omega) ?_
  try simp only [gI_sI, gI_sL, gL_sI, gL_sL, false_and, and_false, and_self, if_false, if_true, reduceIte, Nat.reduceEqDiff, hw, hl, ho, hq, nI_s1]
  refine w_istore_n X dX12_reduce_29 rfl (by decide) ?_
  refine w_aload_n X dX12_reduce_30 rfl rfl ?_
  refine g12_waitValues X dX12_reduce_31 ?_
  refine w_aload_n X dX12_reduce_34 rfl rfl ?_
  refine g12_waiting X dX12_reduce_35 ?_
  try simp only [gI_sI, gI_sL, gL_sI, gL_sL, false_and, and_false, and_self, if_false, if_true, reduceIte, Nat.reduceEqDiff, hw, hl, ho, hq, nI_s1]
  refine w_ialoadN X dX12_reduce_38 rfl rfl (by omega) ?_
  try simp only [gI_sI, gI_sL, gL_sI, gL_sL, false_and, and_false, and_self, if_false, if_true, reduceIte, Nat.reduceEqDiff, hw, hl, ho, hq, nI_s1]
  refine w_istore_n X dX12_reduce_39 rfl (by decide) ?_
  refine w_iload_n X dX12_reduce_40 rfl rfl ?_
  refine w_iconst (v := 1) X dX12_reduce_41 (by decide) ?_
  refine w_icmp_ne (tgt := 79) X dX12_reduce_42 (by decide) (fun h42 => ?_) (fun h42 => absurd h42 (by rcases hk with z | z | z <;> rw [z] <;> decide))
  refine w_iload_n X dX12_reduce_79 rfl rfl ?_
  refine w_iconst (v := 2) X dX12_reduce_80 (by decide) ?_
  refine w_icmp_ne (tgt := 120) X dX12_reduce_81 (by decide) (fun h81 => ?_) (fun h81 => absurd h81 (by rcases hk with z | z | z <;> rw [z] <;> decide))
  refine w_iload_n X dX12_reduce_120 rfl rfl ?_
  refine w_bipush (v := 6) X dX12_reduce_121 (by decide) ?_
  refine w_icmp_ne (tgt := 145) X dX12_reduce_123 (by decide) (fun h123 => ?_) (fun h123 => absurd h123 (by rcases hk with z | z | z <;> rw [z] <;> decide))
  refine w_aload_n X dX12_reduce_145 rfl rfl ?_
  refine w_iconst (v := 2) X dX12_reduce_146 (by decide) ?_
  refine w_iload_n X dX12_reduce_147 rfl rfl ?_
  refine w_i2l X dX12_reduce_148 ?_
  refine w_v2fV X dX12_reduce_149 k12_put rfl rfl (c12_put G hG _ _ ln (by simp [sI_, hl]) (by omega) _ _) (Nat.le_of_ble_eq_true rfl) ?_
  refine w_aload_n X dX12_reduce_152 rfl rfl ?_
  refine w_dup X dX12_reduce_153 rfl ?_
  refine g12_operandCount X dX12_reduce_154 ?_
  try simp only [gI_sI, gI_sL, gL_sI, gL_sL, false_and, and_false, and_self, if_false, if_true, reduceIte, Nat.reduceEqDiff, hw, hl, ho, hq, nI_s1]
  rw [show (pu_ (sI_ M 0 20 (nI w)) ln 2 (M.1 9 w).toInt64).1 0 22 = nI (oc + 1) by simp [pu_, sI_, sL_, ho]]
  refine w_iconst (v := 1) X dX12_reduce_157 (by decide) ?_
  refine w_isub X dX12_reduce_158 ?_
  rw [nI_s1]
  refine p12_operandCount X dX12_reduce_159 ?_
  exact w_vrF X dX12_reduce_162 rfl
end
section
/-! Trees of expressions (as Term), their codes, and the reference's parser's state as a stack of frames (the top first).
.int v a number; .index i a variable; .length e less than 0; .sum e thrown; .elem (.int c) (.add a b) a sign between two; .mul a (.div b c) ?: ; .rem a b # ; .sub (.long key) args an invocation, args .null or .add a rest. -/
abbrev sv_ : Type := Int32 × Int64
abbrev fr_ : Type := Nat × Int32 × Term × Term × Int64
def ac_ : Term → Nat
  | .add _ r => ac_ r + 1
  | _ => 0
def kv_ : Term → Int64
  | .long k => k
  | _ => 0
def sg_ : Term → Int32
  | .int c => c
  | _ => 0
def tc_ : Term → List sv_
  | .int v => [(0, v.toInt64)]
  | .index i => [(1, (nI i).toInt64)]
  | .length e => tc_ e ++ [(3, 0)]
  | .sum e => tc_ e ++ [(4, 0)]
  | .elem s x => tc_ x ++ [(2, (sg_ s).toInt64)]
  | .mul a (.div b c) => tc_ a ++ (5, lN ((tc_ b).length + 1)) :: (tc_ b ++ (6, lN (tc_ c).length) :: tc_ c)
  | .rem a b => (7, lN ((tc_ a).length + 1)) :: (tc_ a ++ (8, lN (tc_ b).length) :: tc_ b)
  | .sub k x => tc_ x ++ [(9, (kv_ k <<< ((2 : Int32).toInt64 &&& 63)) ||| (nI (ac_ x)).toInt64)]
  | .add a r => tc_ a ++ tc_ r
  | _ => []
/-- how many nodes -/
def nt_ : Term → Nat
  | .int _ => 1
  | .index _ => 1
  | .length e => nt_ e + 1
  | .sum e => nt_ e + 1
  | .elem _ x => nt_ x + 1
  | .mul a (.div b c) => nt_ a + nt_ b + nt_ c + 1
  | .rem a b => nt_ a + nt_ b + 1
  | .sub _ x => nt_ x + 1
  | .add a r => nt_ a + nt_ r
  | _ => 0
theorem tc_le : ∀ e : Term, (tc_ e).length ≤ 2 * nt_ e
  | .int _ => by simp [tc_, nt_]
  | .index _ => by simp [tc_, nt_]
  | .length e => by have := tc_le e; simp [tc_, nt_]; omega
  | .sum e => by have := tc_le e; simp [tc_, nt_]; omega
  | .elem _ x => by have := tc_le x; simp [tc_, nt_]; omega
  | .mul a (.div b c) => by have := tc_le a; have := tc_le b; have := tc_le c; simp [tc_, nt_]; omega
  | .rem a b => by have := tc_le a; have := tc_le b; simp [tc_, nt_]; omega
  | .sub _ x => by have := tc_le x; simp [tc_, nt_]; omega
  | .add a r => by have := tc_le a; have := tc_le r; simp [tc_, nt_]; omega
  | .arg _ | .long _ | .null | .field _ _ _ _ | .static _ _ _ | .string _ _ | .mirror _ | .div _ _ | .op2 _ _ _ | .op1 _ _ | .result | .thrown | .old _ => by simp [tc_]
  | .mul _ (.arg _) | .mul _ (.int _) | .mul _ (.long _) | .mul _ .null | .mul _ (.index _) | .mul _ (.field _ _ _ _) | .mul _ (.static _ _ _) | .mul _ (.string _ _) | .mul _ (.mirror _) | .mul _ (.length _) | .mul _ (.elem _ _) | .mul _ (.add _ _) | .mul _ (.sub _ _) | .mul _ (.mul _ _) | .mul _ (.rem _ _) | .mul _ (.op2 _ _ _) | .mul _ (.op1 _ _) | .mul _ (.sum _) | .mul _ .result | .mul _ .thrown | .mul _ (.old _) => by simp [tc_]
/-- a list of trees, and one more -/
def ao_ : Term → Prop
  | .null => True
  | .add _ r => ao_ r
  | _ => False
def sa_ : Term → Term → Term
  | .add a r, e => .add a (sa_ r e)
  | _, e => .add e .null
theorem tc_sa : ∀ (x e : Term), ao_ x → tc_ (sa_ x e) = tc_ x ++ tc_ e
  | .null, e, _ => by simp [sa_, tc_]
  | .add a r, e, h => by simp [sa_, tc_, tc_sa r e h]
theorem nt_sa : ∀ (x e : Term), ao_ x → nt_ (sa_ x e) = nt_ x + nt_ e
  | .null, e, _ => by simp [sa_, nt_]
  | .add a r, e, h => by simp [sa_, nt_, nt_sa r e h]; omega
theorem ac_sa : ∀ (x e : Term), ao_ x → ac_ (sa_ x e) = ac_ x + 1
  | .null, e, _ => by simp [sa_, ac_]
  | .add a r, e, h => by simp [sa_, ac_, ac_sa r e h]
theorem ao_sa : ∀ (x e : Term), ao_ x → ao_ (sa_ x e)
  | .null, e, _ => by simp [sa_, ao_]
  | .add a r, e, h => by simp [sa_, ao_]; exact ao_sa r e h
def fc_ (f : fr_) : List sv_ := match f.1 with
  | 0 => []
  | 1 => (7, lN ((tc_ f.2.2.1).length + 1)) :: (tc_ f.2.2.1 ++ [(8, 0)])
  | 2 => tc_ f.2.2.1 ++ (5, lN ((tc_ f.2.2.2.1).length + 1)) :: (tc_ f.2.2.2.1 ++ [(6, 0)])
  | 6 => []
  | 7 => tc_ f.2.2.1 ++ [(5, 0)]
  | _ => tc_ f.2.2.1
def cs_ : List fr_ → List sv_
  | [] => []
  | f :: r => cs_ r ++ fc_ f
def fp_ (p : Nat) (f : fr_) : Nat := match f.1 with
  | 1 => p + 1 + (tc_ f.2.2.1).length
  | 2 => p + (tc_ f.2.2.1).length + 1 + (tc_ f.2.2.2.1).length
  | 7 => p + (tc_ f.2.2.1).length
  | 8 => p
  | _ => 0
def fu_ (p : Nat) (f : fr_) : Int32 := match f.1 with
  | 0 => 0
  | 1 => 0
  | 2 => nI p
  | 7 => nI p
  | 8 => nI (ac_ f.2.2.1)
  | _ => f.2.1
def oa_ (p : Nat) : Term → List Nat
  | .add a r => p :: oa_ (p + (tc_ a).length) r
  | _ => []
theorem oa_sa : ∀ (x e : Term) (p : Nat), ao_ x → oa_ p (sa_ x e) = oa_ p x ++ [p + (tc_ x).length]
  | .null, e, p, _ => by simp [sa_, oa_, tc_]
  | .add a r, e, p, h => by simp [sa_, oa_, tc_, oa_sa r e _ h]; omega
def ff_ (p : Nat) (f : fr_) : List Nat := match f.1 with
  | 1 => [p]
  | 3 => [p]
  | 4 => [p]
  | 5 => [p]
  | 8 => oa_ p f.2.2.1
  | _ => []
def os_ : List fr_ → List Nat
  | [] => []
  | f :: r => os_ r ++ ff_ (cs_ r).length f
def nf_ (f : fr_) : Nat := match f.1 with
  | 0 => 0
  | 2 => nt_ f.2.2.1 + nt_ f.2.2.2.1 + 1
  | 6 => 1
  | _ => nt_ f.2.2.1 + 1
def nw_ : List fr_ → Nat
  | [] => 0
  | f :: r => nw_ r + nf_ f
def no_ : List fr_ → Nat
  | [] => 0
  | f :: r => no_ r + (if f.1 = 0 ∨ f.1 = 8 then 1 else 0)
def wr_ (M : mm_) : List fr_ → Prop
  | [] => True
  | f :: r => wr_ M r ∧ (f.1 ≤ 8 ∧ (f.1 = 8 → ao_ f.2.2.1 ∧ ac_ f.2.2.1 ≤ nt_ f.2.2.1)) ∧ M.1 7 r.length = nI f.1 ∧ M.1 8 r.length = nI (fp_ (cs_ r).length f) ∧ M.1 9 r.length = fu_ (cs_ r).length f ∧ (f.1 = 8 → M.2.1 10 r.length = f.2.2.2.2)
def cd_ (M : mm_) (c : List sv_) : Prop := M.1 0 12 = nI c.length ∧ ∀ (i : Nat) (x : sv_), c[i]? = some x → M.1 2 (2048 + i) = x.1 ∧ M.2.1 3 (2048 + i) = x.2
def od_ (M : mm_) (o : List Nat) : Prop := M.1 0 22 = nI o.length ∧ ∀ (i : Nat) (x : Nat), o[i]? = some x → M.1 11 i = nI x
def cu_ : Option Term → List sv_
  | none => []
  | some e => tc_ e
def co_ (p : Nat) : Option Term → List Nat
  | none => []
  | some _ => [p]
def cn_ : Option Term → Nat
  | none => 0
  | some e => nt_ e
def cq_ : Option Term → Prop
  | none => True
  | some e => 1 ≤ nt_ e
/-- the parser's state: n bytes, at place k, the frames W, the current tree, nodes, opened -/
def pr_ (M : mm_) (n k : Nat) (W : List fr_) (u : Option Term) (nd op : Nat) : Prop :=
  tz_ M n ∧ M.1 0 5 = nI k ∧ cd_ M (cs_ W ++ cu_ u) ∧ M.1 0 20 = nI W.length ∧ wr_ M W ∧ od_ M (os_ W ++ co_ (cs_ W).length u) ∧ M.1 0 13 = nI nd ∧ M.1 0 23 = nI op ∧ nw_ W + cn_ u = nd ∧ nd ≤ 20 ∧ no_ W = op ∧ op ≤ 12 ∧ cq_ u
theorem fc_le (f : fr_) : (fc_ f).length ≤ 2 * nf_ f := by
  obtain ⟨k, c, a, b, x⟩ := f
  have ha := tc_le a
  have hb := tc_le b
  unfold fc_ nf_
  match k with
  | 0 => simp
  | 1 => simp; omega
  | 2 => simp; omega
  | 3 => simp; omega
  | 4 => simp; omega
  | 5 => simp; omega
  | 6 => simp
  | 7 => simp; omega
  | k + 8 => simp; omega
theorem cs_le : ∀ W : List fr_, (cs_ W).length ≤ 2 * nw_ W
  | [] => by simp [cs_]
  | f :: r => by
    have := cs_le r
    have := fc_le f
    simp [cs_, nw_]
    omega
theorem nw_len : ∀ W : List fr_, W.length ≤ nw_ W + no_ W
  | [] => by simp
  | f :: r => by
    have h := nw_len r
    obtain ⟨k, c, a, b, x⟩ := f
    simp only [List.length_cons, nw_, no_, nf_]
    match k with
    | 0 => simp; omega
    | 1 => simp; omega
    | 2 => simp; omega
    | 3 => simp; omega
    | 4 => simp; omega
    | 5 => simp; omega
    | 6 => simp; omega
    | 7 => simp; omega
    | k + 8 => simp; split <;> omega
end
section
/-! what updates keep of the parser's state -/
def pf_ (M N : mm_) : Prop := (∀ a i : Nat, a ≠ 7 → a ≠ 8 → a ≠ 9 → a ≠ 11 → ¬ (a = 2 ∧ 2048 ≤ i) → ¬ (a = 0 ∧ (i = 3 ∨ i = 4 ∨ i = 5 ∨ i = 12 ∨ i = 13 ∨ i = 20 ∨ i = 22 ∨ i = 23)) → N.1 a i = M.1 a i) ∧ (∀ a i : Nat, a ≠ 10 → ¬ (a = 3 ∧ 2048 ≤ i) → ¬ (a = 0 ∧ i = 24) → N.2.1 a i = M.2.1 a i) ∧ N.2.2 = M.2.2
theorem pf_rf (M : mm_) : pf_ M M := ⟨fun _ _ _ _ _ _ _ _ => rfl, fun _ _ _ _ _ => rfl, rfl⟩
theorem pf_tr {M N O : mm_} (h1 : pf_ M N) (h2 : pf_ N O) : pf_ M O := ⟨fun a i a1 a2 a3 a4 a5 a6 => (h2.1 a i a1 a2 a3 a4 a5 a6).trans (h1.1 a i a1 a2 a3 a4 a5 a6), fun a i a1 a2 a3 => (h2.2.1 a i a1 a2 a3).trans (h1.2.1 a i a1 a2 a3), h2.2.2.trans h1.2.2⟩
theorem pf_sI {M N : mm_} {a i : Nat} {v : Int32} (h : pf_ M N) (hq : a = 7 ∨ a = 8 ∨ a = 9 ∨ a = 11 ∨ (a = 2 ∧ 2048 ≤ i) ∨ (a = 0 ∧ (i = 3 ∨ i = 4 ∨ i = 5 ∨ i = 12 ∨ i = 13 ∨ i = 20 ∨ i = 22 ∨ i = 23))) : pf_ M (sI_ N a i v) := by
  refine ⟨fun x j b1 b2 b3 b4 b5 b6 => ?_, h.2.1, h.2.2⟩
  rw [sI_ne _ _ _ _ (fun z => by obtain ⟨rfl, rfl⟩ := z; omega)]
  exact h.1 x j b1 b2 b3 b4 b5 b6
theorem pf_sL {M N : mm_} {a i : Nat} {v : Int64} (h : pf_ M N) (hq : a = 10 ∨ (a = 3 ∧ 2048 ≤ i) ∨ (a = 0 ∧ i = 24)) : pf_ M (sL_ N a i v) := by
  refine ⟨h.1, fun x j b1 b2 b3 => ?_, h.2.2⟩
  rw [sL_ne _ _ _ _ (fun z => by obtain ⟨rfl, rfl⟩ := z; omega)]
  exact h.2.1 x j b1 b2 b3
theorem pf_pu {M N : mm_} {n : Nat} {t : Int32} {v : Int64} (h : pf_ M N) : pf_ M (pu_ N n t v) := pf_sI (pf_sL (pf_sI h (by omega)) (by omega)) (by omega)
theorem mid_get {α : Type} (A B : List α) (x : α) (i : Nat) : (A ++ x :: B)[i]? = if i < A.length then A[i]? else if i = A.length then some x else B[i - A.length - 1]? := by
  by_cases h : i < A.length
  · rw [if_pos h, List.getElem?_append_left h]
  · rw [if_neg h, List.getElem?_append_right (by omega)]
    by_cases h2 : i = A.length
    · rw [if_pos h2, h2]; simp
    · rw [if_neg h2]
      obtain ⟨k, hk⟩ : ∃ k, i - A.length = k + 1 := ⟨i - A.length - 1, by omega⟩
      rw [hk, List.getElem?_cons_succ]
      simp
theorem cd_patch {M : mm_} {A B : List sv_} {x : Int32} {y v : Int64} (h : cd_ M (A ++ (x, y) :: B)) : cd_ (sL_ M 3 (2048 + A.length) v) (A ++ (x, v) :: B) := by
  refine ⟨by rw [gI_sL, h.1]; simp, fun i z hi => ?_⟩
  rw [mid_get] at hi
  have hh := h.2 i
  simp only [mid_get] at hh
  rw [gI_sL, gL_sL]
  by_cases h1 : i < A.length
  · rw [if_pos h1] at hi
    simp only [if_pos h1] at hh
    rw [if_neg (by omega)]
    exact hh z hi
  · rw [if_neg h1] at hi
    simp only [if_neg h1] at hh
    by_cases h2 : i = A.length
    · rw [if_pos h2] at hi
      simp only [if_pos h2] at hh
      cases hi
      rw [if_pos ⟨rfl, by omega⟩]
      exact ⟨(hh (x, y) rfl).1, rfl⟩
    · rw [if_neg h2] at hi
      simp only [if_neg h2] at hh
      rw [if_neg (by omega)]
      exact hh z hi
theorem cd_sI {M : mm_} {c : List sv_} {a i : Nat} {v : Int32} (h : cd_ M c) (h1 : ¬ (a = 0 ∧ i = 12)) (h2 : a ≠ 2) : cd_ (sI_ M a i v) c := by
  refine ⟨by rw [sI_ne _ _ _ _ (fun z => h1 ⟨z.1.symm, z.2.symm⟩)]; exact h.1, fun j x hj => ?_⟩
  rw [sI_ne _ _ _ _ (fun z => h2 z.1.symm)]
  exact h.2 j x hj
theorem cd_sL {M : mm_} {c : List sv_} {a i : Nat} {v : Int64} (h : cd_ M c) (h2 : a ≠ 3) : cd_ (sL_ M a i v) c := by
  refine ⟨h.1, fun j x hj => ?_⟩
  rw [sL_ne _ _ _ _ (fun z => h2 z.1.symm)]
  exact h.2 j x hj
theorem cd_pu {M : mm_} {c : List sv_} {t : Int32} {v : Int64} (h : cd_ M c) : cd_ (pu_ M c.length t v) (c ++ [(t, v)]) := by
  refine ⟨by simp [pu_, sI_], fun i x hi => ?_⟩
  by_cases h1 : i < c.length
  · rw [List.getElem?_append_left h1] at hi
    have := h.2 i x hi
    simp only [pu_, gI_sI, gL_sI, gI_sL, gL_sL]
    rw [if_neg (by omega), if_neg (by omega), if_neg (by omega)]
    exact this
  · rw [List.getElem?_append_right (by omega)] at hi
    have h2 : i - c.length < 1 := (List.getElem?_eq_some_iff.mp hi).1
    obtain rfl : i = c.length := by omega
    rw [Nat.sub_self] at hi
    cases hi
    simp [pu_, gI_sI, gL_sI, gI_sL, gL_sL]
theorem od_cut {M : mm_} {o : List Nat} {x : Nat} (h : od_ M (o ++ [x])) : od_ (sI_ M 0 22 (nI o.length)) o := by
  refine ⟨by simp [sI_], fun i y hi => ?_⟩
  have h1 := (List.getElem?_eq_some_iff.mp hi).1
  rw [sI_ne _ _ _ _ (by omega)]
  exact h.2 i y (by rw [List.getElem?_append_left h1]; exact hi)
theorem od_new {M : mm_} {o : List Nat} {x y : Nat} (h : od_ M (o ++ [x])) : od_ (sI_ M 11 o.length (nI y)) (o ++ [y]) := by
  refine ⟨by rw [sI_ne _ _ _ _ (by omega), h.1]; simp, fun i z hi => ?_⟩
  by_cases h1 : i < o.length
  · rw [List.getElem?_append_left h1] at hi
    rw [sI_ne _ _ _ _ (by omega)]
    exact h.2 i z (by rw [List.getElem?_append_left h1]; exact hi)
  · rw [List.getElem?_append_right (by omega)] at hi
    have h2 : i - o.length < 1 := (List.getElem?_eq_some_iff.mp hi).1
    obtain rfl : i = o.length := by omega
    rw [Nat.sub_self] at hi
    cases hi
    rw [sI_at]
theorem od_op {M : mm_} {o : List Nat} {x : Nat} (h : od_ M o) : od_ (op_ M o.length (nI x)) (o ++ [x]) := by
  refine ⟨by simp [op_, sI_], fun i z hi => ?_⟩
  unfold op_
  by_cases h1 : i < o.length
  · rw [List.getElem?_append_left h1] at hi
    rw [sI_ne _ _ _ _ (by omega), sI_ne _ _ _ _ (by omega)]
    exact h.2 i z hi
  · rw [List.getElem?_append_right (by omega)] at hi
    have h2 : i - o.length < 1 := (List.getElem?_eq_some_iff.mp hi).1
    obtain rfl : i = o.length := by omega
    rw [Nat.sub_self] at hi
    cases hi
    rw [sI_ne _ _ _ _ (by omega), sI_at]
theorem od_sI {M : mm_} {o : List Nat} {a i : Nat} {v : Int32} (h : od_ M o) (h1 : ¬ (a = 0 ∧ i = 22)) (h2 : a ≠ 11) : od_ (sI_ M a i v) o := by
  refine ⟨by rw [sI_ne _ _ _ _ (fun z => h1 ⟨z.1.symm, z.2.symm⟩)]; exact h.1, fun j x hj => ?_⟩
  rw [sI_ne _ _ _ _ (fun z => h2 z.1.symm)]
  exact h.2 j x hj
theorem od_sL {M : mm_} {o : List Nat} {a i : Nat} {v : Int64} (h : od_ M o) : od_ (sL_ M a i v) o := h
theorem od_pu {M : mm_} {o : List Nat} {n : Nat} {t : Int32} {v : Int64} (h : od_ M o) : od_ (pu_ M n t v) o := od_sI (od_sL (od_sI h (by omega) (by omega))) (by omega) (by omega)
theorem wr_eq {M N : mm_} : ∀ {W : List fr_}, (∀ a i : Nat, (a = 7 ∨ a = 8 ∨ a = 9) → i < W.length → N.1 a i = M.1 a i) → (∀ i : Nat, i < W.length → N.2.1 10 i = M.2.1 10 i) → wr_ M W → wr_ N W
  | [], _, _, h => h
  | f :: r, h1, h2, h => by
    obtain ⟨g0, g1, g2, g3, g4, g5⟩ := h
    refine ⟨wr_eq (fun a i ha hi => h1 a i ha (by simp; omega)) (fun i hi => h2 i (by simp; omega)) g0, g1, ?_, ?_, ?_, fun z => ?_⟩
    · rw [h1 7 _ (Or.inl rfl) (by simp)]; exact g2
    · rw [h1 8 _ (Or.inr (Or.inl rfl)) (by simp)]; exact g3
    · rw [h1 9 _ (Or.inr (Or.inr rfl)) (by simp)]; exact g4
    · rw [h2 _ (by simp)]; exact g5 z
theorem wr_sI {M : mm_} {W : List fr_} {a i : Nat} {v : Int32} (h : wr_ M W) (hq : (a ≠ 7 ∧ a ≠ 8 ∧ a ≠ 9) ∨ W.length ≤ i) : wr_ (sI_ M a i v) W :=
  wr_eq (fun b j hb hj => sI_ne _ _ _ _ (fun z => by omega)) (fun _ _ => rfl) h
theorem wr_sL {M : mm_} {W : List fr_} {a i : Nat} {v : Int64} (h : wr_ M W) (hq : a ≠ 10 ∨ W.length ≤ i) : wr_ (sL_ M a i v) W :=
  wr_eq (M := M) (N := sL_ M a i v) (fun _ _ _ _ => rfl) (fun j hj => sL_ne _ _ _ _ (fun z => by omega)) h
theorem wr_pu {M : mm_} {W : List fr_} {n : Nat} {t : Int32} {v : Int64} (h : wr_ M W) : wr_ (pu_ M n t v) W := wr_sI (wr_sL (wr_sI h (Or.inl (by omega))) (Or.inl (by omega))) (Or.inl (by omega))
theorem tz_pu {M : mm_} {n m : Nat} {t : Int32} {v : Int64} (h : tz_ M n) : tz_ (pu_ M m t v) n := tz_sI (tz_sL (tz_sI h (by omega))) (by omega)
/-- a frame and the tree on its right become one -/
def rf_ (f : fr_) (e : Term) : Term := match f.1 with
  | 1 => .rem f.2.2.1 e
  | 2 => .mul f.2.2.1 (.div f.2.2.2.1 e)
  | 6 => if f.2.1 = 45 then .length e else .sum e
  | _ => .elem (.int f.2.1) (.add f.2.2.1 e)
end
section
/-! reduce, reduceTo over the parser's state -/
def ps2_ (M : mm_) (n k : Nat) (W : List fr_) (u : Option Term) (nd op : Nat) (N : mm_) : Prop := pr_ N n k W u nd op ∧ pf_ M N ∧ N.1 0 3 = M.1 0 3 ∧ N.1 0 4 = M.1 0 4
theorem pr_len {M : mm_} {n k nd op : Nat} {W : List fr_} {u : Option Term} (h : pr_ M n k W u nd op) : (cs_ W ++ cu_ u).length ≤ 40 ∧ W.length ≤ 32 := by
  obtain ⟨-, -, -, -, -, -, -, -, h1, h2, h3, h4, -⟩ := h
  have a := cs_le W
  have b := nw_len W
  have c : (cu_ u).length ≤ 2 * cn_ u := by cases u with
    | none => simp [cu_]
    | some e => exact tc_le e
  simp
  omega
theorem oa_len : ∀ (x : Term) (p : Nat), (oa_ p x).length = ac_ x
  | .add a r, p => by simp [oa_, ac_, oa_len r]
  | .arg _, _ | .int _, _ | .long _, _ | .null, _ | .index _, _ | .field _ _ _ _, _ | .static _ _ _, _ | .string _ _, _ | .mirror _, _ | .length _, _ | .elem _ _, _ | .sub _ _, _ | .mul _ _, _ | .div _ _, _ | .rem _ _, _ | .op2 _ _ _, _ | .op1 _ _, _ | .sum _, _ | .result, _ | .thrown, _ | .old _, _ => by simp [oa_, ac_]
theorem os_le {M : mm_} : ∀ {W : List fr_}, wr_ M W → (os_ W).length ≤ nw_ W
  | [], _ => by simp [os_]
  | f :: r, h => by
    have h0 := os_le h.1
    have h1 := h.2.1
    obtain ⟨k, c, a, b, x⟩ := f
    simp only [os_, nw_, List.length_append]
    have h2 : (ff_ (cs_ r).length (k, c, a, b, x)).length ≤ nf_ (k, c, a, b, x) := by
      have hk : k ≤ 8 := h1.1
      rcases (show k = 0 ∨ k = 1 ∨ k = 2 ∨ k = 3 ∨ k = 4 ∨ k = 5 ∨ k = 6 ∨ k = 7 ∨ k = 8 by omega) with rfl | rfl | rfl | rfl | rfl | rfl | rfl | rfl | rfl
      · simp [ff_, nf_]
      · simp [ff_, nf_]
      · simp [ff_, nf_]
      · simp [ff_, nf_]
      · simp [ff_, nf_]
      · simp [ff_, nf_]
      · simp [ff_, nf_]
      · simp [ff_, nf_]
      · have := (h1.2 rfl).2; simp [ff_, nf_, oa_len]; simp at this; omega
    omega
theorem pr_os {M : mm_} {n k nd op : Nat} {W : List fr_} {u : Option Term} (h : pr_ M n k W u nd op) : (os_ W).length ≤ 20 := by
  obtain ⟨-, -, -, -, hw, -, -, -, h1, h2, h3, h4, -⟩ := h
  have := os_le hw
  omega
theorem rf_nt {f : fr_} {e : Term} (h1 : 1 ≤ f.1) (h2 : f.1 ≤ 6) : nt_ (rf_ f e) = nf_ f + nt_ e := by
  obtain ⟨k, c, a, b, x⟩ := f
  have h1 : 1 ≤ k := h1
  have h2 : k ≤ 6 := h2
  rcases (show k = 1 ∨ k = 2 ∨ k = 3 ∨ k = 4 ∨ k = 5 ∨ k = 6 by omega) with rfl | rfl | rfl | rfl | rfl | rfl
  · simp [rf_, nf_, nt_]; omega
  · simp [rf_, nf_, nt_]; omega
  · simp [rf_, nf_, nt_]; omega
  · simp [rf_, nf_, nt_]; omega
  · simp [rf_, nf_, nt_]; omega
  · simp only [rf_, nf_]; split <;> simp [nt_] <;> omega
theorem rf_1 (c : Int32) (a b e : Term) (x : Int64) : rf_ (1, c, a, b, x) e = .rem a e := rfl
set_option maxRecDepth 100000 in
set_option maxHeartbeats 4000000 in
theorem c12_reduce (G : gg_) (hG : gd_ G) (d : Nat) (M : mm_) (n k nd op : Nat) (f : fr_) (r : List fr_) (e : Term) (h : pr_ M n k (f :: r) (some e) nd op) (h1 : 1 ≤ f.1) (h6 : f.1 ≤ 6) :
    cm_ G yX12_reduce cX12_reduce 4 none (d + 2) [.ref (G.1 0)] M (rV_ (ps2_ M n k r (some (rf_ f e)) nd op)) := by
  have hl := pr_len h
  have hlo := pr_os h
  have hnt := rf_nt (e := e) h1 h6
  obtain ⟨h0, h5, hc, h20, ⟨hw, -, hk7, hk8, hk9, -⟩, ho, h13, h23, hn, hn2, hop, hop2, hcq⟩ := h
  simp only [cu_, co_, cn_] at hc ho hn hl
  simp only [nw_] at hn
  simp only [List.length_cons] at h20
  have hl2 : r.length + 1 ≤ 32 := by simpa using hl.2
  have hl := hl.1
  have hqq : cq_ (some (rf_ f e)) := by show 1 ≤ nt_ (rf_ f e); rw [hnt]; have : 1 ≤ nt_ e := hcq; omega
  have hno : no_ r = op := by
    rw [← hop]
    simp only [no_]
    rw [if_neg (by omega)]
    rfl
  obtain ⟨kd, c, a, b, x⟩ := f
  have h1' : 1 ≤ kd := h1
  have h6' : kd ≤ 6 := h6
  have ho1 := ho.1
  have hc1 := hc.1
  rcases (show kd = 1 ∨ kd = 2 ∨ (kd = 3 ∨ kd = 4 ∨ kd = 5) ∨ kd = 6 by omega) with rfl | rfl | hb | rfl
  · -- HASH
    have el : cs_ ((1, c, a, b, x) :: r) ++ tc_ e = (cs_ r ++ (7, lN ((tc_ a).length + 1)) :: tc_ a) ++ (8, 0) :: tc_ e := by simp [cs_, fc_]
    have eq : fp_ (cs_ r).length (1, c, a, b, x) = (cs_ r ++ (7, lN ((tc_ a).length + 1)) :: tc_ a).length := by simp [fp_]; omega
    have eo : os_ ((1, c, a, b, x) :: r) ++ [(cs_ ((1, c, a, b, x) :: r)).length] = (os_ r ++ [(cs_ r).length]) ++ [(cs_ ((1, c, a, b, x) :: r)).length] := rfl
    rw [el] at hc hc1
    rw [eo] at ho ho1
    rw [eq] at hk8
    refine cm_post (c12_reduce_1 G hG d M r.length _ _ (os_ r ++ [(cs_ r).length]).length h20 hc1 (by rw [ho1]; simp) hk8 (by omega) (by rw [el] at hl; omega) (by simp [os_, ff_] at hlo; simp; omega) (by simp) (by rw [hk7]; rfl)) (fun v N hv => ?_)
    obtain ⟨rfl, rfl⟩ := hv
    refine ⟨rfl, ⟨tz_sI (tz_sL (tz_sI h0 (by omega))) (by omega), by simp [sI_, sL_, h5], ?_, by simp [sI_, sL_], wr_sI (wr_sL (wr_sI hw (Or.inl (by omega))) (Or.inl (by omega))) (Or.inl (by omega)), od_cut (od_sL (od_sI ho (by omega) (by omega))), by simp [sI_, sL_, h13], by simp [sI_, sL_, h23], by rw [cn_, hnt]; omega, hn2, hno, hop2, hqq⟩, pf_sI (pf_sL (pf_sI (pf_rf M) (by omega)) (by simp)) (by omega), by simp [sI_, sL_], by simp [sI_, sL_]⟩
    have hp := cd_patch (v := (nI ((cs_ r ++ (7, lN ((tc_ a).length + 1)) :: tc_ a ++ (8, 0) :: tc_ e).length - (cs_ r ++ (7, lN ((tc_ a).length + 1)) :: tc_ a).length - 1)).toInt64) (cd_sI (a := 0) (i := 20) (v := nI r.length) hc (by omega) (by omega))
    have e9 : (nI ((cs_ r ++ (7, lN ((tc_ a).length + 1)) :: tc_ a ++ (8, 0) :: tc_ e).length - (cs_ r ++ (7, lN ((tc_ a).length + 1)) :: tc_ a).length - 1)).toInt64 = lN (tc_ e).length := by
      rw [show (cs_ r ++ (7, lN ((tc_ a).length + 1)) :: tc_ a ++ (8, 0) :: tc_ e).length - (cs_ r ++ (7, lN ((tc_ a).length + 1)) :: tc_ a).length - 1 = (tc_ e).length by simp; omega]
      refine nI_l ?_
      rw [el] at hl
      simp at hl
      omega
    refine cd_sI ?_ (by omega) (by omega)
    rw [e9] at hp ⊢
    have e10 : cs_ r ++ cu_ (some (rf_ (1, c, a, b, x) e)) = (cs_ r ++ (7, lN ((tc_ a).length + 1)) :: tc_ a) ++ (8, lN (tc_ e).length) :: tc_ e := by simp [cu_, rf_, tc_]
    rw [e10]
    exact hp
  · -- ELSE
    have el : cs_ ((2, c, a, b, x) :: r) ++ tc_ e = (cs_ r ++ (tc_ a ++ (5, lN ((tc_ b).length + 1)) :: tc_ b)) ++ (6, 0) :: tc_ e := by simp [cs_, fc_]
    have eq : fp_ (cs_ r).length (2, c, a, b, x) = (cs_ r ++ (tc_ a ++ (5, lN ((tc_ b).length + 1)) :: tc_ b)).length := by simp [fp_]; omega
    have eo : os_ ((2, c, a, b, x) :: r) ++ [(cs_ ((2, c, a, b, x) :: r)).length] = os_ r ++ [(cs_ ((2, c, a, b, x) :: r)).length] := by simp [os_, ff_]
    have e9v : M.1 9 r.length = nI (cs_ r).length := hk9
    rw [el] at hc hc1 hl
    rw [eo] at ho ho1
    rw [eq] at hk8
    refine cm_post (c12_reduce_2 G hG d M r.length _ _ (os_ r).length h20 hc1 (by rw [ho1]; simp) hk8 (by omega) (by omega) (by simp [os_, ff_] at hlo; omega) (by simp) (by rw [hk7]; rfl)) (fun v N hv => ?_)
    obtain ⟨rfl, rfl⟩ := hv
    rw [e9v]
    refine ⟨rfl, ⟨tz_sI (tz_sL (tz_sI h0 (by omega))) (by omega), by simp [sI_, sL_, h5], ?_, by simp [sI_, sL_], wr_sI (wr_sL (wr_sI hw (Or.inl (by omega))) (Or.inl (by omega))) (Or.inl (by omega)), od_new (od_sL (od_sI ho (by omega) (by omega))), by simp [sI_, sL_, h13], by simp [sI_, sL_, h23], by rw [cn_, hnt]; omega, hn2, hno, hop2, hqq⟩, pf_sI (pf_sL (pf_sI (pf_rf M) (by omega)) (by simp)) (by omega), by simp [sI_, sL_], by simp [sI_, sL_]⟩
    have hp := cd_patch (v := (nI ((cs_ r ++ (tc_ a ++ (5, lN ((tc_ b).length + 1)) :: tc_ b) ++ (6, 0) :: tc_ e).length - (cs_ r ++ (tc_ a ++ (5, lN ((tc_ b).length + 1)) :: tc_ b)).length - 1)).toInt64) (cd_sI (a := 0) (i := 20) (v := nI r.length) hc (by omega) (by omega))
    have e9 : (nI ((cs_ r ++ (tc_ a ++ (5, lN ((tc_ b).length + 1)) :: tc_ b) ++ (6, 0) :: tc_ e).length - (cs_ r ++ (tc_ a ++ (5, lN ((tc_ b).length + 1)) :: tc_ b)).length - 1)).toInt64 = lN (tc_ e).length := by
      rw [show (cs_ r ++ (tc_ a ++ (5, lN ((tc_ b).length + 1)) :: tc_ b) ++ (6, 0) :: tc_ e).length - (cs_ r ++ (tc_ a ++ (5, lN ((tc_ b).length + 1)) :: tc_ b)).length - 1 = (tc_ e).length by simp; omega]
      refine nI_l ?_
      simp at hl
      omega
    refine cd_sI ?_ (by omega) (by omega)
    rw [e9] at hp ⊢
    have e10 : cs_ r ++ cu_ (some (rf_ (2, c, a, b, x) e)) = (cs_ r ++ (tc_ a ++ (5, lN ((tc_ b).length + 1)) :: tc_ b)) ++ (6, lN (tc_ e).length) :: tc_ e := by simp [cu_, rf_, tc_]
    rw [e10]
    exact hp
  · -- a sign between two
    have el : cs_ ((kd, c, a, b, x) :: r) = cs_ r ++ tc_ a := by rcases hb with rfl | rfl | rfl <;> simp [cs_, fc_]
    have eo : os_ ((kd, c, a, b, x) :: r) = os_ r ++ [(cs_ r).length] := by rcases hb with rfl | rfl | rfl <;> simp [os_, ff_]
    have e9v : M.1 9 r.length = c := by rw [hk9]; rcases hb with rfl | rfl | rfl <;> rfl
    have er : rf_ (kd, c, a, b, x) e = .elem (.int c) (.add a e) := by rcases hb with rfl | rfl | rfl <;> rfl
    have e7 : M.1 7 r.length = 3 ∨ M.1 7 r.length = 4 ∨ M.1 7 r.length = 5 := by rw [hk7]; rcases hb with rfl | rfl | rfl <;> simp <;> decide
    rw [el] at hc hc1 hl ho ho1
    rw [eo] at ho ho1 hlo
    refine cm_post (c12_reduce_b G hG d M r.length (fp_ (cs_ r).length (kd, c, a, b, x)) (cs_ r ++ tc_ a ++ tc_ e).length (os_ r ++ [(cs_ r).length]).length h20 hc1 (by rw [ho1]; simp) hk8 (by omega) (by omega) (by simp at hlo; simp; omega) e7) (fun v N hv => ?_)
    obtain ⟨rfl, rfl⟩ := hv
    rw [e9v]
    refine ⟨rfl, ⟨tz_sI (tz_pu (tz_sI h0 (by omega))) (by omega), by simp [pu_, sI_, sL_, h5], ?_, by simp [pu_, sI_, sL_], wr_sI (wr_pu (wr_sI hw (Or.inl (by omega)))) (Or.inl (by omega)), od_cut (od_pu (od_sI ho (by omega) (by omega))), by simp [pu_, sI_, sL_, h13], by simp [pu_, sI_, sL_, h23], by rw [cn_, hnt]; omega, hn2, hno, hop2, hqq⟩, pf_sI (pf_pu (pf_sI (pf_rf M) (by omega))) (by omega), by simp [pu_, sI_, sL_], by simp [pu_, sI_, sL_]⟩
    refine cd_sI ?_ (by omega) (by omega)
    have hp := cd_pu (t := 2) (v := c.toInt64) (cd_sI (a := 0) (i := 20) (v := nI r.length) hc (by omega) (by omega))
    rw [er]
    have e10 : cs_ r ++ cu_ (some (.elem (.int c) (.add a e))) = cs_ r ++ tc_ a ++ tc_ e ++ [(2, c.toInt64)] := by simp [cu_, tc_, sg_]
    rw [e10]
    exact hp
  · -- in front of one
    have el : cs_ ((6, c, a, b, x) :: r) = cs_ r := by simp [cs_, fc_]
    have eo : os_ ((6, c, a, b, x) :: r) = os_ r := by simp [os_, ff_]
    have e9v : M.1 9 r.length = c := hk9
    rw [el] at hc hc1 hl ho ho1
    rw [eo] at ho ho1 hlo
    refine cm_post (c12_reduce_6 G hG d M r.length (fp_ (cs_ r).length (6, c, a, b, x)) (cs_ r ++ tc_ e).length (os_ r).length h20 hc1 (by rw [ho1]; simp) hk8 (by omega) (by omega) (by omega) (by rw [hk7]; rfl)) (fun v N hv => ?_)
    obtain ⟨rfl, rfl⟩ := hv
    rw [e9v]
    refine ⟨rfl, ⟨tz_pu (tz_sI h0 (by omega)), by simp [pu_, sI_, sL_, h5], ?_, by simp [pu_, sI_, sL_], wr_pu (wr_sI hw (Or.inl (by omega))), od_pu (od_sI ho (by omega) (by omega)), by simp [pu_, sI_, sL_, h13], by simp [pu_, sI_, sL_, h23], by rw [cn_, hnt]; omega, hn2, hno, hop2, hqq⟩, pf_pu (pf_sI (pf_rf M) (by omega)), by simp [pu_, sI_, sL_], by simp [pu_, sI_, sL_]⟩
    have hp := cd_pu (t := if c = 45 then 3 else 4) (v := 0) (cd_sI (a := 0) (i := 20) (v := nI r.length) hc (by omega) (by omega))
    have e10 : cs_ r ++ cu_ (some (rf_ (6, c, a, b, x) e)) = cs_ r ++ tc_ e ++ [(if c = 45 then 3 else 4, 0)] := by
      simp only [cu_, rf_]
      split <;> simp [tc_]
    rw [e10]
    exact hp
end
section
/-- frames of level L and closer, up to 6, are put together -/
def rt_ (L : Nat) : List fr_ → Term → List fr_ × Term
  | [], e => ([], e)
  | f :: r, e => if L ≤ f.1 ∧ f.1 ≤ 6 then rt_ L r (rf_ f e) else (f :: r, e)
theorem ps2_tr {M N : mm_} {n k nd op n2 k2 nd2 op2 : Nat} {W W2 : List fr_} {u u2 : Option Term} {O : mm_} (h1 : ps2_ M n k W u nd op N) (h2 : ps2_ N n2 k2 W2 u2 nd2 op2 O) : ps2_ M n2 k2 W2 u2 nd2 op2 O := ⟨h2.1, pf_tr h1.2.1 h2.2.1, h2.2.2.1.trans h1.2.2.1, h2.2.2.2.trans h1.2.2.2⟩
theorem ps2_rf {M : mm_} {n k nd op : Nat} {W : List fr_} {u : Option Term} (h : pr_ M n k W u nd op) : ps2_ M n k W u nd op M := ⟨h, pf_rf M, rfl, rfl⟩
set_option maxRecDepth 100000 in
set_option maxHeartbeats 4000000 in
theorem c12_reduceTo (G : gg_) (hG : gd_ G) (d : Nat) (M : mm_) (n k nd op L : Nat) (hL : 1 ≤ L) (hL2 : L ≤ 8) (W : List fr_) (e : Term) (h : pr_ M n k W (some e) nd op) : cm_ G yX12_reduceTo cX12_reduceTo 2 none (d + 3) [.ref (G.1 0), .int (nI L)] M (rV_ (ps2_ M n k (rt_ L W e).1 (some (rt_ L W e).2) nd op)) := by
  refine cm_of hG (by decide) (Nat.le_of_ble_eq_true rfl) (fun C X => ?_)
  have lp : ∀ (V : List fr_) (t : Term) (N : mm_), ps2_ M n k V (some t) nd op N → rt_ L W e = rt_ L V t → wq_ C G (qe_ C G (rV_ (ps2_ M n k (rt_ L W e).1 (some (rt_ L W e).2) nd op))) 0 [some (.ref (G.1 0)), some (.int (nI L))] [] N := by
    intro V
    induction V with
    | nil =>
      intro t N hN hr
      have h20 : N.1 0 20 = nI 0 := hN.1.2.2.2.1
      refine w_aload_n X dX12_reduceTo_0 rfl rfl ?_
      refine g12_waiting X dX12_reduceTo_1 ?_
      try simp only [gI_sI, gI_sL, gL_sI, gL_sL, false_and, and_false, and_self, if_false, if_true, reduceIte, Nat.reduceEqDiff, h20]
      refine w_if_le (tgt := 45) X dX12_reduceTo_4 (by decide) (fun h4 => ?_) (fun h4 => absurd (by decide) h4)
      exact w_vrR X dX12_reduceTo_45 (by rw [hr]; exact hN)
    | cons f r ih =>
      intro t N hN hr
      have h20 : N.1 0 20 = nI (r.length + 1) := by have := hN.1.2.2.2.1; simpa using this
      have hle := (pr_len hN.1).2
      simp only [List.length_cons] at hle
      have hk7 : N.1 7 r.length = nI f.1 := hN.1.2.2.2.2.1.2.2.1
      have hf8 : f.1 ≤ 8 := hN.1.2.2.2.2.1.2.1.1
      refine w_aload_n X dX12_reduceTo_0 rfl rfl ?_
      refine g12_waiting X dX12_reduceTo_1 ?_
      try simp only [gI_sI, gI_sL, gL_sI, gL_sL, false_and, and_false, and_self, if_false, if_true, reduceIte, Nat.reduceEqDiff, h20, hk7]
      refine w_if_le (tgt := 45) X dX12_reduceTo_4 (by decide) (fun h4 => absurd h4 (nI_nle (by omega) (by omega))) (fun h4 => ?_)
      refine w_aload_n X dX12_reduceTo_7 rfl rfl ?_
      refine g12_waits X dX12_reduceTo_8 ?_
      refine w_aload_n X dX12_reduceTo_11 rfl rfl ?_
      refine g12_waiting X dX12_reduceTo_12 ?_
      try simp only [gI_sI, gI_sL, gL_sI, gL_sL, false_and, and_false, and_self, if_false, if_true, reduceIte, Nat.reduceEqDiff, h20, hk7]
      refine w_iconst (v := 1) X dX12_reduceTo_15 (by decide) ?_
      refine w_isub X dX12_reduceTo_16 ?_
      rw [nI_s1]
      refine w_ialoadN X dX12_reduceTo_17 rfl rfl (by omega) ?_
      try simp only [gI_sI, gI_sL, gL_sI, gL_sL, false_and, and_false, and_self, if_false, if_true, reduceIte, Nat.reduceEqDiff, h20, hk7]
      refine w_iload_n X dX12_reduceTo_18 rfl rfl ?_
      refine w_icmp_lt (tgt := 45) X dX12_reduceTo_19 (by decide) (fun h19 => ?_) (fun h19 => ?_)
      · have e19 : f.1 < L := (nI_ltI (by omega) (by omega)).mp h19
        refine w_vrR X dX12_reduceTo_45 ?_
        rw [hr]
        simp only [rt_]
        rw [if_neg (by omega)]
        exact hN
      · have e19 : L ≤ f.1 := Nat.not_lt.mp (fun q => h19 (nI_lt q (by omega)))
        refine w_aload_n X dX12_reduceTo_22 rfl rfl ?_
        refine g12_waits X dX12_reduceTo_23 ?_
        refine w_aload_n X dX12_reduceTo_26 rfl rfl ?_
        refine g12_waiting X dX12_reduceTo_27 ?_
        try simp only [gI_sI, gI_sL, gL_sI, gL_sL, false_and, and_false, and_self, if_false, if_true, reduceIte, Nat.reduceEqDiff, h20, hk7]
        refine w_iconst (v := 1) X dX12_reduceTo_30 (by decide) ?_
        refine w_isub X dX12_reduceTo_31 ?_
        rw [nI_s1]
        refine w_ialoadN X dX12_reduceTo_32 rfl rfl (by omega) ?_
        try simp only [gI_sI, gI_sL, gL_sI, gL_sL, false_and, and_false, and_self, if_false, if_true, reduceIte, Nat.reduceEqDiff, h20, hk7]
        refine w_bipush (v := 6) X dX12_reduceTo_33 (by decide) ?_
        refine w_icmp_gt (tgt := 45) X dX12_reduceTo_35 (by decide) (fun h35 => ?_) (fun h35 => ?_)
        · have e35 : 6 < f.1 := (nI_ltI (a := 6) (by omega) (by omega)).mp h35
          refine w_vrR X dX12_reduceTo_45 ?_
          rw [hr]
          simp only [rt_]
          rw [if_neg (by omega)]
          exact hN
        · have e35 : f.1 ≤ 6 := Nat.not_lt.mp (fun q => h35 (nI_lt (a := 6) q (by omega)))
          refine w_aload_n X dX12_reduceTo_38 rfl rfl ?_
          refine w_v0rV X dX12_reduceTo_39 k12_reduce rfl rfl (c12_reduce G hG _ N n k nd op f r t hN.1 (by omega) e35) (Nat.le_of_ble_eq_true rfl) (fun N39 h39 => ?_)
          refine w_goto (tgt := 0) X dX12_reduceTo_42 (by decide) ?_
          refine ih (rf_ f t) N39 (ps2_tr hN h39) ?_
          rw [hr]
          simp only [rt_]
          rw [if_pos ⟨e19, e35⟩]
  exact lp W e M (ps2_rf h) rfl
set_option maxRecDepth 100000 in
set_option maxHeartbeats 4000000 in
theorem c12_reduceTo_0 (G : gg_) (hG : gd_ G) (d : Nat) (M : mm_) (n k nd op L : Nat) (hL : 1 ≤ L) (hL2 : L ≤ 8) (W : List fr_) (u : Option Term) (hW : W = [] ∨ ∃ f r, W = f :: r ∧ (f.1 = 0 ∨ 7 ≤ f.1)) (h : pr_ M n k W u nd op) : cm_ G yX12_reduceTo cX12_reduceTo 2 none (d + 3) [.ref (G.1 0), .int (nI L)] M (fV_ M) := by
  refine cm_of hG (by decide) (Nat.le_of_ble_eq_true rfl) (fun C X => ?_)
  rcases hW with rfl | ⟨f, r, rfl, hf⟩
  · have h20 : M.1 0 20 = nI 0 := h.2.2.2.1
    refine w_aload_n X dX12_reduceTo_0 rfl rfl ?_
    refine g12_waiting X dX12_reduceTo_1 ?_
    try simp only [gI_sI, gI_sL, gL_sI, gL_sL, false_and, and_false, and_self, if_false, if_true, reduceIte, Nat.reduceEqDiff, h20]
    refine w_if_le (tgt := 45) X dX12_reduceTo_4 (by decide) (fun h4 => ?_) (fun h4 => absurd (by decide) h4)
    exact w_vrF X dX12_reduceTo_45 rfl
  · have h20 : M.1 0 20 = nI (r.length + 1) := by have := h.2.2.2.1; simpa using this
    have hle := (pr_len h).2
    simp only [List.length_cons] at hle
    have hk7 : M.1 7 r.length = nI f.1 := h.2.2.2.2.1.2.2.1
    have hf8 : f.1 ≤ 8 := h.2.2.2.2.1.2.1.1
    refine w_aload_n X dX12_reduceTo_0 rfl rfl ?_
    refine g12_waiting X dX12_reduceTo_1 ?_
    try simp only [gI_sI, gI_sL, gL_sI, gL_sL, false_and, and_false, and_self, if_false, if_true, reduceIte, Nat.reduceEqDiff, h20, hk7]
    refine w_if_le (tgt := 45) X dX12_reduceTo_4 (by decide) (fun h4 => absurd h4 (nI_nle (by omega) (by omega))) (fun h4 => ?_)
    refine w_aload_n X dX12_reduceTo_7 rfl rfl ?_
    refine g12_waits X dX12_reduceTo_8 ?_
    refine w_aload_n X dX12_reduceTo_11 rfl rfl ?_
    refine g12_waiting X dX12_reduceTo_12 ?_
    try simp only [gI_sI, gI_sL, gL_sI, gL_sL, false_and, and_false, and_self, if_false, if_true, reduceIte, Nat.reduceEqDiff, h20, hk7]
    refine w_iconst (v := 1) X dX12_reduceTo_15 (by decide) ?_
    refine w_isub X dX12_reduceTo_16 ?_
    rw [nI_s1]
    refine w_ialoadN X dX12_reduceTo_17 rfl rfl (by omega) ?_
    try simp only [gI_sI, gI_sL, gL_sI, gL_sL, false_and, and_false, and_self, if_false, if_true, reduceIte, Nat.reduceEqDiff, h20, hk7]
    refine w_iload_n X dX12_reduceTo_18 rfl rfl ?_
    refine w_icmp_lt (tgt := 45) X dX12_reduceTo_19 (by decide) (fun h19 => ?_) (fun h19 => ?_)
    · exact w_vrF X dX12_reduceTo_45 rfl
    · have e19 : L ≤ f.1 := Nat.not_lt.mp (fun q => h19 (nI_lt q (by omega)))
      refine w_aload_n X dX12_reduceTo_22 rfl rfl ?_
      refine g12_waits X dX12_reduceTo_23 ?_
      refine w_aload_n X dX12_reduceTo_26 rfl rfl ?_
      refine g12_waiting X dX12_reduceTo_27 ?_
      try simp only [gI_sI, gI_sL, gL_sI, gL_sL, false_and, and_false, and_self, if_false, if_true, reduceIte, Nat.reduceEqDiff, h20, hk7]
      refine w_iconst (v := 1) X dX12_reduceTo_30 (by decide) ?_
      refine w_isub X dX12_reduceTo_31 ?_
      rw [nI_s1]
      refine w_ialoadN X dX12_reduceTo_32 rfl rfl (by omega) ?_
      try simp only [gI_sI, gI_sL, gL_sI, gL_sL, false_and, and_false, and_self, if_false, if_true, reduceIte, Nat.reduceEqDiff, h20, hk7]
      refine w_bipush (v := 6) X dX12_reduceTo_33 (by decide) ?_
      refine w_icmp_gt (tgt := 45) X dX12_reduceTo_35 (by decide) (fun h35 => ?_) (fun h35 => absurd (nI_lt (a := 6) (by omega) (by omega)) h35)
      exact w_vrF X dX12_reduceTo_45 rfl
set_option maxRecDepth 100000 in
set_option maxHeartbeats 4000000 in
theorem c12_reduceAll (G : gg_) (hG : gd_ G) (d : Nat) (M : mm_) (n k nd op : Nat) (W : List fr_) (e : Term) (h : pr_ M n k W (some e) nd op) : cm_ G yX12_reduceAll cX12_reduceAll 1 none (d + 4) [.ref (G.1 0)] M (rV_ (ps2_ M n k (rt_ 1 W e).1 (some (rt_ 1 W e).2) nd op)) := by
  refine cm_of hG (by decide) (Nat.le_of_ble_eq_true rfl) (fun C X => ?_)
  refine w_aload_n X dX12_reduceAll_0 rfl rfl ?_
  refine w_iconst (v := 1) X dX12_reduceAll_1 (by decide) ?_
  refine w_v1rV X dX12_reduceAll_2 k12_reduceTo rfl rfl (c12_reduceTo G hG _ M n k nd op 1 (by omega) (by omega) W e h) (Nat.le_of_ble_eq_true rfl) (fun N2 h2 => ?_)
  exact w_vrR X dX12_reduceAll_5 h2
set_option maxRecDepth 100000 in
set_option maxHeartbeats 4000000 in
theorem c12_reduceAll_0 (G : gg_) (hG : gd_ G) (d : Nat) (M : mm_) (n k nd op : Nat) (W : List fr_) (u : Option Term) (hW : W = [] ∨ ∃ f r, W = f :: r ∧ (f.1 = 0 ∨ 7 ≤ f.1)) (h : pr_ M n k W u nd op) : cm_ G yX12_reduceAll cX12_reduceAll 1 none (d + 4) [.ref (G.1 0)] M (fV_ M) := by
  refine cm_of hG (by decide) (Nat.le_of_ble_eq_true rfl) (fun C X => ?_)
  refine w_aload_n X dX12_reduceAll_0 rfl rfl ?_
  refine w_iconst (v := 1) X dX12_reduceAll_1 (by decide) ?_
  refine w_v1fV X dX12_reduceAll_2 k12_reduceTo rfl rfl (c12_reduceTo_0 G hG _ M n k nd op 1 (by omega) (by omega) W u hW h) (Nat.le_of_ble_eq_true rfl) ?_
  exact w_vrF X dX12_reduceAll_5 rfl
end
section
/-! signs of the parser: what they do to the stack of frames, or the fault that they meet -/
abbrev ss_ : Type := Nat × List fr_ × Option Term × Nat × Nat
def px_ (M : mm_) (n : Nat) : ss_ ⊕ (Int32 × Nat) → mm_ → Prop
  | .inl (k, W, u, nd, op), N => pf_ M N ∧ pr_ N n k W u nd op ∧ N.1 0 3 = 0
  | .inr (f, w), N => pf_ M N ∧ N.1 0 3 = f ∧ N.1 0 4 = nI w
theorem pf_fa {M N : mm_} {f w : Int32} (h : pf_ M N) : pf_ M (fa_ N f w) := by
  unfold fa_
  split
  · exact pf_sI (pf_sI h (by omega)) (by omega)
  · exact h
theorem px_fa {M N : mm_} {n w : Nat} {f : Int32} (h : pf_ M N) (h0 : N.1 0 3 = 0) : px_ M n (.inr (f, w)) (fa_ N f (nI w)) := by
  refine ⟨pf_fa h, ?_, ?_⟩
  · rw [fa_0 h0]; simp [sI_]
  · rw [fa_0 h0]; simp [sI_]
def tp_ : List fr_ → Int32
  | [] => -1
  | f :: _ => nI f.1
theorem la_pr {M : mm_} {n k nd op : Nat} {W : List fr_} {u : Option Term} (h : pr_ M n k W u nd op) : la_ M W.length = tp_ W := by
  have hw := h.2.2.2.2.1
  cases W with
  | nil => rfl
  | cons f r =>
    unfold la_ tp_
    simp only [List.length_cons, Nat.add_sub_cancel]
    rw [if_neg (by omega)]
    exact hw.2.2.1
theorem tp_3 {W : List fr_} {k : Nat} (hk : k ≤ 8) (hW : ∀ f ∈ W, f.1 ≤ 8) : tp_ W = nI k ↔ ∃ f r, W = f :: r ∧ f.1 = k := by
  cases W with
  | nil =>
    constructor
    · intro q
      have : (nI k).toInt = -1 := by rw [← q]; rfl
      rw [nI_toInt (by omega)] at this
      omega
    · rintro ⟨f, r, q, -⟩; cases q
  | cons f r =>
    have h8 := hW f List.mem_cons_self
    constructor
    · intro q; exact ⟨f, r, rfl, (nI_eq (by omega) (by omega)).mp q⟩
    · rintro ⟨f', r', q, e⟩; cases q; rw [← e]; rfl
theorem wr_8 {M : mm_} : ∀ {W : List fr_}, wr_ M W → ∀ f ∈ W, f.1 ≤ 8
  | [], _, f, h => by cases h
  | g :: r, hw, f, h => by
    rcases List.mem_cons.mp h with rfl | h
    · exact hw.2.1.1
    · exact wr_8 hw.1 f h
/-- a frame more, with 'wait' -/
theorem pr_wait {N : mm_} {n k nd op : Nat} {W : List fr_} {e : Term} (L : Nat) (c : Int32) (h : pr_ N n k W (some e) nd op) (hL : L = 3 ∨ L = 4 ∨ L = 5) (hn : nd < 20) : pr_ (sI_ (wa_ (sI_ N 0 13 (nI (nd + 1))) W.length (nI L) 0 c) 0 5 (nI (k + 1))) n (k + 1) ((L, c, e, .null, 0) :: W) none (nd + 1) op := by
  have hl := pr_len h
  obtain ⟨h0, h5, hc, h20, hw, ho, h13, h23, hn1, hn2, hop, hop2, hcq⟩ := h
  have e1 : cs_ ((L, c, e, .null, 0) :: W) ++ cu_ none = cs_ W ++ cu_ (some e) := by rcases hL with rfl | rfl | rfl <;> simp [cs_, fc_, cu_]
  have e2 : os_ ((L, c, e, .null, 0) :: W) ++ co_ (cs_ ((L, c, e, .null, 0) :: W)).length none = os_ W ++ co_ (cs_ W).length (some e) := by rcases hL with rfl | rfl | rfl <;> simp [os_, ff_, co_]
  unfold wa_
  refine ⟨?_, by simp [sI_], ?_, by simp [sI_], ?_, ?_, by simp [sI_], by simp [sI_, h23], ?_, by omega, ?_, hop2, trivial⟩
  · exact tz_sI (tz_sI (tz_sI (tz_sI (tz_sI (tz_sI h0 (by omega)) (by omega)) (by omega)) (by omega)) (by omega)) (by omega)
  · rw [e1]
    exact cd_sI (cd_sI (cd_sI (cd_sI (cd_sI (cd_sI hc (by omega) (by omega)) (by omega) (by omega)) (by omega) (by omega)) (by omega) (by omega)) (by omega) (by omega)) (by omega) (by omega)
  · refine ⟨wr_sI (wr_sI (wr_sI (wr_sI (wr_sI (wr_sI hw (Or.inl (by omega))) (Or.inr (by omega))) (Or.inr (by omega))) (Or.inr (by omega))) (Or.inl (by omega))) (Or.inl (by omega)), ⟨by rcases hL with rfl | rfl | rfl <;> simp, fun q => by exfalso; simp only at q; omega⟩, by simp [sI_], ?_, ?_, fun q => by exfalso; simp only at q; omega⟩
    · rcases hL with rfl | rfl | rfl <;> simp [sI_, fp_] <;> rfl
    · rcases hL with rfl | rfl | rfl <;> simp [sI_, fu_]
  · rw [e2]
    exact od_sI (od_sI (od_sI (od_sI (od_sI (od_sI ho (by omega) (by omega)) (by omega) (by omega)) (by omega) (by omega)) (by omega) (by omega)) (by omega) (by omega)) (by omega) (by omega)
  · simp only [nw_, cn_] at hn1 ⊢
    rcases hL with rfl | rfl | rfl <;> simp [nf_] <;> omega
  · simp only [no_]
    rw [if_neg (by rcases hL with rfl | rfl | rfl <;> simp)]
    simpa using hop
def bt_ (L : Nat) (c : Int32) (k : Nat) (W : List fr_) (e : Term) (nd op : Nat) : ss_ ⊕ (Int32 × Nat) :=
  if L = 3 ∧ tp_ (rt_ (if L = 3 then 4 else L) W e).1 = 3 then .inr (1, k) else if nd = 20 then .inr (3, k) else .inl (k + 1, (L, c, (rt_ (if L = 3 then 4 else L) W e).2, .null, 0) :: (rt_ (if L = 3 then 4 else L) W e).1, none, nd + 1, op)
set_option maxRecDepth 100000 in
set_option maxHeartbeats 4000000 in
theorem c12_between (G : gg_) (hG : gd_ G) (d : Nat) (M : mm_) (n k nd op L : Nat) (c : Int32) (W : List fr_) (e : Term) (h : pr_ M n k W (some e) nd op) (hf : M.1 0 3 = 0) (hL : L = 3 ∨ L = 4 ∨ L = 5) : cm_ G yX12_between cX12_between 3 none (d + 4) [.ref (G.1 0), .int (nI L), .int c] M (rV_ (px_ M n (bt_ L c k W e nd op))) := by
  refine cm_of hG (by decide) (Nat.le_of_ble_eq_true rfl) (fun C X => ?_)
  have j33 : ∀ N : mm_, ps2_ M n k (rt_ (if L = 3 then 4 else L) W e).1 (some (rt_ (if L = 3 then 4 else L) W e).2) nd op N → ¬ (L = 3 ∧ tp_ (rt_ (if L = 3 then 4 else L) W e).1 = 3) → wq_ C G (qe_ C G (rV_ (px_ M n (bt_ L c k W e nd op)))) 33 [some (.ref (G.1 0)), some (.int (nI L)), some (.int c)] [] N := by
    intro N hN hq
    have hbt : bt_ L c k W e nd op = _ := if_neg hq
    generalize (rt_ (if L = 3 then 4 else L) W e).1 = V at hN hbt
    generalize (rt_ (if L = 3 then 4 else L) W e).2 = t at hN hbt
    have hle := (pr_len hN.1).2
    have h5 := hN.1.2.1
    have h20 := hN.1.2.2.2.1
    have h13 := hN.1.2.2.2.2.2.2.1
    have hnd := hN.1.2.2.2.2.2.2.2.2.2.1
    have hf3 : N.1 0 3 = 0 := hN.2.2.1.trans hf
    by_cases hd20 : nd = 20
    · have e20 : N.1 0 13 = 20 := by rw [h13, hd20]; rfl
      refine w_aload_n X dX12_between_33 rfl rfl ?_
      refine w_aload_n X dX12_between_34 rfl rfl ?_
      refine g12_at X dX12_between_35 ?_
      try simp only [gI_sI, gI_sL, gL_sI, gL_sL, false_and, and_false, and_self, if_false, if_true, reduceIte, Nat.reduceEqDiff, h5, h13]
      refine w_v1fI X dX12_between_38 k12_count rfl rfl (c12_count G hG _ _ _) (Nat.le_of_ble_eq_true rfl) ?_
      refine w_if_eq (tgt := 61) X dX12_between_41 (by decide) (fun h41 => ?_) (fun h41 => absurd (if_pos e20) h41)
      refine w_vrR X dX12_between_61 ?_
      rw [hbt, if_pos hd20, if_pos e20]
      exact px_fa hN.2.1 hf3
    · have e20 : ¬ N.1 0 13 = 20 := fun q => hd20 ((nI_eq (b := 20) (by omega) (by omega)).mp (h13.symm.trans q))
      refine w_aload_n X dX12_between_33 rfl rfl ?_
      refine w_aload_n X dX12_between_34 rfl rfl ?_
      refine g12_at X dX12_between_35 ?_
      try simp only [gI_sI, gI_sL, gL_sI, gL_sL, false_and, and_false, and_self, if_false, if_true, reduceIte, Nat.reduceEqDiff, h5, h13]
      refine w_v1fI X dX12_between_38 k12_count rfl rfl (c12_count G hG _ _ _) (Nat.le_of_ble_eq_true rfl) ?_
      rw [if_neg e20, if_neg e20]
      simp only [h13, nI_1]
      refine w_if_eq (tgt := 61) X dX12_between_41 (by decide) (fun h41 => absurd h41 (by decide)) (fun h41 => ?_)
      refine w_aload_n X dX12_between_44 rfl rfl ?_
      refine w_iload_n X dX12_between_45 rfl rfl ?_
      refine w_iconst (v := 0) X dX12_between_46 (by decide) ?_
      refine w_iload_n X dX12_between_47 rfl rfl ?_
      refine w_v3fV X dX12_between_48 k12_wait rfl rfl (c12_wait G hG _ _ V.length (by simp [sI_, h20]) (by omega) _ _ _) (Nat.le_of_ble_eq_true rfl) ?_
      refine w_aload_n X dX12_between_51 rfl rfl ?_
      refine w_dup X dX12_between_52 rfl ?_
      refine g12_at X dX12_between_53 ?_
      try simp only [gI_sI, gI_sL, gL_sI, gL_sL, false_and, and_false, and_self, if_false, if_true, reduceIte, Nat.reduceEqDiff, h5, h13]
      refine w_iconst (v := 1) X dX12_between_56 (by decide) ?_
      refine w_iadd X dX12_between_57 ?_
      rw [show (wa_ (sI_ N 0 13 (nI (nd + 1))) V.length (nI L) 0 c).1 0 5 = nI k by simp [wa_, sI_, h5], nI_1]
      refine p12_at X dX12_between_58 ?_
      refine w_vrR X dX12_between_61 ?_
      rw [hbt, if_neg hd20]
      exact ⟨pf_sI (pf_sI (pf_sI (pf_sI (pf_sI (pf_sI hN.2.1 (by omega)) (by omega)) (by omega)) (by omega)) (by omega)) (by omega), pr_wait L c hN.1 hL (by omega), by simp [wa_, sI_, hf3]⟩
  by_cases h3 : L = 3
  · have e4 : (if L = 3 then 4 else L) = 4 := if_pos h3
    refine w_iload_n X dX12_between_0 rfl rfl ?_
    refine w_iconst (v := 3) X dX12_between_1 (by decide) ?_
    refine w_icmp_ne (tgt := 28) X dX12_between_2 (by decide) (fun h2 => absurd (by rw [h3]; rfl) h2) (fun h2 => ?_)
    refine w_aload_n X dX12_between_5 rfl rfl ?_
    refine w_iconst (v := 4) X dX12_between_6 (by decide) ?_
    refine w_v1rV X dX12_between_7 k12_reduceTo rfl rfl (c12_reduceTo G hG _ M n k nd op 4 (by omega) (by omega) W e h) (Nat.le_of_ble_eq_true rfl) (fun N7 h7 => ?_)
    rw [← e4] at h7
    have hle := (pr_len h7.1).2
    have h20 := h7.1.2.2.2.1
    have h5 := h7.1.2.1
    have hf3 : N7.1 0 3 = 0 := h7.2.2.1.trans hf
    refine w_aload_n X dX12_between_10 rfl rfl ?_
    refine w_v0fI X dX12_between_11 k12_last rfl rfl (c12_last G hG _ _ _ h20 (by omega)) (Nat.le_of_ble_eq_true rfl) ?_
    rw [la_pr h7.1]
    refine w_iconst (v := 3) X dX12_between_14 (by decide) ?_
    refine w_icmp_ne (tgt := 33) X dX12_between_15 (by decide) (fun h15 => ?_) (fun h15 => ?_)
    · exact j33 N7 h7 (fun q => h15 q.2)
    · refine w_aload_n X dX12_between_18 rfl rfl ?_
      refine w_iconst (v := 1) X dX12_between_19 (by decide) ?_
      refine w_aload_n X dX12_between_20 rfl rfl ?_
      refine g12_at X dX12_between_21 ?_
      try simp only [gI_sI, gI_sL, gL_sI, gL_sL, false_and, and_false, and_self, if_false, if_true, reduceIte, Nat.reduceEqDiff]
      rw [h5]
      refine w_v2fV X dX12_between_24 k12_fail rfl rfl (c12_fail G hG _ _ _ _) (Nat.le_of_ble_eq_true rfl) ?_
      refine w_vrR X dX12_between_27 ?_
      have hbt : bt_ L c k W e nd op = _ := if_pos ⟨h3, h15⟩
      rw [hbt]
      exact px_fa h7.2.1 hf3
  · have e4 : (if L = 3 then 4 else L) = L := if_neg h3
    refine w_iload_n X dX12_between_0 rfl rfl ?_
    refine w_iconst (v := 3) X dX12_between_1 (by decide) ?_
    refine w_icmp_ne (tgt := 28) X dX12_between_2 (by decide) (fun h2 => ?_) (fun h2 => absurd h2 (fun q => h3 ((nI_eq (b := 3) (by omega) (by omega)).mp q)))
    refine w_aload_n X dX12_between_28 rfl rfl ?_
    refine w_iload_n X dX12_between_29 rfl rfl ?_
    refine w_v1rV X dX12_between_30 k12_reduceTo rfl rfl (c12_reduceTo G hG _ M n k nd op L (by omega) (by omega) W e h) (Nat.le_of_ble_eq_true rfl) (fun N30 h30 => ?_)
    rw [← e4] at h30
    exact j33 N30 h30 (fun q => h3 q.1)
end
section
theorem gI_wa (M : mm_) (n : Nat) (a b c : Int32) (x j : Nat) : (wa_ M n a b c).1 x j = if x = 0 ∧ j = 20 then nI (n + 1) else if x = 9 ∧ j = n then c else if x = 8 ∧ j = n then b else if x = 7 ∧ j = n then a else M.1 x j := rfl
theorem gL_wa (M : mm_) (n : Nat) (a b c : Int32) (x j : Nat) : (wa_ M n a b c).2.1 x j = M.2.1 x j := rfl
theorem gI_pu (M : mm_) (n : Nat) (t : Int32) (v : Int64) (x j : Nat) : (pu_ M n t v).1 x j = if x = 0 ∧ j = 12 then nI (n + 1) else if x = 2 ∧ j = 2048 + n then t else M.1 x j := rfl
theorem gL_pu (M : mm_) (n : Nat) (t : Int32) (v : Int64) (x j : Nat) : (pu_ M n t v).2.1 x j = if x = 3 ∧ j = 2048 + n then v else M.2.1 x j := rfl
theorem gI_op (M : mm_) (n : Nat) (a : Int32) (x j : Nat) : (op_ M n a).1 x j = if x = 0 ∧ j = 22 then nI (n + 1) else if x = 11 ∧ j = n then a else M.1 x j := rfl
theorem gL_op (M : mm_) (n : Nat) (a : Int32) (x j : Nat) : (op_ M n a).2.1 x j = M.2.1 x j := rfl
theorem tz_wa {M : mm_} {n w : Nat} {a b c : Int32} (h : tz_ M n) : tz_ (wa_ M w a b c) n := tz_sI (tz_sI (tz_sI (tz_sI h (by omega)) (by omega)) (by omega)) (by omega)
theorem cd_wa {M : mm_} {l : List sv_} {w : Nat} {a b c : Int32} (h : cd_ M l) : cd_ (wa_ M w a b c) l := cd_sI (cd_sI (cd_sI (cd_sI h (by omega) (by omega)) (by omega) (by omega)) (by omega) (by omega)) (by omega) (by omega)
theorem od_wa {M : mm_} {o : List Nat} {w : Nat} {a b c : Int32} (h : od_ M o) : od_ (wa_ M w a b c) o := od_sI (od_sI (od_sI (od_sI h (by omega) (by omega)) (by omega) (by omega)) (by omega) (by omega)) (by omega) (by omega)
theorem wr_wa {M : mm_} {W : List fr_} {w : Nat} {a b c : Int32} (h : wr_ M W) (hw : W.length ≤ w) : wr_ (wa_ M w a b c) W := wr_sI (wr_sI (wr_sI (wr_sI h (Or.inr hw)) (Or.inr hw)) (Or.inr hw)) (Or.inl (by omega))
theorem pf_wa {M N : mm_} {w : Nat} {a b c : Int32} (h : pf_ M N) : pf_ M (wa_ N w a b c) := pf_sI (pf_sI (pf_sI (pf_sI h (by omega)) (by omega)) (by omega)) (by omega)
theorem tz_op {M : mm_} {n m : Nat} {a : Int32} (h : tz_ M n) : tz_ (op_ M m a) n := tz_sI (tz_sI h (by omega)) (by omega)
theorem cd_op {M : mm_} {l : List sv_} {m : Nat} {a : Int32} (h : cd_ M l) : cd_ (op_ M m a) l := cd_sI (cd_sI h (by omega) (by omega)) (by omega) (by omega)
theorem wr_op {M : mm_} {W : List fr_} {m : Nat} {a : Int32} (h : wr_ M W) : wr_ (op_ M m a) W := wr_sI (wr_sI h (Or.inl (by omega))) (Or.inl (by omega))
theorem pf_op {M N : mm_} {m : Nat} {a : Int32} (h : pf_ M N) : pf_ M (op_ N m a) := pf_sI (pf_sI h (by omega)) (by omega)
/-- an opened bracket: the machine's own words -/
def ob_ (M : mm_) (w k op : Nat) (a b : Int32) : mm_ := sI_ (sL_ (wa_ (sI_ M 0 23 (nI (op + 1))) w a b 0) 10 w (M.2.1 0 24)) 0 5 (nI (k + 1))
def qu_ (k : Nat) (W : List fr_) (e : Term) (nd op : Nat) : ss_ ⊕ (Int32 × Nat) := if nd = 20 then .inr (3, k) else .inl (k + 1, (7, 0, (rt_ 3 W e).2, .null, 0) :: (rt_ 3 W e).1, none, nd + 1, op)
def cm2_ (k : Nat) (W : List fr_) (e : Term) (nd op : Nat) : ss_ ⊕ (Int32 × Nat) := match (rt_ 1 W e).1 with
  | [] => .inr (1, k)
  | f :: r => if f.1 = 8 then .inl (k + 1, (8, f.2.1, sa_ f.2.2.1 (rt_ 1 W e).2, f.2.2.2.1, f.2.2.2.2) :: r, none, nd, op) else .inr (1, k)
def cl_ (k : Nat) (W : List fr_) (e : Term) (nd op : Nat) : ss_ ⊕ (Int32 × Nat) := match (rt_ 1 W e).1 with
  | [] => .inr (1, k)
  | f :: r => if f.1 = 7 then .inl (k + 1, (2, 0, f.2.2.1, (rt_ 1 W e).2, 0) :: r, none, nd, op) else .inr (1, k)
set_option maxRecDepth 100000 in
set_option maxHeartbeats 4000000 in
theorem c12_open_f (G : gg_) (hG : gd_ G) (d : Nat) (M : mm_) (k : Nat) (a b : Int32) (h5 : M.1 0 5 = nI k) (h23 : M.1 0 23 = nI 12) : cm_ G yX12_open cX12_open 3 none (d + 1) [.ref (G.1 0), .int a, .int b] M (fV_ (fa_ M 3 (nI k))) := by
  refine cm_of hG (by decide) (Nat.le_of_ble_eq_true rfl) (fun C X => ?_)
  refine w_aload_n X dX12_open_0 rfl rfl ?_
  refine g12_opened X dX12_open_1 ?_
  try simp only [gI_sI, gI_sL, gL_sI, gL_sL, false_and, and_false, and_self, if_false, if_true, reduceIte, Nat.reduceEqDiff, h5, h23]
  refine w_bipush (v := 12) X dX12_open_4 (by decide) ?_
  refine w_icmp_ne (tgt := 19) X dX12_open_6 (by decide) (fun h6 => absurd rfl h6) (fun h6 => ?_)
  refine w_aload_n X dX12_open_9 rfl rfl ?_
  refine w_iconst (v := 3) X dX12_open_10 (by decide) ?_
  refine w_aload_n X dX12_open_11 rfl rfl ?_
  refine g12_at X dX12_open_12 ?_
  try simp only [gI_sI, gI_sL, gL_sI, gL_sL, false_and, and_false, and_self, if_false, if_true, reduceIte, Nat.reduceEqDiff, h5, h23]
  refine w_v2fV X dX12_open_15 k12_fail rfl rfl (c12_fail G hG _ _ _ _) (Nat.le_of_ble_eq_true rfl) ?_
  exact w_vrF X dX12_open_18 rfl
set_option maxRecDepth 100000 in
set_option maxHeartbeats 4000000 in
theorem c12_open_o (G : gg_) (hG : gd_ G) (d : Nat) (M : mm_) (k w op : Nat) (a b : Int32) (h5 : M.1 0 5 = nI k) (h20 : M.1 0 20 = nI w) (h23 : M.1 0 23 = nI op) (hop : op < 12) (hw : w < 64) : cm_ G yX12_open cX12_open 3 none (d + 1) [.ref (G.1 0), .int a, .int b] M (fV_ (ob_ M w k op a b)) := by
  refine cm_of hG (by decide) (Nat.le_of_ble_eq_true rfl) (fun C X => ?_)
  refine w_aload_n X dX12_open_0 rfl rfl ?_
  refine g12_opened X dX12_open_1 ?_
  try simp only [gI_sI, gI_sL, gL_sI, gL_sL, false_and, and_false, and_self, if_false, if_true, reduceIte, Nat.reduceEqDiff, h5, h20, h23, gI_wa, gL_wa, gI_pu, gL_pu, gI_op, gL_op]
  refine w_bipush (v := 12) X dX12_open_4 (by decide) ?_
  refine w_icmp_ne (tgt := 19) X dX12_open_6 (by decide) (fun h6 => ?_) (fun h6 => absurd h6 (fun q => by have := (nI_eq (b := 12) (by omega) (by omega)).mp q; omega))
  refine w_aload_n X dX12_open_19 rfl rfl ?_
  refine w_dup X dX12_open_20 rfl ?_
  refine g12_opened X dX12_open_21 ?_
  try simp only [gI_sI, gI_sL, gL_sI, gL_sL, false_and, and_false, and_self, if_false, if_true, reduceIte, Nat.reduceEqDiff, h5, h20, h23, gI_wa, gL_wa, gI_pu, gL_pu, gI_op, gL_op]
  refine w_iconst (v := 1) X dX12_open_24 (by decide) ?_
  refine w_iadd X dX12_open_25 ?_
  refine p12_opened X dX12_open_26 ?_
  refine w_aload_n X dX12_open_29 rfl rfl ?_
  refine w_iload_n X dX12_open_30 rfl rfl ?_
  refine w_iload_n X dX12_open_31 rfl rfl ?_
  refine w_iconst (v := 0) X dX12_open_32 (by decide) ?_
  refine w_v3fV X dX12_open_33 k12_wait rfl rfl (c12_wait G hG _ _ w (by simp [sI_, h20]) hw _ _ _) (Nat.le_of_ble_eq_true rfl) ?_
  refine w_aload_n X dX12_open_36 rfl rfl ?_
  refine g12_waitNames X dX12_open_37 ?_
  refine w_aload_n X dX12_open_40 rfl rfl ?_
  refine g12_waiting X dX12_open_41 ?_
  try simp only [gI_sI, gI_sL, gL_sI, gL_sL, false_and, and_false, and_self, if_false, if_true, reduceIte, Nat.reduceEqDiff, h5, h20, h23, gI_wa, gL_wa, gI_pu, gL_pu, gI_op, gL_op]
  refine w_iconst (v := 1) X dX12_open_44 (by decide) ?_
  refine w_isub X dX12_open_45 ?_
  rw [nI_s1]
  refine w_aload_n X dX12_open_46 rfl rfl ?_
  refine g12_rowName X dX12_open_47 ?_
  try simp only [gI_sI, gI_sL, gL_sI, gL_sL, false_and, and_false, and_self, if_false, if_true, reduceIte, Nat.reduceEqDiff, h5, h20, h23, gI_wa, gL_wa, gI_pu, gL_pu, gI_op, gL_op]
  refine w_lastoreN X dX12_open_50 rfl rfl (by omega) ?_
  refine w_aload_n X dX12_open_51 rfl rfl ?_
  refine w_dup X dX12_open_52 rfl ?_
  refine g12_at X dX12_open_53 ?_
  try simp only [gI_sI, gI_sL, gL_sI, gL_sL, false_and, and_false, and_self, if_false, if_true, reduceIte, Nat.reduceEqDiff, h5, h20, h23, gI_wa, gL_wa, gI_pu, gL_pu, gI_op, gL_op]
  refine w_iconst (v := 1) X dX12_open_56 (by decide) ?_
  refine w_iadd X dX12_open_57 ?_
  refine p12_at X dX12_open_58 ?_
  exact w_vrF X dX12_open_61 (by unfold ob_; rw [nI_1, nI_1])
set_option maxRecDepth 100000 in
set_option maxHeartbeats 4000000 in
theorem c12_question (G : gg_) (hG : gd_ G) (d : Nat) (M : mm_) (n k nd op : Nat) (W : List fr_) (e : Term) (h : pr_ M n k W (some e) nd op) (hf : M.1 0 3 = 0) : cm_ G yX12_question cX12_question 1 none (d + 4) [.ref (G.1 0)] M (rV_ (px_ M n (qu_ k W e nd op))) := by
  refine cm_of hG (by decide) (Nat.le_of_ble_eq_true rfl) (fun C X => ?_)
  have lq : ∀ (N : mm_) (V : List fr_) (t : Term), ps2_ M n k V (some t) nd op N → nd < 20 → px_ M n (.inl (k + 1, (7, 0, t, .null, 0) :: V, none, nd + 1, op)) (sI_ (pu_ (wa_ (sI_ (sI_ N 0 13 (nI (nd + 1))) 0 22 (nI (os_ V).length)) V.length (nI 7) (nI (cs_ V ++ tc_ t).length) (nI (cs_ V).length)) (cs_ V ++ tc_ t).length 5 0) 0 5 (nI (k + 1))) := by
    intro N V t hN hn
    have hl := pr_len hN.1
    have hf3 : N.1 0 3 = 0 := hN.2.2.1.trans hf
    obtain ⟨⟨h0, h5, hc, h20, hw, ho, h13, h23, hn1, hn2, hop, hop2, hcq⟩, hpf, -, -⟩ := hN
    refine ⟨pf_sI (pf_pu (pf_wa (pf_sI (pf_sI hpf (by omega)) (by omega)))) (by omega), ⟨tz_sI (tz_pu (tz_wa (tz_sI (tz_sI h0 (by omega)) (by omega)))) (by omega), by simp [sI_], ?_, by simp [pu_, wa_, sI_, sL_], ?_, ?_, by simp [pu_, wa_, sI_, sL_], by simp [pu_, wa_, sI_, sL_, h23], ?_, by omega, ?_, hop2, trivial⟩, by simp [pu_, wa_, sI_, sL_, hf3]⟩
    · have e1 : cs_ ((7, 0, t, .null, 0) :: V) ++ cu_ none = (cs_ V ++ tc_ t) ++ [(5, 0)] := by simp [cs_, fc_, cu_]
      rw [e1]
      exact cd_sI (cd_pu (cd_wa (cd_sI (cd_sI hc (by omega) (by omega)) (by omega) (by omega)))) (by omega) (by omega)
    · refine ⟨wr_sI (wr_pu (wr_wa (wr_sI (wr_sI hw (Or.inl (by omega))) (Or.inl (by omega))) (Nat.le_refl _))) (Or.inl (by omega)), ⟨by simp, fun q => by simp at q⟩, by simp [pu_, wa_, sI_, sL_], by simp [pu_, wa_, sI_, sL_, fp_], by simp [pu_, wa_, sI_, sL_, fu_], fun q => by simp at q⟩
    · have e2 : os_ ((7, 0, t, .null, 0) :: V) ++ co_ (cs_ ((7, 0, t, .null, 0) :: V)).length none = os_ V := by simp [os_, ff_, co_]
      rw [e2]
      exact od_sI (od_pu (od_wa (od_cut (od_sI ho (by omega) (by omega))))) (by omega) (by omega)
    · simp only [nw_, cn_] at hn1 ⊢
      simp [nf_]
      omega
    · simp only [no_]
      rw [if_neg (by simp)]
      simpa using hop
  by_cases hd20 : nd = 20
  · refine w_aload_n X dX12_question_0 rfl rfl ?_
    refine w_iconst (v := 3) X dX12_question_1 (by decide) ?_
    refine w_v1rV X dX12_question_2 k12_reduceTo rfl rfl (c12_reduceTo G hG _ M n k nd op 3 (by omega) (by omega) W e h) (Nat.le_of_ble_eq_true rfl) (fun N2 h2 => ?_)
    have hle := pr_len h2.1
    have hos := pr_os h2.1
    have h20 := h2.1.2.2.2.1
    have h5 := h2.1.2.1
    have h13 := h2.1.2.2.2.2.2.2.1
    have h12 : N2.1 0 12 = nI (cs_ (rt_ 3 W e).1 ++ tc_ (rt_ 3 W e).2).length := h2.1.2.2.1.1
    have h22 : N2.1 0 22 = nI ((os_ (rt_ 3 W e).1).length + 1) := by have := h2.1.2.2.2.2.2.1.1; simpa [co_] using this
    have h11 : N2.1 11 (os_ (rt_ 3 W e).1).length = nI (cs_ (rt_ 3 W e).1).length := h2.1.2.2.2.2.2.1.2 _ _ (by simp [co_])
    have hf3 : N2.1 0 3 = 0 := h2.2.2.1.trans hf
    have hnd := h.2.2.2.2.2.2.2.2.2.1
    simp only [cu_] at hle
    have e20 : N2.1 0 13 = 20 := by rw [h13, hd20]; rfl
    refine w_aload_n X dX12_question_5 rfl rfl ?_
    refine w_aload_n X dX12_question_6 rfl rfl ?_
    refine g12_at X dX12_question_7 ?_
    try simp only [gI_sI, gI_sL, gL_sI, gL_sL, false_and, and_false, and_self, if_false, if_true, reduceIte, Nat.reduceEqDiff, h5, h13]
    refine w_v1fI X dX12_question_10 k12_count rfl rfl (c12_count G hG _ _ _) (Nat.le_of_ble_eq_true rfl) ?_
    refine w_if_ne (tgt := 17) X dX12_question_13 (by decide) (fun h13x => absurd (if_pos e20) h13x) (fun h13x => ?_)
    refine w_vrR X dX12_question_16 ?_
    rw [show qu_ k W e nd op = _ from if_pos hd20, if_pos e20]
    exact px_fa h2.2.1 hf3
  · refine w_aload_n X dX12_question_0 rfl rfl ?_
    refine w_iconst (v := 3) X dX12_question_1 (by decide) ?_
    refine w_v1rV X dX12_question_2 k12_reduceTo rfl rfl (c12_reduceTo G hG _ M n k nd op 3 (by omega) (by omega) W e h) (Nat.le_of_ble_eq_true rfl) (fun N2 h2 => ?_)
    have hle := pr_len h2.1
    have hos := pr_os h2.1
    have h20 := h2.1.2.2.2.1
    have h5 := h2.1.2.1
    have h13 := h2.1.2.2.2.2.2.2.1
    have h12 : N2.1 0 12 = nI (cs_ (rt_ 3 W e).1 ++ tc_ (rt_ 3 W e).2).length := h2.1.2.2.1.1
    have h22 : N2.1 0 22 = nI ((os_ (rt_ 3 W e).1).length + 1) := by have := h2.1.2.2.2.2.2.1.1; simpa [co_] using this
    have h11 : N2.1 11 (os_ (rt_ 3 W e).1).length = nI (cs_ (rt_ 3 W e).1).length := h2.1.2.2.2.2.2.1.2 _ _ (by simp [co_])
    have hf3 : N2.1 0 3 = 0 := h2.2.2.1.trans hf
    have hnd := h.2.2.2.2.2.2.2.2.2.1
    simp only [cu_] at hle
    have e20 : ¬ N2.1 0 13 = 20 := fun q => hd20 ((nI_eq (b := 20) (by omega) (by omega)).mp (h13.symm.trans q))
    refine w_aload_n X dX12_question_5 rfl rfl ?_
    refine w_aload_n X dX12_question_6 rfl rfl ?_
    refine g12_at X dX12_question_7 ?_
    try simp only [gI_sI, gI_sL, gL_sI, gL_sL, false_and, and_false, and_self, if_false, if_true, reduceIte, Nat.reduceEqDiff, h5, h13, h12, h22, h11, gI_wa, gL_wa, gI_pu, gL_pu, gI_op, gL_op]
    refine w_v1fI X dX12_question_10 k12_count rfl rfl (c12_count G hG _ _ _) (Nat.le_of_ble_eq_true rfl) ?_
    rw [if_neg e20, if_neg e20]
    simp only [h13, nI_1]
    refine w_if_ne (tgt := 17) X dX12_question_13 (by decide) (fun h13x => ?_) (fun h13x => absurd h13x (by decide))
    refine w_aload_n X dX12_question_17 rfl rfl ?_
    refine w_dup X dX12_question_18 rfl ?_
    refine g12_operandCount X dX12_question_19 ?_
    try simp only [gI_sI, gI_sL, gL_sI, gL_sL, false_and, and_false, and_self, if_false, if_true, reduceIte, Nat.reduceEqDiff, h5, h13, h12, h22, h11, gI_wa, gL_wa, gI_pu, gL_pu, gI_op, gL_op]
    refine w_iconst (v := 1) X dX12_question_22 (by decide) ?_
    refine w_isub X dX12_question_23 ?_
    rw [nI_s1]
    refine p12_operandCount X dX12_question_24 ?_
    refine w_aload_n X dX12_question_27 rfl rfl ?_
    refine w_bipush (v := 7) X dX12_question_28 (by decide) ?_
    refine w_aload_n X dX12_question_30 rfl rfl ?_
    refine g12_length X dX12_question_31 ?_
    try simp only [gI_sI, gI_sL, gL_sI, gL_sL, false_and, and_false, and_self, if_false, if_true, reduceIte, Nat.reduceEqDiff, h5, h13, h12, h22, h11, gI_wa, gL_wa, gI_pu, gL_pu, gI_op, gL_op]
    refine w_aload_n X dX12_question_34 rfl rfl ?_
    refine g12_operands X dX12_question_35 ?_
    refine w_aload_n X dX12_question_38 rfl rfl ?_
    refine g12_operandCount X dX12_question_39 ?_
    try simp only [gI_sI, gI_sL, gL_sI, gL_sL, false_and, and_false, and_self, if_false, if_true, reduceIte, Nat.reduceEqDiff, h5, h13, h12, h22, h11, gI_wa, gL_wa, gI_pu, gL_pu, gI_op, gL_op]
    refine w_ialoadN X dX12_question_42 rfl rfl (by omega) ?_
    try simp only [gI_sI, gI_sL, gL_sI, gL_sL, false_and, and_false, and_self, if_false, if_true, reduceIte, Nat.reduceEqDiff, h5, h13, h12, h22, h11, gI_wa, gL_wa, gI_pu, gL_pu, gI_op, gL_op]
    refine w_v3fV X dX12_question_43 k12_wait rfl rfl (c12_wait G hG _ _ (rt_ 3 W e).1.length (by simp [sI_, h20]) (by omega) _ _ _) (Nat.le_of_ble_eq_true rfl) ?_
    refine w_aload_n X dX12_question_46 rfl rfl ?_
    refine w_iconst (v := 5) X dX12_question_47 (by decide) ?_
    refine w_lconst (v := 0) X dX12_question_48 (by decide) ?_
    refine w_v2fV X dX12_question_49 k12_put rfl rfl (c12_put G hG _ _ (cs_ (rt_ 3 W e).1 ++ tc_ (rt_ 3 W e).2).length (by simp [wa_, sI_, h12]) (by omega) _ _) (Nat.le_of_ble_eq_true rfl) ?_
    refine w_aload_n X dX12_question_52 rfl rfl ?_
    refine w_dup X dX12_question_53 rfl ?_
    refine g12_at X dX12_question_54 ?_
    try simp only [gI_sI, gI_sL, gL_sI, gL_sL, false_and, and_false, and_self, if_false, if_true, reduceIte, Nat.reduceEqDiff, h5, h13, h12, h22, h11, gI_wa, gL_wa, gI_pu, gL_pu, gI_op, gL_op]
    refine w_iconst (v := 1) X dX12_question_57 (by decide) ?_
    refine w_iadd X dX12_question_58 ?_
    rw [nI_1]
    refine p12_at X dX12_question_59 ?_
    refine w_vrR X dX12_question_62 ?_
    rw [show qu_ k W e nd op = _ from if_neg hd20]
    exact lq N2 _ _ h2 (by omega)
end
section
theorem tp_7 {f : fr_} {r : List fr_} {k : Nat} (h : f.1 ≤ 8) (hk : k ≤ 8) : tp_ (f :: r) = nI k ↔ f.1 = k := nI_eq (by omega) (by omega)
set_option maxRecDepth 100000 in
set_option maxHeartbeats 4000000 in
theorem c12_comma (G : gg_) (hG : gd_ G) (d : Nat) (M : mm_) (n k nd op : Nat) (W : List fr_) (e : Term) (h : pr_ M n k W (some e) nd op) (hf : M.1 0 3 = 0) : cm_ G yX12_comma cX12_comma 1 none (d + 5) [.ref (G.1 0)] M (rV_ (px_ M n (cm2_ k W e nd op))) := by
  refine cm_of hG (by decide) (Nat.le_of_ble_eq_true rfl) (fun C X => ?_)
  have lq : ∀ (N : mm_) (c : Int32) (a b t : Term) (x : Int64) (r : List fr_), ps2_ M n k ((8, c, a, b, x) :: r) (some t) nd op N → px_ M n (.inl (k + 1, (8, c, sa_ a t, b, x) :: r, none, nd, op)) (sI_ (sI_ N 9 r.length (nI (ac_ a + 1))) 0 5 (nI (k + 1))) := by
    intro N c a b t x r hN
    have hf3 : N.1 0 3 = 0 := hN.2.2.1.trans hf
    obtain ⟨⟨h0, h5, hc, h20, ⟨hw, ⟨-, ha⟩, hk7, hk8, hk9, hk10⟩, ho, h13, h23, hn1, hn2, hop, hop2, hcq⟩, hpf, -, -⟩ := hN
    obtain ⟨ha1, ha2⟩ := ha rfl
    simp only at ha1 ha2
    have ht1 : 1 ≤ nt_ t := hcq
    have e1 : cs_ ((8, c, sa_ a t, b, x) :: r) ++ cu_ none = cs_ ((8, c, a, b, x) :: r) ++ cu_ (some t) := by simp [cs_, fc_, cu_, tc_sa a t ha1]
    have e2 : os_ ((8, c, sa_ a t, b, x) :: r) ++ co_ (cs_ ((8, c, sa_ a t, b, x) :: r)).length none = os_ ((8, c, a, b, x) :: r) ++ co_ (cs_ ((8, c, a, b, x) :: r)).length (some t) := by simp [os_, ff_, co_, oa_sa a t _ ha1, cs_, fc_]
    refine ⟨pf_sI (pf_sI hpf (by omega)) (by omega), ⟨tz_sI (tz_sI h0 (by omega)) (by omega), by simp [sI_], ?_, by simpa [sI_] using h20, ?_, ?_, by simp [sI_, h13], by simp [sI_, h23], ?_, hn2, by simpa [no_] using hop, hop2, trivial⟩, by simp [sI_, hf3]⟩
    · rw [e1]
      exact cd_sI (cd_sI hc (by omega) (by omega)) (by omega) (by omega)
    · refine ⟨wr_sI (wr_sI hw (Or.inr (Nat.le_refl _))) (Or.inl (by omega)), ⟨by simp, fun _ => ⟨ao_sa a t ha1, ?_⟩⟩, by simpa [sI_] using hk7, by simpa [sI_, fp_] using hk8, by simp [sI_, fu_, ac_sa a t ha1], fun _ => hk10 rfl⟩
      rw [ac_sa a t ha1, nt_sa a t ha1]
      omega
    · rw [e2]
      exact od_sI (od_sI ho (by omega) (by omega)) (by omega) (by omega)
    · simp only [nw_, cn_] at hn1 ⊢
      simp [nf_, nt_sa a t ha1] at hn1 ⊢
      omega
  refine w_aload_n X dX12_comma_0 rfl rfl ?_
  refine w_v0rV X dX12_comma_1 k12_reduceAll rfl rfl (c12_reduceAll G hG _ M n k nd op W e h) (Nat.le_of_ble_eq_true rfl) (fun N1 h1 => ?_)
  have hle := pr_len h1.1
  have h20 := h1.1.2.2.2.1
  have h5 := h1.1.2.1
  have hf3 : N1.1 0 3 = 0 := h1.2.2.1.trans hf
  refine w_aload_n X dX12_comma_4 rfl rfl ?_
  refine w_v0fI X dX12_comma_5 k12_last rfl rfl (c12_last G hG _ _ _ h20 (by omega)) (Nat.le_of_ble_eq_true rfl) ?_
  rw [la_pr h1.1]
  refine w_bipush (v := 8) X dX12_comma_8 (by decide) ?_
  refine w_icmp_eq (tgt := 23) X dX12_comma_10 (by decide) (fun h10 => ?_) (fun h10 => ?_)
  · have hq : ∃ f r, (rt_ 1 W e).1 = f :: r ∧ f.1 = 8 := (tp_3 (k := 8) (by omega) (wr_8 h1.1.2.2.2.2.1)).mp h10
    obtain ⟨⟨kd, c, a, b, x⟩, r, hV, hkd⟩ := hq
    have hkd : kd = 8 := hkd
    subst hkd
    rw [hV] at h1
    have h20 : N1.1 0 20 = nI (r.length + 1) := by have := h1.1.2.2.2.1; simpa using this
    have hk9 : N1.1 9 r.length = nI (ac_ a) := h1.1.2.2.2.2.1.2.2.2.2.1
    simp only [hV, List.length_cons] at hle
    refine w_aload_n X dX12_comma_23 rfl rfl ?_
    refine g12_waitValues X dX12_comma_24 ?_
    refine w_aload_n X dX12_comma_27 rfl rfl ?_
    refine g12_waiting X dX12_comma_28 ?_
    try simp only [gI_sI, gI_sL, gL_sI, gL_sL, false_and, and_false, and_self, if_false, if_true, reduceIte, Nat.reduceEqDiff, h5, h20, hk9]
    refine w_iconst (v := 1) X dX12_comma_31 (by decide) ?_
    refine w_isub X dX12_comma_32 ?_
    rw [nI_s1]
    refine w_dup2 X dX12_comma_33 rfl rfl ?_
    refine w_ialoadN X dX12_comma_34 rfl rfl (by omega) ?_
    try simp only [gI_sI, gI_sL, gL_sI, gL_sL, false_and, and_false, and_self, if_false, if_true, reduceIte, Nat.reduceEqDiff, h5, h20, hk9]
    refine w_iconst (v := 1) X dX12_comma_35 (by decide) ?_
    refine w_iadd X dX12_comma_36 ?_
    rw [nI_1]
    refine w_iastoreN X dX12_comma_37 rfl rfl (by omega) ?_
    refine w_aload_n X dX12_comma_38 rfl rfl ?_
    refine w_dup X dX12_comma_39 rfl ?_
    refine g12_at X dX12_comma_40 ?_
    try simp only [gI_sI, gI_sL, gL_sI, gL_sL, false_and, and_false, and_self, if_false, if_true, reduceIte, Nat.reduceEqDiff, h5, h20, hk9]
    refine w_iconst (v := 1) X dX12_comma_43 (by decide) ?_
    refine w_iadd X dX12_comma_44 ?_
    rw [nI_1]
    refine p12_at X dX12_comma_45 ?_
    refine w_vrR X dX12_comma_48 ?_
    have hbt : cm2_ k W e nd op = .inl (k + 1, (8, c, sa_ a (rt_ 1 W e).2, b, x) :: r, none, nd, op) := by unfold cm2_; rw [hV]; rfl
    rw [hbt]
    exact lq N1 c a b _ x r h1
  · have hbt : cm2_ k W e nd op = .inr (1, k) := by
      unfold cm2_
      cases hV : (rt_ 1 W e).1 with
      | nil => rfl
      | cons f r =>
        simp only
        rw [if_neg (fun q => h10 (by rw [hV]; exact congrArg nI q))]
    refine w_aload_n X dX12_comma_13 rfl rfl ?_
    refine w_iconst (v := 1) X dX12_comma_14 (by decide) ?_
    refine w_aload_n X dX12_comma_15 rfl rfl ?_
    refine g12_at X dX12_comma_16 ?_
    try simp only [gI_sI, gI_sL, gL_sI, gL_sL, false_and, and_false, and_self, if_false, if_true, reduceIte, Nat.reduceEqDiff, h5]
    refine w_v2fV X dX12_comma_19 k12_fail rfl rfl (c12_fail G hG _ _ _ _) (Nat.le_of_ble_eq_true rfl) ?_
    refine w_vrR X dX12_comma_22 ?_
    rw [hbt]
    exact px_fa h1.2.1 hf3
set_option maxRecDepth 100000 in
set_option maxHeartbeats 4000000 in
theorem c12_colon (G : gg_) (hG : gd_ G) (d : Nat) (M : mm_) (n k nd op : Nat) (W : List fr_) (e : Term) (h : pr_ M n k W (some e) nd op) (hf : M.1 0 3 = 0) : cm_ G yX12_colon cX12_colon 3 none (d + 5) [.ref (G.1 0)] M (rV_ (px_ M n (cl_ k W e nd op))) := by
  refine cm_of hG (by decide) (Nat.le_of_ble_eq_true rfl) (fun C X => ?_)
  have lq : ∀ (N : mm_) (c : Int32) (a b t : Term) (x : Int64) (r : List fr_), ps2_ M n k ((7, c, a, b, x) :: r) (some t) nd op N → px_ M n (.inl (k + 1, (2, 0, a, t, 0) :: r, none, nd, op)) (sI_ (sL_ (pu_ (wa_ (sI_ (sI_ N 0 20 (nI r.length)) 0 22 (nI (os_ r).length)) r.length 2 (nI (cs_ ((7, c, a, b, x) :: r) ++ tc_ t).length) (nI (cs_ r).length)) (cs_ ((7, c, a, b, x) :: r) ++ tc_ t).length 6 0) 3 (2048 + (cs_ r ++ tc_ a).length) (nI ((cs_ ((7, c, a, b, x) :: r) ++ tc_ t).length + 1 - (cs_ r ++ tc_ a).length - 1)).toInt64) 0 5 (nI (k + 1))) := by
    intro N c a b t x r hN
    have hl := (pr_len hN.1).1
    have hf3 : N.1 0 3 = 0 := hN.2.2.1.trans hf
    obtain ⟨⟨h0, h5, hc, h20, ⟨hw, -, hk7, hk8, hk9, -⟩, ho, h13, h23, hn1, hn2, hop, hop2, hcq⟩, hpf, -, -⟩ := hN
    simp only [cu_] at hc hl
    have e0 : (cs_ ((7, c, a, b, x) :: r) ++ tc_ t) = (cs_ r ++ tc_ a) ++ (5, 0) :: tc_ t := by simp [cs_, fc_]
    refine ⟨pf_sI (pf_sL (pf_pu (pf_wa (pf_sI (pf_sI hpf (by omega)) (by omega)))) (by omega)) (by omega), ⟨tz_sI (tz_sL (tz_pu (tz_wa (tz_sI (tz_sI h0 (by omega)) (by omega))))) (by omega), by simp [sI_], ?_, by simp [pu_, wa_, sI_, sL_], ?_, ?_, by simp [pu_, wa_, sI_, sL_, h13], by simp [pu_, wa_, sI_, sL_, h23], ?_, hn2, by simpa [no_] using hop, hop2, trivial⟩, by simp [pu_, wa_, sI_, sL_, hf3]⟩
    · have e9 : (nI ((cs_ ((7, c, a, b, x) :: r) ++ tc_ t).length + 1 - (cs_ r ++ tc_ a).length - 1)).toInt64 = lN ((tc_ t).length + 1) := by
        rw [show (cs_ ((7, c, a, b, x) :: r) ++ tc_ t).length + 1 - (cs_ r ++ tc_ a).length - 1 = (tc_ t).length + 1 by rw [e0]; simp; omega]
        refine nI_l ?_
        rw [e0] at hl
        simp at hl
        omega
      rw [e9]
      have e1 : cs_ ((2, 0, a, t, 0) :: r) ++ cu_ none = (cs_ r ++ tc_ a) ++ (5, lN ((tc_ t).length + 1)) :: (tc_ t ++ [(6, 0)]) := by simp [cs_, fc_, cu_]
      rw [e1]
      have hp := cd_pu (t := 6) (v := 0) (cd_wa (w := r.length) (a := 2) (b := nI (cs_ ((7, c, a, b, x) :: r) ++ tc_ t).length) (c := nI (cs_ r).length) (cd_sI (a := 0) (i := 22) (v := nI (os_ r).length) (cd_sI (a := 0) (i := 20) (v := nI r.length) hc (by omega) (by omega)) (by omega) (by omega)))
      have e2 : (cs_ ((7, c, a, b, x) :: r) ++ tc_ t) ++ [(6, 0)] = (cs_ r ++ tc_ a) ++ (5, 0) :: (tc_ t ++ [(6, 0)]) := by rw [e0]; simp
      rw [e2] at hp
      exact cd_sI (cd_patch hp) (by omega) (by omega)
    · refine ⟨wr_sI (wr_sL (wr_pu (wr_wa (wr_sI (wr_sI hw (Or.inl (by omega))) (Or.inl (by omega))) (Nat.le_refl _))) (Or.inl (by omega))) (Or.inl (by omega)), ⟨by simp, fun q => by simp at q⟩, by simp [pu_, wa_, sI_, sL_]; rfl, ?_, by simp [pu_, wa_, sI_, sL_, fu_], fun q => by simp at q⟩
      rw [e0]
      simp [pu_, wa_, sI_, sL_, fp_]
      congr 1
      omega
    · have e2 : os_ ((2, 0, a, t, 0) :: r) ++ co_ (cs_ ((2, 0, a, t, 0) :: r)).length none = os_ r := by simp [os_, ff_, co_]
      have e3 : os_ ((7, c, a, b, x) :: r) ++ co_ (cs_ ((7, c, a, b, x) :: r)).length (some t) = os_ r ++ [(cs_ ((7, c, a, b, x) :: r)).length] := by simp [os_, ff_, co_]
      rw [e2]
      rw [e3] at ho
      exact od_sI (od_sL (od_pu (od_wa (od_cut (od_sI ho (by omega) (by omega)))))) (by omega) (by omega)
    · simp only [nw_, cn_] at hn1 ⊢
      simp [nf_] at hn1 ⊢
      omega
  refine w_aload_n X dX12_colon_0 rfl rfl ?_
  refine w_v0rV X dX12_colon_1 k12_reduceAll rfl rfl (c12_reduceAll G hG _ M n k nd op W e h) (Nat.le_of_ble_eq_true rfl) (fun N1 h1 => ?_)
  have hle := pr_len h1.1
  have h20 := h1.1.2.2.2.1
  have h5 := h1.1.2.1
  have hf3 : N1.1 0 3 = 0 := h1.2.2.1.trans hf
  refine w_aload_n X dX12_colon_4 rfl rfl ?_
  refine w_v0fI X dX12_colon_5 k12_last rfl rfl (c12_last G hG _ _ _ h20 (by omega)) (Nat.le_of_ble_eq_true rfl) ?_
  rw [la_pr h1.1]
  refine w_bipush (v := 7) X dX12_colon_8 (by decide) ?_
  refine w_icmp_eq (tgt := 23) X dX12_colon_10 (by decide) (fun h10 => ?_) (fun h10 => ?_)
  · have hq : ∃ f r, (rt_ 1 W e).1 = f :: r ∧ f.1 = 7 := (tp_3 (k := 7) (by omega) (wr_8 h1.1.2.2.2.2.1)).mp h10
    obtain ⟨⟨kd, c, a, b, x⟩, r, hV, hkd⟩ := hq
    have hkd : kd = 7 := hkd
    subst hkd
    have hbt : cl_ k W e nd op = .inl (k + 1, (2, 0, a, (rt_ 1 W e).2, 0) :: r, none, nd, op) := by unfold cl_; rw [hV]; rfl
    have hos := pr_os h1.1
    generalize (rt_ 1 W e).2 = t at h1 hbt hle
    rw [hV] at h1 hos
    have h20 : N1.1 0 20 = nI (r.length + 1) := by have := h1.1.2.2.2.1; simpa using this
    have hk9 : N1.1 9 r.length = nI (cs_ r).length := h1.1.2.2.2.2.1.2.2.2.2.1
    have hk8 : N1.1 8 r.length = nI (cs_ r ++ tc_ a).length := by rw [h1.1.2.2.2.2.1.2.2.2.1]; simp [fp_]
    have h12 : N1.1 0 12 = nI (cs_ ((7, c, a, b, x) :: r) ++ tc_ t).length := h1.1.2.2.1.1
    have h22 : N1.1 0 22 = nI ((os_ r).length + 1) := by have := h1.1.2.2.2.2.2.1.1; simpa [co_, os_, ff_] using this
    simp only [hV, List.length_cons, cu_] at hle
    have hql : (cs_ r ++ tc_ a).length < (cs_ ((7, c, a, b, x) :: r) ++ tc_ t).length + 1 := by simp [cs_, fc_]; omega
    simp [os_, ff_] at hos
    refine w_aload_n X dX12_colon_23 rfl rfl ?_
    refine w_dup X dX12_colon_24 rfl ?_
    refine g12_waiting X dX12_colon_25 ?_
    try simp only [gI_sI, gI_sL, gL_sI, gL_sL, false_and, and_false, and_self, if_false, if_true, reduceIte, Nat.reduceEqDiff, h5, h20, hk9, hk8, h12, h22, gI_wa, gL_wa, gI_pu, gL_pu, gI_op, gL_op]
    refine w_iconst (v := 1) X dX12_colon_28 (by decide) ?_
    refine w_isub X dX12_colon_29 ?_
    rw [nI_s1]
    refine p12_waiting X dX12_colon_30 ?_
    refine w_aload_n X dX12_colon_33 rfl rfl ?_
    refine g12_waitPlaces X dX12_colon_34 ?_
    refine w_aload_n X dX12_colon_37 rfl rfl ?_
    refine g12_waiting X dX12_colon_38 ?_
    try simp only [gI_sI, gI_sL, gL_sI, gL_sL, false_and, and_false, and_self, if_false, if_true, reduceIte, Nat.reduceEqDiff, h5, h20, hk9, hk8, h12, h22, gI_wa, gL_wa, gI_pu, gL_pu, gI_op, gL_op]
    refine w_ialoadN X dX12_colon_41 rfl rfl (by omega) ?_
    try simp only [gI_sI, gI_sL, gL_sI, gL_sL, false_and, and_false, and_self, if_false, if_true, reduceIte, Nat.reduceEqDiff, h5, h20, hk9, hk8, h12, h22, gI_wa, gL_wa, gI_pu, gL_pu, gI_op, gL_op]
    refine w_istore_n X dX12_colon_42 rfl (by decide) ?_
    refine w_aload_n X dX12_colon_43 rfl rfl ?_
    refine g12_waitValues X dX12_colon_44 ?_
    refine w_aload_n X dX12_colon_47 rfl rfl ?_
    refine g12_waiting X dX12_colon_48 ?_
    try simp only [gI_sI, gI_sL, gL_sI, gL_sL, false_and, and_false, and_self, if_false, if_true, reduceIte, Nat.reduceEqDiff, h5, h20, hk9, hk8, h12, h22, gI_wa, gL_wa, gI_pu, gL_pu, gI_op, gL_op]
    refine w_ialoadN X dX12_colon_51 rfl rfl (by omega) ?_
    try simp only [gI_sI, gI_sL, gL_sI, gL_sL, false_and, and_false, and_self, if_false, if_true, reduceIte, Nat.reduceEqDiff, h5, h20, hk9, hk8, h12, h22, gI_wa, gL_wa, gI_pu, gL_pu, gI_op, gL_op]
    refine w_istore_n X dX12_colon_52 rfl (by decide) ?_
    refine w_aload_n X dX12_colon_53 rfl rfl ?_
    refine w_dup X dX12_colon_54 rfl ?_
    refine g12_operandCount X dX12_colon_55 ?_
    try simp only [gI_sI, gI_sL, gL_sI, gL_sL, false_and, and_false, and_self, if_false, if_true, reduceIte, Nat.reduceEqDiff, h5, h20, hk9, hk8, h12, h22, gI_wa, gL_wa, gI_pu, gL_pu, gI_op, gL_op]
    refine w_iconst (v := 1) X dX12_colon_58 (by decide) ?_
    refine w_isub X dX12_colon_59 ?_
    rw [nI_s1]
    refine p12_operandCount X dX12_colon_60 ?_
    refine w_aload_n X dX12_colon_63 rfl rfl ?_
    refine w_iconst (v := 2) X dX12_colon_64 (by decide) ?_
    refine w_aload_n X dX12_colon_65 rfl rfl ?_
    refine g12_length X dX12_colon_66 ?_
    try simp only [gI_sI, gI_sL, gL_sI, gL_sL, false_and, and_false, and_self, if_false, if_true, reduceIte, Nat.reduceEqDiff, h5, h20, hk9, hk8, h12, h22, gI_wa, gL_wa, gI_pu, gL_pu, gI_op, gL_op]
    refine w_iload_n X dX12_colon_69 rfl rfl ?_
    refine w_v3fV X dX12_colon_70 k12_wait rfl rfl (c12_wait G hG _ _ r.length (by simp [sI_]) (by omega) _ _ _) (Nat.le_of_ble_eq_true rfl) ?_
    refine w_aload_n X dX12_colon_73 rfl rfl ?_
    refine w_bipush (v := 6) X dX12_colon_74 (by decide) ?_
    refine w_lconst (v := 0) X dX12_colon_76 (by decide) ?_
    refine w_v2fV X dX12_colon_77 k12_put rfl rfl (c12_put G hG _ _ (cs_ ((7, c, a, b, x) :: r) ++ tc_ t).length (by simp [wa_, sI_, h12]) (by omega) _ _) (Nat.le_of_ble_eq_true rfl) ?_
    refine w_aload_n X dX12_colon_80 rfl rfl ?_
    refine g12_values X dX12_colon_81 ?_
    refine w_bipush (v := 32) X dX12_colon_84 (by decide) ?_
    refine w_s1fI X dX12_colon_86 k12_rowOf (c12_rowOf G hG _ _ _) (Nat.le_of_ble_eq_true rfl) ?_
    refine w_iload_n X dX12_colon_89 rfl rfl ?_
    refine w_iadd X dX12_colon_90 ?_
    rw [nI_2048]
    refine w_aload_n X dX12_colon_91 rfl rfl ?_
    refine g12_length X dX12_colon_92 ?_
    try simp only [gI_sI, gI_sL, gL_sI, gL_sL, false_and, and_false, and_self, if_false, if_true, reduceIte, Nat.reduceEqDiff, h5, h20, hk9, hk8, h12, h22, gI_wa, gL_wa, gI_pu, gL_pu, gI_op, gL_op]
    refine w_iload_n X dX12_colon_95 rfl rfl ?_
    refine w_isub X dX12_colon_96 ?_
    refine w_iconst (v := 1) X dX12_colon_97 (by decide) ?_
    refine w_isub X dX12_colon_98 ?_
    rw [nI_d _ _ hql]
    refine w_i2l X dX12_colon_99 ?_
    refine w_lastoreN X dX12_colon_100 rfl rfl (by omega) ?_
    refine w_aload_n X dX12_colon_101 rfl rfl ?_
    refine w_dup X dX12_colon_102 rfl ?_
    refine g12_at X dX12_colon_103 ?_
    try simp only [gI_sI, gI_sL, gL_sI, gL_sL, false_and, and_false, and_self, if_false, if_true, reduceIte, Nat.reduceEqDiff, h5, h20, hk9, hk8, h12, h22, gI_wa, gL_wa, gI_pu, gL_pu, gI_op, gL_op]
    refine w_iconst (v := 1) X dX12_colon_106 (by decide) ?_
    refine w_iadd X dX12_colon_107 ?_
    rw [nI_1]
    refine p12_at X dX12_colon_108 ?_
    refine w_vrR X dX12_colon_111 ?_
    rw [hbt]
    exact lq N1 c a b t x r h1
  · have hbt : cl_ k W e nd op = .inr (1, k) := by
      unfold cl_
      cases hV : (rt_ 1 W e).1 with
      | nil => rfl
      | cons f r =>
        simp only
        rw [if_neg (fun q => h10 (by rw [hV]; exact congrArg nI q))]
    refine w_aload_n X dX12_colon_13 rfl rfl ?_
    refine w_iconst (v := 1) X dX12_colon_14 (by decide) ?_
    refine w_aload_n X dX12_colon_15 rfl rfl ?_
    refine g12_at X dX12_colon_16 ?_
    try simp only [gI_sI, gI_sL, gL_sI, gL_sL, false_and, and_false, and_self, if_false, if_true, reduceIte, Nat.reduceEqDiff, h5]
    refine w_v2fV X dX12_colon_19 k12_fail rfl rfl (c12_fail G hG _ _ _ _) (Nat.le_of_ble_eq_true rfl) ?_
    refine w_vrR X dX12_colon_22 ?_
    rw [hbt]
    exact px_fa h1.2.1 hf3
end
section
theorem nt_le : ∀ e : Term, nt_ e ≤ (tc_ e).length
  | .int _ => by simp [tc_, nt_]
  | .index _ => by simp [tc_, nt_]
  | .length e => by have := nt_le e; simp [tc_, nt_]; omega
  | .sum e => by have := nt_le e; simp [tc_, nt_]; omega
  | .elem _ x => by have := nt_le x; simp [tc_, nt_]; omega
  | .mul a (.div b c) => by have := nt_le a; have := nt_le b; have := nt_le c; simp [tc_, nt_]; omega
  | .rem a b => by have := nt_le a; have := nt_le b; simp [tc_, nt_]; omega
  | .sub _ x => by have := nt_le x; simp [tc_, nt_]; omega
  | .add a r => by have := nt_le a; have := nt_le r; simp [tc_, nt_]; omega
  | .arg _ | .long _ | .null | .field _ _ _ _ | .static _ _ _ | .string _ _ | .mirror _ | .div _ _ | .op2 _ _ _ | .op1 _ _ | .result | .thrown | .old _ => by simp [nt_]
  | .mul _ (.arg _) | .mul _ (.int _) | .mul _ (.long _) | .mul _ .null | .mul _ (.index _) | .mul _ (.field _ _ _ _) | .mul _ (.static _ _ _) | .mul _ (.string _ _) | .mul _ (.mirror _) | .mul _ (.length _) | .mul _ (.elem _ _) | .mul _ (.add _ _) | .mul _ (.sub _ _) | .mul _ (.mul _ _) | .mul _ (.rem _ _) | .mul _ (.op2 _ _ _) | .mul _ (.op1 _ _) | .mul _ (.sum _) | .mul _ .result | .mul _ .thrown | .mul _ (.old _) => by simp [nt_]
/-- a closed bracket; of an invocation: its name and its arguments -/
def cz_ (k : Nat) (W : List fr_) (e : Term) (nd op : Nat) : ss_ ⊕ (Int32 × Nat) := match (rt_ 1 W e).1 with
  | [] => .inr (1, k)
  | f :: r => if f.1 = 0 then .inl (k + 1, r, some (rt_ 1 W e).2, nd, op - 1) else if f.1 = 8 then .inl (k + 1, r, some (.sub (.long f.2.2.2.2) (sa_ f.2.2.1 (rt_ 1 W e).2)), nd, op - 1) else .inr (1, k)
/-- the invocation's cells behind its closing -/
def iv_ (N : mm_) (w k op p ln oc : Nat) (m : Nat) (x : Int64) : mm_ := sI_ (pu_ (op_ (sI_ (sI_ (sI_ N 0 20 (nI w)) 0 23 (nI (op - 1))) 0 22 (nI oc)) oc (nI p)) ln 9 ((x <<< ((2 : Int32).toInt64 &&& 63)) ||| (nI m).toInt64)) 0 5 (nI (k + 1))
theorem px_iv {M N : mm_} {n k nd op : Nat} {c : Int32} {a b y : Term} {x : Int64} {r : List fr_} {u : Option Term} (hN : ps2_ M n k ((8, c, a, b, x) :: r) u nd op N) (hf : M.1 0 3 = 0) (hc : cs_ r ++ tc_ y = cs_ ((8, c, a, b, x) :: r) ++ cu_ u) (hny : nt_ y = nt_ a + cn_ u) : px_ M n (.inl (k + 1, r, some (.sub (.long x) y), nd, op - 1)) (iv_ N r.length k op (cs_ r).length (cs_ r ++ tc_ y).length (os_ r).length (ac_ y) x) := by
  have hf3 : N.1 0 3 = 0 := hN.2.2.1.trans hf
  have hl := (pr_len hN.1).1
  obtain ⟨⟨h0, h5, hcd, h20, ⟨hw, -, hk7, hk8, hk9, hk10⟩, ho, h13, h23, hn1, hn2, hop, hop2, hcq⟩, hpf, -, -⟩ := hN
  rw [← hc] at hcd hl
  have hop1 : no_ r + 1 = op := by simpa [no_] using hop
  unfold iv_
  refine ⟨pf_sI (pf_pu (pf_op (pf_sI (pf_sI (pf_sI hpf (by omega)) (by omega)) (by omega)))) (by omega), ⟨tz_sI (tz_pu (tz_op (tz_sI (tz_sI (tz_sI h0 (by omega)) (by omega)) (by omega)))) (by omega), by simp [sI_], ?_, by simp [pu_, op_, sI_, sL_], ?_, ?_, by simp [pu_, op_, sI_, sL_, h13], by simp [pu_, op_, sI_, sL_], ?_, hn2, by omega, by omega, ?_⟩, by simp [pu_, op_, sI_, sL_, hf3]⟩
  · have e1 : cs_ r ++ cu_ (some (.sub (.long x) y)) = (cs_ r ++ tc_ y) ++ [(9, (x <<< ((2 : Int32).toInt64 &&& 63)) ||| (nI (ac_ y)).toInt64)] := by simp [cu_, tc_, kv_]
    rw [e1]
    exact cd_sI (cd_pu (cd_op (cd_sI (cd_sI (cd_sI hcd (by omega) (by omega)) (by omega) (by omega)) (by omega) (by omega)))) (by omega) (by omega)
  · exact wr_sI (wr_pu (wr_op (wr_sI (wr_sI (wr_sI hw (Or.inl (by omega))) (Or.inl (by omega))) (Or.inl (by omega))))) (Or.inl (by omega))
  · have e2 : os_ r ++ co_ (cs_ r).length (some (.sub (.long x) y)) = os_ r ++ [(cs_ r).length] := rfl
    rw [e2]
    refine od_sI (od_pu (od_op ⟨by simp [sI_], fun i z hi => ?_⟩)) (by omega) (by omega)
    rw [sI_ne _ _ _ _ (by omega), sI_ne _ _ _ _ (by omega), sI_ne _ _ _ _ (by omega)]
    exact ho.2 i z (by rw [os_, List.append_assoc, List.getElem?_append_left (List.getElem?_eq_some_iff.mp hi).1]; exact hi)
  · simp only [nw_, cn_] at hn1 ⊢
    simp [nf_, nt_, hny, cn_] at hn1 ⊢
    omega
  · show 1 ≤ nt_ (.sub (.long x) y)
    simp [nt_]
set_option maxRecDepth 100000 in
set_option maxHeartbeats 4000000 in
theorem c12_close (G : gg_) (hG : gd_ G) (d : Nat) (M : mm_) (n k nd op : Nat) (W : List fr_) (e : Term) (h : pr_ M n k W (some e) nd op) (hf : M.1 0 3 = 0) : cm_ G yX12_close cX12_close 3 none (d + 5) [.ref (G.1 0)] M (rV_ (px_ M n (cz_ k W e nd op))) := by
  refine cm_of hG (by decide) (Nat.le_of_ble_eq_true rfl) (fun C X => ?_)
  have lp : ∀ (N : mm_) (c : Int32) (a b t : Term) (x : Int64) (r : List fr_), ps2_ M n k ((0, c, a, b, x) :: r) (some t) nd op N → px_ M n (.inl (k + 1, r, some t, nd, op - 1)) (sI_ (sI_ (sI_ N 0 20 (nI r.length)) 0 23 (nI (op - 1))) 0 5 (nI (k + 1))) := by
    intro N c a b t x r hN
    have hf3 : N.1 0 3 = 0 := hN.2.2.1.trans hf
    obtain ⟨⟨h0, h5, hc, h20, ⟨hw, -, hk7, hk8, hk9, -⟩, ho, h13, h23, hn1, hn2, hop, hop2, hcq⟩, hpf, -, -⟩ := hN
    have hop1 : no_ r + 1 = op := by simpa [no_] using hop
    have e1 : cs_ ((0, c, a, b, x) :: r) = cs_ r := by simp [cs_, fc_]
    have e2 : os_ ((0, c, a, b, x) :: r) = os_ r := by simp [os_, ff_]
    rw [e1] at hc ho
    rw [e2] at ho
    refine ⟨pf_sI (pf_sI (pf_sI hpf (by omega)) (by omega)) (by omega), ⟨tz_sI (tz_sI (tz_sI h0 (by omega)) (by omega)) (by omega), by simp [sI_], cd_sI (cd_sI (cd_sI hc (by omega) (by omega)) (by omega) (by omega)) (by omega) (by omega), by simp [sI_], wr_sI (wr_sI (wr_sI hw (Or.inl (by omega))) (Or.inl (by omega))) (Or.inl (by omega)), od_sI (od_sI (od_sI ho (by omega) (by omega)) (by omega) (by omega)) (by omega) (by omega), by simp [sI_, h13], by simp [sI_], ?_, hn2, by omega, by omega, hcq⟩, by simp [sI_, hf3]⟩
    simp only [nw_] at hn1 ⊢
    simp [nf_] at hn1
    omega
  refine w_aload_n X dX12_close_0 rfl rfl ?_
  refine w_v0rV X dX12_close_1 k12_reduceAll rfl rfl (c12_reduceAll G hG _ M n k nd op W e h) (Nat.le_of_ble_eq_true rfl) (fun N1 h1 => ?_)
  have hle := pr_len h1.1
  have h20 := h1.1.2.2.2.1
  have h5 := h1.1.2.1
  have hf3 : N1.1 0 3 = 0 := h1.2.2.1.trans hf
  refine w_aload_n X dX12_close_4 rfl rfl ?_
  refine w_v0fI X dX12_close_5 k12_last rfl rfl (c12_last G hG _ _ _ h20 (by omega)) (Nat.le_of_ble_eq_true rfl) ?_
  rw [la_pr h1.1]
  refine w_if_ne (tgt := 44) X dX12_close_8 (by decide) (fun h8 => ?_) (fun h8 => ?_)
  · refine w_aload_n X dX12_close_44 rfl rfl ?_
    refine w_v0fI X dX12_close_45 k12_last rfl rfl (c12_last G hG _ _ _ h20 (by omega)) (Nat.le_of_ble_eq_true rfl) ?_
    rw [la_pr h1.1]
    refine w_bipush (v := 8) X dX12_close_48 (by decide) ?_
    refine w_icmp_ne (tgt := 155) X dX12_close_50 (by decide) (fun h50 => ?_) (fun h50 => ?_)
    · have hbt : cz_ k W e nd op = .inr (1, k) := by
        unfold cz_
        cases hV : (rt_ 1 W e).1 with
        | nil => rfl
        | cons f r =>
          simp only
          rw [if_neg (fun q => h8 (by rw [hV]; exact congrArg nI q)), if_neg (fun q => h50 (by rw [hV]; exact congrArg nI q))]
      refine w_aload_n X dX12_close_155 rfl rfl ?_
      refine w_iconst (v := 1) X dX12_close_156 (by decide) ?_
      refine w_aload_n X dX12_close_157 rfl rfl ?_
      refine g12_at X dX12_close_158 ?_
      try simp only [gI_sI, gI_sL, gL_sI, gL_sL, false_and, and_false, and_self, if_false, if_true, reduceIte, Nat.reduceEqDiff, h5]
      refine w_v2fV X dX12_close_161 k12_fail rfl rfl (c12_fail G hG _ _ _ _) (Nat.le_of_ble_eq_true rfl) ?_
      refine w_vrR X dX12_close_164 ?_
      rw [hbt]
      exact px_fa h1.2.1 hf3
    · have hq : ∃ f r, (rt_ 1 W e).1 = f :: r ∧ f.1 = 8 := (tp_3 (k := 8) (by omega) (wr_8 h1.1.2.2.2.2.1)).mp h50
      obtain ⟨⟨kd, c, a, b, x⟩, r, hV, hkd⟩ := hq
      have hkd : kd = 8 := hkd
      subst hkd
      have hbt : cz_ k W e nd op = .inl (k + 1, r, some (.sub (.long x) (sa_ a (rt_ 1 W e).2)), nd, op - 1) := by unfold cz_; rw [hV]; rfl
      have hos := pr_os h1.1
      generalize (rt_ 1 W e).2 = t at h1 hbt hle
      rw [hV] at h1 hos
      have ha1 : ao_ a := (h1.1.2.2.2.2.1.2.1.2 rfl).1
      have ht1 : 1 ≤ nt_ t := h1.1.2.2.2.2.2.2.2.2.2.2.2.2
      have ht2 := nt_le t
      have e1 : cs_ r ++ tc_ (sa_ a t) = cs_ ((8, c, a, b, x) :: r) ++ cu_ (some t) := by simp [cs_, fc_, cu_, tc_sa a t ha1]
      have h20 : N1.1 0 20 = nI (r.length + 1) := by have := h1.1.2.2.2.1; simpa using this
      have h23 := h1.1.2.2.2.2.2.2.2.1
      have hop1 : no_ r + 1 = op := by have := h1.1.2.2.2.2.2.2.2.2.2.2.1; simpa [no_] using this
      have hop2 := h1.1.2.2.2.2.2.2.2.2.2.2.2.1
      have hk8 : N1.1 8 r.length = nI (cs_ r).length := h1.1.2.2.2.2.1.2.2.2.1
      have hk9 : N1.1 9 r.length = nI (ac_ a) := h1.1.2.2.2.2.1.2.2.2.2.1
      have hk10 : N1.2.1 10 r.length = x := h1.1.2.2.2.2.1.2.2.2.2.2 rfl
      have h12 : N1.1 0 12 = nI (cs_ r ++ tc_ (sa_ a t)).length := by rw [e1]; exact h1.1.2.2.1.1
      have h22 : N1.1 0 22 = nI ((os_ r).length + (ac_ a + 1)) := by
        have := h1.1.2.2.2.2.2.1.1
        rw [this]
        simp [os_, ff_, co_, oa_len]
      rw [hV, ← e1] at hle
      simp only [List.length_cons] at hle
      simp [os_, ff_, oa_len] at hos
      have hne : (cs_ r).length < (cs_ r ++ tc_ (sa_ a t)).length := by rw [tc_sa a t ha1]; simp; omega
      refine w_aload_n X dX12_close_53 rfl rfl ?_
      refine w_dup X dX12_close_54 rfl ?_
      refine g12_waiting X dX12_close_55 ?_
      try simp only [gI_sI, gI_sL, gL_sI, gL_sL, false_and, and_false, and_self, if_false, if_true, reduceIte, Nat.reduceEqDiff, h5, h20, h23, hk8, hk9, hk10, h12, h22, gI_wa, gL_wa, gI_pu, gL_pu, gI_op, gL_op]
      refine w_iconst (v := 1) X dX12_close_58 (by decide) ?_
      refine w_isub X dX12_close_59 ?_
      rw [nI_s1]
      refine p12_waiting X dX12_close_60 ?_
      refine w_aload_n X dX12_close_63 rfl rfl ?_
      refine w_dup X dX12_close_64 rfl ?_
      refine g12_opened X dX12_close_65 ?_
      try simp only [gI_sI, gI_sL, gL_sI, gL_sL, false_and, and_false, and_self, if_false, if_true, reduceIte, Nat.reduceEqDiff, h5, h20, h23, hk8, hk9, hk10, h12, h22, gI_wa, gL_wa, gI_pu, gL_pu, gI_op, gL_op]
      refine w_iconst (v := 1) X dX12_close_68 (by decide) ?_
      refine w_isub X dX12_close_69 ?_
      rw [nI_p op (by omega)]
      refine p12_opened X dX12_close_70 ?_
      refine w_aload_n X dX12_close_73 rfl rfl ?_
      refine g12_waitPlaces X dX12_close_74 ?_
      refine w_aload_n X dX12_close_77 rfl rfl ?_
      refine g12_waiting X dX12_close_78 ?_
      try simp only [gI_sI, gI_sL, gL_sI, gL_sL, false_and, and_false, and_self, if_false, if_true, reduceIte, Nat.reduceEqDiff, h5, h20, h23, hk8, hk9, hk10, h12, h22, gI_wa, gL_wa, gI_pu, gL_pu, gI_op, gL_op]
      refine w_ialoadN X dX12_close_81 rfl rfl (by omega) ?_
      try simp only [gI_sI, gI_sL, gL_sI, gL_sL, false_and, and_false, and_self, if_false, if_true, reduceIte, Nat.reduceEqDiff, h5, h20, h23, hk8, hk9, hk10, h12, h22, gI_wa, gL_wa, gI_pu, gL_pu, gI_op, gL_op]
      refine w_istore_n X dX12_close_82 rfl (by decide) ?_
      refine w_aload_n X dX12_close_83 rfl rfl ?_
      refine g12_length X dX12_close_84 ?_
      try simp only [gI_sI, gI_sL, gL_sI, gL_sL, false_and, and_false, and_self, if_false, if_true, reduceIte, Nat.reduceEqDiff, h5, h20, h23, hk8, hk9, hk10, h12, h22, gI_wa, gL_wa, gI_pu, gL_pu, gI_op, gL_op]
      refine w_iload_n X dX12_close_87 rfl rfl ?_
      refine w_icmp_ne (tgt := 95) X dX12_close_88 (by decide) (fun h88 => ?_) (fun h88 => absurd h88 (fun q => by have := (nI_eq (by omega) (by omega)).mp q; omega))
      refine w_aload_n X dX12_close_95 rfl rfl ?_
      refine g12_waitValues X dX12_close_96 ?_
      refine w_aload_n X dX12_close_99 rfl rfl ?_
      refine g12_waiting X dX12_close_100 ?_
      try simp only [gI_sI, gI_sL, gL_sI, gL_sL, false_and, and_false, and_self, if_false, if_true, reduceIte, Nat.reduceEqDiff, h5, h20, h23, hk8, hk9, hk10, h12, h22, gI_wa, gL_wa, gI_pu, gL_pu, gI_op, gL_op]
      refine w_ialoadN X dX12_close_103 rfl rfl (by omega) ?_
      try simp only [gI_sI, gI_sL, gL_sI, gL_sL, false_and, and_false, and_self, if_false, if_true, reduceIte, Nat.reduceEqDiff, h5, h20, h23, hk8, hk9, hk10, h12, h22, gI_wa, gL_wa, gI_pu, gL_pu, gI_op, gL_op]
      refine w_iconst (v := 1) X dX12_close_104 (by decide) ?_
      refine w_iadd X dX12_close_105 ?_
      rw [nI_1]
      refine w_istore_n X dX12_close_106 rfl (by decide) ?_
      refine w_aload_n X dX12_close_107 rfl rfl ?_
      refine w_aload_n X dX12_close_108 rfl rfl ?_
      refine g12_operandCount X dX12_close_109 ?_
      try simp only [gI_sI, gI_sL, gL_sI, gL_sL, false_and, and_false, and_self, if_false, if_true, reduceIte, Nat.reduceEqDiff, h5, h20, h23, hk8, hk9, hk10, h12, h22, gI_wa, gL_wa, gI_pu, gL_pu, gI_op, gL_op]
      refine w_iload_n X dX12_close_112 rfl rfl ?_
      refine w_isub X dX12_close_113 ?_
      rw [pk_sub (by omega), show (os_ r).length + (ac_ a + 1) - (ac_ a + 1) = (os_ r).length by omega]
      refine p12_operandCount X dX12_close_114 ?_
      refine w_aload_n X dX12_close_117 rfl rfl ?_
      refine w_iload_n X dX12_close_118 rfl rfl ?_
      refine w_v1fV X dX12_close_119 k12_operand rfl rfl (c12_operand G hG _ _ (os_ r).length (by simp [sI_]) (by omega) _) (Nat.le_of_ble_eq_true rfl) ?_
      refine w_aload_n X dX12_close_122 rfl rfl ?_
      refine w_bipush (v := 9) X dX12_close_123 (by decide) ?_
      refine w_aload_n X dX12_close_125 rfl rfl ?_
      refine g12_waitNames X dX12_close_126 ?_
      refine w_aload_n X dX12_close_129 rfl rfl ?_
      refine g12_waiting X dX12_close_130 ?_
      try simp only [gI_sI, gI_sL, gL_sI, gL_sL, false_and, and_false, and_self, if_false, if_true, reduceIte, Nat.reduceEqDiff, h5, h20, h23, hk8, hk9, hk10, h12, h22, gI_wa, gL_wa, gI_pu, gL_pu, gI_op, gL_op]
      refine w_laloadN X dX12_close_133 rfl rfl (by omega) ?_
      try simp only [gI_sI, gI_sL, gL_sI, gL_sL, false_and, and_false, and_self, if_false, if_true, reduceIte, Nat.reduceEqDiff, h5, h20, h23, hk8, hk9, hk10, h12, h22, gI_wa, gL_wa, gI_pu, gL_pu, gI_op, gL_op]
      refine w_iconst (v := 2) X dX12_close_134 (by decide) ?_
      refine w_lshl X dX12_close_135 ?_
      refine w_iload_n X dX12_close_136 rfl rfl ?_
      refine w_i2l X dX12_close_137 ?_
      refine w_lor X dX12_close_138 ?_
      refine w_v2fV X dX12_close_139 k12_put rfl rfl (c12_put G hG _ _ (cs_ r ++ tc_ (sa_ a t)).length (by simp [op_, sI_, h12]) (by omega) _ _) (Nat.le_of_ble_eq_true rfl) ?_
      refine w_aload_n X dX12_close_142 rfl rfl ?_
      refine w_dup X dX12_close_143 rfl ?_
      refine g12_at X dX12_close_144 ?_
      try simp only [gI_sI, gI_sL, gL_sI, gL_sL, false_and, and_false, and_self, if_false, if_true, reduceIte, Nat.reduceEqDiff, h5, h20, h23, hk8, hk9, hk10, h12, h22, gI_wa, gL_wa, gI_pu, gL_pu, gI_op, gL_op]
      refine w_iconst (v := 1) X dX12_close_147 (by decide) ?_
      refine w_iadd X dX12_close_148 ?_
      rw [nI_1]
      refine p12_at X dX12_close_149 ?_
      refine w_goto (tgt := 164) X dX12_close_152 (by decide) ?_
      refine w_vrR X dX12_close_164 ?_
      rw [hbt]
      have hh := px_iv h1 hf e1 (by rw [nt_sa a t ha1]; rfl)
      rw [ac_sa a t ha1] at hh
      exact hh
  · have hq : ∃ f r, (rt_ 1 W e).1 = f :: r ∧ f.1 = 0 := (tp_3 (k := 0) (by omega) (wr_8 h1.1.2.2.2.2.1)).mp h8
    obtain ⟨⟨kd, c, a, b, x⟩, r, hV, hkd⟩ := hq
    have hkd : kd = 0 := hkd
    subst hkd
    have hbt : cz_ k W e nd op = .inl (k + 1, r, some (rt_ 1 W e).2, nd, op - 1) := by unfold cz_; rw [hV]; rfl
    generalize (rt_ 1 W e).2 = t at h1 hbt hle
    rw [hV] at h1
    have h20 : N1.1 0 20 = nI (r.length + 1) := by have := h1.1.2.2.2.1; simpa using this
    have h23 := h1.1.2.2.2.2.2.2.2.1
    have hop1 : no_ r + 1 = op := by have := h1.1.2.2.2.2.2.2.2.2.2.2.1; simpa [no_] using this
    have hop2 := h1.1.2.2.2.2.2.2.2.2.2.2.2.1
    refine w_aload_n X dX12_close_11 rfl rfl ?_
    refine w_dup X dX12_close_12 rfl ?_
    refine g12_waiting X dX12_close_13 ?_
    try simp only [gI_sI, gI_sL, gL_sI, gL_sL, false_and, and_false, and_self, if_false, if_true, reduceIte, Nat.reduceEqDiff, h5, h20, h23]
    refine w_iconst (v := 1) X dX12_close_16 (by decide) ?_
    refine w_isub X dX12_close_17 ?_
    rw [nI_s1]
    refine p12_waiting X dX12_close_18 ?_
    refine w_aload_n X dX12_close_21 rfl rfl ?_
    refine w_dup X dX12_close_22 rfl ?_
    refine g12_opened X dX12_close_23 ?_
    try simp only [gI_sI, gI_sL, gL_sI, gL_sL, false_and, and_false, and_self, if_false, if_true, reduceIte, Nat.reduceEqDiff, h5, h20, h23]
    refine w_iconst (v := 1) X dX12_close_26 (by decide) ?_
    refine w_isub X dX12_close_27 ?_
    rw [nI_p op (by omega)]
    refine p12_opened X dX12_close_28 ?_
    refine w_aload_n X dX12_close_31 rfl rfl ?_
    refine w_dup X dX12_close_32 rfl ?_
    refine g12_at X dX12_close_33 ?_
    try simp only [gI_sI, gI_sL, gL_sI, gL_sL, false_and, and_false, and_self, if_false, if_true, reduceIte, Nat.reduceEqDiff, h5, h20, h23]
    refine w_iconst (v := 1) X dX12_close_36 (by decide) ?_
    refine w_iadd X dX12_close_37 ?_
    rw [nI_1]
    refine p12_at X dX12_close_38 ?_
    refine w_goto (tgt := 164) X dX12_close_41 (by decide) ?_
    refine w_vrR X dX12_close_164 ?_
    rw [hbt]
    exact lp N1 c a b t x r h1
end
section
/-- the last j steps of ln moved up by one -/
def sh_ (N : mm_) (ln : Nat) : Nat → mm_
  | 0 => N
  | j + 1 => sL_ (sI_ (sh_ N ln j) 2 (2048 + (ln - j)) (N.1 2 (2048 + (ln - j) - 1))) 3 (2048 + (ln - j)) (N.2.1 3 (2048 + (ln - j) - 1))
theorem sh_I {N : mm_} {ln : Nat} : ∀ (j : Nat), j ≤ ln → ∀ (a i : Nat), (sh_ N ln j).1 a i = if a = 2 ∧ 2048 + ln - j < i ∧ i ≤ 2048 + ln then N.1 2 (i - 1) else N.1 a i
  | 0, _, a, i => by rw [if_neg (by omega)]; rfl
  | j + 1, hj, a, i => by
    simp only [sh_, gI_sL, gI_sI]
    rw [sh_I j (by omega) a i]
    by_cases h : a = 2 ∧ i = 2048 + (ln - j)
    · obtain ⟨rfl, rfl⟩ := h
      rw [if_pos ⟨rfl, rfl⟩, if_pos ⟨rfl, by omega, by omega⟩]
    · rw [if_neg h]
      by_cases h2 : a = 2 ∧ 2048 + ln - j < i ∧ i ≤ 2048 + ln
      · rw [if_pos h2, if_pos ⟨h2.1, by omega, h2.2.2⟩]
      · rw [if_neg h2, if_neg (fun q => h2 ⟨q.1, by have : ¬ i = 2048 + (ln - j) := fun z => h ⟨q.1, z⟩; omega, q.2.2⟩)]
theorem sh_L {N : mm_} {ln : Nat} : ∀ (j : Nat), j ≤ ln → ∀ (a i : Nat), (sh_ N ln j).2.1 a i = if a = 3 ∧ 2048 + ln - j < i ∧ i ≤ 2048 + ln then N.2.1 3 (i - 1) else N.2.1 a i
  | 0, _, a, i => by rw [if_neg (by omega)]; rfl
  | j + 1, hj, a, i => by
    simp only [sh_, gL_sL, gL_sI]
    rw [sh_L j (by omega) a i]
    by_cases h : a = 3 ∧ i = 2048 + (ln - j)
    · obtain ⟨rfl, rfl⟩ := h
      rw [if_pos ⟨rfl, rfl⟩, if_pos ⟨rfl, by omega, by omega⟩]
    · rw [if_neg h]
      by_cases h2 : a = 3 ∧ 2048 + ln - j < i ∧ i ≤ 2048 + ln
      · rw [if_pos h2, if_pos ⟨h2.1, by omega, h2.2.2⟩]
      · rw [if_neg h2, if_neg (fun q => h2 ⟨q.1, by have : ¬ i = 2048 + (ln - j) := fun z => h ⟨q.1, z⟩; omega, q.2.2⟩)]
theorem sh_R {N : mm_} {ln : Nat} : ∀ (j : Nat), (sh_ N ln j).2.2 = N.2.2
  | 0 => rfl
  | j + 1 => sh_R j
theorem pf_sh {M N : mm_} {ln : Nat} (h : pf_ M N) : ∀ (j : Nat), pf_ M (sh_ N ln j)
  | 0 => h
  | j + 1 => pf_sL (pf_sI (pf_sh h j) (by omega)) (by omega)
theorem cd_ins {N : mm_} {A B : List sv_} {v : Int64} (h : cd_ N (A ++ B)) : cd_ (sL_ (sI_ (sI_ (sh_ N (A ++ B).length B.length) 0 12 (nI ((A ++ B).length + 1))) 2 (2048 + A.length) 7) 3 (2048 + A.length) v) (A ++ (7, v) :: B) := by
  have hB : B.length ≤ (A ++ B).length := by simp
  have hAB : (A ++ B).length = A.length + B.length := by simp
  refine ⟨by simp [sI_, sL_, Nat.add_assoc], fun i z hi => ?_⟩
  rw [mid_get] at hi
  simp only [gI_sL, gI_sI, gL_sL, gL_sI]
  by_cases h1 : i < A.length
  · rw [if_pos h1] at hi
    rw [if_neg (by omega), if_neg (by omega), if_neg (by omega), sh_I _ hB, sh_L _ hB, if_neg (by omega), if_neg (by omega)]
    exact h.2 i z (by rw [List.getElem?_append_left h1]; exact hi)
  · rw [if_neg h1] at hi
    by_cases h2 : i = A.length
    · rw [if_pos h2] at hi
      cases hi
      rw [if_pos (by simp [h2]), if_pos (by simp [h2])]
      exact ⟨rfl, rfl⟩
    · rw [if_neg h2] at hi
      have h3 := (List.getElem?_eq_some_iff.mp hi).1
      rw [if_neg (by omega), if_neg (by omega), if_neg (by omega), sh_I _ hB, sh_L _ hB, if_pos ⟨rfl, by omega, by omega⟩, if_pos ⟨rfl, by omega, by omega⟩]
      have := h.2 (i - 1) z (by rw [List.getElem?_append_right (by omega), show i - 1 - A.length = i - A.length - 1 by omega]; exact hi)
      rw [show 2048 + i - 1 = 2048 + (i - 1) by omega]
      exact this
def ha_ (k : Nat) (W : List fr_) (e : Term) (nd op : Nat) : ss_ ⊕ (Int32 × Nat) := if nd = 20 then .inr (3, k) else .inl (k + 1, (1, 0, (rt_ 1 W e).2, .null, 0) :: (rt_ 1 W e).1, none, nd + 1, op)
set_option maxRecDepth 100000 in
set_option maxHeartbeats 4000000 in
theorem c12_close_0 (G : gg_) (hG : gd_ G) (d : Nat) (M : mm_) (n k nd op : Nat) (r : List fr_) (c : Int32) (b : Term) (x : Int64) (h : pr_ M n k ((8, c, .null, b, x) :: r) none nd op) (hf : M.1 0 3 = 0) : cm_ G yX12_close cX12_close 3 none (d + 5) [.ref (G.1 0)] M (rV_ (px_ M n (.inl (k + 1, r, some (.sub (.long x) .null), nd, op - 1)))) := by
  refine cm_of hG (by decide) (Nat.le_of_ble_eq_true rfl) (fun C X => ?_)
  have hle := pr_len h
  have hos := pr_os h
  have h5 := h.2.1
  have e1 : cs_ r ++ tc_ .null = cs_ ((8, c, .null, b, x) :: r) ++ cu_ none := by simp [cs_, fc_, cu_, tc_]
  have h20 : M.1 0 20 = nI (r.length + 1) := by have := h.2.2.2.1; simpa using this
  have h23 := h.2.2.2.2.2.2.2.1
  have hop1 : no_ r + 1 = op := by have := h.2.2.2.2.2.2.2.2.2.2.1; simpa [no_] using this
  have hop2 := h.2.2.2.2.2.2.2.2.2.2.2.1
  have hk8 : M.1 8 r.length = nI (cs_ r).length := h.2.2.2.2.1.2.2.2.1
  have hk10 : M.2.1 10 r.length = x := h.2.2.2.2.1.2.2.2.2.2 rfl
  have h12 : M.1 0 12 = nI (cs_ r).length := by have := h.2.2.1.1; rw [← e1] at this; simpa [tc_] using this
  have h22 : M.1 0 22 = nI (os_ r).length := by have := h.2.2.2.2.2.1.1; rw [this]; simp [os_, ff_, co_, oa_]
  rw [← e1] at hle
  simp [tc_] at hle
  simp [os_, ff_, oa_] at hos
  refine w_aload_n X dX12_close_0 rfl rfl ?_
  refine w_v0fV X dX12_close_1 k12_reduceAll rfl rfl (c12_reduceAll_0 G hG _ M n k nd op _ none (Or.inr ⟨_, r, rfl, Or.inr (by simp)⟩) h) (Nat.le_of_ble_eq_true rfl) ?_
  refine w_aload_n X dX12_close_4 rfl rfl ?_
  refine w_v0fI X dX12_close_5 k12_last rfl rfl (c12_last G hG _ _ (r.length + 1) h20 (by omega)) (Nat.le_of_ble_eq_true rfl) ?_
  rw [show la_ M (r.length + 1) = 8 from la_pr h]
  refine w_if_ne (tgt := 44) X dX12_close_8 (by decide) (fun h8 => ?_) (fun h8 => absurd h8 (by decide))
  refine w_aload_n X dX12_close_44 rfl rfl ?_
  refine w_v0fI X dX12_close_45 k12_last rfl rfl (c12_last G hG _ _ (r.length + 1) h20 (by omega)) (Nat.le_of_ble_eq_true rfl) ?_
  rw [show la_ M (r.length + 1) = 8 from la_pr h]
  refine w_bipush (v := 8) X dX12_close_48 (by decide) ?_
  refine w_icmp_ne (tgt := 155) X dX12_close_50 (by decide) (fun h50 => absurd rfl h50) (fun h50 => ?_)
  refine w_aload_n X dX12_close_53 rfl rfl ?_
  refine w_dup X dX12_close_54 rfl ?_
  refine g12_waiting X dX12_close_55 ?_
  try simp only [gI_sI, gI_sL, gL_sI, gL_sL, false_and, and_false, and_self, if_false, if_true, reduceIte, Nat.reduceEqDiff, h5, h20, h23, hk8, hk10, h12, h22, gI_wa, gL_wa, gI_pu, gL_pu, gI_op, gL_op]
  refine w_iconst (v := 1) X dX12_close_58 (by decide) ?_
  refine w_isub X dX12_close_59 ?_
  rw [nI_s1]
  refine p12_waiting X dX12_close_60 ?_
  refine w_aload_n X dX12_close_63 rfl rfl ?_
  refine w_dup X dX12_close_64 rfl ?_
  refine g12_opened X dX12_close_65 ?_
  try simp only [gI_sI, gI_sL, gL_sI, gL_sL, false_and, and_false, and_self, if_false, if_true, reduceIte, Nat.reduceEqDiff, h5, h20, h23, hk8, hk10, h12, h22, gI_wa, gL_wa, gI_pu, gL_pu, gI_op, gL_op]
  refine w_iconst (v := 1) X dX12_close_68 (by decide) ?_
  refine w_isub X dX12_close_69 ?_
  rw [nI_p op (by omega)]
  refine p12_opened X dX12_close_70 ?_
  refine w_aload_n X dX12_close_73 rfl rfl ?_
  refine g12_waitPlaces X dX12_close_74 ?_
  refine w_aload_n X dX12_close_77 rfl rfl ?_
  refine g12_waiting X dX12_close_78 ?_
  try simp only [gI_sI, gI_sL, gL_sI, gL_sL, false_and, and_false, and_self, if_false, if_true, reduceIte, Nat.reduceEqDiff, h5, h20, h23, hk8, hk10, h12, h22, gI_wa, gL_wa, gI_pu, gL_pu, gI_op, gL_op]
  refine w_ialoadN X dX12_close_81 rfl rfl (by omega) ?_
  try simp only [gI_sI, gI_sL, gL_sI, gL_sL, false_and, and_false, and_self, if_false, if_true, reduceIte, Nat.reduceEqDiff, h5, h20, h23, hk8, hk10, h12, h22, gI_wa, gL_wa, gI_pu, gL_pu, gI_op, gL_op]
  refine w_istore_n X dX12_close_82 rfl (by decide) ?_
  refine w_aload_n X dX12_close_83 rfl rfl ?_
  refine g12_length X dX12_close_84 ?_
  try simp only [gI_sI, gI_sL, gL_sI, gL_sL, false_and, and_false, and_self, if_false, if_true, reduceIte, Nat.reduceEqDiff, h5, h20, h23, hk8, hk10, h12, h22, gI_wa, gL_wa, gI_pu, gL_pu, gI_op, gL_op]
  refine w_iload_n X dX12_close_87 rfl rfl ?_
  refine w_icmp_ne (tgt := 95) X dX12_close_88 (by decide) (fun h88 => absurd rfl h88) (fun h88 => ?_)
  refine w_iconst (v := 0) X dX12_close_91 (by decide) ?_
  refine w_goto (tgt := 106) X dX12_close_92 (by decide) ?_
  refine w_istore_n X dX12_close_106 rfl (by decide) ?_
  refine w_aload_n X dX12_close_107 rfl rfl ?_
  refine w_aload_n X dX12_close_108 rfl rfl ?_
  refine g12_operandCount X dX12_close_109 ?_
  try simp only [gI_sI, gI_sL, gL_sI, gL_sL, false_and, and_false, and_self, if_false, if_true, reduceIte, Nat.reduceEqDiff, h5, h20, h23, hk8, hk10, h12, h22, gI_wa, gL_wa, gI_pu, gL_pu, gI_op, gL_op]
  refine w_iload_n X dX12_close_112 rfl rfl ?_
  refine w_isub X dX12_close_113 ?_
  rw [show nI (os_ r).length - 0 = nI (os_ r).length by simp]
  refine p12_operandCount X dX12_close_114 ?_
  refine w_aload_n X dX12_close_117 rfl rfl ?_
  refine w_iload_n X dX12_close_118 rfl rfl ?_
  refine w_v1fV X dX12_close_119 k12_operand rfl rfl (c12_operand G hG _ _ (os_ r).length (by simp [sI_, h22]) (by omega) _) (Nat.le_of_ble_eq_true rfl) ?_
  refine w_aload_n X dX12_close_122 rfl rfl ?_
  refine w_bipush (v := 9) X dX12_close_123 (by decide) ?_
  refine w_aload_n X dX12_close_125 rfl rfl ?_
  refine g12_waitNames X dX12_close_126 ?_
  refine w_aload_n X dX12_close_129 rfl rfl ?_
  refine g12_waiting X dX12_close_130 ?_
  try simp only [gI_sI, gI_sL, gL_sI, gL_sL, false_and, and_false, and_self, if_false, if_true, reduceIte, Nat.reduceEqDiff, h5, h20, h23, hk8, hk10, h12, h22, gI_wa, gL_wa, gI_pu, gL_pu, gI_op, gL_op]
  refine w_laloadN X dX12_close_133 rfl rfl (by omega) ?_
  try simp only [gI_sI, gI_sL, gL_sI, gL_sL, false_and, and_false, and_self, if_false, if_true, reduceIte, Nat.reduceEqDiff, h5, h20, h23, hk8, hk10, h12, h22, gI_wa, gL_wa, gI_pu, gL_pu, gI_op, gL_op]
  refine w_iconst (v := 2) X dX12_close_134 (by decide) ?_
  refine w_lshl X dX12_close_135 ?_
  refine w_iload_n X dX12_close_136 rfl rfl ?_
  refine w_i2l X dX12_close_137 ?_
  refine w_lor X dX12_close_138 ?_
  refine w_v2fV X dX12_close_139 k12_put rfl rfl (c12_put G hG _ _ (cs_ r).length (by simp [op_, sI_, h12]) (by omega) _ _) (Nat.le_of_ble_eq_true rfl) ?_
  refine w_aload_n X dX12_close_142 rfl rfl ?_
  refine w_dup X dX12_close_143 rfl ?_
  refine g12_at X dX12_close_144 ?_
  try simp only [gI_sI, gI_sL, gL_sI, gL_sL, false_and, and_false, and_self, if_false, if_true, reduceIte, Nat.reduceEqDiff, h5, h20, h23, hk8, hk10, h12, h22, gI_wa, gL_wa, gI_pu, gL_pu, gI_op, gL_op]
  refine w_iconst (v := 1) X dX12_close_147 (by decide) ?_
  refine w_iadd X dX12_close_148 ?_
  rw [nI_1]
  refine p12_at X dX12_close_149 ?_
  refine w_goto (tgt := 164) X dX12_close_152 (by decide) ?_
  refine w_vrR X dX12_close_164 ?_
  have hh := px_iv (ps2_rf h) hf e1 (by simp [nt_, cn_])
  simp only [tc_, List.append_nil] at hh
  exact hh
set_option maxRecDepth 100000 in
set_option maxHeartbeats 4000000 in
theorem c12_hash (G : gg_) (hG : gd_ G) (d : Nat) (M : mm_) (n k nd op : Nat) (W : List fr_) (e : Term) (h : pr_ M n k W (some e) nd op) (hf : M.1 0 3 = 0) : cm_ G yX12_hash cX12_hash 4 none (d + 4) [.ref (G.1 0)] M (rV_ (px_ M n (ha_ k W e nd op))) := by
  refine cm_of hG (by decide) (Nat.le_of_ble_eq_true rfl) (fun C X => ?_)
  have lq : ∀ (N : mm_) (V : List fr_) (t : Term), ps2_ M n k V (some t) nd op N → nd < 20 → px_ M n (.inl (k + 1, (1, 0, t, .null, 0) :: V, none, nd + 1, op)) (sI_ (pu_ (wa_ (sL_ (sI_ (sI_ (sh_ (sI_ N 0 13 (nI (nd + 1))) (cs_ V ++ tc_ t).length (tc_ t).length) 0 12 (nI ((cs_ V ++ tc_ t).length + 1))) 2 (2048 + (cs_ V).length) 7) 3 (2048 + (cs_ V).length) (nI ((cs_ V ++ tc_ t).length + 1 - (cs_ V).length)).toInt64) V.length 1 (nI ((cs_ V ++ tc_ t).length + 1)) 0) ((cs_ V ++ tc_ t).length + 1) 8 0) 0 5 (nI (k + 1))) := by
    intro N V t hN hn
    have hl := pr_len hN.1
    have hf3 : N.1 0 3 = 0 := hN.2.2.1.trans hf
    obtain ⟨⟨h0, h5, hc, h20, hw, ho, h13, h23, hn1, hn2, hop, hop2, hcq⟩, hpf, -, -⟩ := hN
    simp only [cu_] at hc hl
    have hj : (tc_ t).length ≤ (cs_ V ++ tc_ t).length := by simp
    have sI2 : ∀ a i, a ≠ 2 → ((sh_ (sI_ N 0 13 (nI (nd + 1))) (cs_ V ++ tc_ t).length (tc_ t).length)).1 a i = ((sI_ N 0 13 (nI (nd + 1)))).1 a i := fun a i ha => by rw [sh_I _ hj, if_neg (fun q => ha q.1)]
    have sL3 : ∀ a i, a ≠ 3 → ((sh_ (sI_ N 0 13 (nI (nd + 1))) (cs_ V ++ tc_ t).length (tc_ t).length)).2.1 a i = ((sI_ N 0 13 (nI (nd + 1)))).2.1 a i := fun a i ha => by rw [sh_L _ hj, if_neg (fun q => ha q.1)]
    have e9 : (nI ((cs_ V ++ tc_ t).length + 1 - (cs_ V).length)).toInt64 = lN ((tc_ t).length + 1) := by
      rw [show (cs_ V ++ tc_ t).length + 1 - (cs_ V).length = (tc_ t).length + 1 by simp; omega]
      refine nI_l ?_
      simp at hl
      omega
    rw [e9]
    have hz : tz_ ((sh_ (sI_ N 0 13 (nI (nd + 1))) (cs_ V ++ tc_ t).length (tc_ t).length)) n := ⟨by rw [sI2 0 2 (by omega), sI_ne _ _ _ _ (by omega)]; exact h0.1, h0.2⟩
    have hws : wr_ ((sh_ (sI_ N 0 13 (nI (nd + 1))) (cs_ V ++ tc_ t).length (tc_ t).length)) V := wr_eq (M := N) (fun a i ha hi => by rw [sI2 a i (by omega), sI_ne _ _ _ _ (by omega)]) (fun i hi => by rw [sL3 10 i (by omega)]; rfl) hw
    have hos : od_ ((sh_ (sI_ N 0 13 (nI (nd + 1))) (cs_ V ++ tc_ t).length (tc_ t).length)) (os_ V ++ co_ (cs_ V).length (some t)) := ⟨by rw [sI2 0 22 (by omega), sI_ne _ _ _ _ (by omega)]; exact ho.1, fun i z hi => by rw [sI2 11 i (by omega), sI_ne _ _ _ _ (by omega)]; exact ho.2 i z hi⟩
    refine ⟨pf_sI (pf_pu (pf_wa (pf_sL (pf_sI (pf_sI (pf_sh (pf_sI hpf (by omega)) _) (by omega)) (by omega)) (by omega)))) (by omega), ⟨tz_sI (tz_pu (tz_wa (tz_sL (tz_sI (tz_sI hz (by omega)) (by omega))))) (by omega), by simp [sI_], ?_, by simp [pu_, wa_, sI_, sL_], ?_, ?_, ?_, ?_, ?_, by omega, ?_, hop2, trivial⟩, ?_⟩
    · have e1 : cs_ ((1, 0, t, .null, 0) :: V) ++ cu_ none = (cs_ V ++ (7, lN ((tc_ t).length + 1)) :: tc_ t) ++ [(8, 0)] := by simp [cs_, fc_, cu_]
      rw [e1]
      have hp := cd_pu (t := 8) (v := 0) (cd_wa (w := V.length) (a := 1) (b := nI ((cs_ V ++ tc_ t).length + 1)) (c := 0) (cd_ins (v := lN ((tc_ t).length + 1)) (cd_sI (a := 0) (i := 13) (v := nI (nd + 1)) hc (by omega) (by omega))))
      have e2 : (cs_ V ++ (7, lN ((tc_ t).length + 1)) :: tc_ t).length = (cs_ V ++ tc_ t).length + 1 := by simp; omega
      rw [e2] at hp
      exact cd_sI hp (by omega) (by omega)
    · refine ⟨wr_sI (wr_pu (wr_wa (wr_sL (wr_sI (wr_sI hws (Or.inl (by omega))) (Or.inl (by omega))) (Or.inl (by omega))) (Nat.le_refl _))) (Or.inl (by omega)), ⟨by simp, fun q => by simp at q⟩, by simp [pu_, wa_, sI_, sL_]; rfl, ?_, by simp [pu_, wa_, sI_, sL_, fu_], fun q => by simp at q⟩
      simp [pu_, wa_, sI_, sL_, fp_]
      congr 1
      omega
    · have e2 : os_ ((1, 0, t, .null, 0) :: V) ++ co_ (cs_ ((1, 0, t, .null, 0) :: V)).length none = os_ V ++ co_ (cs_ V).length (some t) := by simp [os_, ff_, co_]
      rw [e2]
      exact od_sI (od_pu (od_wa (od_sL (od_sI (od_sI hos (by omega) (by omega)) (by omega) (by omega))))) (by omega) (by omega)
    · simp only [gI_sI, gI_pu, gI_wa, gI_sL, Nat.reduceEqDiff, false_and, and_false, and_self, if_false, if_true, reduceIte]
      rw [sI2 0 13 (by omega), sI_at]
    · simp only [gI_sI, gI_pu, gI_wa, gI_sL, Nat.reduceEqDiff, false_and, and_false, and_self, if_false, if_true, reduceIte]
      rw [sI2 0 23 (by omega), sI_ne _ _ _ _ (by omega)]
      exact h23
    · simp only [nw_, cn_] at hn1 ⊢
      simp [nf_]
      omega
    · simp only [no_]
      rw [if_neg (by simp)]
      simpa using hop
    · simp only [gI_sI, gI_pu, gI_wa, gI_sL, Nat.reduceEqDiff, false_and, and_false, and_self, if_false, if_true, reduceIte]
      rw [sI2 0 3 (by omega), sI_ne _ _ _ _ (by omega)]
      exact hf3
  by_cases hd20 : nd = 20
  · refine w_aload_n X dX12_hash_0 rfl rfl ?_
    refine w_iconst (v := 1) X dX12_hash_1 (by decide) ?_
    refine w_v1rV X dX12_hash_2 k12_reduceTo rfl rfl (c12_reduceTo G hG _ M n k nd op 1 (by omega) (by omega) W e h) (Nat.le_of_ble_eq_true rfl) (fun N2 h2 => ?_)
    have hle := pr_len h2.1
    have hos := pr_os h2.1
    have h20 := h2.1.2.2.2.1
    have h5 := h2.1.2.1
    have h13 := h2.1.2.2.2.2.2.2.1
    have hf3 : N2.1 0 3 = 0 := h2.2.2.1.trans hf
    have hnd := h.2.2.2.2.2.2.2.2.2.1
    have h12 : N2.1 0 12 = nI (cs_ (rt_ 1 W e).1 ++ tc_ (rt_ 1 W e).2).length := h2.1.2.2.1.1
    have h22 : N2.1 0 22 = nI ((os_ (rt_ 1 W e).1).length + 1) := by have := h2.1.2.2.2.2.2.1.1; simpa [co_] using this
    have h11 : N2.1 11 (os_ (rt_ 1 W e).1).length = nI (cs_ (rt_ 1 W e).1).length := h2.1.2.2.2.2.2.1.2 _ _ (by simp [co_])
    simp only [cu_] at hle
    have e20 : N2.1 0 13 = 20 := by rw [h13, hd20]; rfl
    refine w_aload_n X dX12_hash_5 rfl rfl ?_
    refine w_aload_n X dX12_hash_6 rfl rfl ?_
    refine g12_at X dX12_hash_7 ?_
    try simp only [gI_sI, gI_sL, gL_sI, gL_sL, false_and, and_false, and_self, if_false, if_true, reduceIte, Nat.reduceEqDiff, h5, h13]
    refine w_v1fI X dX12_hash_10 k12_count rfl rfl (c12_count G hG _ _ _) (Nat.le_of_ble_eq_true rfl) ?_
    refine w_if_ne (tgt := 17) X dX12_hash_13 (by decide) (fun h13x => absurd (if_pos e20) h13x) (fun h13x => ?_)
    refine w_vrR X dX12_hash_16 ?_
    rw [show ha_ k W e nd op = _ from if_pos hd20, if_pos e20]
    exact px_fa h2.2.1 hf3
  · refine w_aload_n X dX12_hash_0 rfl rfl ?_
    refine w_iconst (v := 1) X dX12_hash_1 (by decide) ?_
    refine w_v1rV X dX12_hash_2 k12_reduceTo rfl rfl (c12_reduceTo G hG _ M n k nd op 1 (by omega) (by omega) W e h) (Nat.le_of_ble_eq_true rfl) (fun N2 h2 => ?_)
    have hle := pr_len h2.1
    have hos := pr_os h2.1
    have h20 := h2.1.2.2.2.1
    have h5 := h2.1.2.1
    have h13 := h2.1.2.2.2.2.2.2.1
    have hf3 : N2.1 0 3 = 0 := h2.2.2.1.trans hf
    have hnd := h.2.2.2.2.2.2.2.2.2.1
    have h12 : N2.1 0 12 = nI (cs_ (rt_ 1 W e).1 ++ tc_ (rt_ 1 W e).2).length := h2.1.2.2.1.1
    have h22 : N2.1 0 22 = nI ((os_ (rt_ 1 W e).1).length + 1) := by have := h2.1.2.2.2.2.2.1.1; simpa [co_] using this
    have h11 : N2.1 11 (os_ (rt_ 1 W e).1).length = nI (cs_ (rt_ 1 W e).1).length := h2.1.2.2.2.2.2.1.2 _ _ (by simp [co_])
    simp only [cu_] at hle
    have e20 : ¬ N2.1 0 13 = 20 := fun q => hd20 ((nI_eq (b := 20) (by omega) (by omega)).mp (h13.symm.trans q))
    have hbt : ha_ k W e nd op = .inl (k + 1, (1, 0, (rt_ 1 W e).2, .null, 0) :: (rt_ 1 W e).1, none, nd + 1, op) := if_neg hd20
    generalize (rt_ 1 W e).1 = V at h2 hbt hle hos h20 h12 h22 h11
    generalize (rt_ 1 W e).2 = t at h2 hbt hle h12
    refine w_aload_n X dX12_hash_5 rfl rfl ?_
    refine w_aload_n X dX12_hash_6 rfl rfl ?_
    refine g12_at X dX12_hash_7 ?_
    try simp only [gI_sI, gI_sL, gL_sI, gL_sL, false_and, and_false, and_self, if_false, if_true, reduceIte, Nat.reduceEqDiff, h5, h13, h12, h22, h11]
    refine w_v1fI X dX12_hash_10 k12_count rfl rfl (c12_count G hG _ _ _) (Nat.le_of_ble_eq_true rfl) ?_
    rw [if_neg e20, if_neg e20]
    simp only [h13, nI_1]
    refine w_if_ne (tgt := 17) X dX12_hash_13 (by decide) (fun h13x => ?_) (fun h13x => absurd h13x (by decide))
    refine w_aload_n X dX12_hash_17 rfl rfl ?_
    refine g12_operands X dX12_hash_18 ?_
    refine w_aload_n X dX12_hash_21 rfl rfl ?_
    refine g12_operandCount X dX12_hash_22 ?_
    try simp only [gI_sI, gI_sL, gL_sI, gL_sL, false_and, and_false, and_self, if_false, if_true, reduceIte, Nat.reduceEqDiff, h5, h13, h12, h22, h11]
    refine w_iconst (v := 1) X dX12_hash_25 (by decide) ?_
    refine w_isub X dX12_hash_26 ?_
    rw [nI_s1]
    refine w_ialoadN X dX12_hash_27 rfl rfl (by omega) ?_
    try simp only [gI_sI, gI_sL, gL_sI, gL_sL, false_and, and_false, and_self, if_false, if_true, reduceIte, Nat.reduceEqDiff, h5, h13, h12, h22, h11]
    refine w_istore_n X dX12_hash_28 rfl (by decide) ?_
    refine w_bipush (v := 32) X dX12_hash_29 (by decide) ?_
    refine w_s1fI X dX12_hash_31 k12_rowOf (c12_rowOf G hG _ _ _) (Nat.le_of_ble_eq_true rfl) ?_
    refine w_istore_n X dX12_hash_34 rfl (by decide) ?_
    refine w_aload_n X dX12_hash_35 rfl rfl ?_
    refine g12_length X dX12_hash_36 ?_
    try simp only [gI_sI, gI_sL, gL_sI, gL_sL, false_and, and_false, and_self, if_false, if_true, reduceIte, Nat.reduceEqDiff, h5, h13, h12, h22, h11]
    refine w_istore_n X dX12_hash_39 rfl (by decide) ?_
    have hj : (tc_ t).length ≤ (cs_ V ++ tc_ t).length := by simp
    have hp : (cs_ V).length + (tc_ t).length = (cs_ V ++ tc_ t).length := by simp
    have s2 : ∀ j, j < (tc_ t).length → (sh_ (sI_ N2 0 13 (nI (nd + 1))) (cs_ V ++ tc_ t).length j).1 2 (2048 + ((cs_ V ++ tc_ t).length - j) - 1) = (sI_ N2 0 13 (nI (nd + 1))).1 2 (2048 + ((cs_ V ++ tc_ t).length - j) - 1) := fun j q => by rw [sh_I j (by omega), if_neg (by omega)]
    have s3 : ∀ j, j < (tc_ t).length → (sh_ (sI_ N2 0 13 (nI (nd + 1))) (cs_ V ++ tc_ t).length j).2.1 3 (2048 + ((cs_ V ++ tc_ t).length - j) - 1) = (sI_ N2 0 13 (nI (nd + 1))).2.1 3 (2048 + ((cs_ V ++ tc_ t).length - j) - 1) := fun j q => by rw [sh_L j (by omega), if_neg (by omega)]
    have s12 : ∀ j, j ≤ (tc_ t).length → (sh_ (sI_ N2 0 13 (nI (nd + 1))) (cs_ V ++ tc_ t).length j).1 0 12 = nI (cs_ V ++ tc_ t).length := fun j q => by rw [sh_I j (by omega), if_neg (by omega)]; simp [sI_, h12]
    have s20 : (sh_ (sI_ N2 0 13 (nI (nd + 1))) (cs_ V ++ tc_ t).length (tc_ t).length).1 0 20 = nI V.length := by rw [sh_I _ hj, if_neg (by omega)]; simp [sI_, h20]
    have s5 : (sh_ (sI_ N2 0 13 (nI (nd + 1))) (cs_ V ++ tc_ t).length (tc_ t).length).1 0 5 = nI k := by rw [sh_I _ hj, if_neg (by omega)]; simp [sI_, h5]
    have lp : ∀ (u j : Nat), j + u = (tc_ t).length → wq_ C G (qe_ C G (rV_ (px_ M n (ha_ k W e nd op)))) 40 [some (.ref (G.1 0)), some (.int (nI (cs_ V).length)), some (.int (64 * 32)), some (.int (nI ((cs_ V ++ tc_ t).length - j)))] [] (sh_ (sI_ N2 0 13 (nI (nd + 1))) (cs_ V ++ tc_ t).length j) := by
      intro u
      induction u with
      | zero =>
        intro j hu
        obtain rfl : j = (tc_ t).length := by omega
        rw [show (cs_ V ++ tc_ t).length - (tc_ t).length = (cs_ V).length by omega]
        refine w_iload_n X dX12_hash_40 rfl rfl ?_
        refine w_iload_n X dX12_hash_41 rfl rfl ?_
        refine w_icmp_le (tgt := 87) X dX12_hash_42 (by decide) (fun h42 => ?_) (fun h42 => absurd (Int32.le_refl _) h42)
        refine w_aload_n X dX12_hash_87 rfl rfl ?_
        refine w_dup X dX12_hash_88 rfl ?_
        refine g12_length X dX12_hash_89 ?_
        try simp only [gI_sI, gI_sL, gL_sI, gL_sL, false_and, and_false, and_self, if_false, if_true, reduceIte, Nat.reduceEqDiff, s12 _ (Nat.le_refl _), s20, s5, gI_wa, gL_wa, gI_pu, gL_pu, gI_op, gL_op]
        refine w_iconst (v := 1) X dX12_hash_92 (by decide) ?_
        refine w_iadd X dX12_hash_93 ?_
        rw [nI_1]
        refine p12_length X dX12_hash_94 ?_
        refine w_aload_n X dX12_hash_97 rfl rfl ?_
        refine g12_steps X dX12_hash_98 ?_
        refine w_iload_n X dX12_hash_101 rfl rfl ?_
        refine w_iload_n X dX12_hash_102 rfl rfl ?_
        refine w_iadd X dX12_hash_103 ?_
        rw [nI_2048]
        refine w_bipush (v := 7) X dX12_hash_104 (by decide) ?_
        refine w_iastoreN X dX12_hash_106 rfl rfl (by omega) ?_
        refine w_aload_n X dX12_hash_107 rfl rfl ?_
        refine g12_values X dX12_hash_108 ?_
        refine w_iload_n X dX12_hash_111 rfl rfl ?_
        refine w_iload_n X dX12_hash_112 rfl rfl ?_
        refine w_iadd X dX12_hash_113 ?_
        rw [nI_2048]
        refine w_aload_n X dX12_hash_114 rfl rfl ?_
        refine g12_length X dX12_hash_115 ?_
        try simp only [gI_sI, gI_sL, gL_sI, gL_sL, false_and, and_false, and_self, if_false, if_true, reduceIte, Nat.reduceEqDiff, s12 _ (Nat.le_refl _), s20, s5, gI_wa, gL_wa, gI_pu, gL_pu, gI_op, gL_op]
        refine w_iload_n X dX12_hash_118 rfl rfl ?_
        refine w_isub X dX12_hash_119 ?_
        rw [pk_sub (by omega)]
        refine w_i2l X dX12_hash_120 ?_
        refine w_lastoreN X dX12_hash_121 rfl rfl (by omega) ?_
        refine w_aload_n X dX12_hash_122 rfl rfl ?_
        refine w_iconst (v := 1) X dX12_hash_123 (by decide) ?_
        refine w_aload_n X dX12_hash_124 rfl rfl ?_
        refine g12_length X dX12_hash_125 ?_
        try simp only [gI_sI, gI_sL, gL_sI, gL_sL, false_and, and_false, and_self, if_false, if_true, reduceIte, Nat.reduceEqDiff, s12 _ (Nat.le_refl _), s20, s5, gI_wa, gL_wa, gI_pu, gL_pu, gI_op, gL_op]
        refine w_iconst (v := 0) X dX12_hash_128 (by decide) ?_
        refine w_v3fV X dX12_hash_129 k12_wait rfl rfl (c12_wait G hG _ _ V.length (by simp only [gI_sL, gI_sI, Nat.reduceEqDiff, false_and, and_false, if_false, reduceIte]; exact s20) (by omega) _ _ _) (Nat.le_of_ble_eq_true rfl) ?_
        refine w_aload_n X dX12_hash_132 rfl rfl ?_
        refine w_bipush (v := 8) X dX12_hash_133 (by decide) ?_
        refine w_lconst (v := 0) X dX12_hash_135 (by decide) ?_
        refine w_v2fV X dX12_hash_136 k12_put rfl rfl (c12_put G hG _ _ ((cs_ V ++ tc_ t).length + 1) (by simp [wa_, sI_, sL_]) (by omega) _ _) (Nat.le_of_ble_eq_true rfl) ?_
        refine w_aload_n X dX12_hash_139 rfl rfl ?_
        refine w_dup X dX12_hash_140 rfl ?_
        refine g12_at X dX12_hash_141 ?_
        try simp only [gI_sI, gI_sL, gL_sI, gL_sL, false_and, and_false, and_self, if_false, if_true, reduceIte, Nat.reduceEqDiff, s12 _ (Nat.le_refl _), s20, s5, gI_wa, gL_wa, gI_pu, gL_pu, gI_op, gL_op]
        refine w_iconst (v := 1) X dX12_hash_144 (by decide) ?_
        refine w_iadd X dX12_hash_145 ?_
        rw [nI_1]
        refine p12_at X dX12_hash_146 ?_
        refine w_vrR X dX12_hash_149 ?_
        rw [hbt]
        exact lq N2 V t h2 (by omega)
      | succ u ih =>
        intro j hu
        refine w_iload_n X dX12_hash_40 rfl rfl ?_
        refine w_iload_n X dX12_hash_41 rfl rfl ?_
        refine w_icmp_le (tgt := 87) X dX12_hash_42 (by decide) (fun h42 => absurd h42 (nI_ge (by omega) (by omega))) (fun h42 => ?_)
        refine w_aload_n X dX12_hash_45 rfl rfl ?_
        refine g12_steps X dX12_hash_46 ?_
        refine w_iload_n X dX12_hash_49 rfl rfl ?_
        refine w_iload_n X dX12_hash_50 rfl rfl ?_
        refine w_iadd X dX12_hash_51 ?_
        rw [nI_2048]
        refine w_aload_n X dX12_hash_52 rfl rfl ?_
        refine g12_steps X dX12_hash_53 ?_
        refine w_iload_n X dX12_hash_56 rfl rfl ?_
        refine w_iload_n X dX12_hash_57 rfl rfl ?_
        refine w_iadd X dX12_hash_58 ?_
        refine w_iconst (v := 1) X dX12_hash_59 (by decide) ?_
        refine w_isub X dX12_hash_60 ?_
        rw [nI_2048, nI_p _ (by omega)]
        refine w_ialoadN X dX12_hash_61 rfl rfl (by omega) ?_
        try simp only [gI_sI, gI_sL, gL_sI, gL_sL, false_and, and_false, and_self, if_false, if_true, reduceIte, Nat.reduceEqDiff, s2 j (by omega), s3 j (by omega)]
        refine w_iastoreN X dX12_hash_62 rfl rfl (by omega) ?_
        refine w_aload_n X dX12_hash_63 rfl rfl ?_
        refine g12_values X dX12_hash_64 ?_
        refine w_iload_n X dX12_hash_67 rfl rfl ?_
        refine w_iload_n X dX12_hash_68 rfl rfl ?_
        refine w_iadd X dX12_hash_69 ?_
        rw [nI_2048]
        refine w_aload_n X dX12_hash_70 rfl rfl ?_
        refine g12_values X dX12_hash_71 ?_
        refine w_iload_n X dX12_hash_74 rfl rfl ?_
        refine w_iload_n X dX12_hash_75 rfl rfl ?_
        refine w_iadd X dX12_hash_76 ?_
        refine w_iconst (v := 1) X dX12_hash_77 (by decide) ?_
        refine w_isub X dX12_hash_78 ?_
        rw [nI_2048, nI_p _ (by omega)]
        refine w_laloadN X dX12_hash_79 rfl rfl (by omega) ?_
        try simp only [gI_sI, gI_sL, gL_sI, gL_sL, false_and, and_false, and_self, if_false, if_true, reduceIte, Nat.reduceEqDiff, s2 j (by omega), s3 j (by omega)]
        refine w_lastoreN X dX12_hash_80 rfl rfl (by omega) ?_
        refine w_iinc (v := -1) X dX12_hash_81 rfl (by decide) (by decide) ?_
        refine w_goto (tgt := 40) X dX12_hash_84 (by decide) ?_
        have e8 : nI ((cs_ V ++ tc_ t).length - j) + (-1) = nI ((cs_ V ++ tc_ t).length - (j + 1)) := by
          obtain ⟨q, hq⟩ : ∃ q, (cs_ V ++ tc_ t).length - j = q + 1 := ⟨(cs_ V ++ tc_ t).length - j - 1, by omega⟩
          rw [hq, show (cs_ V ++ tc_ t).length - (j + 1) = q by omega]
          exact pk_m1 q
        rw [e8]
        exact ih (j + 1) (by omega)
    exact lp (tc_ t).length 0 (by omega)
end
