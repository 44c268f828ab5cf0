theorem nhc0_ : RX11 ≠ "java/lang/invoke/MethodHandle" ∧ RX11 ≠ "java/lang/invoke/VarHandle" := by decide +kernel
theorem nhc1_ : RX9 ≠ "java/lang/invoke/MethodHandle" ∧ RX9 ≠ "java/lang/invoke/VarHandle" := by decide +kernel
theorem nhc2_ : RX7 ≠ "java/lang/invoke/MethodHandle" ∧ RX7 ≠ "java/lang/invoke/VarHandle" := by decide +kernel
theorem nhc3_ : RX10 ≠ "java/lang/invoke/MethodHandle" ∧ RX10 ≠ "java/lang/invoke/VarHandle" := by decide +kernel
theorem nhc4_ : RX0 ≠ "java/lang/invoke/MethodHandle" ∧ RX0 ≠ "java/lang/invoke/VarHandle" := by decide +kernel
theorem nhc5_ : RX1 ≠ "java/lang/invoke/MethodHandle" ∧ RX1 ≠ "java/lang/invoke/VarHandle" := by decide +kernel
theorem nhc6_ : RX5 ≠ "java/lang/invoke/MethodHandle" ∧ RX5 ≠ "java/lang/invoke/VarHandle" := by decide +kernel
theorem nhc7_ : RX3 ≠ "java/lang/invoke/MethodHandle" ∧ RX3 ≠ "java/lang/invoke/VarHandle" := by decide +kernel
theorem nhc8_ : RX2 ≠ "java/lang/invoke/MethodHandle" ∧ RX2 ≠ "java/lang/invoke/VarHandle" := by decide +kernel
theorem nhc9_ : RX8 ≠ "java/lang/invoke/MethodHandle" ∧ RX8 ≠ "java/lang/invoke/VarHandle" := by decide +kernel
theorem nhc10_ : RX4 ≠ "java/lang/invoke/MethodHandle" ∧ RX4 ≠ "java/lang/invoke/VarHandle" := by decide +kernel
theorem nhc11_ : RX6 ≠ "java/lang/invoke/MethodHandle" ∧ RX6 ≠ "java/lang/invoke/VarHandle" := by decide +kernel
theorem nhc12_ : RJ0 ≠ "java/lang/invoke/MethodHandle" ∧ RJ0 ≠ "java/lang/invoke/VarHandle" := by decide +kernel
theorem nhc13_ : RJ7 ≠ "java/lang/invoke/MethodHandle" ∧ RJ7 ≠ "java/lang/invoke/VarHandle" := by decide +kernel
theorem nhc14_ : RX12 ≠ "java/lang/invoke/MethodHandle" ∧ RX12 ≠ "java/lang/invoke/VarHandle" := by decide +kernel
theorem pdc0_ : (parseMethodDescriptor "()V").map (fun d => d.parameters.length) = some 0 := by decide +kernel
theorem pdc1_ : (parseMethodDescriptor "(LProbeConsole$Tape;)V").map (fun d => d.parameters.length) = some 1 := by decide +kernel
theorem pdc2_ : (parseMethodDescriptor "(LProbeConsole$Reader;)V").map (fun d => d.parameters.length) = some 1 := by decide +kernel
theorem pdc3_ : (parseMethodDescriptor "(LProbeConsole$Reader;LProbeConsole$Code;)V").map (fun d => d.parameters.length) = some 2 := by decide +kernel
theorem pdc4_ : (parseMethodDescriptor "(II)V").map (fun d => d.parameters.length) = some 2 := by decide +kernel
theorem pdc5_ : (parseMethodDescriptor "(LProbeConsole$Methods;LProbeConsole$Jobs;LProbeConsole$Rows;LProbeConsole$Rows;)V").map (fun d => d.parameters.length) = some 4 := by decide +kernel
theorem pdc6_ : (parseMethodDescriptor "()I").map (fun d => d.parameters.length) = some 0 := by decide +kernel
theorem pdc7_ : (parseMethodDescriptor "()LProbeConsole$Code;").map (fun d => d.parameters.length) = some 0 := by decide +kernel
theorem pdc8_ : (parseMethodDescriptor "(LProbeConsole$Code;)J").map (fun d => d.parameters.length) = some 1 := by decide +kernel
theorem pdc9_ : (parseMethodDescriptor "(I)I").map (fun d => d.parameters.length) = some 1 := by decide +kernel
theorem pdc10_ : (parseMethodDescriptor "(I)Z").map (fun d => d.parameters.length) = some 1 := by decide +kernel
theorem pdc11_ : (parseMethodDescriptor "(JII)J").map (fun d => d.parameters.length) = some 3 := by decide +kernel
theorem pdc12_ : (parseMethodDescriptor "()J").map (fun d => d.parameters.length) = some 0 := by decide +kernel
theorem pdc13_ : (parseMethodDescriptor "(I)V").map (fun d => d.parameters.length) = some 1 := by decide +kernel
theorem pdc14_ : (parseMethodDescriptor "(LProbeConsole$Code;IZ)V").map (fun d => d.parameters.length) = some 3 := by decide +kernel
theorem pdc15_ : (parseMethodDescriptor "(IJ)I").map (fun d => d.parameters.length) = some 2 := by decide +kernel
theorem pdc16_ : (parseMethodDescriptor "()Z").map (fun d => d.parameters.length) = some 0 := by decide +kernel
theorem pdc17_ : (parseMethodDescriptor "(JI)J").map (fun d => d.parameters.length) = some 2 := by decide +kernel
theorem pdc18_ : (parseMethodDescriptor "(JI)V").map (fun d => d.parameters.length) = some 2 := by decide +kernel
theorem pdc19_ : (parseMethodDescriptor "(J)I").map (fun d => d.parameters.length) = some 1 := by decide +kernel
theorem pdc20_ : (parseMethodDescriptor "(IJ)V").map (fun d => d.parameters.length) = some 2 := by decide +kernel
theorem pdc21_ : (parseMethodDescriptor "(JJ)Z").map (fun d => d.parameters.length) = some 2 := by decide +kernel
theorem pdc22_ : (parseMethodDescriptor "(JI)I").map (fun d => d.parameters.length) = some 2 := by decide +kernel
theorem pdc23_ : (parseMethodDescriptor "(JII)I").map (fun d => d.parameters.length) = some 3 := by decide +kernel
theorem pdc24_ : (parseMethodDescriptor "(LProbeConsole$Job;)I").map (fun d => d.parameters.length) = some 1 := by decide +kernel
theorem pdc25_ : (parseMethodDescriptor "([II)V").map (fun d => d.parameters.length) = some 2 := by decide +kernel
theorem pdc26_ : (parseMethodDescriptor "(Ljava/lang/String;)Z").map (fun d => d.parameters.length) = some 1 := by decide +kernel
theorem pdc27_ : (parseMethodDescriptor "(I)C").map (fun d => d.parameters.length) = some 1 := by decide +kernel
theorem pdc28_ : (parseMethodDescriptor "(LProbeConsole$Job;)V").map (fun d => d.parameters.length) = some 1 := by decide +kernel
theorem pdc29_ : (parseMethodDescriptor "(LProbeConsole$Methods;)I").map (fun d => d.parameters.length) = some 1 := by decide +kernel
theorem pdc30_ : (parseMethodDescriptor "(I)J").map (fun d => d.parameters.length) = some 1 := by decide +kernel
theorem pdc31_ : (parseMethodDescriptor "(IIII)I").map (fun d => d.parameters.length) = some 4 := by decide +kernel
theorem pdc32_ : (parseMethodDescriptor "(IIII)V").map (fun d => d.parameters.length) = some 4 := by decide +kernel
theorem pdc33_ : (parseMethodDescriptor "(IZ)I").map (fun d => d.parameters.length) = some 2 := by decide +kernel
theorem pdc34_ : (parseMethodDescriptor "(II)I").map (fun d => d.parameters.length) = some 2 := by decide +kernel
theorem pdc35_ : (parseMethodDescriptor "(II[I)V").map (fun d => d.parameters.length) = some 3 := by decide +kernel
theorem pdc36_ : (parseMethodDescriptor "(I)LProbeConsole$Job;").map (fun d => d.parameters.length) = some 1 := by decide +kernel
theorem pdc37_ : (parseMethodDescriptor "(III[I)V").map (fun d => d.parameters.length) = some 4 := by decide +kernel
theorem pdc38_ : (parseMethodDescriptor "(LProbeConsole$Code;[I)I").map (fun d => d.parameters.length) = some 2 := by decide +kernel
theorem pdc39_ : (parseMethodDescriptor "(LProbeConsole$Code;I[I)I").map (fun d => d.parameters.length) = some 3 := by decide +kernel
theorem pdc40_ : (parseMethodDescriptor "(III)I").map (fun d => d.parameters.length) = some 3 := by decide +kernel
theorem pdc41_ : (parseMethodDescriptor "(LProbeConsole$Code;II)I").map (fun d => d.parameters.length) = some 3 := by decide +kernel
theorem pdc42_ : (parseMethodDescriptor "(I)LProbeConsole$Code;").map (fun d => d.parameters.length) = some 1 := by decide +kernel
theorem pdc43_ : (parseMethodDescriptor "(II)Z").map (fun d => d.parameters.length) = some 2 := by decide +kernel
theorem pdc44_ : (parseMethodDescriptor "(Z)Z").map (fun d => d.parameters.length) = some 1 := by decide +kernel
theorem pdc45_ : (parseMethodDescriptor "(III)V").map (fun d => d.parameters.length) = some 3 := by decide +kernel
theorem pdc46_ : (parseMethodDescriptor "(IIII)J").map (fun d => d.parameters.length) = some 4 := by decide +kernel
theorem pdc47_ : (parseMethodDescriptor "(IIIIZ)I").map (fun d => d.parameters.length) = some 5 := by decide +kernel
theorem pdc48_ : (parseMethodDescriptor "(J)V").map (fun d => d.parameters.length) = some 1 := by decide +kernel
