set_option maxRecDepth 100000 in
theorem inG0_e : u_ws RX0 TX0 6 = ([110, 112, 114, 116, 118, 120] : List Nat).filterMap (fun i => tables_1[i]?) := by decide +kernel
theorem inG0_g : (u_ws RX0 TX0 6).all goodWord = true := by decide +kernel
theorem inG0 : ∀ w ∈ u_ws RX0 TX0 6, w ∈ gw_ := by
  intro w hw
  have h1 := List.all_eq_true.mp inG0_g w hw
  have e := inG0_e
  rw [e] at hw
  obtain ⟨i, -, hi⟩ := List.mem_filterMap.mp hw
  exact gw_t i hi h1
set_option maxRecDepth 100000 in
theorem inG1_e : u_ws RX1 TX1 7 = ([135, 137, 139, 141, 143, 145, 147] : List Nat).filterMap (fun i => tables_1[i]?) := by decide +kernel
theorem inG1_g : (u_ws RX1 TX1 7).all goodWord = true := by decide +kernel
theorem inG1 : ∀ w ∈ u_ws RX1 TX1 7, w ∈ gw_ := by
  intro w hw
  have h1 := List.all_eq_true.mp inG1_g w hw
  have e := inG1_e
  rw [e] at hw
  obtain ⟨i, -, hi⟩ := List.mem_filterMap.mp hw
  exact gw_t i hi h1
set_option maxRecDepth 100000 in
theorem inG2_e : u_ws RX2 TX2 10 = ([221, 223, 225, 227, 229, 231, 233, 235, 237, 239] : List Nat).filterMap (fun i => tables_1[i]?) := by decide +kernel
theorem inG2_g : (u_ws RX2 TX2 10).all goodWord = true := by decide +kernel
theorem inG2 : ∀ w ∈ u_ws RX2 TX2 10, w ∈ gw_ := by
  intro w hw
  have h1 := List.all_eq_true.mp inG2_g w hw
  have e := inG2_e
  rw [e] at hw
  obtain ⟨i, -, hi⟩ := List.mem_filterMap.mp hw
  exact gw_t i hi h1
set_option maxRecDepth 100000 in
theorem inG3_e : u_ws RX3 TX3 2 = ([245, 247] : List Nat).filterMap (fun i => tables_1[i]?) := by decide +kernel
theorem inG3_g : (u_ws RX3 TX3 2).all goodWord = true := by decide +kernel
theorem inG3 : ∀ w ∈ u_ws RX3 TX3 2, w ∈ gw_ := by
  intro w hw
  have h1 := List.all_eq_true.mp inG3_g w hw
  have e := inG3_e
  rw [e] at hw
  obtain ⟨i, -, hi⟩ := List.mem_filterMap.mp hw
  exact gw_t i hi h1
set_option maxRecDepth 100000 in
theorem inG4_e : u_ws RX4 TX4 13 = ([293, 295, 297, 299, 301, 303, 305, 307, 309, 311, 313, 315, 317] : List Nat).filterMap (fun i => tables_1[i]?) := by decide +kernel
theorem inG4_g : (u_ws RX4 TX4 13).all goodWord = true := by decide +kernel
theorem inG4 : ∀ w ∈ u_ws RX4 TX4 13, w ∈ gw_ := by
  intro w hw
  have h1 := List.all_eq_true.mp inG4_g w hw
  have e := inG4_e
  rw [e] at hw
  obtain ⟨i, -, hi⟩ := List.mem_filterMap.mp hw
  exact gw_t i hi h1
set_option maxRecDepth 100000 in
theorem inG5_e : u_ws RX5 TX5 3 = ([173, 175, 177] : List Nat).filterMap (fun i => tables_1[i]?) := by decide +kernel
theorem inG5_g : (u_ws RX5 TX5 3).all goodWord = true := by decide +kernel
theorem inG5 : ∀ w ∈ u_ws RX5 TX5 3, w ∈ gw_ := by
  intro w hw
  have h1 := List.all_eq_true.mp inG5_g w hw
  have e := inG5_e
  rw [e] at hw
  obtain ⟨i, -, hi⟩ := List.mem_filterMap.mp hw
  exact gw_t i hi h1
set_option maxRecDepth 100000 in
theorem inG7_e : u_ws RX7 TX7 7 = ([70, 72, 74, 76, 78, 80, 82] : List Nat).filterMap (fun i => tables_1[i]?) := by decide +kernel
theorem inG7_g : (u_ws RX7 TX7 7).all goodWord = true := by decide +kernel
theorem inG7 : ∀ w ∈ u_ws RX7 TX7 7, w ∈ gw_ := by
  intro w hw
  have h1 := List.all_eq_true.mp inG7_g w hw
  have e := inG7_e
  rw [e] at hw
  obtain ⟨i, -, hi⟩ := List.mem_filterMap.mp hw
  exact gw_t i hi h1
set_option maxRecDepth 100000 in
theorem inG8_e : u_ws RX8 TX8 4 = ([261, 263, 265, 267] : List Nat).filterMap (fun i => tables_1[i]?) := by decide +kernel
theorem inG8_g : (u_ws RX8 TX8 4).all goodWord = true := by decide +kernel
theorem inG8 : ∀ w ∈ u_ws RX8 TX8 4, w ∈ gw_ := by
  intro w hw
  have h1 := List.all_eq_true.mp inG8_g w hw
  have e := inG8_e
  rw [e] at hw
  obtain ⟨i, -, hi⟩ := List.mem_filterMap.mp hw
  exact gw_t i hi h1
set_option maxRecDepth 100000 in
theorem inG9_e : u_ws RX9 TX9 2 = ([44, 46] : List Nat).filterMap (fun i => tables_1[i]?) := by decide +kernel
theorem inG9_g : (u_ws RX9 TX9 2).all goodWord = true := by decide +kernel
theorem inG9 : ∀ w ∈ u_ws RX9 TX9 2, w ∈ gw_ := by
  intro w hw
  have h1 := List.all_eq_true.mp inG9_g w hw
  have e := inG9_e
  rw [e] at hw
  obtain ⟨i, -, hi⟩ := List.mem_filterMap.mp hw
  exact gw_t i hi h1
set_option maxRecDepth 100000 in
theorem inG10_e : u_ws RX10 TX10 3 = ([154, 156, 158] : List Nat).filterMap (fun i => tables_1[i]?) := by decide +kernel
theorem inG10_g : (u_ws RX10 TX10 3).all goodWord = true := by decide +kernel
theorem inG10 : ∀ w ∈ u_ws RX10 TX10 3, w ∈ gw_ := by
  intro w hw
  have h1 := List.all_eq_true.mp inG10_g w hw
  have e := inG10_e
  rw [e] at hw
  obtain ⟨i, -, hi⟩ := List.mem_filterMap.mp hw
  exact gw_t i hi h1
set_option maxRecDepth 100000 in
theorem inG11_e : u_ws RX11 TX11 8 = ([328, 330, 332, 334, 336, 338, 340, 342] : List Nat).filterMap (fun i => tables_1[i]?) := by decide +kernel
theorem inG11_g : (u_ws RX11 TX11 8).all goodWord = true := by decide +kernel
theorem inG11 : ∀ w ∈ u_ws RX11 TX11 8, w ∈ gw_ := by
  intro w hw
  have h1 := List.all_eq_true.mp inG11_g w hw
  have e := inG11_e
  rw [e] at hw
  obtain ⟨i, -, hi⟩ := List.mem_filterMap.mp hw
  exact gw_t i hi h1
set_option maxRecDepth 100000 in
theorem in0_ : Cond.initialized RX0 ∈ gw_ := gw_t 6 rfl rfl
set_option maxRecDepth 100000 in
theorem ins0_ : Cond.instantiable RX0 6 ∈ gw_ := gw_t 94 rfl rfl
set_option maxRecDepth 100000 in
theorem in1_ : Cond.initialized RX1 ∈ gw_ := gw_t 5 rfl rfl
set_option maxRecDepth 100000 in
theorem ins1_ : Cond.instantiable RX1 7 ∈ gw_ := gw_t 92 rfl rfl
set_option maxRecDepth 100000 in
theorem in2_ : Cond.initialized RX2 ∈ gw_ := gw_t 9 rfl rfl
set_option maxRecDepth 100000 in
theorem ins2_ : Cond.instantiable RX2 10 ∈ gw_ := gw_t 188 rfl rfl
set_option maxRecDepth 100000 in
theorem in3_ : Cond.initialized RX3 ∈ gw_ := gw_t 8 rfl rfl
set_option maxRecDepth 100000 in
theorem ins3_ : Cond.instantiable RX3 2 ∈ gw_ := gw_t 181 rfl rfl
set_option maxRecDepth 100000 in
theorem in4_ : Cond.initialized RX4 ∈ gw_ := gw_t 11 rfl rfl
set_option maxRecDepth 100000 in
theorem ins4_ : Cond.instantiable RX4 13 ∈ gw_ := gw_t 271 rfl rfl
set_option maxRecDepth 100000 in
theorem in5_ : Cond.initialized RX5 ∈ gw_ := gw_t 7 rfl rfl
set_option maxRecDepth 100000 in
theorem ins5_ : Cond.instantiable RX5 3 ∈ gw_ := gw_t 162 rfl rfl
set_option maxRecDepth 100000 in
theorem in6_ : Cond.initialized RX6 ∈ gw_ := gw_t 17 rfl rfl
set_option maxRecDepth 100000 in
theorem in7_ : Cond.initialized RX7 ∈ gw_ := gw_t 3 rfl rfl
set_option maxRecDepth 100000 in
theorem ins7_ : Cond.instantiable RX7 7 ∈ gw_ := gw_t 51 rfl rfl
set_option maxRecDepth 100000 in
theorem in8_ : Cond.initialized RX8 ∈ gw_ := gw_t 10 rfl rfl
set_option maxRecDepth 100000 in
theorem ins8_ : Cond.instantiable RX8 4 ∈ gw_ := gw_t 251 rfl rfl
set_option maxRecDepth 100000 in
theorem in9_ : Cond.initialized RX9 ∈ gw_ := gw_t 2 rfl rfl
set_option maxRecDepth 100000 in
theorem ins9_ : Cond.instantiable RX9 2 ∈ gw_ := gw_t 35 rfl rfl
set_option maxRecDepth 100000 in
theorem in10_ : Cond.initialized RX10 ∈ gw_ := gw_t 4 rfl rfl
set_option maxRecDepth 100000 in
theorem ins10_ : Cond.instantiable RX10 3 ∈ gw_ := gw_t 86 rfl rfl
set_option maxRecDepth 100000 in
theorem in11_ : Cond.initialized RX11 ∈ gw_ := gw_t 1 rfl rfl
set_option maxRecDepth 100000 in
theorem ins11_ : Cond.instantiable RX11 8 ∈ gw_ := gw_t 27 rfl rfl
set_option maxRecDepth 100000 in
theorem inL_ : Cond.initialized RL ∈ gw_ := gw_t 0 rfl rfl
set_option maxRecDepth 100000 in
theorem in12_ : Cond.initialized RX12 ∈ gw_ := gw_t 12 rfl rfl
set_option maxRecDepth 100000 in
theorem ins12_ : Cond.instantiable RX12 60 ∈ gw_ := gw_t 1026 rfl rfl
set_option maxRecDepth 100000 in
theorem clL_8 : Cond.classLink RL 8 "ProbeConsole" ∈ gw_ := gw_t 26 rfl rfl
set_option maxRecDepth 100000 in
theorem cl11_7 : Cond.classLink RX11 7 "ProbeConsole$Tape" ∈ gw_ := gw_t 34 rfl rfl
set_option maxRecDepth 100000 in
theorem ac_int : Cond.arrayClass .int ∈ gw_ := gw_t 49 rfl rfl
set_option maxRecDepth 100000 in
theorem cl11_16 : Cond.classLink RX11 16 "ProbeConsole$Reader" ∈ gw_ := gw_t 50 rfl rfl
set_option maxRecDepth 100000 in
theorem cl11_25 : Cond.classLink RX11 25 "ProbeConsole$Texts" ∈ gw_ := gw_t 85 rfl rfl
set_option maxRecDepth 100000 in
theorem cl10_13 : Cond.classLink RX10 13 "ProbeConsole$Expressions" ∈ gw_ := gw_t 91 rfl rfl
set_option maxRecDepth 100000 in
theorem cl10_15 : Cond.classLink RX10 15 "ProbeConsole$Code" ∈ gw_ := gw_t 93 rfl rfl
set_option maxRecDepth 100000 in
theorem ac_long : Cond.arrayClass .long ∈ gw_ := gw_t 123 rfl rfl
set_option maxRecDepth 100000 in
theorem cl11_34 : Cond.classLink RX11 34 "ProbeConsole$Methods" ∈ gw_ := gw_t 161 rfl rfl
set_option maxRecDepth 100000 in
theorem cl5_15 : Cond.classLink RX5 15 "ProbeConsole$Code" ∈ gw_ := gw_t 167 rfl rfl
set_option maxRecDepth 100000 in
theorem cl11_41 : Cond.classLink RX11 41 "ProbeConsole$Jobs" ∈ gw_ := gw_t 180 rfl rfl
set_option maxRecDepth 100000 in
theorem cl3_11 : Cond.classLink RX3 11 "ProbeConsole$Job" ∈ gw_ := gw_t 186 rfl rfl
set_option maxRecDepth 100000 in
theorem cl2_7 : Cond.classLink RX2 7 "ProbeConsole$Code" ∈ gw_ := gw_t 193 rfl rfl
set_option maxRecDepth 100000 in
theorem cl11_48 : Cond.classLink RX11 48 "ProbeConsole$Rows" ∈ gw_ := gw_t 250 rfl rfl
set_option maxRecDepth 100000 in
theorem cl11_60 : Cond.classLink RX11 60 "ProbeConsole$Machine" ∈ gw_ := gw_t 270 rfl rfl
set_option maxRecDepth 100000 in
theorem cl4_26 : Cond.classLink RX4 26 "[[I" ∈ gw_ := gw_t 276 rfl rfl
set_option maxRecDepth 100000 in
theorem q1_93 : Cond.constant RX1 93 (2147483647) ∈ gw_ := gw_t 436 rfl rfl
set_option maxRecDepth 100000 in
theorem q7_46 : Cond.constantLong RX7 46 (10) ∈ gw_ := gw_t 442 rfl rfl
set_option maxRecDepth 100000 in
theorem q7_48 : Cond.constantLong RX7 48 (48) ∈ gw_ := gw_t 443 rfl rfl
set_option maxRecDepth 100000 in
theorem q7_50 : Cond.constantLong RX7 50 (1099511627776) ∈ gw_ := gw_t 444 rfl rfl
set_option maxRecDepth 100000 in
theorem q4_106 : Cond.constantLong RX4 106 (7) ∈ gw_ := gw_t 941 rfl rfl
set_option maxRecDepth 100000 in
theorem clL_40 : Cond.classLink RL 40 "ProbeConsoleModel" ∈ gw_ := gw_t 1025 rfl rfl
set_option maxRecDepth 100000 in
theorem ac_boolean : Cond.arrayClass .boolean ∈ gw_ := gw_t 1212 rfl rfl
set_option maxRecDepth 100000 in
theorem qL_43 : Cond.constantLong RL 43 (4294967295) ∈ gw_ := gw_t 1558 rfl rfl
set_option maxRecDepth 100000 in
theorem ob11_ : Cond.methodLink RX11 1 Lib.objectInit ∈ gw_ := gw_t 31 rfl rfl
set_option maxRecDepth 100000 in
theorem ob9_ : Cond.methodLink RX9 1 Lib.objectInit ∈ gw_ := gw_t 39 rfl rfl
set_option maxRecDepth 100000 in
theorem ob7_ : Cond.methodLink RX7 3 Lib.objectInit ∈ gw_ := gw_t 55 rfl rfl
set_option maxRecDepth 100000 in
theorem ob10_ : Cond.methodLink RX10 1 Lib.objectInit ∈ gw_ := gw_t 90 rfl rfl
set_option maxRecDepth 100000 in
theorem ob0_ : Cond.methodLink RX0 3 Lib.objectInit ∈ gw_ := gw_t 98 rfl rfl
set_option maxRecDepth 100000 in
theorem ob1_ : Cond.methodLink RX1 1 Lib.objectInit ∈ gw_ := gw_t 127 rfl rfl
set_option maxRecDepth 100000 in
theorem ob5_ : Cond.methodLink RX5 3 Lib.objectInit ∈ gw_ := gw_t 166 rfl rfl
set_option maxRecDepth 100000 in
theorem ob3_ : Cond.methodLink RX3 3 Lib.objectInit ∈ gw_ := gw_t 185 rfl rfl
set_option maxRecDepth 100000 in
theorem ob2_ : Cond.methodLink RX2 1 Lib.objectInit ∈ gw_ := gw_t 192 rfl rfl
set_option maxRecDepth 100000 in
theorem ob8_ : Cond.methodLink RX8 1 Lib.objectInit ∈ gw_ := gw_t 255 rfl rfl
set_option maxRecDepth 100000 in
theorem ob4_ : Cond.methodLink RX4 3 Lib.objectInit ∈ gw_ := gw_t 275 rfl rfl
set_option maxRecDepth 100000 in
theorem ob12_ : Cond.methodLink RX12 1 Lib.objectInit ∈ gw_ := gw_t 1030 rfl rfl
set_option maxRecDepth 100000 in
theorem obI_ : Cond.instanceMethod Lib.objectInit ∈ gw_ := gw_t 32 rfl rfl
set_option maxRecDepth 100000 in
theorem obC_ : Cond.code Lib.objectInit ⟨#[0xb1]⟩ 1 none ∈ gw_ := gw_t 33 rfl rfl

