set_option maxRecDepth 100000 in
theorem inG12_e : wsX120 = ([1091, 1093, 1095, 1097, 1099, 1101, 1103, 1105, 1107, 1109, 1111, 1113, 1115, 1117, 1119, 1121, 1123, 1125, 1127, 1129, 1131, 1133, 1135, 1137, 1139, 1141, 1143, 1145, 1147, 1149, 1151, 1153, 1155, 1157, 1159, 1161, 1163, 1165, 1167, 1169, 1171, 1173, 1175, 1177, 1179, 1181, 1183, 1185, 1187, 1189, 1191, 1193, 1195, 1197, 1199, 1201, 1203, 1205, 1207, 1209] : List Nat).filterMap (fun i => tables_1[i]?) := by decide +kernel
theorem inG12_g : (u_ws RX12 TX12 60).all goodWord = true := by decide +kernel
theorem inG12 : ∀ w ∈ u_ws RX12 TX12 60, w ∈ gw_ := by
  intro w hw
  have h1 := List.all_eq_true.mp inG12_g w hw
  have e : u_ws RX12 TX12 60 = _ := inG12_e
  rw [e] at hw
  obtain ⟨i, -, hi⟩ := List.mem_filterMap.mp hw
  exact gw_t i hi h1
section LINKS
variable {C : mc_} {G : gg_} {Q : State → Prop} {pc : Nat} {lv : List (Option Value)} {st : List Value} {M : mm_} {cc : ByteArray} {nL : Nat} {ry : Option FieldType} {d : Nat}
set_option maxRecDepth 100000 in
theorem f12_thrown : Cond.fieldLink RX12 115 (TX12 0).1 (TX12 0).2.1 (TX12 0).2.2.1 ∈ gw_ := gw_t 1031 rfl rfl
theorem g12_thrown (X : cx_ C G RX12 cc nL ry d) (hd : decode cc pc = .ok (.getfield 115, 3)) (k : wq_ C G Q (pc + 3) lv (.int (M.1 0 0) :: st) M) : wq_ C G Q pc lv (.ref (G.1 0) :: st) M := w_get (j := 0) (f := 0) (a := 0) (ci := 11) (fs := dr_fs) X hd inG12 rfl (by decide) f12_thrown rfl rfl k
theorem p12_thrown {x : Int32} (X : cx_ C G RX12 cc nL ry d) (hd : decode cc pc = .ok (.putfield 115, 3)) (k : wq_ C G Q (pc + 3) lv st (sI_ M 0 0 x)) : wq_ C G Q pc lv (.int x :: .ref (G.1 0) :: st) M := w_putI (j := 0) (a := 0) (ci := 11) (fs := dr_fs) (ty := .int) X hd inG12 tyX12_ok nmX12 rfl (by decide) f12_thrown rfl (by decide +kernel) rfl rfl rfl rfl k
set_option maxRecDepth 100000 in
theorem f12_tape : Cond.fieldLink RX12 7 (TX12 1).1 (TX12 1).2.1 (TX12 1).2.2.1 ∈ gw_ := gw_t 1032 rfl rfl
theorem g12_tape (X : cx_ C G RX12 cc nL ry d) (hd : decode cc pc = .ok (.getfield 7, 3)) (k : wq_ C G Q (pc + 3) lv (.ref (G.1 1) :: st) M) : wq_ C G Q pc lv (.ref (G.1 0) :: st) M := w_get (j := 1) (f := 4) (a := 0) (ci := 11) (fs := dr_fs) X hd inG12 rfl (by decide) f12_tape rfl rfl k
set_option maxRecDepth 100000 in
theorem f12_size : Cond.fieldLink RX12 118 (TX12 2).1 (TX12 2).2.1 (TX12 2).2.2.1 ∈ gw_ := gw_t 1033 rfl rfl
theorem g12_size (X : cx_ C G RX12 cc nL ry d) (hd : decode cc pc = .ok (.getfield 118, 3)) (k : wq_ C G Q (pc + 3) lv (.int (M.1 0 2) :: st) M) : wq_ C G Q pc lv (.ref (G.1 0) :: st) M := w_get (j := 2) (f := 0) (a := 0) (ci := 11) (fs := dr_fs) X hd inG12 rfl (by decide) f12_size rfl rfl k
theorem p12_size {x : Int32} (X : cx_ C G RX12 cc nL ry d) (hd : decode cc pc = .ok (.putfield 118, 3)) (k : wq_ C G Q (pc + 3) lv st (sI_ M 0 2 x)) : wq_ C G Q pc lv (.int x :: .ref (G.1 0) :: st) M := w_putI (j := 2) (a := 0) (ci := 11) (fs := dr_fs) (ty := .int) X hd inG12 tyX12_ok nmX12 rfl (by decide) f12_size rfl (by decide +kernel) rfl rfl rfl rfl k
set_option maxRecDepth 100000 in
theorem f12_fault : Cond.fieldLink RX12 123 (TX12 3).1 (TX12 3).2.1 (TX12 3).2.2.1 ∈ gw_ := gw_t 1034 rfl rfl
theorem g12_fault (X : cx_ C G RX12 cc nL ry d) (hd : decode cc pc = .ok (.getfield 123, 3)) (k : wq_ C G Q (pc + 3) lv (.int (M.1 0 3) :: st) M) : wq_ C G Q pc lv (.ref (G.1 0) :: st) M := w_get (j := 3) (f := 0) (a := 0) (ci := 11) (fs := dr_fs) X hd inG12 rfl (by decide) f12_fault rfl rfl k
theorem p12_fault {x : Int32} (X : cx_ C G RX12 cc nL ry d) (hd : decode cc pc = .ok (.putfield 123, 3)) (k : wq_ C G Q (pc + 3) lv st (sI_ M 0 3 x)) : wq_ C G Q pc lv (.int x :: .ref (G.1 0) :: st) M := w_putI (j := 3) (a := 0) (ci := 11) (fs := dr_fs) (ty := .int) X hd inG12 tyX12_ok nmX12 rfl (by decide) f12_fault rfl (by decide +kernel) rfl rfl rfl rfl k
set_option maxRecDepth 100000 in
theorem f12_place : Cond.fieldLink RX12 13 (TX12 4).1 (TX12 4).2.1 (TX12 4).2.2.1 ∈ gw_ := gw_t 1035 rfl rfl
theorem g12_place (X : cx_ C G RX12 cc nL ry d) (hd : decode cc pc = .ok (.getfield 13, 3)) (k : wq_ C G Q (pc + 3) lv (.int (M.1 0 4) :: st) M) : wq_ C G Q pc lv (.ref (G.1 0) :: st) M := w_get (j := 4) (f := 0) (a := 0) (ci := 11) (fs := dr_fs) X hd inG12 rfl (by decide) f12_place rfl rfl k
theorem p12_place {x : Int32} (X : cx_ C G RX12 cc nL ry d) (hd : decode cc pc = .ok (.putfield 13, 3)) (k : wq_ C G Q (pc + 3) lv st (sI_ M 0 4 x)) : wq_ C G Q pc lv (.int x :: .ref (G.1 0) :: st) M := w_putI (j := 4) (a := 0) (ci := 11) (fs := dr_fs) (ty := .int) X hd inG12 tyX12_ok nmX12 rfl (by decide) f12_place rfl (by decide +kernel) rfl rfl rfl rfl k
set_option maxRecDepth 100000 in
theorem f12_at : Cond.fieldLink RX12 147 (TX12 5).1 (TX12 5).2.1 (TX12 5).2.2.1 ∈ gw_ := gw_t 1036 rfl rfl
theorem g12_at (X : cx_ C G RX12 cc nL ry d) (hd : decode cc pc = .ok (.getfield 147, 3)) (k : wq_ C G Q (pc + 3) lv (.int (M.1 0 5) :: st) M) : wq_ C G Q pc lv (.ref (G.1 0) :: st) M := w_get (j := 5) (f := 0) (a := 0) (ci := 11) (fs := dr_fs) X hd inG12 rfl (by decide) f12_at rfl rfl k
theorem p12_at {x : Int32} (X : cx_ C G RX12 cc nL ry d) (hd : decode cc pc = .ok (.putfield 147, 3)) (k : wq_ C G Q (pc + 3) lv st (sI_ M 0 5 x)) : wq_ C G Q pc lv (.int x :: .ref (G.1 0) :: st) M := w_putI (j := 5) (a := 0) (ci := 11) (fs := dr_fs) (ty := .int) X hd inG12 tyX12_ok nmX12 rfl (by decide) f12_at rfl (by decide +kernel) rfl rfl rfl rfl k
set_option maxRecDepth 100000 in
theorem f12_steps : Cond.fieldLink RX12 17 (TX12 6).1 (TX12 6).2.1 (TX12 6).2.2.1 ∈ gw_ := gw_t 1037 rfl rfl
theorem g12_steps (X : cx_ C G RX12 cc nL ry d) (hd : decode cc pc = .ok (.getfield 17, 3)) (k : wq_ C G Q (pc + 3) lv (.ref (G.1 2) :: st) M) : wq_ C G Q pc lv (.ref (G.1 0) :: st) M := w_get (j := 6) (f := 5) (a := 0) (ci := 11) (fs := dr_fs) X hd inG12 rfl (by decide) f12_steps rfl rfl k
set_option maxRecDepth 100000 in
theorem f12_values : Cond.fieldLink RX12 20 (TX12 7).1 (TX12 7).2.1 (TX12 7).2.2.1 ∈ gw_ := gw_t 1038 rfl rfl
theorem g12_values (X : cx_ C G RX12 cc nL ry d) (hd : decode cc pc = .ok (.getfield 20, 3)) (k : wq_ C G Q (pc + 3) lv (.ref (G.1 3) :: st) M) : wq_ C G Q pc lv (.ref (G.1 0) :: st) M := w_get (j := 7) (f := 6) (a := 0) (ci := 11) (fs := dr_fs) X hd inG12 rfl (by decide) f12_values rfl rfl k
set_option maxRecDepth 100000 in
theorem f12_lengths : Cond.fieldLink RX12 24 (TX12 8).1 (TX12 8).2.1 (TX12 8).2.2.1 ∈ gw_ := gw_t 1039 rfl rfl
theorem g12_lengths (X : cx_ C G RX12 cc nL ry d) (hd : decode cc pc = .ok (.getfield 24, 3)) (k : wq_ C G Q (pc + 3) lv (.ref (G.1 4) :: st) M) : wq_ C G Q pc lv (.ref (G.1 0) :: st) M := w_get (j := 8) (f := 7) (a := 0) (ci := 11) (fs := dr_fs) X hd inG12 rfl (by decide) f12_lengths rfl rfl k
set_option maxRecDepth 100000 in
theorem f12_methods : Cond.fieldLink RX12 260 (TX12 9).1 (TX12 9).2.1 (TX12 9).2.2.1 ∈ gw_ := gw_t 1040 rfl rfl
theorem g12_methods (X : cx_ C G RX12 cc nL ry d) (hd : decode cc pc = .ok (.getfield 260, 3)) (k : wq_ C G Q (pc + 3) lv (.int (M.1 0 9) :: st) M) : wq_ C G Q pc lv (.ref (G.1 0) :: st) M := w_get (j := 9) (f := 0) (a := 0) (ci := 11) (fs := dr_fs) X hd inG12 rfl (by decide) f12_methods rfl rfl k
theorem p12_methods {x : Int32} (X : cx_ C G RX12 cc nL ry d) (hd : decode cc pc = .ok (.putfield 260, 3)) (k : wq_ C G Q (pc + 3) lv st (sI_ M 0 9 x)) : wq_ C G Q pc lv (.int x :: .ref (G.1 0) :: st) M := w_putI (j := 9) (a := 0) (ci := 11) (fs := dr_fs) (ty := .int) X hd inG12 tyX12_ok nmX12 rfl (by decide) f12_methods rfl (by decide +kernel) rfl rfl rfl rfl k
set_option maxRecDepth 100000 in
theorem f12_names : Cond.fieldLink RX12 27 (TX12 10).1 (TX12 10).2.1 (TX12 10).2.2.1 ∈ gw_ := gw_t 1041 rfl rfl
theorem g12_names (X : cx_ C G RX12 cc nL ry d) (hd : decode cc pc = .ok (.getfield 27, 3)) (k : wq_ C G Q (pc + 3) lv (.ref (G.1 5) :: st) M) : wq_ C G Q pc lv (.ref (G.1 0) :: st) M := w_get (j := 10) (f := 8) (a := 0) (ci := 11) (fs := dr_fs) X hd inG12 rfl (by decide) f12_names rfl rfl k
set_option maxRecDepth 100000 in
theorem f12_parameters : Cond.fieldLink RX12 30 (TX12 11).1 (TX12 11).2.1 (TX12 11).2.2.1 ∈ gw_ := gw_t 1042 rfl rfl
theorem g12_parameters (X : cx_ C G RX12 cc nL ry d) (hd : decode cc pc = .ok (.getfield 30, 3)) (k : wq_ C G Q (pc + 3) lv (.ref (G.1 6) :: st) M) : wq_ C G Q pc lv (.ref (G.1 0) :: st) M := w_get (j := 11) (f := 9) (a := 0) (ci := 11) (fs := dr_fs) X hd inG12 rfl (by decide) f12_parameters rfl rfl k
set_option maxRecDepth 100000 in
theorem f12_length : Cond.fieldLink RX12 144 (TX12 12).1 (TX12 12).2.1 (TX12 12).2.2.1 ∈ gw_ := gw_t 1043 rfl rfl
theorem g12_length (X : cx_ C G RX12 cc nL ry d) (hd : decode cc pc = .ok (.getfield 144, 3)) (k : wq_ C G Q (pc + 3) lv (.int (M.1 0 12) :: st) M) : wq_ C G Q pc lv (.ref (G.1 0) :: st) M := w_get (j := 12) (f := 0) (a := 0) (ci := 11) (fs := dr_fs) X hd inG12 rfl (by decide) f12_length rfl rfl k
theorem p12_length {x : Int32} (X : cx_ C G RX12 cc nL ry d) (hd : decode cc pc = .ok (.putfield 144, 3)) (k : wq_ C G Q (pc + 3) lv st (sI_ M 0 12 x)) : wq_ C G Q pc lv (.int x :: .ref (G.1 0) :: st) M := w_putI (j := 12) (a := 0) (ci := 11) (fs := dr_fs) (ty := .int) X hd inG12 tyX12_ok nmX12 rfl (by decide) f12_length rfl (by decide +kernel) rfl rfl rfl rfl k
set_option maxRecDepth 100000 in
theorem f12_nodes : Cond.fieldLink RX12 154 (TX12 13).1 (TX12 13).2.1 (TX12 13).2.2.1 ∈ gw_ := gw_t 1044 rfl rfl
theorem g12_nodes (X : cx_ C G RX12 cc nL ry d) (hd : decode cc pc = .ok (.getfield 154, 3)) (k : wq_ C G Q (pc + 3) lv (.int (M.1 0 13) :: st) M) : wq_ C G Q pc lv (.ref (G.1 0) :: st) M := w_get (j := 13) (f := 0) (a := 0) (ci := 11) (fs := dr_fs) X hd inG12 rfl (by decide) f12_nodes rfl rfl k
theorem p12_nodes {x : Int32} (X : cx_ C G RX12 cc nL ry d) (hd : decode cc pc = .ok (.putfield 154, 3)) (k : wq_ C G Q (pc + 3) lv st (sI_ M 0 13 x)) : wq_ C G Q pc lv (.int x :: .ref (G.1 0) :: st) M := w_putI (j := 13) (a := 0) (ci := 11) (fs := dr_fs) (ty := .int) X hd inG12 tyX12_ok nmX12 rfl (by decide) f12_nodes rfl (by decide +kernel) rfl rfl rfl rfl k
set_option maxRecDepth 100000 in
theorem f12_inCommand : Cond.fieldLink RX12 150 (TX12 14).1 (TX12 14).2.1 (TX12 14).2.2.1 ∈ gw_ := gw_t 1045 rfl rfl
theorem g12_inCommand (X : cx_ C G RX12 cc nL ry d) (hd : decode cc pc = .ok (.getfield 150, 3)) (k : wq_ C G Q (pc + 3) lv (.int (M.1 0 14) :: st) M) : wq_ C G Q pc lv (.ref (G.1 0) :: st) M := w_get (j := 14) (f := 0) (a := 0) (ci := 11) (fs := dr_fs) X hd inG12 rfl (by decide) f12_inCommand rfl rfl k
theorem p12_inCommand {x : Int32} (X : cx_ C G RX12 cc nL ry d) (hd : decode cc pc = .ok (.putfield 150, 3)) (hz : x = 0 ∨ x = 1) (k : wq_ C G Q (pc + 3) lv st (sI_ M 0 14 x)) : wq_ C G Q pc lv (.int x :: .ref (G.1 0) :: st) M := w_putI (j := 14) (a := 0) (ci := 11) (fs := dr_fs) (ty := .boolean) X hd inG12 tyX12_ok nmX12 rfl (by decide) f12_inCommand rfl (by decide +kernel) rfl rfl (zb_ hz).1 (zb_ hz).2 k
set_option maxRecDepth 100000 in
theorem f12_variables : Cond.fieldLink RX12 202 (TX12 15).1 (TX12 15).2.1 (TX12 15).2.2.1 ∈ gw_ := gw_t 1046 rfl rfl
theorem g12_variables (X : cx_ C G RX12 cc nL ry d) (hd : decode cc pc = .ok (.getfield 202, 3)) (k : wq_ C G Q (pc + 3) lv (.int (M.1 0 15) :: st) M) : wq_ C G Q pc lv (.ref (G.1 0) :: st) M := w_get (j := 15) (f := 0) (a := 0) (ci := 11) (fs := dr_fs) X hd inG12 rfl (by decide) f12_variables rfl rfl k
theorem p12_variables {x : Int32} (X : cx_ C G RX12 cc nL ry d) (hd : decode cc pc = .ok (.putfield 202, 3)) (k : wq_ C G Q (pc + 3) lv st (sI_ M 0 15 x)) : wq_ C G Q pc lv (.int x :: .ref (G.1 0) :: st) M := w_putI (j := 15) (a := 0) (ci := 11) (fs := dr_fs) (ty := .int) X hd inG12 tyX12_ok nmX12 rfl (by decide) f12_variables rfl (by decide +kernel) rfl rfl rfl rfl k
set_option maxRecDepth 100000 in
theorem f12_waits : Cond.fieldLink RX12 33 (TX12 16).1 (TX12 16).2.1 (TX12 16).2.2.1 ∈ gw_ := gw_t 1047 rfl rfl
theorem g12_waits (X : cx_ C G RX12 cc nL ry d) (hd : decode cc pc = .ok (.getfield 33, 3)) (k : wq_ C G Q (pc + 3) lv (.ref (G.1 7) :: st) M) : wq_ C G Q pc lv (.ref (G.1 0) :: st) M := w_get (j := 16) (f := 10) (a := 0) (ci := 11) (fs := dr_fs) X hd inG12 rfl (by decide) f12_waits rfl rfl k
set_option maxRecDepth 100000 in
theorem f12_waitPlaces : Cond.fieldLink RX12 36 (TX12 17).1 (TX12 17).2.1 (TX12 17).2.2.1 ∈ gw_ := gw_t 1048 rfl rfl
theorem g12_waitPlaces (X : cx_ C G RX12 cc nL ry d) (hd : decode cc pc = .ok (.getfield 36, 3)) (k : wq_ C G Q (pc + 3) lv (.ref (G.1 8) :: st) M) : wq_ C G Q pc lv (.ref (G.1 0) :: st) M := w_get (j := 17) (f := 11) (a := 0) (ci := 11) (fs := dr_fs) X hd inG12 rfl (by decide) f12_waitPlaces rfl rfl k
set_option maxRecDepth 100000 in
theorem f12_waitValues : Cond.fieldLink RX12 39 (TX12 18).1 (TX12 18).2.1 (TX12 18).2.2.1 ∈ gw_ := gw_t 1049 rfl rfl
theorem g12_waitValues (X : cx_ C G RX12 cc nL ry d) (hd : decode cc pc = .ok (.getfield 39, 3)) (k : wq_ C G Q (pc + 3) lv (.ref (G.1 9) :: st) M) : wq_ C G Q pc lv (.ref (G.1 0) :: st) M := w_get (j := 18) (f := 12) (a := 0) (ci := 11) (fs := dr_fs) X hd inG12 rfl (by decide) f12_waitValues rfl rfl k
set_option maxRecDepth 100000 in
theorem f12_waitNames : Cond.fieldLink RX12 42 (TX12 19).1 (TX12 19).2.1 (TX12 19).2.2.1 ∈ gw_ := gw_t 1050 rfl rfl
theorem g12_waitNames (X : cx_ C G RX12 cc nL ry d) (hd : decode cc pc = .ok (.getfield 42, 3)) (k : wq_ C G Q (pc + 3) lv (.ref (G.1 10) :: st) M) : wq_ C G Q pc lv (.ref (G.1 0) :: st) M := w_get (j := 19) (f := 13) (a := 0) (ci := 11) (fs := dr_fs) X hd inG12 rfl (by decide) f12_waitNames rfl rfl k
set_option maxRecDepth 100000 in
theorem f12_waiting : Cond.fieldLink RX12 161 (TX12 20).1 (TX12 20).2.1 (TX12 20).2.2.1 ∈ gw_ := gw_t 1051 rfl rfl
theorem g12_waiting (X : cx_ C G RX12 cc nL ry d) (hd : decode cc pc = .ok (.getfield 161, 3)) (k : wq_ C G Q (pc + 3) lv (.int (M.1 0 20) :: st) M) : wq_ C G Q pc lv (.ref (G.1 0) :: st) M := w_get (j := 20) (f := 0) (a := 0) (ci := 11) (fs := dr_fs) X hd inG12 rfl (by decide) f12_waiting rfl rfl k
theorem p12_waiting {x : Int32} (X : cx_ C G RX12 cc nL ry d) (hd : decode cc pc = .ok (.putfield 161, 3)) (k : wq_ C G Q (pc + 3) lv st (sI_ M 0 20 x)) : wq_ C G Q pc lv (.int x :: .ref (G.1 0) :: st) M := w_putI (j := 20) (a := 0) (ci := 11) (fs := dr_fs) (ty := .int) X hd inG12 tyX12_ok nmX12 rfl (by decide) f12_waiting rfl (by decide +kernel) rfl rfl rfl rfl k
set_option maxRecDepth 100000 in
theorem f12_operands : Cond.fieldLink RX12 45 (TX12 21).1 (TX12 21).2.1 (TX12 21).2.2.1 ∈ gw_ := gw_t 1052 rfl rfl
theorem g12_operands (X : cx_ C G RX12 cc nL ry d) (hd : decode cc pc = .ok (.getfield 45, 3)) (k : wq_ C G Q (pc + 3) lv (.ref (G.1 11) :: st) M) : wq_ C G Q pc lv (.ref (G.1 0) :: st) M := w_get (j := 21) (f := 14) (a := 0) (ci := 11) (fs := dr_fs) X hd inG12 rfl (by decide) f12_operands rfl rfl k
set_option maxRecDepth 100000 in
theorem f12_operandCount : Cond.fieldLink RX12 164 (TX12 22).1 (TX12 22).2.1 (TX12 22).2.2.1 ∈ gw_ := gw_t 1053 rfl rfl
theorem g12_operandCount (X : cx_ C G RX12 cc nL ry d) (hd : decode cc pc = .ok (.getfield 164, 3)) (k : wq_ C G Q (pc + 3) lv (.int (M.1 0 22) :: st) M) : wq_ C G Q pc lv (.ref (G.1 0) :: st) M := w_get (j := 22) (f := 0) (a := 0) (ci := 11) (fs := dr_fs) X hd inG12 rfl (by decide) f12_operandCount rfl rfl k
theorem p12_operandCount {x : Int32} (X : cx_ C G RX12 cc nL ry d) (hd : decode cc pc = .ok (.putfield 164, 3)) (k : wq_ C G Q (pc + 3) lv st (sI_ M 0 22 x)) : wq_ C G Q pc lv (.int x :: .ref (G.1 0) :: st) M := w_putI (j := 22) (a := 0) (ci := 11) (fs := dr_fs) (ty := .int) X hd inG12 tyX12_ok nmX12 rfl (by decide) f12_operandCount rfl (by decide +kernel) rfl rfl rfl rfl k
set_option maxRecDepth 100000 in
theorem f12_opened : Cond.fieldLink RX12 195 (TX12 23).1 (TX12 23).2.1 (TX12 23).2.2.1 ∈ gw_ := gw_t 1054 rfl rfl
theorem g12_opened (X : cx_ C G RX12 cc nL ry d) (hd : decode cc pc = .ok (.getfield 195, 3)) (k : wq_ C G Q (pc + 3) lv (.int (M.1 0 23) :: st) M) : wq_ C G Q pc lv (.ref (G.1 0) :: st) M := w_get (j := 23) (f := 0) (a := 0) (ci := 11) (fs := dr_fs) X hd inG12 rfl (by decide) f12_opened rfl rfl k
theorem p12_opened {x : Int32} (X : cx_ C G RX12 cc nL ry d) (hd : decode cc pc = .ok (.putfield 195, 3)) (k : wq_ C G Q (pc + 3) lv st (sI_ M 0 23 x)) : wq_ C G Q pc lv (.int x :: .ref (G.1 0) :: st) M := w_putI (j := 23) (a := 0) (ci := 11) (fs := dr_fs) (ty := .int) X hd inG12 tyX12_ok nmX12 rfl (by decide) f12_opened rfl (by decide +kernel) rfl rfl rfl rfl k
set_option maxRecDepth 100000 in
theorem f12_rowName : Cond.fieldLink RX12 137 (TX12 24).1 (TX12 24).2.1 (TX12 24).2.2.1 ∈ gw_ := gw_t 1055 rfl rfl
theorem g12_rowName (X : cx_ C G RX12 cc nL ry d) (hd : decode cc pc = .ok (.getfield 137, 3)) (k : wq_ C G Q (pc + 3) lv (.long (M.2.1 0 24) :: st) M) : wq_ C G Q pc lv (.ref (G.1 0) :: st) M := w_get (j := 24) (f := 1) (a := 0) (ci := 11) (fs := dr_fs) X hd inG12 rfl (by decide) f12_rowName rfl rfl k
theorem p12_rowName {x : Int64} (X : cx_ C G RX12 cc nL ry d) (hd : decode cc pc = .ok (.putfield 137, 3)) (k : wq_ C G Q (pc + 3) lv st (sL_ M 0 24 x)) : wq_ C G Q pc lv (.long x :: .ref (G.1 0) :: st) M := w_putL (j := 24) (a := 0) (ci := 11) (fs := dr_fs) (ty := .long) X hd inG12 tyX12_ok nmX12 rfl (by decide) f12_rowName rfl (by decide +kernel) rfl rfl rfl rfl k
set_option maxRecDepth 100000 in
theorem f12_kinds : Cond.fieldLink RX12 48 (TX12 25).1 (TX12 25).2.1 (TX12 25).2.2.1 ∈ gw_ := gw_t 1056 rfl rfl
theorem g12_kinds (X : cx_ C G RX12 cc nL ry d) (hd : decode cc pc = .ok (.getfield 48, 3)) (k : wq_ C G Q (pc + 3) lv (.ref (G.1 12) :: st) M) : wq_ C G Q pc lv (.ref (G.1 0) :: st) M := w_get (j := 25) (f := 15) (a := 0) (ci := 11) (fs := dr_fs) X hd inG12 rfl (by decide) f12_kinds rfl rfl k
set_option maxRecDepth 100000 in
theorem f12_points : Cond.fieldLink RX12 51 (TX12 26).1 (TX12 26).2.1 (TX12 26).2.2.1 ∈ gw_ := gw_t 1057 rfl rfl
theorem g12_points (X : cx_ C G RX12 cc nL ry d) (hd : decode cc pc = .ok (.getfield 51, 3)) (k : wq_ C G Q (pc + 3) lv (.ref (G.1 13) :: st) M) : wq_ C G Q pc lv (.ref (G.1 0) :: st) M := w_get (j := 26) (f := 16) (a := 0) (ci := 11) (fs := dr_fs) X hd inG12 rfl (by decide) f12_points rfl rfl k
set_option maxRecDepth 100000 in
theorem f12_limits : Cond.fieldLink RX12 54 (TX12 27).1 (TX12 27).2.1 (TX12 27).2.2.1 ∈ gw_ := gw_t 1058 rfl rfl
theorem g12_limits (X : cx_ C G RX12 cc nL ry d) (hd : decode cc pc = .ok (.getfield 54, 3)) (k : wq_ C G Q (pc + 3) lv (.ref (G.1 14) :: st) M) : wq_ C G Q pc lv (.ref (G.1 0) :: st) M := w_get (j := 27) (f := 17) (a := 0) (ci := 11) (fs := dr_fs) X hd inG12 rfl (by decide) f12_limits rfl rfl k
set_option maxRecDepth 100000 in
theorem f12_mades : Cond.fieldLink RX12 57 (TX12 28).1 (TX12 28).2.1 (TX12 28).2.2.1 ∈ gw_ := gw_t 1059 rfl rfl
theorem g12_mades (X : cx_ C G RX12 cc nL ry d) (hd : decode cc pc = .ok (.getfield 57, 3)) (k : wq_ C G Q (pc + 3) lv (.ref (G.1 15) :: st) M) : wq_ C G Q pc lv (.ref (G.1 0) :: st) M := w_get (j := 28) (f := 18) (a := 0) (ci := 11) (fs := dr_fs) X hd inG12 rfl (by decide) f12_mades rfl rfl k
set_option maxRecDepth 100000 in
theorem f12_conditioned : Cond.fieldLink RX12 60 (TX12 29).1 (TX12 29).2.1 (TX12 29).2.2.1 ∈ gw_ := gw_t 1060 rfl rfl
theorem g12_conditioned (X : cx_ C G RX12 cc nL ry d) (hd : decode cc pc = .ok (.getfield 60, 3)) (k : wq_ C G Q (pc + 3) lv (.ref (G.1 16) :: st) M) : wq_ C G Q pc lv (.ref (G.1 0) :: st) M := w_get (j := 29) (f := 19) (a := 0) (ci := 11) (fs := dr_fs) X hd inG12 rfl (by decide) f12_conditioned rfl rfl k
set_option maxRecDepth 100000 in
theorem f12_patterns : Cond.fieldLink RX12 64 (TX12 30).1 (TX12 30).2.1 (TX12 30).2.2.1 ∈ gw_ := gw_t 1061 rfl rfl
theorem g12_patterns (X : cx_ C G RX12 cc nL ry d) (hd : decode cc pc = .ok (.getfield 64, 3)) (k : wq_ C G Q (pc + 3) lv (.ref (G.1 17) :: st) M) : wq_ C G Q pc lv (.ref (G.1 0) :: st) M := w_get (j := 30) (f := 20) (a := 0) (ci := 11) (fs := dr_fs) X hd inG12 rfl (by decide) f12_patterns rfl rfl k
set_option maxRecDepth 100000 in
theorem f12_patternSizes : Cond.fieldLink RX12 67 (TX12 31).1 (TX12 31).2.1 (TX12 31).2.2.1 ∈ gw_ := gw_t 1062 rfl rfl
theorem g12_patternSizes (X : cx_ C G RX12 cc nL ry d) (hd : decode cc pc = .ok (.getfield 67, 3)) (k : wq_ C G Q (pc + 3) lv (.ref (G.1 18) :: st) M) : wq_ C G Q pc lv (.ref (G.1 0) :: st) M := w_get (j := 31) (f := 21) (a := 0) (ci := 11) (fs := dr_fs) X hd inG12 rfl (by decide) f12_patternSizes rfl rfl k
set_option maxRecDepth 100000 in
theorem f12_newPattern : Cond.fieldLink RX12 70 (TX12 32).1 (TX12 32).2.1 (TX12 32).2.2.1 ∈ gw_ := gw_t 1063 rfl rfl
theorem g12_newPattern (X : cx_ C G RX12 cc nL ry d) (hd : decode cc pc = .ok (.getfield 70, 3)) (k : wq_ C G Q (pc + 3) lv (.ref (G.1 19) :: st) M) : wq_ C G Q pc lv (.ref (G.1 0) :: st) M := w_get (j := 32) (f := 22) (a := 0) (ci := 11) (fs := dr_fs) X hd inG12 rfl (by decide) f12_newPattern rfl rfl k
set_option maxRecDepth 100000 in
theorem f12_newPatternSize : Cond.fieldLink RX12 284 (TX12 33).1 (TX12 33).2.1 (TX12 33).2.2.1 ∈ gw_ := gw_t 1064 rfl rfl
theorem g12_newPatternSize (X : cx_ C G RX12 cc nL ry d) (hd : decode cc pc = .ok (.getfield 284, 3)) (k : wq_ C G Q (pc + 3) lv (.int (M.1 0 33) :: st) M) : wq_ C G Q pc lv (.ref (G.1 0) :: st) M := w_get (j := 33) (f := 0) (a := 0) (ci := 11) (fs := dr_fs) X hd inG12 rfl (by decide) f12_newPatternSize rfl rfl k
theorem p12_newPatternSize {x : Int32} (X : cx_ C G RX12 cc nL ry d) (hd : decode cc pc = .ok (.putfield 284, 3)) (k : wq_ C G Q (pc + 3) lv st (sI_ M 0 33 x)) : wq_ C G Q pc lv (.int x :: .ref (G.1 0) :: st) M := w_putI (j := 33) (a := 0) (ci := 11) (fs := dr_fs) (ty := .int) X hd inG12 tyX12_ok nmX12 rfl (by decide) f12_newPatternSize rfl (by decide +kernel) rfl rfl rfl rfl k
set_option maxRecDepth 100000 in
theorem f12_counts : Cond.fieldLink RX12 73 (TX12 34).1 (TX12 34).2.1 (TX12 34).2.2.1 ∈ gw_ := gw_t 1065 rfl rfl
theorem g12_counts (X : cx_ C G RX12 cc nL ry d) (hd : decode cc pc = .ok (.getfield 73, 3)) (k : wq_ C G Q (pc + 3) lv (.ref (G.1 20) :: st) M) : wq_ C G Q pc lv (.ref (G.1 0) :: st) M := w_get (j := 34) (f := 23) (a := 0) (ci := 11) (fs := dr_fs) X hd inG12 rfl (by decide) f12_counts rfl rfl k
set_option maxRecDepth 100000 in
theorem f12_recordCount : Cond.fieldLink RX12 356 (TX12 35).1 (TX12 35).2.1 (TX12 35).2.2.1 ∈ gw_ := gw_t 1066 rfl rfl
theorem g12_recordCount (X : cx_ C G RX12 cc nL ry d) (hd : decode cc pc = .ok (.getfield 356, 3)) (k : wq_ C G Q (pc + 3) lv (.int (M.1 0 35) :: st) M) : wq_ C G Q pc lv (.ref (G.1 0) :: st) M := w_get (j := 35) (f := 0) (a := 0) (ci := 11) (fs := dr_fs) X hd inG12 rfl (by decide) f12_recordCount rfl rfl k
theorem p12_recordCount {x : Int32} (X : cx_ C G RX12 cc nL ry d) (hd : decode cc pc = .ok (.putfield 356, 3)) (k : wq_ C G Q (pc + 3) lv st (sI_ M 0 35 x)) : wq_ C G Q pc lv (.int x :: .ref (G.1 0) :: st) M := w_putI (j := 35) (a := 0) (ci := 11) (fs := dr_fs) (ty := .int) X hd inG12 tyX12_ok nmX12 rfl (by decide) f12_recordCount rfl (by decide +kernel) rfl rfl rfl rfl k
set_option maxRecDepth 100000 in
theorem f12_records : Cond.fieldLink RX12 76 (TX12 36).1 (TX12 36).2.1 (TX12 36).2.2.1 ∈ gw_ := gw_t 1067 rfl rfl
theorem g12_records (X : cx_ C G RX12 cc nL ry d) (hd : decode cc pc = .ok (.getfield 76, 3)) (k : wq_ C G Q (pc + 3) lv (.ref (G.1 21) :: st) M) : wq_ C G Q pc lv (.ref (G.1 0) :: st) M := w_get (j := 36) (f := 24) (a := 0) (ci := 11) (fs := dr_fs) X hd inG12 rfl (by decide) f12_records rfl rfl k
set_option maxRecDepth 100000 in
theorem f12_keepCount : Cond.fieldLink RX12 365 (TX12 37).1 (TX12 37).2.1 (TX12 37).2.2.1 ∈ gw_ := gw_t 1068 rfl rfl
theorem g12_keepCount (X : cx_ C G RX12 cc nL ry d) (hd : decode cc pc = .ok (.getfield 365, 3)) (k : wq_ C G Q (pc + 3) lv (.int (M.1 0 37) :: st) M) : wq_ C G Q pc lv (.ref (G.1 0) :: st) M := w_get (j := 37) (f := 0) (a := 0) (ci := 11) (fs := dr_fs) X hd inG12 rfl (by decide) f12_keepCount rfl rfl k
theorem p12_keepCount {x : Int32} (X : cx_ C G RX12 cc nL ry d) (hd : decode cc pc = .ok (.putfield 365, 3)) (k : wq_ C G Q (pc + 3) lv st (sI_ M 0 37 x)) : wq_ C G Q pc lv (.int x :: .ref (G.1 0) :: st) M := w_putI (j := 37) (a := 0) (ci := 11) (fs := dr_fs) (ty := .int) X hd inG12 tyX12_ok nmX12 rfl (by decide) f12_keepCount rfl (by decide +kernel) rfl rfl rfl rfl k
set_option maxRecDepth 100000 in
theorem f12_keptOnes : Cond.fieldLink RX12 79 (TX12 38).1 (TX12 38).2.1 (TX12 38).2.2.1 ∈ gw_ := gw_t 1069 rfl rfl
theorem g12_keptOnes (X : cx_ C G RX12 cc nL ry d) (hd : decode cc pc = .ok (.getfield 79, 3)) (k : wq_ C G Q (pc + 3) lv (.ref (G.1 22) :: st) M) : wq_ C G Q pc lv (.ref (G.1 0) :: st) M := w_get (j := 38) (f := 25) (a := 0) (ci := 11) (fs := dr_fs) X hd inG12 rfl (by decide) f12_keptOnes rfl rfl k
set_option maxRecDepth 100000 in
theorem f12_depth : Cond.fieldLink RX12 381 (TX12 39).1 (TX12 39).2.1 (TX12 39).2.2.1 ∈ gw_ := gw_t 1070 rfl rfl
theorem g12_depth (X : cx_ C G RX12 cc nL ry d) (hd : decode cc pc = .ok (.getfield 381, 3)) (k : wq_ C G Q (pc + 3) lv (.int (M.1 0 39) :: st) M) : wq_ C G Q pc lv (.ref (G.1 0) :: st) M := w_get (j := 39) (f := 0) (a := 0) (ci := 11) (fs := dr_fs) X hd inG12 rfl (by decide) f12_depth rfl rfl k
theorem p12_depth {x : Int32} (X : cx_ C G RX12 cc nL ry d) (hd : decode cc pc = .ok (.putfield 381, 3)) (k : wq_ C G Q (pc + 3) lv st (sI_ M 0 39 x)) : wq_ C G Q pc lv (.int x :: .ref (G.1 0) :: st) M := w_putI (j := 39) (a := 0) (ci := 11) (fs := dr_fs) (ty := .int) X hd inG12 tyX12_ok nmX12 rfl (by decide) f12_depth rfl (by decide +kernel) rfl rfl rfl rfl k
set_option maxRecDepth 100000 in
theorem f12_invoked : Cond.fieldLink RX12 384 (TX12 40).1 (TX12 40).2.1 (TX12 40).2.2.1 ∈ gw_ := gw_t 1071 rfl rfl
theorem g12_invoked (X : cx_ C G RX12 cc nL ry d) (hd : decode cc pc = .ok (.getfield 384, 3)) (k : wq_ C G Q (pc + 3) lv (.int (M.1 0 40) :: st) M) : wq_ C G Q pc lv (.ref (G.1 0) :: st) M := w_get (j := 40) (f := 0) (a := 0) (ci := 11) (fs := dr_fs) X hd inG12 rfl (by decide) f12_invoked rfl rfl k
theorem p12_invoked {x : Int32} (X : cx_ C G RX12 cc nL ry d) (hd : decode cc pc = .ok (.putfield 384, 3)) (k : wq_ C G Q (pc + 3) lv st (sI_ M 0 40 x)) : wq_ C G Q pc lv (.int x :: .ref (G.1 0) :: st) M := w_putI (j := 40) (a := 0) (ci := 11) (fs := dr_fs) (ty := .int) X hd inG12 tyX12_ok nmX12 rfl (by decide) f12_invoked rfl (by decide +kernel) rfl rfl rfl rfl k
set_option maxRecDepth 100000 in
theorem f12_value : Cond.fieldLink RX12 426 (TX12 41).1 (TX12 41).2.1 (TX12 41).2.2.1 ∈ gw_ := gw_t 1072 rfl rfl
theorem g12_value (X : cx_ C G RX12 cc nL ry d) (hd : decode cc pc = .ok (.getfield 426, 3)) (k : wq_ C G Q (pc + 3) lv (.int (M.1 0 41) :: st) M) : wq_ C G Q pc lv (.ref (G.1 0) :: st) M := w_get (j := 41) (f := 0) (a := 0) (ci := 11) (fs := dr_fs) X hd inG12 rfl (by decide) f12_value rfl rfl k
theorem p12_value {x : Int32} (X : cx_ C G RX12 cc nL ry d) (hd : decode cc pc = .ok (.putfield 426, 3)) (k : wq_ C G Q (pc + 3) lv st (sI_ M 0 41 x)) : wq_ C G Q pc lv (.int x :: .ref (G.1 0) :: st) M := w_putI (j := 41) (a := 0) (ci := 11) (fs := dr_fs) (ty := .int) X hd inG12 tyX12_ok nmX12 rfl (by decide) f12_value rfl (by decide +kernel) rfl rfl rfl rfl k
set_option maxRecDepth 100000 in
theorem f12_quiet : Cond.fieldLink RX12 368 (TX12 42).1 (TX12 42).2.1 (TX12 42).2.2.1 ∈ gw_ := gw_t 1073 rfl rfl
theorem g12_quiet (X : cx_ C G RX12 cc nL ry d) (hd : decode cc pc = .ok (.getfield 368, 3)) (k : wq_ C G Q (pc + 3) lv (.int (M.1 0 42) :: st) M) : wq_ C G Q pc lv (.ref (G.1 0) :: st) M := w_get (j := 42) (f := 0) (a := 0) (ci := 11) (fs := dr_fs) X hd inG12 rfl (by decide) f12_quiet rfl rfl k
theorem p12_quiet {x : Int32} (X : cx_ C G RX12 cc nL ry d) (hd : decode cc pc = .ok (.putfield 368, 3)) (hz : x = 0 ∨ x = 1) (k : wq_ C G Q (pc + 3) lv st (sI_ M 0 42 x)) : wq_ C G Q pc lv (.int x :: .ref (G.1 0) :: st) M := w_putI (j := 42) (a := 0) (ci := 11) (fs := dr_fs) (ty := .boolean) X hd inG12 tyX12_ok nmX12 rfl (by decide) f12_quiet rfl (by decide +kernel) rfl rfl (zb_ hz).1 (zb_ hz).2 k
set_option maxRecDepth 100000 in
theorem f12_runMethods : Cond.fieldLink RX12 82 (TX12 43).1 (TX12 43).2.1 (TX12 43).2.2.1 ∈ gw_ := gw_t 1074 rfl rfl
theorem g12_runMethods (X : cx_ C G RX12 cc nL ry d) (hd : decode cc pc = .ok (.getfield 82, 3)) (k : wq_ C G Q (pc + 3) lv (.ref (G.1 23) :: st) M) : wq_ C G Q pc lv (.ref (G.1 0) :: st) M := w_get (j := 43) (f := 26) (a := 0) (ci := 11) (fs := dr_fs) X hd inG12 rfl (by decide) f12_runMethods rfl rfl k
set_option maxRecDepth 100000 in
theorem f12_runParameters : Cond.fieldLink RX12 85 (TX12 44).1 (TX12 44).2.1 (TX12 44).2.2.1 ∈ gw_ := gw_t 1075 rfl rfl
theorem g12_runParameters (X : cx_ C G RX12 cc nL ry d) (hd : decode cc pc = .ok (.getfield 85, 3)) (k : wq_ C G Q (pc + 3) lv (.ref (G.1 24) :: st) M) : wq_ C G Q pc lv (.ref (G.1 0) :: st) M := w_get (j := 44) (f := 27) (a := 0) (ci := 11) (fs := dr_fs) X hd inG12 rfl (by decide) f12_runParameters rfl rfl k
set_option maxRecDepth 100000 in
theorem f12_runPlaces : Cond.fieldLink RX12 88 (TX12 45).1 (TX12 45).2.1 (TX12 45).2.2.1 ∈ gw_ := gw_t 1076 rfl rfl
theorem g12_runPlaces (X : cx_ C G RX12 cc nL ry d) (hd : decode cc pc = .ok (.getfield 88, 3)) (k : wq_ C G Q (pc + 3) lv (.ref (G.1 25) :: st) M) : wq_ C G Q pc lv (.ref (G.1 0) :: st) M := w_get (j := 45) (f := 28) (a := 0) (ci := 11) (fs := dr_fs) X hd inG12 rfl (by decide) f12_runPlaces rfl rfl k
set_option maxRecDepth 100000 in
theorem f12_stack : Cond.fieldLink RX12 91 (TX12 46).1 (TX12 46).2.1 (TX12 46).2.2.1 ∈ gw_ := gw_t 1077 rfl rfl
theorem g12_stack (X : cx_ C G RX12 cc nL ry d) (hd : decode cc pc = .ok (.getfield 91, 3)) (k : wq_ C G Q (pc + 3) lv (.ref (G.1 26) :: st) M) : wq_ C G Q pc lv (.ref (G.1 0) :: st) M := w_get (j := 46) (f := 29) (a := 0) (ci := 11) (fs := dr_fs) X hd inG12 rfl (by decide) f12_stack rfl rfl k
set_option maxRecDepth 100000 in
theorem f12_height : Cond.fieldLink RX12 399 (TX12 47).1 (TX12 47).2.1 (TX12 47).2.2.1 ∈ gw_ := gw_t 1078 rfl rfl
theorem g12_height (X : cx_ C G RX12 cc nL ry d) (hd : decode cc pc = .ok (.getfield 399, 3)) (k : wq_ C G Q (pc + 3) lv (.int (M.1 0 47) :: st) M) : wq_ C G Q pc lv (.ref (G.1 0) :: st) M := w_get (j := 47) (f := 0) (a := 0) (ci := 11) (fs := dr_fs) X hd inG12 rfl (by decide) f12_height rfl rfl k
theorem p12_height {x : Int32} (X : cx_ C G RX12 cc nL ry d) (hd : decode cc pc = .ok (.putfield 399, 3)) (k : wq_ C G Q (pc + 3) lv st (sI_ M 0 47 x)) : wq_ C G Q pc lv (.int x :: .ref (G.1 0) :: st) M := w_putI (j := 47) (a := 0) (ci := 11) (fs := dr_fs) (ty := .int) X hd inG12 tyX12_ok nmX12 rfl (by decide) f12_height rfl (by decide +kernel) rfl rfl rfl rfl k
set_option maxRecDepth 100000 in
theorem f12_tryPlaces : Cond.fieldLink RX12 94 (TX12 48).1 (TX12 48).2.1 (TX12 48).2.2.1 ∈ gw_ := gw_t 1079 rfl rfl
theorem g12_tryPlaces (X : cx_ C G RX12 cc nL ry d) (hd : decode cc pc = .ok (.getfield 94, 3)) (k : wq_ C G Q (pc + 3) lv (.ref (G.1 27) :: st) M) : wq_ C G Q pc lv (.ref (G.1 0) :: st) M := w_get (j := 48) (f := 30) (a := 0) (ci := 11) (fs := dr_fs) X hd inG12 rfl (by decide) f12_tryPlaces rfl rfl k
set_option maxRecDepth 100000 in
theorem f12_tryHeights : Cond.fieldLink RX12 97 (TX12 49).1 (TX12 49).2.1 (TX12 49).2.2.1 ∈ gw_ := gw_t 1080 rfl rfl
theorem g12_tryHeights (X : cx_ C G RX12 cc nL ry d) (hd : decode cc pc = .ok (.getfield 97, 3)) (k : wq_ C G Q (pc + 3) lv (.ref (G.1 28) :: st) M) : wq_ C G Q pc lv (.ref (G.1 0) :: st) M := w_get (j := 49) (f := 31) (a := 0) (ci := 11) (fs := dr_fs) X hd inG12 rfl (by decide) f12_tryHeights rfl rfl k
set_option maxRecDepth 100000 in
theorem f12_tryDepths : Cond.fieldLink RX12 100 (TX12 50).1 (TX12 50).2.1 (TX12 50).2.2.1 ∈ gw_ := gw_t 1081 rfl rfl
theorem g12_tryDepths (X : cx_ C G RX12 cc nL ry d) (hd : decode cc pc = .ok (.getfield 100, 3)) (k : wq_ C G Q (pc + 3) lv (.ref (G.1 29) :: st) M) : wq_ C G Q pc lv (.ref (G.1 0) :: st) M := w_get (j := 50) (f := 32) (a := 0) (ci := 11) (fs := dr_fs) X hd inG12 rfl (by decide) f12_tryDepths rfl rfl k
set_option maxRecDepth 100000 in
theorem f12_tries : Cond.fieldLink RX12 396 (TX12 51).1 (TX12 51).2.1 (TX12 51).2.2.1 ∈ gw_ := gw_t 1082 rfl rfl
theorem g12_tries (X : cx_ C G RX12 cc nL ry d) (hd : decode cc pc = .ok (.getfield 396, 3)) (k : wq_ C G Q (pc + 3) lv (.int (M.1 0 51) :: st) M) : wq_ C G Q pc lv (.ref (G.1 0) :: st) M := w_get (j := 51) (f := 0) (a := 0) (ci := 11) (fs := dr_fs) X hd inG12 rfl (by decide) f12_tries rfl rfl k
theorem p12_tries {x : Int32} (X : cx_ C G RX12 cc nL ry d) (hd : decode cc pc = .ok (.putfield 396, 3)) (k : wq_ C G Q (pc + 3) lv st (sI_ M 0 51 x)) : wq_ C G Q pc lv (.int x :: .ref (G.1 0) :: st) M := w_putI (j := 51) (a := 0) (ci := 11) (fs := dr_fs) (ty := .int) X hd inG12 tyX12_ok nmX12 rfl (by decide) f12_tries rfl (by decide +kernel) rfl rfl rfl rfl k
set_option maxRecDepth 100000 in
theorem f12_threw : Cond.fieldLink RX12 390 (TX12 52).1 (TX12 52).2.1 (TX12 52).2.2.1 ∈ gw_ := gw_t 1083 rfl rfl
theorem g12_threw (X : cx_ C G RX12 cc nL ry d) (hd : decode cc pc = .ok (.getfield 390, 3)) (k : wq_ C G Q (pc + 3) lv (.int (M.1 0 52) :: st) M) : wq_ C G Q pc lv (.ref (G.1 0) :: st) M := w_get (j := 52) (f := 0) (a := 0) (ci := 11) (fs := dr_fs) X hd inG12 rfl (by decide) f12_threw rfl rfl k
theorem p12_threw {x : Int32} (X : cx_ C G RX12 cc nL ry d) (hd : decode cc pc = .ok (.putfield 390, 3)) (hz : x = 0 ∨ x = 1) (k : wq_ C G Q (pc + 3) lv st (sI_ M 0 52 x)) : wq_ C G Q pc lv (.int x :: .ref (G.1 0) :: st) M := w_putI (j := 52) (a := 0) (ci := 11) (fs := dr_fs) (ty := .boolean) X hd inG12 tyX12_ok nmX12 rfl (by decide) f12_threw rfl (by decide +kernel) rfl rfl (zb_ hz).1 (zb_ hz).2 k
set_option maxRecDepth 100000 in
theorem f12_answer : Cond.fieldLink RX12 393 (TX12 53).1 (TX12 53).2.1 (TX12 53).2.2.1 ∈ gw_ := gw_t 1084 rfl rfl
theorem g12_answer (X : cx_ C G RX12 cc nL ry d) (hd : decode cc pc = .ok (.getfield 393, 3)) (k : wq_ C G Q (pc + 3) lv (.int (M.1 0 53) :: st) M) : wq_ C G Q pc lv (.ref (G.1 0) :: st) M := w_get (j := 53) (f := 0) (a := 0) (ci := 11) (fs := dr_fs) X hd inG12 rfl (by decide) f12_answer rfl rfl k
theorem p12_answer {x : Int32} (X : cx_ C G RX12 cc nL ry d) (hd : decode cc pc = .ok (.putfield 393, 3)) (k : wq_ C G Q (pc + 3) lv st (sI_ M 0 53 x)) : wq_ C G Q pc lv (.int x :: .ref (G.1 0) :: st) M := w_putI (j := 53) (a := 0) (ci := 11) (fs := dr_fs) (ty := .int) X hd inG12 tyX12_ok nmX12 rfl (by decide) f12_answer rfl (by decide +kernel) rfl rfl rfl rfl k
set_option maxRecDepth 100000 in
theorem f12_seen : Cond.fieldLink RX12 103 (TX12 54).1 (TX12 54).2.1 (TX12 54).2.2.1 ∈ gw_ := gw_t 1085 rfl rfl
theorem g12_seen (X : cx_ C G RX12 cc nL ry d) (hd : decode cc pc = .ok (.getfield 103, 3)) (k : wq_ C G Q (pc + 3) lv (.ref (G.1 30) :: st) M) : wq_ C G Q pc lv (.ref (G.1 0) :: st) M := w_get (j := 54) (f := 33) (a := 0) (ci := 11) (fs := dr_fs) X hd inG12 rfl (by decide) f12_seen rfl rfl k
set_option maxRecDepth 100000 in
theorem f12_probeStack : Cond.fieldLink RX12 106 (TX12 55).1 (TX12 55).2.1 (TX12 55).2.2.1 ∈ gw_ := gw_t 1086 rfl rfl
theorem g12_probeStack (X : cx_ C G RX12 cc nL ry d) (hd : decode cc pc = .ok (.getfield 106, 3)) (k : wq_ C G Q (pc + 3) lv (.ref (G.1 31) :: st) M) : wq_ C G Q pc lv (.ref (G.1 0) :: st) M := w_get (j := 55) (f := 34) (a := 0) (ci := 11) (fs := dr_fs) X hd inG12 rfl (by decide) f12_probeStack rfl rfl k
set_option maxRecDepth 100000 in
theorem f12_probeTries : Cond.fieldLink RX12 109 (TX12 56).1 (TX12 56).2.1 (TX12 56).2.2.1 ∈ gw_ := gw_t 1087 rfl rfl
theorem g12_probeTries (X : cx_ C G RX12 cc nL ry d) (hd : decode cc pc = .ok (.getfield 109, 3)) (k : wq_ C G Q (pc + 3) lv (.ref (G.1 32) :: st) M) : wq_ C G Q pc lv (.ref (G.1 0) :: st) M := w_get (j := 56) (f := 35) (a := 0) (ci := 11) (fs := dr_fs) X hd inG12 rfl (by decide) f12_probeTries rfl rfl k
set_option maxRecDepth 100000 in
theorem f12_probeHeights : Cond.fieldLink RX12 112 (TX12 57).1 (TX12 57).2.1 (TX12 57).2.2.1 ∈ gw_ := gw_t 1088 rfl rfl
theorem g12_probeHeights (X : cx_ C G RX12 cc nL ry d) (hd : decode cc pc = .ok (.getfield 112, 3)) (k : wq_ C G Q (pc + 3) lv (.ref (G.1 33) :: st) M) : wq_ C G Q pc lv (.ref (G.1 0) :: st) M := w_get (j := 57) (f := 36) (a := 0) (ci := 11) (fs := dr_fs) X hd inG12 rfl (by decide) f12_probeHeights rfl rfl k
set_option maxRecDepth 100000 in
theorem f12_probeValue : Cond.fieldLink RX12 347 (TX12 58).1 (TX12 58).2.1 (TX12 58).2.2.1 ∈ gw_ := gw_t 1089 rfl rfl
theorem g12_probeValue (X : cx_ C G RX12 cc nL ry d) (hd : decode cc pc = .ok (.getfield 347, 3)) (k : wq_ C G Q (pc + 3) lv (.int (M.1 0 58) :: st) M) : wq_ C G Q pc lv (.ref (G.1 0) :: st) M := w_get (j := 58) (f := 0) (a := 0) (ci := 11) (fs := dr_fs) X hd inG12 rfl (by decide) f12_probeValue rfl rfl k
theorem p12_probeValue {x : Int32} (X : cx_ C G RX12 cc nL ry d) (hd : decode cc pc = .ok (.putfield 347, 3)) (k : wq_ C G Q (pc + 3) lv st (sI_ M 0 58 x)) : wq_ C G Q pc lv (.int x :: .ref (G.1 0) :: st) M := w_putI (j := 58) (a := 0) (ci := 11) (fs := dr_fs) (ty := .int) X hd inG12 tyX12_ok nmX12 rfl (by decide) f12_probeValue rfl (by decide +kernel) rfl rfl rfl rfl k
set_option maxRecDepth 100000 in
theorem f12_probeThrew : Cond.fieldLink RX12 344 (TX12 59).1 (TX12 59).2.1 (TX12 59).2.2.1 ∈ gw_ := gw_t 1090 rfl rfl
theorem g12_probeThrew (X : cx_ C G RX12 cc nL ry d) (hd : decode cc pc = .ok (.getfield 344, 3)) (k : wq_ C G Q (pc + 3) lv (.int (M.1 0 59) :: st) M) : wq_ C G Q pc lv (.ref (G.1 0) :: st) M := w_get (j := 59) (f := 0) (a := 0) (ci := 11) (fs := dr_fs) X hd inG12 rfl (by decide) f12_probeThrew rfl rfl k
theorem p12_probeThrew {x : Int32} (X : cx_ C G RX12 cc nL ry d) (hd : decode cc pc = .ok (.putfield 344, 3)) (hz : x = 0 ∨ x = 1) (k : wq_ C G Q (pc + 3) lv st (sI_ M 0 59 x)) : wq_ C G Q pc lv (.int x :: .ref (G.1 0) :: st) M := w_putI (j := 59) (a := 0) (ci := 11) (fs := dr_fs) (ty := .boolean) X hd inG12 tyX12_ok nmX12 rfl (by decide) f12_probeThrew rfl (by decide +kernel) rfl rfl (zb_ hz).1 (zb_ hz).2 k
end LINKS
set_option maxRecDepth 100000 in
theorem k12_begin : lk_ RX12 263 yX12_begin cX12_begin 1 none 0 := ⟨gw_t 1230 rfl rfl, gw_t 1232 rfl rfl, (gw_s (⟨"ProbeConsoleModel", "begin", "()V"⟩, 60) 31 rfl rfl), in12_, gw_t 1233 rfl rfl, ⟨nhc14_.1, nhc14_.2, pdc0_⟩, by decide⟩
set_option maxRecDepth 100000 in
theorem k12_rowSize : lk_ RX12 205 yX12_rowSize cX12_rowSize 3 (some .int) 1 := ⟨gw_t 1234 rfl rfl, gw_t 1236 rfl rfl, (gw_s (⟨"ProbeConsoleModel", "rowSize", "(I)I"⟩, 60) 32 rfl rfl), in12_, gw_t 1237 rfl rfl, ⟨nhc14_.1, nhc14_.2, pdc9_⟩, by decide⟩
set_option maxRecDepth 100000 in
theorem k12_byteAt : lk_ RX12 130 yX12_byteAt cX12_byteAt 2 (some .int) 1 := ⟨gw_t 1238 rfl rfl, gw_t 1240 rfl rfl, (gw_s (⟨"ProbeConsoleModel", "byteAt", "(I)I"⟩, 60) 33 rfl rfl), in12_, gw_t 1241 rfl rfl, ⟨nhc14_.1, nhc14_.2, pdc9_⟩, by decide⟩
set_option maxRecDepth 100000 in
theorem k12_isOfRow : ls_ RX12 134 yX12_isOfRow cX12_isOfRow 1 (some .boolean) 1 := ⟨gw_t 1242 rfl rfl, gw_t 1243 rfl rfl, in12_, gw_t 1244 rfl rfl, ⟨nhc14_.1, nhc14_.2, pdc10_⟩, by decide⟩
set_option maxRecDepth 100000 in
theorem k12_isLetter : ls_ RX12 126 yX12_isLetter cX12_isLetter 1 (some .boolean) 1 := ⟨gw_t 1245 rfl rfl, gw_t 1246 rfl rfl, in12_, gw_t 1247 rfl rfl, ⟨nhc14_.1, nhc14_.2, pdc10_⟩, by decide⟩
set_option maxRecDepth 100000 in
theorem k12_fail : lk_ RX12 157 yX12_fail cX12_fail 3 none 2 := ⟨gw_t 1248 rfl rfl, gw_t 1250 rfl rfl, (gw_s (⟨"ProbeConsoleModel", "fail", "(II)V"⟩, 60) 34 rfl rfl), in12_, gw_t 1251 rfl rfl, ⟨nhc14_.1, nhc14_.2, pdc4_⟩, by decide⟩
set_option maxRecDepth 100000 in
theorem k12_isName : lk_ RX12 211 yX12_isName cX12_isName 6 (some .boolean) 2 := ⟨gw_t 1252 rfl rfl, gw_t 1254 rfl rfl, (gw_s (⟨"ProbeConsoleModel", "isName", "(II)Z"⟩, 60) 35 rfl rfl), in12_, gw_t 1255 rfl rfl, ⟨nhc14_.1, nhc14_.2, pdc43_⟩, by decide⟩
set_option maxRecDepth 100000 in
theorem k12_want : lk_ RX12 266 yX12_want cX12_want 2 none 1 := ⟨gw_t 1256 rfl rfl, gw_t 1258 rfl rfl, (gw_s (⟨"ProbeConsoleModel", "want", "(I)V"⟩, 60) 36 rfl rfl), in12_, gw_t 1259 rfl rfl, ⟨nhc14_.1, nhc14_.2, pdc13_⟩, by decide⟩
set_option maxRecDepth 100000 in
theorem k12_readExpression : lk_ RX12 269 yX12_readExpression cX12_readExpression 4 none 0 := ⟨gw_t 1260 rfl rfl, gw_t 1262 rfl rfl, (gw_s (⟨"ProbeConsoleModel", "readExpression", "()V"⟩, 60) 37 rfl rfl), in12_, gw_t 1263 rfl rfl, ⟨nhc14_.1, nhc14_.2, pdc0_⟩, by decide⟩
set_option maxRecDepth 100000 in
theorem k12_ended : lk_ RX12 222 yX12_ended cX12_ended 2 (some .boolean) 0 := ⟨gw_t 1264 rfl rfl, gw_t 1266 rfl rfl, (gw_s (⟨"ProbeConsoleModel", "ended", "()Z"⟩, 60) 38 rfl rfl), in12_, gw_t 1267 rfl rfl, ⟨nhc14_.1, nhc14_.2, pdc16_⟩, by decide⟩
set_option maxRecDepth 100000 in
theorem k12_last : lk_ RX12 218 yX12_last cX12_last 1 (some .int) 0 := ⟨gw_t 1268 rfl rfl, gw_t 1270 rfl rfl, (gw_s (⟨"ProbeConsoleModel", "last", "()I"⟩, 60) 39 rfl rfl), in12_, gw_t 1271 rfl rfl, ⟨nhc14_.1, nhc14_.2, pdc6_⟩, by decide⟩
set_option maxRecDepth 100000 in
theorem k12_readOperand : lk_ RX12 253 yX12_readOperand cX12_readOperand 4 (some .boolean) 1 := ⟨gw_t 1272 rfl rfl, gw_t 1274 rfl rfl, (gw_s (⟨"ProbeConsoleModel", "readOperand", "(Z)Z"⟩, 60) 40 rfl rfl), in12_, gw_t 1275 rfl rfl, ⟨nhc14_.1, nhc14_.2, pdc44_⟩, by decide⟩
set_option maxRecDepth 100000 in
theorem k12_close : lk_ RX12 226 yX12_close cX12_close 3 none 0 := ⟨gw_t 1276 rfl rfl, gw_t 1278 rfl rfl, (gw_s (⟨"ProbeConsoleModel", "close", "()V"⟩, 60) 41 rfl rfl), in12_, gw_t 1279 rfl rfl, ⟨nhc14_.1, nhc14_.2, pdc0_⟩, by decide⟩
set_option maxRecDepth 100000 in
theorem k12_reduceAll : lk_ RX12 235 yX12_reduceAll cX12_reduceAll 1 none 0 := ⟨gw_t 1280 rfl rfl, gw_t 1282 rfl rfl, (gw_s (⟨"ProbeConsoleModel", "reduceAll", "()V"⟩, 60) 42 rfl rfl), in12_, gw_t 1283 rfl rfl, ⟨nhc14_.1, nhc14_.2, pdc0_⟩, by decide⟩
set_option maxRecDepth 100000 in
theorem k12_reduceTo : lk_ RX12 174 yX12_reduceTo cX12_reduceTo 2 none 1 := ⟨gw_t 1284 rfl rfl, gw_t 1286 rfl rfl, (gw_s (⟨"ProbeConsoleModel", "reduceTo", "(I)V"⟩, 60) 43 rfl rfl), in12_, gw_t 1287 rfl rfl, ⟨nhc14_.1, nhc14_.2, pdc13_⟩, by decide⟩
set_option maxRecDepth 100000 in
theorem k12_reduce : lk_ RX12 171 yX12_reduce cX12_reduce 4 none 0 := ⟨gw_t 1288 rfl rfl, gw_t 1290 rfl rfl, (gw_s (⟨"ProbeConsoleModel", "reduce", "()V"⟩, 60) 44 rfl rfl), in12_, gw_t 1291 rfl rfl, ⟨nhc14_.1, nhc14_.2, pdc0_⟩, by decide⟩
set_option maxRecDepth 100000 in
theorem k12_rowOf : ls_ RX12 141 yX12_rowOf cX12_rowOf 1 (some .int) 1 := ⟨gw_t 1292 rfl rfl, gw_t 1293 rfl rfl, in12_, gw_t 1294 rfl rfl, ⟨nhc14_.1, nhc14_.2, pdc9_⟩, by decide⟩
set_option maxRecDepth 100000 in
theorem k12_put : lk_ RX12 167 yX12_put cX12_put 4 none 2 := ⟨gw_t 1295 rfl rfl, gw_t 1297 rfl rfl, (gw_s (⟨"ProbeConsoleModel", "put", "(IJ)V"⟩, 60) 45 rfl rfl), in12_, gw_t 1298 rfl rfl, ⟨nhc14_.1, nhc14_.2, pdc20_⟩, by decide⟩
set_option maxRecDepth 100000 in
theorem k12_operand : lk_ RX12 192 yX12_operand cX12_operand 2 none 1 := ⟨gw_t 1299 rfl rfl, gw_t 1301 rfl rfl, (gw_s (⟨"ProbeConsoleModel", "operand", "(I)V"⟩, 60) 46 rfl rfl), in12_, gw_t 1302 rfl rfl, ⟨nhc14_.1, nhc14_.2, pdc13_⟩, by decide⟩
set_option maxRecDepth 100000 in
theorem k12_isFigure : ls_ RX12 181 yX12_isFigure cX12_isFigure 1 (some .boolean) 1 := ⟨gw_t 1303 rfl rfl, gw_t 1304 rfl rfl, in12_, gw_t 1305 rfl rfl, ⟨nhc14_.1, nhc14_.2, pdc10_⟩, by decide⟩
set_option maxRecDepth 100000 in
theorem k12_readNumber : lk_ RX12 229 yX12_readNumber cX12_readNumber 4 none 0 := ⟨gw_t 1306 rfl rfl, gw_t 1308 rfl rfl, (gw_s (⟨"ProbeConsoleModel", "readNumber", "()V"⟩, 60) 47 rfl rfl), in12_, gw_t 1309 rfl rfl, ⟨nhc14_.1, nhc14_.2, pdc0_⟩, by decide⟩
set_option maxRecDepth 100000 in
theorem k12_count : lk_ RX12 178 yX12_count cX12_count 2 (some .boolean) 1 := ⟨gw_t 1310 rfl rfl, gw_t 1312 rfl rfl, (gw_s (⟨"ProbeConsoleModel", "count", "(I)Z"⟩, 60) 48 rfl rfl), in12_, gw_t 1313 rfl rfl, ⟨nhc14_.1, nhc14_.2, pdc10_⟩, by decide⟩
set_option maxRecDepth 100000 in
theorem k12_wait : lk_ RX12 198 yX12_wait cX12_wait 4 none 3 := ⟨gw_t 1318 rfl rfl, gw_t 1320 rfl rfl, (gw_s (⟨"ProbeConsoleModel", "wait", "(III)V"⟩, 60) 49 rfl rfl), in12_, gw_t 1321 rfl rfl, ⟨nhc14_.1, nhc14_.2, pdc45_⟩, by decide⟩
set_option maxRecDepth 100000 in
theorem k12_open : lk_ RX12 215 yX12_open cX12_open 3 none 2 := ⟨gw_t 1322 rfl rfl, gw_t 1324 rfl rfl, (gw_s (⟨"ProbeConsoleModel", "open", "(II)V"⟩, 60) 50 rfl rfl), in12_, gw_t 1325 rfl rfl, ⟨nhc14_.1, nhc14_.2, pdc4_⟩, by decide⟩
set_option maxRecDepth 100000 in
theorem k12_readRow : lk_ RX12 232 yX12_readRow cX12_readRow 4 (some .boolean) 0 := ⟨gw_t 1326 rfl rfl, gw_t 1328 rfl rfl, (gw_s (⟨"ProbeConsoleModel", "readRow", "()Z"⟩, 60) 51 rfl rfl), in12_, gw_t 1329 rfl rfl, ⟨nhc14_.1, nhc14_.2, pdc16_⟩, by decide⟩
set_option maxRecDepth 100000 in
theorem k12_variableOf : lk_ RX12 208 yX12_variableOf cX12_variableOf 4 (some .int) 1 := ⟨gw_t 1330 rfl rfl, gw_t 1332 rfl rfl, (gw_s (⟨"ProbeConsoleModel", "variableOf", "(I)I"⟩, 60) 52 rfl rfl), in12_, gw_t 1333 rfl rfl, ⟨nhc14_.1, nhc14_.2, pdc9_⟩, by decide⟩
set_option maxRecDepth 100000 in
theorem k12_readSign : lk_ RX12 257 yX12_readSign cX12_readSign 2 (some .boolean) 0 := ⟨gw_t 1334 rfl rfl, gw_t 1336 rfl rfl, (gw_s (⟨"ProbeConsoleModel", "readSign", "()Z"⟩, 60) 53 rfl rfl), in12_, gw_t 1337 rfl rfl, ⟨nhc14_.1, nhc14_.2, pdc16_⟩, by decide⟩
set_option maxRecDepth 100000 in
theorem k12_hash : lk_ RX12 238 yX12_hash cX12_hash 4 none 0 := ⟨gw_t 1338 rfl rfl, gw_t 1340 rfl rfl, (gw_s (⟨"ProbeConsoleModel", "hash", "()V"⟩, 60) 54 rfl rfl), in12_, gw_t 1341 rfl rfl, ⟨nhc14_.1, nhc14_.2, pdc0_⟩, by decide⟩
set_option maxRecDepth 100000 in
theorem k12_question : lk_ RX12 241 yX12_question cX12_question 1 none 0 := ⟨gw_t 1342 rfl rfl, gw_t 1344 rfl rfl, (gw_s (⟨"ProbeConsoleModel", "question", "()V"⟩, 60) 55 rfl rfl), in12_, gw_t 1345 rfl rfl, ⟨nhc14_.1, nhc14_.2, pdc0_⟩, by decide⟩
set_option maxRecDepth 100000 in
theorem k12_colon : lk_ RX12 244 yX12_colon cX12_colon 3 none 0 := ⟨gw_t 1346 rfl rfl, gw_t 1348 rfl rfl, (gw_s (⟨"ProbeConsoleModel", "colon", "()V"⟩, 60) 56 rfl rfl), in12_, gw_t 1349 rfl rfl, ⟨nhc14_.1, nhc14_.2, pdc0_⟩, by decide⟩
set_option maxRecDepth 100000 in
theorem k12_between : lk_ RX12 247 yX12_between cX12_between 3 none 2 := ⟨gw_t 1350 rfl rfl, gw_t 1352 rfl rfl, (gw_s (⟨"ProbeConsoleModel", "between", "(II)V"⟩, 60) 57 rfl rfl), in12_, gw_t 1353 rfl rfl, ⟨nhc14_.1, nhc14_.2, pdc4_⟩, by decide⟩
set_option maxRecDepth 100000 in
theorem k12_comma : lk_ RX12 250 yX12_comma cX12_comma 1 none 0 := ⟨gw_t 1354 rfl rfl, gw_t 1356 rfl rfl, (gw_s (⟨"ProbeConsoleModel", "comma", "()V"⟩, 60) 58 rfl rfl), in12_, gw_t 1357 rfl rfl, ⟨nhc14_.1, nhc14_.2, pdc0_⟩, by decide⟩
set_option maxRecDepth 100000 in
theorem k12_findMethod : lk_ RX12 272 yX12_findMethod cX12_findMethod 5 (some .int) 2 := ⟨gw_t 1358 rfl rfl, gw_t 1360 rfl rfl, (gw_s (⟨"ProbeConsoleModel", "findMethod", "(JI)I"⟩, 60) 59 rfl rfl), in12_, gw_t 1361 rfl rfl, ⟨nhc14_.1, nhc14_.2, pdc22_⟩, by decide⟩
set_option maxRecDepth 100000 in
theorem k12_keepExpression : lk_ RX12 276 yX12_keepExpression cX12_keepExpression 3 none 1 := ⟨gw_t 1362 rfl rfl, gw_t 1364 rfl rfl, (gw_s (⟨"ProbeConsoleModel", "keepExpression", "(I)V"⟩, 60) 60 rfl rfl), in12_, gw_t 1365 rfl rfl, ⟨nhc14_.1, nhc14_.2, pdc13_⟩, by decide⟩
set_option maxRecDepth 100000 in
theorem k12_skip : lk_ RX12 281 yX12_skip cX12_skip 1 none 0 := ⟨gw_t 1370 rfl rfl, gw_t 1372 rfl rfl, (gw_s (⟨"ProbeConsoleModel", "skip", "()V"⟩, 60) 61 rfl rfl), in12_, gw_t 1373 rfl rfl, ⟨nhc14_.1, nhc14_.2, pdc0_⟩, by decide⟩
set_option maxRecDepth 100000 in
theorem k12_rowAt : lk_ RX12 290 yX12_rowAt cX12_rowAt 4 (some .long) 1 := ⟨gw_t 1374 rfl rfl, gw_t 1376 rfl rfl, (gw_s (⟨"ProbeConsoleModel", "rowAt", "(I)J"⟩, 60) 62 rfl rfl), in12_, gw_t 1377 rfl rfl, ⟨nhc14_.1, nhc14_.2, pdc30_⟩, by decide⟩
set_option maxRecDepth 100000 in
theorem k12_word : ls_ RX12 294 yX12_word cX12_word 4 (some .long) 4 := ⟨gw_t 1378 rfl rfl, gw_t 1379 rfl rfl, in12_, gw_t 1380 rfl rfl, ⟨nhc14_.1, nhc14_.2, pdc46_⟩, by decide⟩
set_option maxRecDepth 100000 in
theorem k12_endsAt : lk_ RX12 298 yX12_endsAt cX12_endsAt 2 (some .boolean) 1 := ⟨gw_t 1382 rfl rfl, gw_t 1384 rfl rfl, (gw_s (⟨"ProbeConsoleModel", "endsAt", "(I)Z"⟩, 60) 63 rfl rfl), in12_, gw_t 1385 rfl rfl, ⟨nhc14_.1, nhc14_.2, pdc10_⟩, by decide⟩
set_option maxRecDepth 100000 in
theorem k12_watch : lk_ RX12 320 yX12_watch cX12_watch 5 (some .int) 0 := ⟨gw_t 1386 rfl rfl, gw_t 1388 rfl rfl, (gw_s (⟨"ProbeConsoleModel", "watch", "()I"⟩, 60) 64 rfl rfl), in12_, gw_t 1389 rfl rfl, ⟨nhc14_.1, nhc14_.2, pdc6_⟩, by decide⟩
set_option maxRecDepth 100000 in
theorem k12_readPoint : lk_ RX12 301 yX12_readPoint cX12_readPoint 6 (some .int) 0 := ⟨gw_t 1390 rfl rfl, gw_t 1392 rfl rfl, (gw_s (⟨"ProbeConsoleModel", "readPoint", "()I"⟩, 60) 65 rfl rfl), in12_, gw_t 1393 rfl rfl, ⟨nhc14_.1, nhc14_.2, pdc6_⟩, by decide⟩
set_option maxRecDepth 100000 in
theorem k12_readPattern : lk_ RX12 304 yX12_readPattern cX12_readPattern 2 none 0 := ⟨gw_t 1394 rfl rfl, gw_t 1396 rfl rfl, (gw_s (⟨"ProbeConsoleModel", "readPattern", "()V"⟩, 60) 66 rfl rfl), in12_, gw_t 1397 rfl rfl, ⟨nhc14_.1, nhc14_.2, pdc0_⟩, by decide⟩
set_option maxRecDepth 100000 in
theorem k12_freeJob : lk_ RX12 307 yX12_freeJob cX12_freeJob 2 (some .int) 0 := ⟨gw_t 1398 rfl rfl, gw_t 1400 rfl rfl, (gw_s (⟨"ProbeConsoleModel", "freeJob", "()I"⟩, 60) 67 rfl rfl), in12_, gw_t 1401 rfl rfl, ⟨nhc14_.1, nhc14_.2, pdc6_⟩, by decide⟩
set_option maxRecDepth 100000 in
theorem k12_smallNumber : lk_ RX12 310 yX12_smallNumber cX12_smallNumber 4 (some .int) 1 := ⟨gw_t 1402 rfl rfl, gw_t 1404 rfl rfl, (gw_s (⟨"ProbeConsoleModel", "smallNumber", "(I)I"⟩, 60) 68 rfl rfl), in12_, gw_t 1405 rfl rfl, ⟨nhc14_.1, nhc14_.2, pdc9_⟩, by decide⟩
set_option maxRecDepth 100000 in
theorem k12_wantBlank : lk_ RX12 287 yX12_wantBlank cX12_wantBlank 1 none 0 := ⟨gw_t 1406 rfl rfl, gw_t 1408 rfl rfl, (gw_s (⟨"ProbeConsoleModel", "wantBlank", "()V"⟩, 60) 69 rfl rfl), in12_, gw_t 1409 rfl rfl, ⟨nhc14_.1, nhc14_.2, pdc0_⟩, by decide⟩
set_option maxRecDepth 100000 in
theorem k12_wantEnd : lk_ RX12 313 yX12_wantEnd cX12_wantEnd 1 none 0 := ⟨gw_t 1410 rfl rfl, gw_t 1412 rfl rfl, (gw_s (⟨"ProbeConsoleModel", "wantEnd", "()V"⟩, 60) 70 rfl rfl), in12_, gw_t 1413 rfl rfl, ⟨nhc14_.1, nhc14_.2, pdc0_⟩, by decide⟩
set_option maxRecDepth 100000 in
theorem k12_newJob : lk_ RX12 316 yX12_newJob cX12_newJob 4 (some .int) 2 := ⟨gw_t 1414 rfl rfl, gw_t 1416 rfl rfl, (gw_s (⟨"ProbeConsoleModel", "newJob", "(II)I"⟩, 60) 71 rfl rfl), in12_, gw_t 1417 rfl rfl, ⟨nhc14_.1, nhc14_.2, pdc34_⟩, by decide⟩
set_option maxRecDepth 100000 in
theorem k12_simple : lk_ RX12 323 yX12_simple cX12_simple 3 (some .int) 1 := ⟨gw_t 1418 rfl rfl, gw_t 1420 rfl rfl, (gw_s (⟨"ProbeConsoleModel", "simple", "(I)I"⟩, 60) 72 rfl rfl), in12_, gw_t 1421 rfl rfl, ⟨nhc14_.1, nhc14_.2, pdc9_⟩, by decide⟩
set_option maxRecDepth 100000 in
theorem k12_kill : lk_ RX12 326 yX12_kill cX12_kill 2 (some .int) 0 := ⟨gw_t 1422 rfl rfl, gw_t 1424 rfl rfl, (gw_s (⟨"ProbeConsoleModel", "kill", "()I"⟩, 60) 73 rfl rfl), in12_, gw_t 1425 rfl rfl, ⟨nhc14_.1, nhc14_.2, pdc6_⟩, by decide⟩
set_option maxRecDepth 100000 in
theorem k12_reset : lk_ RX12 329 yX12_reset cX12_reset 3 (some .int) 0 := ⟨gw_t 1426 rfl rfl, gw_t 1428 rfl rfl, (gw_s (⟨"ProbeConsoleModel", "reset", "()I"⟩, 60) 74 rfl rfl), in12_, gw_t 1429 rfl rfl, ⟨nhc14_.1, nhc14_.2, pdc6_⟩, by decide⟩
set_option maxRecDepth 100000 in
theorem k12_play : lk_ RX12 429 yX12_play cX12_play 6 (some .int) 5 := ⟨gw_t 1442 rfl rfl, gw_t 1444 rfl rfl, (gw_s (⟨"ProbeConsoleModel", "play", "(IIIIZ)I"⟩, 60) 75 rfl rfl), in12_, gw_t 1445 rfl rfl, ⟨nhc14_.1, nhc14_.2, pdc47_⟩, by decide⟩
set_option maxRecDepth 100000 in
theorem k12_enter : lk_ RX12 413 yX12_enter cX12_enter 3 none 1 := ⟨gw_t 1446 rfl rfl, gw_t 1448 rfl rfl, (gw_s (⟨"ProbeConsoleModel", "enter", "(I)V"⟩, 60) 76 rfl rfl), in12_, gw_t 1449 rfl rfl, ⟨nhc14_.1, nhc14_.2, pdc13_⟩, by decide⟩
set_option maxRecDepth 100000 in
theorem k12_probe : lk_ RX12 387 yX12_probe cX12_probe 6 none 3 := ⟨gw_t 1450 rfl rfl, gw_t 1452 rfl rfl, (gw_s (⟨"ProbeConsoleModel", "probe", "(III)V"⟩, 60) 77 rfl rfl), in12_, gw_t 1453 rfl rfl, ⟨nhc14_.1, nhc14_.2, pdc45_⟩, by decide⟩
set_option maxRecDepth 100000 in
theorem k12_fits : lk_ RX12 371 yX12_fits cX12_fits 10 (some .boolean) 2 := ⟨gw_t 1454 rfl rfl, gw_t 1456 rfl rfl, (gw_s (⟨"ProbeConsoleModel", "fits", "(II)Z"⟩, 60) 78 rfl rfl), in12_, gw_t 1457 rfl rfl, ⟨nhc14_.1, nhc14_.2, pdc43_⟩, by decide⟩
set_option maxRecDepth 100000 in
theorem k12_nameSize : lk_ RX12 334 yX12_nameSize cX12_nameSize 3 (some .int) 1 := ⟨gw_t 1458 rfl rfl, gw_t 1460 rfl rfl, (gw_s (⟨"ProbeConsoleModel", "nameSize", "(I)I"⟩, 60) 79 rfl rfl), in12_, gw_t 1461 rfl rfl, ⟨nhc14_.1, nhc14_.2, pdc9_⟩, by decide⟩
set_option maxRecDepth 100000 in
theorem k12_starred : lk_ RX12 337 yX12_starred cX12_starred 5 (some .int) 2 := ⟨gw_t 1462 rfl rfl, gw_t 1464 rfl rfl, (gw_s (⟨"ProbeConsoleModel", "starred", "(II)I"⟩, 60) 80 rfl rfl), in12_, gw_t 1465 rfl rfl, ⟨nhc14_.1, nhc14_.2, pdc34_⟩, by decide⟩
set_option maxRecDepth 100000 in
theorem k12_nameByte : lk_ RX12 340 yX12_nameByte cX12_nameByte 5 (some .int) 3 := ⟨gw_t 1466 rfl rfl, gw_t 1468 rfl rfl, (gw_s (⟨"ProbeConsoleModel", "nameByte", "(III)I"⟩, 60) 81 rfl rfl), in12_, gw_t 1469 rfl rfl, ⟨nhc14_.1, nhc14_.2, pdc40_⟩, by decide⟩
set_option maxRecDepth 100000 in
theorem k12_watchOne : lk_ RX12 374 yX12_watchOne cX12_watchOne 3 none 2 := ⟨gw_t 1471 rfl rfl, gw_t 1473 rfl rfl, (gw_s (⟨"ProbeConsoleModel", "watchOne", "(II)V"⟩, 60) 82 rfl rfl), in12_, gw_t 1474 rfl rfl, ⟨nhc14_.1, nhc14_.2, pdc4_⟩, by decide⟩
set_option maxRecDepth 100000 in
theorem k12_probeExpression : lk_ RX12 359 yX12_probeExpression cX12_probeExpression 9 none 1 := ⟨gw_t 1475 rfl rfl, gw_t 1477 rfl rfl, (gw_s (⟨"ProbeConsoleModel", "probeExpression", "(I)V"⟩, 60) 83 rfl rfl), in12_, gw_t 1478 rfl rfl, ⟨nhc14_.1, nhc14_.2, pdc13_⟩, by decide⟩
set_option maxRecDepth 100000 in
theorem k12_isOver : ls_ RX12 350 yX12_isOver cX12_isOver 2 (some .boolean) 2 := ⟨gw_t 1479 rfl rfl, gw_t 1480 rfl rfl, in12_, gw_t 1481 rfl rfl, ⟨nhc14_.1, nhc14_.2, pdc43_⟩, by decide⟩
set_option maxRecDepth 100000 in
theorem k12_result : ls_ RX12 353 yX12_result cX12_result 3 (some .int) 3 := ⟨gw_t 1482 rfl rfl, gw_t 1483 rfl rfl, in12_, gw_t 1484 rfl rfl, ⟨nhc14_.1, nhc14_.2, pdc40_⟩, by decide⟩
set_option maxRecDepth 100000 in
theorem k12_record : lk_ RX12 362 yX12_record cX12_record 5 none 3 := ⟨gw_t 1485 rfl rfl, gw_t 1487 rfl rfl, (gw_s (⟨"ProbeConsoleModel", "record", "(III)V"⟩, 60) 84 rfl rfl), in12_, gw_t 1488 rfl rfl, ⟨nhc14_.1, nhc14_.2, pdc45_⟩, by decide⟩
set_option maxRecDepth 100000 in
theorem k12_keepOne : lk_ RX12 377 yX12_keepOne cX12_keepOne 7 none 4 := ⟨gw_t 1489 rfl rfl, gw_t 1491 rfl rfl, (gw_s (⟨"ProbeConsoleModel", "keepOne", "(IIII)V"⟩, 60) 85 rfl rfl), in12_, gw_t 1492 rfl rfl, ⟨nhc14_.1, nhc14_.2, pdc32_⟩, by decide⟩
set_option maxRecDepth 100000 in
theorem k12_step : lk_ RX12 423 yX12_step cX12_step 7 none 0 := ⟨gw_t 1493 rfl rfl, gw_t 1495 rfl rfl, (gw_s (⟨"ProbeConsoleModel", "step", "()V"⟩, 60) 86 rfl rfl), in12_, gw_t 1496 rfl rfl, ⟨nhc14_.1, nhc14_.2, pdc0_⟩, by decide⟩
set_option maxRecDepth 100000 in
theorem k12_leave : lk_ RX12 416 yX12_leave cX12_leave 2 none 0 := ⟨gw_t 1497 rfl rfl, gw_t 1499 rfl rfl, (gw_s (⟨"ProbeConsoleModel", "leave", "()V"⟩, 60) 87 rfl rfl), in12_, gw_t 1500 rfl rfl, ⟨nhc14_.1, nhc14_.2, pdc0_⟩, by decide⟩
set_option maxRecDepth 100000 in
theorem k12_push : lk_ RX12 402 yX12_push cX12_push 2 none 1 := ⟨gw_t 1501 rfl rfl, gw_t 1503 rfl rfl, (gw_s (⟨"ProbeConsoleModel", "push", "(I)V"⟩, 60) 88 rfl rfl), in12_, gw_t 1504 rfl rfl, ⟨nhc14_.1, nhc14_.2, pdc13_⟩, by decide⟩
set_option maxRecDepth 100000 in
theorem k12_throwUp : lk_ RX12 407 yX12_throwUp cX12_throwUp 2 none 1 := ⟨gw_t 1505 rfl rfl, gw_t 1507 rfl rfl, (gw_s (⟨"ProbeConsoleModel", "throwUp", "(I)V"⟩, 60) 89 rfl rfl), in12_, gw_t 1508 rfl rfl, ⟨nhc14_.1, nhc14_.2, pdc13_⟩, by decide⟩
set_option maxRecDepth 100000 in
theorem k12_invoke : lk_ RX12 419 yX12_invoke cX12_invoke 6 none 1 := ⟨gw_t 1509 rfl rfl, gw_t 1511 rfl rfl, (gw_s (⟨"ProbeConsoleModel", "invoke", "(J)V"⟩, 60) 90 rfl rfl), in12_, gw_t 1512 rfl rfl, ⟨nhc14_.1, nhc14_.2, pdc48_⟩, by decide⟩
set_option maxRecDepth 100000 in
theorem k12_throwAll : lk_ RX12 410 yX12_throwAll cX12_throwAll 2 none 1 := ⟨gw_t 1514 rfl rfl, gw_t 1516 rfl rfl, (gw_s (⟨"ProbeConsoleModel", "throwAll", "(I)V"⟩, 60) 91 rfl rfl), in12_, gw_t 1517 rfl rfl, ⟨nhc14_.1, nhc14_.2, pdc13_⟩, by decide⟩
set_option maxRecDepth 100000 in
theorem q12_121 : Cond.constantLong RX12 121 (255) ∈ gw_ := gw_t 1221 rfl rfl
set_option maxRecDepth 100000 in
theorem q12_184 : Cond.constantLong RX12 184 (10) ∈ gw_ := gw_t 1314 rfl rfl
set_option maxRecDepth 100000 in
theorem q12_186 : Cond.constantLong RX12 186 (48) ∈ gw_ := gw_t 1315 rfl rfl
set_option maxRecDepth 100000 in
theorem q12_188 : Cond.constantLong RX12 188 (9999999999) ∈ gw_ := gw_t 1316 rfl rfl
set_option maxRecDepth 100000 in
theorem q12_190 : Cond.constantLong RX12 190 (2147483647) ∈ gw_ := gw_t 1317 rfl rfl
set_option maxRecDepth 100000 in
theorem q12_279 : Cond.constantLong RX12 279 (1048575) ∈ gw_ := gw_t 1381 rfl rfl
set_option maxRecDepth 100000 in
theorem q12_332 : Cond.constantLong RX12 332 (31) ∈ gw_ := gw_t 1470 rfl rfl
set_option maxRecDepth 100000 in
theorem q12_405 : Cond.constantLong RX12 405 (3) ∈ gw_ := gw_t 1513 rfl rfl

