/-! constructors: Machine, ProbeConsole, the reference -/
def m0_ (M : mm_) : mm_ := sR_ (sR_ (vrM_ (sR_ (sR_ (sR_ (sR_ M 247 2 (some 45)) 247 3 (some 133)) 247 4 (some 243)) 247 5 (some 245))) 247 6 (some 248)) 247 7 (some 261)
def x1_ (M : mm_) : mm_ := sR_ (sI_ (sR_ M 35 0 (some 36)) 35 1 0) 34 0 (some 35)
def x2_ (M : mm_) : mm_ := sR_ (sI_ (sI_ (sR_ M 37 0 (some 35)) 37 2 0) 37 3 (-1)) 34 1 (some 37)
def x3_ (M : mm_) : mm_ := sR_ (sR_ (sR_ (sR_ (k0_ (sR_ M 38 1 (some 37)) 40) 39 0 (some 37)) 39 1 (some 40)) 38 2 (some 39)) 34 2 (some 38)
def x4_ (M : mm_) : mm_ := sR_ (mb_ (sR_ (sR_ M 45 0 (some 46)) 45 1 (some 47)) 17) 34 3 (some 45)
def x5_ (M : mm_) : mm_ := sR_ (jz_ M) 34 4 (some 133)
def x6_ (M : mm_) : mm_ := sR_ (sR_ (sI_ (sI_ M 243 0 (nI 300)) 243 1 (nI 5)) 243 2 (some 244)) 34 5 (some 243)
def x7_ (M : mm_) : mm_ := sR_ (sR_ (sI_ (sI_ M 245 0 (nI 40)) 245 1 (nI 7)) 245 2 (some 246)) 34 6 (some 245)
def x8_ (M : mm_) : mm_ := sR_ (m0_ M) 34 7 (some 247)
set_option maxRecDepth 100000 in
set_option maxHeartbeats 4000000 in
theorem i4_ (G : gg_) (hg : ga_ G) (d : Nat) (M : mm_) : ctX_ G yX4_init cX4_init 5 (d + 1) 14 316 [.ref (G.1 247), .ref (G.1 45), .ref (G.1 133), .ref (G.1 243), .ref (G.1 245)] M 214 (m0_ M) 228 := by
  refine ct_of hg (by decide) rfl (Nat.le_of_ble_eq_true rfl) (fun C X hC => ?_)
  refine n_aload_n X dX4_init_0 rfl rfl ?_
  refine n_obj X dX4_init_1 ob4_ obI_ obC_ (Nat.le_of_ble_eq_true rfl) ?_
  refine n_aload_n X dX4_init_4 rfl rfl ?_
  refine n_aload_n X dX4_init_5 rfl rfl ?_
  refine n_putRF (j := 2) (ty := tyX4 2) X dX4_init_6 inG4 tyX4_ok nmX4 rfl (by decide) f4_9 hC rfl rfl (by decide +kernel) rfl rfl (by decide) rfl rfl ?_
  refine n_aload_n X dX4_init_9 rfl rfl ?_
  refine n_aload_n X dX4_init_10 rfl rfl ?_
  refine n_putRF (j := 3) (ty := tyX4 3) X dX4_init_11 inG4 tyX4_ok nmX4 rfl (by decide) f4_15 hC rfl rfl (by decide +kernel) rfl rfl (by decide) rfl rfl ?_
  refine n_aload_n X dX4_init_14 rfl rfl ?_
  refine n_aload_n X dX4_init_15 rfl rfl ?_
  refine n_putRF (j := 4) (ty := tyX4 4) X dX4_init_16 inG4 tyX4_ok nmX4 rfl (by decide) f4_19 hC rfl rfl (by decide +kernel) rfl rfl (by decide) rfl rfl ?_
  refine n_aload_n X dX4_init_19 rfl rfl ?_
  refine n_aload X dX4_init_20 rfl ?_
  refine n_putRF (j := 5) (ty := tyX4 5) X dX4_init_22 inG4 tyX4_ok nmX4 rfl (by decide) f4_23 hC rfl rfl (by decide +kernel) rfl rfl (by decide) rfl rfl ?_
  refine n_aload_n X dX4_init_25 rfl rfl ?_
  refine n_bipush (v := 12) X dX4_init_26 (by decide) ?_
  refine n_bipush (v := 7) X dX4_init_28 (by decide) ?_
  refine n_mna X dX4_init_30 cl4_26 ac_int rfl (by decide) (by decide) ?_
  refine n_putRF (j := 6) (ty := tyX4 6) X dX4_init_34 inG4 tyX4_ok nmX4 rfl (by decide) f4_28 hC rfl rfl (by decide +kernel) rfl rfl (by decide) rfl rfl ?_
  refine n_aload_n X dX4_init_37 rfl rfl ?_
  refine n_sipush (v := 220) X dX4_init_38 (by decide) ?_
  refine n_newI X dX4_init_41 rfl rfl ac_int rfl (fun _ _ h => h) rfl (by decide) (by decide) (by decide) (by decide) (by decide) ?_
  refine n_putRF (j := 7) (ty := tyX4 7) X dX4_init_43 inG4 tyX4_ok nmX4 rfl (by decide) f4_33 hC rfl rfl (by decide +kernel) rfl rfl (by decide) rfl rfl ?_
  exact n_vret X dX4_init_46 rfl rfl rfl rfl
set_option maxRecDepth 100000 in
set_option maxHeartbeats 4000000 in
theorem i11_ (G : gg_) (hg : ga_ G) (d : Nat) (M : mm_) : ctX_ G yX11_init cX11_init 1 (d + 4) 227 6864 [.ref (G.1 34)] M (1) (x8_ (x7_ (x6_ (x5_ (x4_ (x3_ (x2_ (x1_ M)))))))) (228) := by
  refine ct_of hg (by decide) rfl (Nat.le_of_ble_eq_true rfl) (fun C X hC => ?_)
  refine n_aload_n X dX11_init_0 rfl rfl ?_
  refine n_obj X dX11_init_1 ob11_ obI_ obC_ (Nat.le_of_ble_eq_true rfl) ?_
  refine n_aload_n X dX11_init_4 rfl rfl ?_
  refine n_new X dX11_init_5 rfl inG9 tyX9_ok cl11_7 ins9_ in9_ rfl (by decide +kernel) (by decide) (by decide) (by decide) ?_
  refine n_dup X dX11_init_8 rfl ?_
  refine n_ctor [] X dX11_init_9 k11_9 (i9_ G hg _ _) (Nat.le_of_ble_eq_true rfl) (by decide) (by decide) ?_
  refine n_putRF (j := 0) (ty := tyX11 0) X dX11_init_12 inG11 tyX11_ok nmX11 rfl (by decide) f11_10 hC rfl rfl (by decide +kernel) rfl rfl (by decide) rfl rfl ?_
  refine n_aload_n X dX11_init_15 rfl rfl ?_
  refine n_new X dX11_init_16 rfl inG7 tyX7_ok cl11_16 ins7_ in7_ rfl (by decide +kernel) (by decide) (by decide) (by decide) ?_
  refine n_dup X dX11_init_19 rfl ?_
  refine n_aload_n X dX11_init_20 rfl rfl ?_
  refine n_getR X dX11_init_21 inG11 rfl (by decide) f11_10 rfl rfl (by decide) (rfl) ?_
  refine n_ctor [.ref (G.1 35)] X dX11_init_24 k11_18 (i7_ G hg _ _) (Nat.le_of_ble_eq_true rfl) (by decide) (by decide) ?_
  refine n_putRF (j := 1) (ty := tyX11 1) X dX11_init_27 inG11 tyX11_ok nmX11 rfl (by decide) f11_21 hC rfl rfl (by decide +kernel) rfl rfl (by decide) rfl rfl ?_
  refine n_aload_n X dX11_init_30 rfl rfl ?_
  refine n_new X dX11_init_31 rfl inG10 tyX10_ok cl11_25 ins10_ in10_ rfl (by decide +kernel) (by decide) (by decide) (by decide) ?_
  refine n_dup X dX11_init_34 rfl ?_
  refine n_aload_n X dX11_init_35 rfl rfl ?_
  refine n_getR X dX11_init_36 inG11 rfl (by decide) f11_21 rfl rfl (by decide) (rfl) ?_
  refine n_ctor [.ref (G.1 37)] X dX11_init_39 k11_27 (i10_ G hg _ _) (Nat.le_of_ble_eq_true rfl) (by decide) (by decide) ?_
  refine n_putRF (j := 2) (ty := tyX11 2) X dX11_init_42 inG11 tyX11_ok nmX11 rfl (by decide) f11_30 hC rfl rfl (by decide +kernel) rfl rfl (by decide) rfl rfl ?_
  refine n_aload_n X dX11_init_45 rfl rfl ?_
  refine n_new X dX11_init_46 rfl inG5 tyX5_ok cl11_34 ins5_ in5_ rfl (by decide +kernel) (by decide) (by decide) (by decide) ?_
  refine n_dup X dX11_init_49 rfl ?_
  refine n_ctor [] X dX11_init_50 k11_36 (i5_ G hg _ _) (Nat.le_of_ble_eq_true rfl) (by decide) (by decide) ?_
  refine n_putRF (j := 3) (ty := tyX11 3) X dX11_init_53 inG11 tyX11_ok nmX11 rfl (by decide) f11_37 hC rfl rfl (by decide +kernel) rfl rfl (by decide) rfl rfl ?_
  refine n_aload_n X dX11_init_56 rfl rfl ?_
  refine n_new X dX11_init_57 rfl inG3 tyX3_ok cl11_41 ins3_ in3_ rfl (by decide +kernel) (by decide) (by decide) (by decide) ?_
  refine n_dup X dX11_init_60 rfl ?_
  refine n_ctor [] X dX11_init_61 k11_43 (i3_ G hg _ _) (Nat.le_of_ble_eq_true rfl) (by decide) (by decide) ?_
  refine n_putRF (j := 4) (ty := tyX11 4) X dX11_init_64 inG11 tyX11_ok nmX11 rfl (by decide) f11_44 hC rfl rfl (by decide +kernel) rfl rfl (by decide) rfl rfl ?_
  refine n_aload_n X dX11_init_67 rfl rfl ?_
  refine n_new X dX11_init_68 rfl inG8 tyX8_ok cl11_48 ins8_ in8_ rfl (by decide +kernel) (by decide) (by decide) (by decide) ?_
  refine n_dup X dX11_init_71 rfl ?_
  refine n_sipush (v := 300) X dX11_init_72 (by decide) ?_
  refine n_iconst (v := 5) X dX11_init_75 (by decide) ?_
  refine n_ctor [.int (nI 300), .int (nI 5)] X dX11_init_76 k11_50 (i8X_ G hg _ _ 243 210 300 5 1500 (by decide) rfl rfl rfl (by decide)) (Nat.le_of_ble_eq_true rfl) (by decide) (by decide) ?_
  refine n_putRF (j := 5) (ty := tyX11 5) X dX11_init_79 inG11 tyX11_ok nmX11 rfl (by decide) f11_53 hC rfl rfl (by decide +kernel) rfl rfl (by decide) rfl rfl ?_
  refine n_aload_n X dX11_init_82 rfl rfl ?_
  refine n_new X dX11_init_83 rfl inG8 tyX8_ok cl11_48 ins8_ in8_ rfl (by decide +kernel) (by decide) (by decide) (by decide) ?_
  refine n_dup X dX11_init_86 rfl ?_
  refine n_bipush (v := 40) X dX11_init_87 (by decide) ?_
  refine n_bipush (v := 7) X dX11_init_89 (by decide) ?_
  refine n_ctor [.int (nI 40), .int (nI 7)] X dX11_init_91 k11_50 (i8X_ G hg _ _ 245 212 40 7 280 (by decide) rfl rfl rfl (by decide)) (Nat.le_of_ble_eq_true rfl) (by decide) (by decide) ?_
  refine n_putRF (j := 6) (ty := tyX11 6) X dX11_init_94 inG11 tyX11_ok nmX11 rfl (by decide) f11_57 hC rfl rfl (by decide +kernel) rfl rfl (by decide) rfl rfl ?_
  refine n_aload_n X dX11_init_97 rfl rfl ?_
  refine n_new X dX11_init_98 rfl inG4 tyX4_ok cl11_60 ins4_ in4_ rfl (by decide +kernel) (by decide) (by decide) (by decide) ?_
  refine n_dup X dX11_init_101 rfl ?_
  refine n_aload_n X dX11_init_102 rfl rfl ?_
  refine n_getR X dX11_init_103 inG11 rfl (by decide) f11_37 rfl rfl (by decide) (rfl) ?_
  refine n_aload_n X dX11_init_106 rfl rfl ?_
  refine n_getR X dX11_init_107 inG11 rfl (by decide) f11_44 rfl rfl (by decide) (rfl) ?_
  refine n_aload_n X dX11_init_110 rfl rfl ?_
  refine n_getR X dX11_init_111 inG11 rfl (by decide) f11_53 rfl rfl (by decide) (rfl) ?_
  refine n_aload_n X dX11_init_114 rfl rfl ?_
  refine n_getR X dX11_init_115 inG11 rfl (by decide) f11_57 rfl rfl (by decide) (rfl) ?_
  refine n_ctor [.ref (G.1 45), .ref (G.1 133), .ref (G.1 243), .ref (G.1 245)] X dX11_init_118 k11_62 (i4_ G hg _ _) (Nat.le_of_ble_eq_true rfl) (by decide) (by decide) ?_
  refine n_putRF (j := 7) (ty := tyX11 7) X dX11_init_121 inG11 tyX11_ok nmX11 rfl (by decide) f11_65 hC rfl rfl (by decide +kernel) rfl rfl (by decide) rfl rfl ?_
  exact n_vret X dX11_init_124 rfl rfl rfl rfl
def y12_ (M : mm_) : mm_ := sR_ (sR_ (sR_ (sR_ (sR_ (sR_ (sR_ (sR_ (sR_ (sR_ (sR_ (sR_ (sR_ (sR_ (sR_ (sR_ (sR_ (sR_ (sR_ (sR_ (sR_ (sR_ (sR_ (sR_ (sR_ (sR_ (sR_ (sR_ (sR_ (sR_ (sR_ (sR_ (sI_ (sR_ (M) 0 1 (some 1)) 0 4 (-1)) 0 6 (some 2)) 0 7 (some 3)) 0 8 (some 4)) 0 10 (some 5)) 0 11 (some 6)) 0 16 (some 7)) 0 17 (some 8)) 0 18 (some 9)) 0 19 (some 10)) 0 21 (some 11)) 0 25 (some 12)) 0 26 (some 13)) 0 27 (some 14)) 0 28 (some 15)) 0 29 (some 16)) 0 30 (some 17)) 0 31 (some 18)) 0 32 (some 19)) 0 34 (some 20)) 0 36 (some 21)) 0 38 (some 22)) 0 43 (some 23)) 0 44 (some 24)) 0 45 (some 25)) 0 46 (some 26)) 0 48 (some 27)) 0 49 (some 28)) 0 50 (some 29)) 0 54 (some 30)) 0 55 (some 31)) 0 56 (some 32)) 0 57 (some 33)
set_option maxRecDepth 100000 in
set_option maxHeartbeats 4000000 in
theorem i12_ (G : gg_) (hg : ga_ G) (d : Nat) (M : mm_) : ctX_ G yX12_init cX12_init 1 (d + 1) 33 8599 [.ref (G.1 0)] M (229) (y12_ M) (262) := by
  refine ct_of hg (by decide) rfl (Nat.le_of_ble_eq_true rfl) (fun C X hC => ?_)
  refine n_aload_n X dX12_init_0 rfl rfl ?_
  refine n_obj X dX12_init_1 ob12_ obI_ obC_ (Nat.le_of_ble_eq_true rfl) ?_
  refine n_aload_n X dX12_init_4 rfl rfl ?_
  refine n_sipush (v := 200) X dX12_init_5 (by decide) ?_
  refine n_newI X dX12_init_8 rfl rfl ac_int rfl (fun _ _ h => h) rfl (by decide) (by decide) (by decide) (by decide) (by decide) ?_
  refine n_putRF (j := 1) (ty := tyX12 1) X dX12_init_10 inG12 tyX12_ok nmX12 rfl (by decide) f12_tape hC rfl rfl (by decide +kernel) rfl rfl (by decide) rfl rfl ?_
  refine n_aload_n X dX12_init_13 rfl rfl ?_
  refine n_iconst (v := -1) X dX12_init_14 (by decide) ?_
  refine n_putI (j := 4) (ty := .int) X dX12_init_15 inG12 tyX12_ok nmX12 rfl (by decide) f12_place rfl (by decide +kernel) rfl rfl (by decide) rfl rfl ?_
  refine n_aload_n X dX12_init_18 rfl rfl ?_
  refine n_sipush (v := 2112) X dX12_init_19 (by decide) ?_
  refine n_newI X dX12_init_22 rfl rfl ac_int rfl (fun _ _ h => h) rfl (by decide) (by decide) (by decide) (by decide) (by decide) ?_
  refine n_putRF (j := 6) (ty := tyX12 6) X dX12_init_24 inG12 tyX12_ok nmX12 rfl (by decide) f12_steps hC rfl rfl (by decide +kernel) rfl rfl (by decide) rfl rfl ?_
  refine n_aload_n X dX12_init_27 rfl rfl ?_
  refine n_sipush (v := 2112) X dX12_init_28 (by decide) ?_
  refine n_newL X dX12_init_31 rfl rfl ac_long rfl (fun _ _ h => h) rfl (by decide) (by decide) (by decide) (by decide) (by decide) ?_
  refine n_putRF (j := 7) (ty := tyX12 7) X dX12_init_33 inG12 tyX12_ok nmX12 rfl (by decide) f12_values hC rfl rfl (by decide +kernel) rfl rfl (by decide) rfl rfl ?_
  refine n_aload_n X dX12_init_36 rfl rfl ?_
  refine n_bipush (v := 33) X dX12_init_37 (by decide) ?_
  refine n_newI X dX12_init_39 rfl rfl ac_int rfl (fun _ _ h => h) rfl (by decide) (by decide) (by decide) (by decide) (by decide) ?_
  refine n_putRF (j := 8) (ty := tyX12 8) X dX12_init_41 inG12 tyX12_ok nmX12 rfl (by decide) f12_lengths hC rfl rfl (by decide +kernel) rfl rfl (by decide) rfl rfl ?_
  refine n_aload_n X dX12_init_44 rfl rfl ?_
  refine n_bipush (v := 16) X dX12_init_45 (by decide) ?_
  refine n_newL X dX12_init_47 rfl rfl ac_long rfl (fun _ _ h => h) rfl (by decide) (by decide) (by decide) (by decide) (by decide) ?_
  refine n_putRF (j := 10) (ty := tyX12 10) X dX12_init_49 inG12 tyX12_ok nmX12 rfl (by decide) f12_names hC rfl rfl (by decide +kernel) rfl rfl (by decide) rfl rfl ?_
  refine n_aload_n X dX12_init_52 rfl rfl ?_
  refine n_bipush (v := 16) X dX12_init_53 (by decide) ?_
  refine n_newI X dX12_init_55 rfl rfl ac_int rfl (fun _ _ h => h) rfl (by decide) (by decide) (by decide) (by decide) (by decide) ?_
  refine n_putRF (j := 11) (ty := tyX12 11) X dX12_init_57 inG12 tyX12_ok nmX12 rfl (by decide) f12_parameters hC rfl rfl (by decide +kernel) rfl rfl (by decide) rfl rfl ?_
  refine n_aload_n X dX12_init_60 rfl rfl ?_
  refine n_bipush (v := 64) X dX12_init_61 (by decide) ?_
  refine n_newI X dX12_init_63 rfl rfl ac_int rfl (fun _ _ h => h) rfl (by decide) (by decide) (by decide) (by decide) (by decide) ?_
  refine n_putRF (j := 16) (ty := tyX12 16) X dX12_init_65 inG12 tyX12_ok nmX12 rfl (by decide) f12_waits hC rfl rfl (by decide +kernel) rfl rfl (by decide) rfl rfl ?_
  refine n_aload_n X dX12_init_68 rfl rfl ?_
  refine n_bipush (v := 64) X dX12_init_69 (by decide) ?_
  refine n_newI X dX12_init_71 rfl rfl ac_int rfl (fun _ _ h => h) rfl (by decide) (by decide) (by decide) (by decide) (by decide) ?_
  refine n_putRF (j := 17) (ty := tyX12 17) X dX12_init_73 inG12 tyX12_ok nmX12 rfl (by decide) f12_waitPlaces hC rfl rfl (by decide +kernel) rfl rfl (by decide) rfl rfl ?_
  refine n_aload_n X dX12_init_76 rfl rfl ?_
  refine n_bipush (v := 64) X dX12_init_77 (by decide) ?_
  refine n_newI X dX12_init_79 rfl rfl ac_int rfl (fun _ _ h => h) rfl (by decide) (by decide) (by decide) (by decide) (by decide) ?_
  refine n_putRF (j := 18) (ty := tyX12 18) X dX12_init_81 inG12 tyX12_ok nmX12 rfl (by decide) f12_waitValues hC rfl rfl (by decide +kernel) rfl rfl (by decide) rfl rfl ?_
  refine n_aload_n X dX12_init_84 rfl rfl ?_
  refine n_bipush (v := 64) X dX12_init_85 (by decide) ?_
  refine n_newL X dX12_init_87 rfl rfl ac_long rfl (fun _ _ h => h) rfl (by decide) (by decide) (by decide) (by decide) (by decide) ?_
  refine n_putRF (j := 19) (ty := tyX12 19) X dX12_init_89 inG12 tyX12_ok nmX12 rfl (by decide) f12_waitNames hC rfl rfl (by decide +kernel) rfl rfl (by decide) rfl rfl ?_
  refine n_aload_n X dX12_init_92 rfl rfl ?_
  refine n_bipush (v := 64) X dX12_init_93 (by decide) ?_
  refine n_newI X dX12_init_95 rfl rfl ac_int rfl (fun _ _ h => h) rfl (by decide) (by decide) (by decide) (by decide) (by decide) ?_
  refine n_putRF (j := 21) (ty := tyX12 21) X dX12_init_97 inG12 tyX12_ok nmX12 rfl (by decide) f12_operands hC rfl rfl (by decide +kernel) rfl rfl (by decide) rfl rfl ?_
  refine n_aload_n X dX12_init_100 rfl rfl ?_
  refine n_bipush (v := 8) X dX12_init_101 (by decide) ?_
  refine n_newI X dX12_init_103 rfl rfl ac_int rfl (fun _ _ h => h) rfl (by decide) (by decide) (by decide) (by decide) (by decide) ?_
  refine n_putRF (j := 25) (ty := tyX12 25) X dX12_init_105 inG12 tyX12_ok nmX12 rfl (by decide) f12_kinds hC rfl rfl (by decide +kernel) rfl rfl (by decide) rfl rfl ?_
  refine n_aload_n X dX12_init_108 rfl rfl ?_
  refine n_bipush (v := 8) X dX12_init_109 (by decide) ?_
  refine n_newI X dX12_init_111 rfl rfl ac_int rfl (fun _ _ h => h) rfl (by decide) (by decide) (by decide) (by decide) (by decide) ?_
  refine n_putRF (j := 26) (ty := tyX12 26) X dX12_init_113 inG12 tyX12_ok nmX12 rfl (by decide) f12_points hC rfl rfl (by decide +kernel) rfl rfl (by decide) rfl rfl ?_
  refine n_aload_n X dX12_init_116 rfl rfl ?_
  refine n_bipush (v := 8) X dX12_init_117 (by decide) ?_
  refine n_newI X dX12_init_119 rfl rfl ac_int rfl (fun _ _ h => h) rfl (by decide) (by decide) (by decide) (by decide) (by decide) ?_
  refine n_putRF (j := 27) (ty := tyX12 27) X dX12_init_121 inG12 tyX12_ok nmX12 rfl (by decide) f12_limits hC rfl rfl (by decide +kernel) rfl rfl (by decide) rfl rfl ?_
  refine n_aload_n X dX12_init_124 rfl rfl ?_
  refine n_bipush (v := 8) X dX12_init_125 (by decide) ?_
  refine n_newI X dX12_init_127 rfl rfl ac_int rfl (fun _ _ h => h) rfl (by decide) (by decide) (by decide) (by decide) (by decide) ?_
  refine n_putRF (j := 28) (ty := tyX12 28) X dX12_init_129 inG12 tyX12_ok nmX12 rfl (by decide) f12_mades hC rfl rfl (by decide +kernel) rfl rfl (by decide) rfl rfl ?_
  refine n_aload_n X dX12_init_132 rfl rfl ?_
  refine n_bipush (v := 8) X dX12_init_133 (by decide) ?_
  refine n_newI X dX12_init_135 rfl rfl ac_boolean rfl (fun _ _ h => h) rfl (by decide) (by decide) (by decide) (by decide) (by decide) ?_
  refine n_putRF (j := 29) (ty := tyX12 29) X dX12_init_137 inG12 tyX12_ok nmX12 rfl (by decide) f12_conditioned hC rfl rfl (by decide +kernel) rfl rfl (by decide) rfl rfl ?_
  refine n_aload_n X dX12_init_140 rfl rfl ?_
  refine n_bipush (v := 96) X dX12_init_141 (by decide) ?_
  refine n_newI X dX12_init_143 rfl rfl ac_int rfl (fun _ _ h => h) rfl (by decide) (by decide) (by decide) (by decide) (by decide) ?_
  refine n_putRF (j := 30) (ty := tyX12 30) X dX12_init_145 inG12 tyX12_ok nmX12 rfl (by decide) f12_patterns hC rfl rfl (by decide +kernel) rfl rfl (by decide) rfl rfl ?_
  refine n_aload_n X dX12_init_148 rfl rfl ?_
  refine n_bipush (v := 8) X dX12_init_149 (by decide) ?_
  refine n_newI X dX12_init_151 rfl rfl ac_int rfl (fun _ _ h => h) rfl (by decide) (by decide) (by decide) (by decide) (by decide) ?_
  refine n_putRF (j := 31) (ty := tyX12 31) X dX12_init_153 inG12 tyX12_ok nmX12 rfl (by decide) f12_patternSizes hC rfl rfl (by decide +kernel) rfl rfl (by decide) rfl rfl ?_
  refine n_aload_n X dX12_init_156 rfl rfl ?_
  refine n_bipush (v := 12) X dX12_init_157 (by decide) ?_
  refine n_newI X dX12_init_159 rfl rfl ac_int rfl (fun _ _ h => h) rfl (by decide) (by decide) (by decide) (by decide) (by decide) ?_
  refine n_putRF (j := 32) (ty := tyX12 32) X dX12_init_161 inG12 tyX12_ok nmX12 rfl (by decide) f12_newPattern hC rfl rfl (by decide +kernel) rfl rfl (by decide) rfl rfl ?_
  refine n_aload_n X dX12_init_164 rfl rfl ?_
  refine n_sipush (v := 384) X dX12_init_165 (by decide) ?_
  refine n_newI X dX12_init_168 rfl rfl ac_int rfl (fun _ _ h => h) rfl (by decide) (by decide) (by decide) (by decide) (by decide) ?_
  refine n_putRF (j := 34) (ty := tyX12 34) X dX12_init_170 inG12 tyX12_ok nmX12 rfl (by decide) f12_counts hC rfl rfl (by decide +kernel) rfl rfl (by decide) rfl rfl ?_
  refine n_aload_n X dX12_init_173 rfl rfl ?_
  refine n_sipush (v := 1500) X dX12_init_174 (by decide) ?_
  refine n_newI X dX12_init_177 rfl rfl ac_int rfl (fun _ _ h => h) rfl (by decide) (by decide) (by decide) (by decide) (by decide) ?_
  refine n_putRF (j := 36) (ty := tyX12 36) X dX12_init_179 inG12 tyX12_ok nmX12 rfl (by decide) f12_records hC rfl rfl (by decide +kernel) rfl rfl (by decide) rfl rfl ?_
  refine n_aload_n X dX12_init_182 rfl rfl ?_
  refine n_sipush (v := 280) X dX12_init_183 (by decide) ?_
  refine n_newI X dX12_init_186 rfl rfl ac_int rfl (fun _ _ h => h) rfl (by decide) (by decide) (by decide) (by decide) (by decide) ?_
  refine n_putRF (j := 38) (ty := tyX12 38) X dX12_init_188 inG12 tyX12_ok nmX12 rfl (by decide) f12_keptOnes hC rfl rfl (by decide +kernel) rfl rfl (by decide) rfl rfl ?_
  refine n_aload_n X dX12_init_191 rfl rfl ?_
  refine n_bipush (v := 11) X dX12_init_192 (by decide) ?_
  refine n_newI X dX12_init_194 rfl rfl ac_int rfl (fun _ _ h => h) rfl (by decide) (by decide) (by decide) (by decide) (by decide) ?_
  refine n_putRF (j := 43) (ty := tyX12 43) X dX12_init_196 inG12 tyX12_ok nmX12 rfl (by decide) f12_runMethods hC rfl rfl (by decide +kernel) rfl rfl (by decide) rfl rfl ?_
  refine n_aload_n X dX12_init_199 rfl rfl ?_
  refine n_bipush (v := 33) X dX12_init_200 (by decide) ?_
  refine n_newI X dX12_init_202 rfl rfl ac_int rfl (fun _ _ h => h) rfl (by decide) (by decide) (by decide) (by decide) (by decide) ?_
  refine n_putRF (j := 44) (ty := tyX12 44) X dX12_init_204 inG12 tyX12_ok nmX12 rfl (by decide) f12_runParameters hC rfl rfl (by decide +kernel) rfl rfl (by decide) rfl rfl ?_
  refine n_aload_n X dX12_init_207 rfl rfl ?_
  refine n_bipush (v := 11) X dX12_init_208 (by decide) ?_
  refine n_newI X dX12_init_210 rfl rfl ac_int rfl (fun _ _ h => h) rfl (by decide) (by decide) (by decide) (by decide) (by decide) ?_
  refine n_putRF (j := 45) (ty := tyX12 45) X dX12_init_212 inG12 tyX12_ok nmX12 rfl (by decide) f12_runPlaces hC rfl rfl (by decide +kernel) rfl rfl (by decide) rfl rfl ?_
  refine n_aload_n X dX12_init_215 rfl rfl ?_
  refine n_sipush (v := 512) X dX12_init_216 (by decide) ?_
  refine n_newI X dX12_init_219 rfl rfl ac_int rfl (fun _ _ h => h) rfl (by decide) (by decide) (by decide) (by decide) (by decide) ?_
  refine n_putRF (j := 46) (ty := tyX12 46) X dX12_init_221 inG12 tyX12_ok nmX12 rfl (by decide) f12_stack hC rfl rfl (by decide +kernel) rfl rfl (by decide) rfl rfl ?_
  refine n_aload_n X dX12_init_224 rfl rfl ?_
  refine n_sipush (v := 256) X dX12_init_225 (by decide) ?_
  refine n_newI X dX12_init_228 rfl rfl ac_int rfl (fun _ _ h => h) rfl (by decide) (by decide) (by decide) (by decide) (by decide) ?_
  refine n_putRF (j := 48) (ty := tyX12 48) X dX12_init_230 inG12 tyX12_ok nmX12 rfl (by decide) f12_tryPlaces hC rfl rfl (by decide +kernel) rfl rfl (by decide) rfl rfl ?_
  refine n_aload_n X dX12_init_233 rfl rfl ?_
  refine n_sipush (v := 256) X dX12_init_234 (by decide) ?_
  refine n_newI X dX12_init_237 rfl rfl ac_int rfl (fun _ _ h => h) rfl (by decide) (by decide) (by decide) (by decide) (by decide) ?_
  refine n_putRF (j := 49) (ty := tyX12 49) X dX12_init_239 inG12 tyX12_ok nmX12 rfl (by decide) f12_tryHeights hC rfl rfl (by decide +kernel) rfl rfl (by decide) rfl rfl ?_
  refine n_aload_n X dX12_init_242 rfl rfl ?_
  refine n_sipush (v := 256) X dX12_init_243 (by decide) ?_
  refine n_newI X dX12_init_246 rfl rfl ac_int rfl (fun _ _ h => h) rfl (by decide) (by decide) (by decide) (by decide) (by decide) ?_
  refine n_putRF (j := 50) (ty := tyX12 50) X dX12_init_248 inG12 tyX12_ok nmX12 rfl (by decide) f12_tryDepths hC rfl rfl (by decide +kernel) rfl rfl (by decide) rfl rfl ?_
  refine n_aload_n X dX12_init_251 rfl rfl ?_
  refine n_bipush (v := 7) X dX12_init_252 (by decide) ?_
  refine n_newI X dX12_init_254 rfl rfl ac_int rfl (fun _ _ h => h) rfl (by decide) (by decide) (by decide) (by decide) (by decide) ?_
  refine n_putRF (j := 54) (ty := tyX12 54) X dX12_init_256 inG12 tyX12_ok nmX12 rfl (by decide) f12_seen hC rfl rfl (by decide +kernel) rfl rfl (by decide) rfl rfl ?_
  refine n_aload_n X dX12_init_259 rfl rfl ?_
  refine n_bipush (v := 64) X dX12_init_260 (by decide) ?_
  refine n_newI X dX12_init_262 rfl rfl ac_int rfl (fun _ _ h => h) rfl (by decide) (by decide) (by decide) (by decide) (by decide) ?_
  refine n_putRF (j := 55) (ty := tyX12 55) X dX12_init_264 inG12 tyX12_ok nmX12 rfl (by decide) f12_probeStack hC rfl rfl (by decide +kernel) rfl rfl (by decide) rfl rfl ?_
  refine n_aload_n X dX12_init_267 rfl rfl ?_
  refine n_bipush (v := 32) X dX12_init_268 (by decide) ?_
  refine n_newI X dX12_init_270 rfl rfl ac_int rfl (fun _ _ h => h) rfl (by decide) (by decide) (by decide) (by decide) (by decide) ?_
  refine n_putRF (j := 56) (ty := tyX12 56) X dX12_init_272 inG12 tyX12_ok nmX12 rfl (by decide) f12_probeTries hC rfl rfl (by decide +kernel) rfl rfl (by decide) rfl rfl ?_
  refine n_aload_n X dX12_init_275 rfl rfl ?_
  refine n_bipush (v := 32) X dX12_init_276 (by decide) ?_
  refine n_newI X dX12_init_278 rfl rfl ac_int rfl (fun _ _ h => h) rfl (by decide) (by decide) (by decide) (by decide) (by decide) ?_
  refine n_putRF (j := 57) (ty := tyX12 57) X dX12_init_280 inG12 tyX12_ok nmX12 rfl (by decide) f12_probeHeights hC rfl rfl (by decide +kernel) rfl rfl (by decide) rfl rfl ?_
  exact n_vret X dX12_init_283 rfl rfl rfl rfl
