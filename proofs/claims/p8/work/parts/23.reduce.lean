/-! the reference's parser: one reduction, by what waits -/
theorem nI_s1 (n : Nat) : nI (n + 1) - 1 = nI n := nI_pred n
theorem nI_d (a b : Nat) (h : b < a) : nI a - nI b - 1 = nI (a - b - 1) := by rw [pk_sub (by omega), nI_p _ (by omega)]
set_option maxRecDepth 100000 in
set_option maxHeartbeats 4000000 in
theorem c12_reduce_1 (G : gg_) (hG : gd_ G) (d : Nat) (M : mm_) (w q ln oc : Nat) (hw : M.1 0 20 = nI (w + 1)) (hl : M.1 0 12 = nI ln) (ho : M.1 0 22 = nI (oc + 1)) (hq : M.1 8 w = nI q) (hw2 : w < 64) (hl2 : ln < 64) (ho2 : oc < 64) (hql : q < ln) (hk : M.1 7 w = 1) : cm_ G yX12_reduce cX12_reduce 4 none (d + 2) [.ref (G.1 0)] M (fV_ (sI_ (sL_ (sI_ M 0 20 (nI w)) 3 (2048 + q) (nI (ln - q - 1)).toInt64) 0 22 (nI oc))) := by
  refine cm_of hG (by decide) (Nat.le_of_ble_eq_true rfl) (fun C X => ?_)
  refine w_aload_n X dX12_reduce_0 rfl rfl ?_
  refine w_dup X dX12_reduce_1 rfl ?_
  refine g12_waiting X dX12_reduce_2 ?_
  try simp only [gI_sI, gI_sL, gL_sI, gL_sL, false_and, and_false, and_self, if_false, if_true, reduceIte, Nat.reduceEqDiff, hw, hl, ho, hq, hk, nI_s1]
  refine w_iconst (v := 1) X dX12_reduce_5 (by decide) ?_
  refine w_isub X dX12_reduce_6 ?_
  rw [nI_s1]
  refine p12_waiting X dX12_reduce_7 ?_
  refine w_aload_n X dX12_reduce_10 rfl rfl ?_
  refine g12_waits X dX12_reduce_11 ?_
  refine w_aload_n X dX12_reduce_14 rfl rfl ?_
  refine g12_waiting X dX12_reduce_15 ?_
  try simp only [gI_sI, gI_sL, gL_sI, gL_sL, false_and, and_false, and_self, if_false, if_true, reduceIte, Nat.reduceEqDiff, hw, hl, ho, hq, hk, nI_s1]
  refine w_ialoadN X dX12_reduce_18 rfl rfl (by omega) ?_
  try simp only [gI_sI, gI_sL, gL_sI, gL_sL, false_and, and_false, and_self, if_false, if_true, reduceIte, Nat.reduceEqDiff, hw, hl, ho, hq, hk, nI_s1]
  refine w_istore_n X dX12_reduce_19 rfl (by decide) ?_
  refine w_aload_n X dX12_reduce_20 rfl rfl ?_
  refine g12_waitPlaces X dX12_reduce_21 ?_
  refine w_aload_n X dX12_reduce_24 rfl rfl ?_
  refine g12_waiting X dX12_reduce_25 ?_
  try simp only [gI_sI, gI_sL, gL_sI, gL_sL, false_and, and_false, and_self, if_false, if_true, reduceIte, Nat.reduceEqDiff, hw, hl, ho, hq, hk, nI_s1]
  refine w_ialoadN X dX12_reduce_28 rfl rfl (by omega) ?_
  try simp only [gI_sI, gI_sL, gL_sI, gL_sL, false_and, and_false, and_self, if_false, if_true, reduceIte, Nat.reduceEqDiff, hw, hl, ho, hq, hk, nI_s1]
  refine w_istore_n X dX12_reduce_29 rfl (by decide) ?_
  refine w_aload_n X dX12_reduce_30 rfl rfl ?_
  refine g12_waitValues X dX12_reduce_31 ?_
  refine w_aload_n X dX12_reduce_34 rfl rfl ?_
  refine g12_waiting X dX12_reduce_35 ?_
  try simp only [gI_sI, gI_sL, gL_sI, gL_sL, false_and, and_false, and_self, if_false, if_true, reduceIte, Nat.reduceEqDiff, hw, hl, ho, hq, hk, nI_s1]
  refine w_ialoadN X dX12_reduce_38 rfl rfl (by omega) ?_
  try simp only [gI_sI, gI_sL, gL_sI, gL_sL, false_and, and_false, and_self, if_false, if_true, reduceIte, Nat.reduceEqDiff, hw, hl, ho, hq, hk, nI_s1]
  refine w_istore_n X dX12_reduce_39 rfl (by decide) ?_
  refine w_iload_n X dX12_reduce_40 rfl rfl ?_
  refine w_iconst (v := 1) X dX12_reduce_41 (by decide) ?_
  refine w_icmp_ne (tgt := 79) X dX12_reduce_42 (by decide) (fun h42 => absurd rfl h42) (fun h42 => ?_)
  refine w_aload_n X dX12_reduce_45 rfl rfl ?_
  refine g12_values X dX12_reduce_46 ?_
  refine w_bipush (v := 32) X dX12_reduce_49 (by decide) ?_
  refine w_s1fI X dX12_reduce_51 k12_rowOf (c12_rowOf G hG _ _ _) (Nat.le_of_ble_eq_true rfl) ?_
  refine w_iload_n X dX12_reduce_54 rfl rfl ?_
  refine w_iadd X dX12_reduce_55 ?_
  rw [nI_2048]
  refine w_aload_n X dX12_reduce_56 rfl rfl ?_
  refine g12_length X dX12_reduce_57 ?_
  try simp only [gI_sI, gI_sL, gL_sI, gL_sL, false_and, and_false, and_self, if_false, if_true, reduceIte, Nat.reduceEqDiff, hw, hl, ho, hq, hk, nI_s1]
  refine w_iload_n X dX12_reduce_60 rfl rfl ?_
  refine w_isub X dX12_reduce_61 ?_
  refine w_iconst (v := 1) X dX12_reduce_62 (by decide) ?_
  refine w_isub X dX12_reduce_63 ?_
  rw [nI_d ln q hql]
  refine w_i2l X dX12_reduce_64 ?_
  refine w_lastoreN X dX12_reduce_65 rfl rfl (by omega) ?_
  refine w_aload_n X dX12_reduce_66 rfl rfl ?_
  refine w_dup X dX12_reduce_67 rfl ?_
  refine g12_operandCount X dX12_reduce_68 ?_
  try simp only [gI_sI, gI_sL, gL_sI, gL_sL, false_and, and_false, and_self, if_false, if_true, reduceIte, Nat.reduceEqDiff, hw, hl, ho, hq, hk, nI_s1]
  refine w_iconst (v := 1) X dX12_reduce_71 (by decide) ?_
  refine w_isub X dX12_reduce_72 ?_
  rw [nI_s1]
  refine p12_operandCount X dX12_reduce_73 ?_
  refine w_goto (tgt := 162) X dX12_reduce_76 (by decide) ?_
  exact w_vrF X dX12_reduce_162 rfl
set_option maxRecDepth 100000 in
set_option maxHeartbeats 4000000 in
theorem c12_reduce_2 (G : gg_) (hG : gd_ G) (d : Nat) (M : mm_) (w q ln oc : Nat) (hw : M.1 0 20 = nI (w + 1)) (hl : M.1 0 12 = nI ln) (ho : M.1 0 22 = nI (oc + 1)) (hq : M.1 8 w = nI q) (hw2 : w < 64) (hl2 : ln < 64) (ho2 : oc < 64) (hql : q < ln) (hk : M.1 7 w = 2) : cm_ G yX12_reduce cX12_reduce 4 none (d + 2) [.ref (G.1 0)] M (fV_ (sI_ (sL_ (sI_ M 0 20 (nI w)) 3 (2048 + q) (nI (ln - q - 1)).toInt64) 11 oc (M.1 9 w))) := by
  refine cm_of hG (by decide) (Nat.le_of_ble_eq_true rfl) (fun C X => ?_)
  refine w_aload_n X dX12_reduce_0 rfl rfl ?_
  refine w_dup X dX12_reduce_1 rfl ?_
  refine g12_waiting X dX12_reduce_2 ?_
  try simp only [gI_sI, gI_sL, gL_sI, gL_sL, false_and, and_false, and_self, if_false, if_true, reduceIte, Nat.reduceEqDiff, hw, hl, ho, hq, hk, nI_s1]
  refine w_iconst (v := 1) X dX12_reduce_5 (by decide) ?_
  refine w_isub X dX12_reduce_6 ?_
  rw [nI_s1]
  refine p12_waiting X dX12_reduce_7 ?_
  refine w_aload_n X dX12_reduce_10 rfl rfl ?_
  refine g12_waits X dX12_reduce_11 ?_
  refine w_aload_n X dX12_reduce_14 rfl rfl ?_
  refine g12_waiting X dX12_reduce_15 ?_
  try simp only [gI_sI, gI_sL, gL_sI, gL_sL, false_and, and_false, and_self, if_false, if_true, reduceIte, Nat.reduceEqDiff, hw, hl, ho, hq, hk, nI_s1]
  refine w_ialoadN X dX12_reduce_18 rfl rfl (by omega) ?_
  try simp only [gI_sI, gI_sL, gL_sI, gL_sL, false_and, and_false, and_self, if_false, if_true, reduceIte, Nat.reduceEqDiff, hw, hl, ho, hq, hk, nI_s1]
  refine w_istore_n X dX12_reduce_19 rfl (by decide) ?_
  refine w_aload_n X dX12_reduce_20 rfl rfl ?_
  refine g12_waitPlaces X dX12_reduce_21 ?_
  refine w_aload_n X dX12_reduce_24 rfl rfl ?_
  refine g12_waiting X dX12_reduce_25 ?_
  try simp only [gI_sI, gI_sL, gL_sI, gL_sL, false_and, and_false, and_self, if_false, if_true, reduceIte, Nat.reduceEqDiff, hw, hl, ho, hq, hk, nI_s1]
  refine w_ialoadN X dX12_reduce_28 rfl rfl (by omega) ?_
  try simp only [gI_sI, gI_sL, gL_sI, gL_sL, false_and, and_false, and_self, if_false, if_true, reduceIte, Nat.reduceEqDiff, hw, hl, ho, hq, hk, nI_s1]
  refine w_istore_n X dX12_reduce_29 rfl (by decide) ?_
  refine w_aload_n X dX12_reduce_30 rfl rfl ?_
  refine g12_waitValues X dX12_reduce_31 ?_
  refine w_aload_n X dX12_reduce_34 rfl rfl ?_
  refine g12_waiting X dX12_reduce_35 ?_
  try simp only [gI_sI, gI_sL, gL_sI, gL_sL, false_and, and_false, and_self, if_false, if_true, reduceIte, Nat.reduceEqDiff, hw, hl, ho, hq, hk, nI_s1]
  refine w_ialoadN X dX12_reduce_38 rfl rfl (by omega) ?_
  try simp only [gI_sI, gI_sL, gL_sI, gL_sL, false_and, and_false, and_self, if_false, if_true, reduceIte, Nat.reduceEqDiff, hw, hl, ho, hq, hk, nI_s1]
  refine w_istore_n X dX12_reduce_39 rfl (by decide) ?_
  refine w_iload_n X dX12_reduce_40 rfl rfl ?_
  refine w_iconst (v := 1) X dX12_reduce_41 (by decide) ?_
  refine w_icmp_ne (tgt := 79) X dX12_reduce_42 (by decide) (fun h42 => ?_) (fun h42 => absurd h42 (by decide))
  refine w_iload_n X dX12_reduce_79 rfl rfl ?_
  refine w_iconst (v := 2) X dX12_reduce_80 (by decide) ?_
  refine w_icmp_ne (tgt := 120) X dX12_reduce_81 (by decide) (fun h81 => absurd rfl h81) (fun h81 => ?_)
  refine w_aload_n X dX12_reduce_84 rfl rfl ?_
  refine g12_values X dX12_reduce_85 ?_
  refine w_bipush (v := 32) X dX12_reduce_88 (by decide) ?_
  refine w_s1fI X dX12_reduce_90 k12_rowOf (c12_rowOf G hG _ _ _) (Nat.le_of_ble_eq_true rfl) ?_
  refine w_iload_n X dX12_reduce_93 rfl rfl ?_
  refine w_iadd X dX12_reduce_94 ?_
  rw [nI_2048]
  refine w_aload_n X dX12_reduce_95 rfl rfl ?_
  refine g12_length X dX12_reduce_96 ?_
  try simp only [gI_sI, gI_sL, gL_sI, gL_sL, false_and, and_false, and_self, if_false, if_true, reduceIte, Nat.reduceEqDiff, hw, hl, ho, hq, hk, nI_s1]
  refine w_iload_n X dX12_reduce_99 rfl rfl ?_
  refine w_isub X dX12_reduce_100 ?_
  refine w_iconst (v := 1) X dX12_reduce_101 (by decide) ?_
  refine w_isub X dX12_reduce_102 ?_
  rw [nI_d ln q hql]
  refine w_i2l X dX12_reduce_103 ?_
  refine w_lastoreN X dX12_reduce_104 rfl rfl (by omega) ?_
  refine w_aload_n X dX12_reduce_105 rfl rfl ?_
  refine g12_operands X dX12_reduce_106 ?_
  refine w_aload_n X dX12_reduce_109 rfl rfl ?_
  refine g12_operandCount X dX12_reduce_110 ?_
  try simp only [gI_sI, gI_sL, gL_sI, gL_sL, false_and, and_false, and_self, if_false, if_true, reduceIte, Nat.reduceEqDiff, hw, hl, ho, hq, hk, nI_s1]
  refine w_iconst (v := 1) X dX12_reduce_113 (by decide) ?_
  refine w_isub X dX12_reduce_114 ?_
  rw [nI_s1]
  refine w_iload_n X dX12_reduce_115 rfl rfl ?_
  refine w_iastoreN X dX12_reduce_116 rfl rfl (by omega) ?_
  refine w_goto (tgt := 162) X dX12_reduce_117 (by decide) ?_
  exact w_vrF X dX12_reduce_162 rfl
set_option maxRecDepth 100000 in
set_option maxHeartbeats 4000000 in
theorem c12_reduce_6 (G : gg_) (hG : gd_ G) (d : Nat) (M : mm_) (w q ln oc : Nat) (hw : M.1 0 20 = nI (w + 1)) (hl : M.1 0 12 = nI ln) (ho : M.1 0 22 = nI (oc + 1)) (hq : M.1 8 w = nI q) (hw2 : w < 64) (hl2 : ln < 64) (ho2 : oc < 64) (hk : M.1 7 w = 6) : cm_ G yX12_reduce cX12_reduce 4 none (d + 2) [.ref (G.1 0)] M (fV_ (pu_ (sI_ M 0 20 (nI w)) ln (if M.1 9 w = 45 then 3 else 4) 0)) := by
  refine cm_of hG (by decide) (Nat.le_of_ble_eq_true rfl) (fun C X => ?_)
  refine w_aload_n X dX12_reduce_0 rfl rfl ?_
  refine w_dup X dX12_reduce_1 rfl ?_
  refine g12_waiting X dX12_reduce_2 ?_
  try simp only [gI_sI, gI_sL, gL_sI, gL_sL, false_and, and_false, and_self, if_false, if_true, reduceIte, Nat.reduceEqDiff, hw, hl, ho, hq, hk, nI_s1]
  refine w_iconst (v := 1) X dX12_reduce_5 (by decide) ?_
  refine w_isub X dX12_reduce_6 ?_
  rw [nI_s1]
  refine p12_waiting X dX12_reduce_7 ?_
  refine w_aload_n X dX12_reduce_10 rfl rfl ?_
  refine g12_waits X dX12_reduce_11 ?_
  refine w_aload_n X dX12_reduce_14 rfl rfl ?_
  refine g12_waiting X dX12_reduce_15 ?_
  try simp only [gI_sI, gI_sL, gL_sI, gL_sL, false_and, and_false, and_self, if_false, if_true, reduceIte, Nat.reduceEqDiff, hw, hl, ho, hq, hk, nI_s1]
  refine w_ialoadN X dX12_reduce_18 rfl rfl (by omega) ?_
  try simp only [gI_sI, gI_sL, gL_sI, gL_sL, false_and, and_false, and_self, if_false, if_true, reduceIte, Nat.reduceEqDiff, hw, hl, ho, hq, hk, nI_s1]
  refine w_istore_n X dX12_reduce_19 rfl (by decide) ?_
  refine w_aload_n X dX12_reduce_20 rfl rfl ?_
  refine g12_waitPlaces X dX12_reduce_21 ?_
  refine w_aload_n X dX12_reduce_24 rfl rfl ?_
  refine g12_waiting X dX12_reduce_25 ?_
  try simp only [gI_sI, gI_sL, gL_sI, gL_sL, false_and, and_false, and_self, if_false, if_true, reduceIte, Nat.reduceEqDiff, hw, hl, ho, hq, hk, nI_s1]
  refine w_ialoadN X dX12_reduce_28 rfl rfl (by omega) ?_
  try simp only [gI_sI, gI_sL, gL_sI, gL_sL, false_and, and_false, and_self, if_false, if_true, reduceIte, Nat.reduceEqDiff, hw, hl, ho, hq, hk, nI_s1]
  refine w_istore_n X dX12_reduce_29 rfl (by decide) ?_
  refine w_aload_n X dX12_reduce_30 rfl rfl ?_
  refine g12_waitValues X dX12_reduce_31 ?_
  refine w_aload_n X dX12_reduce_34 rfl rfl ?_
  refine g12_waiting X dX12_reduce_35 ?_
  try simp only [gI_sI, gI_sL, gL_sI, gL_sL, false_and, and_false, and_self, if_false, if_true, reduceIte, Nat.reduceEqDiff, hw, hl, ho, hq, hk, nI_s1]
  refine w_ialoadN X dX12_reduce_38 rfl rfl (by omega) ?_
  try simp only [gI_sI, gI_sL, gL_sI, gL_sL, false_and, and_false, and_self, if_false, if_true, reduceIte, Nat.reduceEqDiff, hw, hl, ho, hq, hk, nI_s1]
  refine w_istore_n X dX12_reduce_39 rfl (by decide) ?_
  refine w_iload_n X dX12_reduce_40 rfl rfl ?_
  refine w_iconst (v := 1) X dX12_reduce_41 (by decide) ?_
  refine w_icmp_ne (tgt := 79) X dX12_reduce_42 (by decide) (fun h42 => ?_) (fun h42 => absurd h42 (by decide))
  refine w_iload_n X dX12_reduce_79 rfl rfl ?_
  refine w_iconst (v := 2) X dX12_reduce_80 (by decide) ?_
  refine w_icmp_ne (tgt := 120) X dX12_reduce_81 (by decide) (fun h81 => ?_) (fun h81 => absurd h81 (by decide))
  refine w_iload_n X dX12_reduce_120 rfl rfl ?_
  refine w_bipush (v := 6) X dX12_reduce_121 (by decide) ?_
  refine w_icmp_ne (tgt := 145) X dX12_reduce_123 (by decide) (fun h123 => absurd rfl h123) (fun h123 => ?_)
  refine w_aload_n X dX12_reduce_126 rfl rfl ?_
  refine w_iload_n X dX12_reduce_127 rfl rfl ?_
  refine w_bipush (v := 45) X dX12_reduce_128 (by decide) ?_
  refine w_icmp_ne (tgt := 137) X dX12_reduce_130 (by decide) (fun h130 => ?_) (fun h130 => ?_)
  · refine w_iconst (v := 4) X dX12_reduce_137 (by decide) ?_
    refine w_lconst (v := 0) X dX12_reduce_138 (by decide) ?_
    refine w_v2fV X dX12_reduce_139 k12_put rfl rfl (c12_put G hG _ _ ln (by simp [sI_, hl]) (by omega) _ _) (Nat.le_of_ble_eq_true rfl) ?_
    refine w_goto (tgt := 162) X dX12_reduce_142 (by decide) ?_
    exact w_vrF X dX12_reduce_162 (by simp [h42, h81, h123, h130])
  · refine w_iconst (v := 3) X dX12_reduce_133 (by decide) ?_
    refine w_goto (tgt := 138) X dX12_reduce_134 (by decide) ?_
    refine w_lconst (v := 0) X dX12_reduce_138 (by decide) ?_
    refine w_v2fV X dX12_reduce_139 k12_put rfl rfl (c12_put G hG _ _ ln (by simp [sI_, hl]) (by omega) _ _) (Nat.le_of_ble_eq_true rfl) ?_
    refine w_goto (tgt := 162) X dX12_reduce_142 (by decide) ?_
    exact w_vrF X dX12_reduce_162 (by simp [h42, h81, h123, h130])
set_option maxRecDepth 100000 in
set_option maxHeartbeats 4000000 in
theorem c12_reduce_b (G : gg_) (hG : gd_ G) (d : Nat) (M : mm_) (w q ln oc : Nat) (hw : M.1 0 20 = nI (w + 1)) (hl : M.1 0 12 = nI ln) (ho : M.1 0 22 = nI (oc + 1)) (hq : M.1 8 w = nI q) (hw2 : w < 64) (hl2 : ln < 64) (ho2 : oc < 64) (hk : M.1 7 w = 3 ∨ M.1 7 w = 4 ∨ M.1 7 w = 5) : cm_ G yX12_reduce cX12_reduce 4 none (d + 2) [.ref (G.1 0)] M (fV_ (sI_ (pu_ (sI_ M 0 20 (nI w)) ln 2 (M.1 9 w).toInt64) 0 22 (nI oc))) := by
  refine cm_of hG (by decide) (Nat.le_of_ble_eq_true rfl) (fun C X => ?_)
  refine w_aload_n X dX12_reduce_0 rfl rfl ?_
  refine w_dup X dX12_reduce_1 rfl ?_
  refine g12_waiting X dX12_reduce_2 ?_
  try simp only [gI_sI, gI_sL, gL_sI, gL_sL, false_and, and_false, and_self, if_false, if_true, reduceIte, Nat.reduceEqDiff, hw, hl, ho, hq, nI_s1]
  refine w_iconst (v := 1) X dX12_reduce_5 (by decide) ?_
  refine w_isub X dX12_reduce_6 ?_
  rw [nI_s1]
  refine p12_waiting X dX12_reduce_7 ?_
  refine w_aload_n X dX12_reduce_10 rfl rfl ?_
  refine g12_waits X dX12_reduce_11 ?_
  refine w_aload_n X dX12_reduce_14 rfl rfl ?_
  refine g12_waiting X dX12_reduce_15 ?_
  try simp only [gI_sI, gI_sL, gL_sI, gL_sL, false_and, and_false, and_self, if_false, if_true, reduceIte, Nat.reduceEqDiff, hw, hl, ho, hq, nI_s1]
  refine w_ialoadN X dX12_reduce_18 rfl rfl (by omega) ?_
  try simp only [gI_sI, gI_sL, gL_sI, gL_sL, false_and, and_false, and_self, if_false, if_true, reduceIte, Nat.reduceEqDiff, hw, hl, ho, hq, nI_s1]
  refine w_istore_n X dX12_reduce_19 rfl (by decide) ?_
  refine w_aload_n X dX12_reduce_20 rfl rfl ?_
  refine g12_waitPlaces X dX12_reduce_21 ?_
  refine w_aload_n X dX12_reduce_24 rfl rfl ?_
  refine g12_waiting X dX12_reduce_25 ?_
  try simp only [gI_sI, gI_sL, gL_sI, gL_sL, false_and, and_false, and_self, if_false, if_true, reduceIte, Nat.reduceEqDiff, hw, hl, ho, hq, nI_s1]
  refine w_ialoadN X dX12_reduce_28 rfl rfl (by omega) ?_
  try simp only [gI_sI, gI_sL, gL_sI, gL_sL, false_and, and_false, and_self, if_false, if_true, reduceIte, Nat.reduceEqDiff, hw, hl, ho, hq, nI_s1]
  refine w_istore_n X dX12_reduce_29 rfl (by decide) ?_
  refine w_aload_n X dX12_reduce_30 rfl rfl ?_
  refine g12_waitValues X dX12_reduce_31 ?_
  refine w_aload_n X dX12_reduce_34 rfl rfl ?_
  refine g12_waiting X dX12_reduce_35 ?_
  try simp only [gI_sI, gI_sL, gL_sI, gL_sL, false_and, and_false, and_self, if_false, if_true, reduceIte, Nat.reduceEqDiff, hw, hl, ho, hq, nI_s1]
  refine w_ialoadN X dX12_reduce_38 rfl rfl (by omega) ?_
  try simp only [gI_sI, gI_sL, gL_sI, gL_sL, false_and, and_false, and_self, if_false, if_true, reduceIte, Nat.reduceEqDiff, hw, hl, ho, hq, nI_s1]
  refine w_istore_n X dX12_reduce_39 rfl (by decide) ?_
  refine w_iload_n X dX12_reduce_40 rfl rfl ?_
  refine w_iconst (v := 1) X dX12_reduce_41 (by decide) ?_
  refine w_icmp_ne (tgt := 79) X dX12_reduce_42 (by decide) (fun h42 => ?_) (fun h42 => absurd h42 (by rcases hk with z | z | z <;> rw [z] <;> decide))
  refine w_iload_n X dX12_reduce_79 rfl rfl ?_
  refine w_iconst (v := 2) X dX12_reduce_80 (by decide) ?_
  refine w_icmp_ne (tgt := 120) X dX12_reduce_81 (by decide) (fun h81 => ?_) (fun h81 => absurd h81 (by rcases hk with z | z | z <;> rw [z] <;> decide))
  refine w_iload_n X dX12_reduce_120 rfl rfl ?_
  refine w_bipush (v := 6) X dX12_reduce_121 (by decide) ?_
  refine w_icmp_ne (tgt := 145) X dX12_reduce_123 (by decide) (fun h123 => ?_) (fun h123 => absurd h123 (by rcases hk with z | z | z <;> rw [z] <;> decide))
  refine w_aload_n X dX12_reduce_145 rfl rfl ?_
  refine w_iconst (v := 2) X dX12_reduce_146 (by decide) ?_
  refine w_iload_n X dX12_reduce_147 rfl rfl ?_
  refine w_i2l X dX12_reduce_148 ?_
  refine w_v2fV X dX12_reduce_149 k12_put rfl rfl (c12_put G hG _ _ ln (by simp [sI_, hl]) (by omega) _ _) (Nat.le_of_ble_eq_true rfl) ?_
  refine w_aload_n X dX12_reduce_152 rfl rfl ?_
  refine w_dup X dX12_reduce_153 rfl ?_
  refine g12_operandCount X dX12_reduce_154 ?_
  try simp only [gI_sI, gI_sL, gL_sI, gL_sL, false_and, and_false, and_self, if_false, if_true, reduceIte, Nat.reduceEqDiff, hw, hl, ho, hq, nI_s1]
  rw [show (pu_ (sI_ M 0 20 (nI w)) ln 2 (M.1 9 w).toInt64).1 0 22 = nI (oc + 1) by simp [pu_, sI_, sL_, ho]]
  refine w_iconst (v := 1) X dX12_reduce_157 (by decide) ?_
  refine w_isub X dX12_reduce_158 ?_
  rw [nI_s1]
  refine p12_operandCount X dX12_reduce_159 ?_
  exact w_vrF X dX12_reduce_162 rfl
