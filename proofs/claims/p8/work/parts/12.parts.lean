section NROWS
variable {C : mc_} {G : gg_} {Q : State → Prop} {pc : Nat} {lv : List (Option Value)} {st : List Value} {M : mm_} {own : String} {cc : ByteArray} {nL : Nat} {ry : Option FieldType} {d : Nat}
end NROWS
theorem nI_2048 (n : Nat) : (64 : Int32) * 32 + nI n = nI (2048 + n) := by rw [show (64 : Int32) * 32 = nI 2048 by decide +kernel, nI_add]
/-- a step more in the row that is being made -/
def pu_ (M : mm_) (n : Nat) (t : Int32) (v : Int64) : mm_ := sI_ (sL_ (sI_ M 2 (2048 + n) t) 3 (2048 + n) v) 0 12 (nI (n + 1))
def wa_ (M : mm_) (n : Nat) (a b c : Int32) : mm_ := sI_ (sI_ (sI_ (sI_ M 7 n a) 8 n b) 9 n c) 0 20 (nI (n + 1))
def op_ (M : mm_) (n : Nat) (a : Int32) : mm_ := sI_ (sI_ M 11 n a) 0 22 (nI (n + 1))
def la_ (M : mm_) (n : Nat) : Int32 := if n = 0 then -1 else M.1 7 (n - 1)
def bg_ (M : mm_) : mm_ := sI_ (sI_ (sI_ (sI_ M 0 0 0) 0 3 0) 0 4 (-1)) 0 5 0
set_option maxRecDepth 100000 in
set_option maxHeartbeats 4000000 in
theorem c12_rowOf (G : gg_) (hG : gd_ G) (d : Nat) (M : mm_) (e : Int32) : cm_ G yX12_rowOf cX12_rowOf 1 (some .int) (d) [.int e] M (fI_ (64 * e) M) := by
  refine cm_of hG (by decide) (Nat.le_of_ble_eq_true rfl) (fun C X => ?_)
  refine w_bipush (v := 64) X dX12_rowOf_0 (by decide) ?_
  refine w_iload_n X dX12_rowOf_2 rfl rfl ?_
  refine w_imul X dX12_rowOf_3 ?_
  exact w_irF X dX12_rowOf_4 rfl rfl
set_option maxRecDepth 100000 in
set_option maxHeartbeats 4000000 in
theorem c12_put (G : gg_) (hG : gd_ G) (d : Nat) (M : mm_) (n : Nat) (hl : M.1 0 12 = nI n) (hn : n < 64) (t : Int32) (v : Int64) : cm_ G yX12_put cX12_put 4 none (d + 1) [.ref (G.1 0), .int t, .long v] M (fV_ (pu_ M n t v)) := by
  refine cm_of hG (by decide) (Nat.le_of_ble_eq_true rfl) (fun C X => ?_)
  refine w_aload_n X dX12_put_0 rfl rfl ?_
  refine g12_steps X dX12_put_1 ?_
  refine w_bipush (v := 32) X dX12_put_4 (by decide) ?_
  refine w_s1fI X dX12_put_6 k12_rowOf (c12_rowOf G hG _ _ _) (Nat.le_of_ble_eq_true rfl) ?_
  refine w_aload_n X dX12_put_9 rfl rfl ?_
  refine g12_length X dX12_put_10 ?_
  try simp only [gI_sI, gI_sL, gL_sI, gL_sL, false_and, and_false, and_self, if_false, if_true, reduceIte, Nat.reduceEqDiff, hl]
  refine w_iadd X dX12_put_13 ?_
  rw [nI_2048]
  refine w_iload_n X dX12_put_14 rfl rfl ?_
  refine w_iastoreN X dX12_put_15 rfl rfl (by omega) ?_
  refine w_aload_n X dX12_put_16 rfl rfl ?_
  refine g12_values X dX12_put_17 ?_
  refine w_bipush (v := 32) X dX12_put_20 (by decide) ?_
  refine w_s1fI X dX12_put_22 k12_rowOf (c12_rowOf G hG _ _ _) (Nat.le_of_ble_eq_true rfl) ?_
  refine w_aload_n X dX12_put_25 rfl rfl ?_
  refine g12_length X dX12_put_26 ?_
  try simp only [gI_sI, gI_sL, gL_sI, gL_sL, false_and, and_false, and_self, if_false, if_true, reduceIte, Nat.reduceEqDiff, hl]
  refine w_iadd X dX12_put_29 ?_
  rw [nI_2048]
  refine w_lload_n X dX12_put_30 rfl rfl ?_
  refine w_lastoreN X dX12_put_31 rfl rfl (by omega) ?_
  refine w_aload_n X dX12_put_32 rfl rfl ?_
  refine w_dup X dX12_put_33 rfl ?_
  refine g12_length X dX12_put_34 ?_
  try simp only [gI_sI, gI_sL, gL_sI, gL_sL, false_and, and_false, and_self, if_false, if_true, reduceIte, Nat.reduceEqDiff, hl]
  refine w_iconst (v := 1) X dX12_put_37 (by decide) ?_
  refine w_iadd X dX12_put_38 ?_
  refine p12_length X dX12_put_39 ?_
  exact w_vrF X dX12_put_42 (by unfold pu_; rw [nI_1])
set_option maxRecDepth 100000 in
set_option maxHeartbeats 4000000 in
theorem c12_wait (G : gg_) (hG : gd_ G) (d : Nat) (M : mm_) (n : Nat) (hl : M.1 0 20 = nI n) (hn : n < 64) (a b c : Int32) : cm_ G yX12_wait cX12_wait 4 none (d) [.ref (G.1 0), .int a, .int b, .int c] M (fV_ (wa_ M n a b c)) := by
  refine cm_of hG (by decide) (Nat.le_of_ble_eq_true rfl) (fun C X => ?_)
  refine w_aload_n X dX12_wait_0 rfl rfl ?_
  refine g12_waits X dX12_wait_1 ?_
  refine w_aload_n X dX12_wait_4 rfl rfl ?_
  refine g12_waiting X dX12_wait_5 ?_
  try simp only [gI_sI, gI_sL, gL_sI, gL_sL, false_and, and_false, and_self, if_false, if_true, reduceIte, Nat.reduceEqDiff, hl]
  refine w_iload_n X dX12_wait_8 rfl rfl ?_
  refine w_iastoreN X dX12_wait_9 rfl rfl (by omega) ?_
  refine w_aload_n X dX12_wait_10 rfl rfl ?_
  refine g12_waitPlaces X dX12_wait_11 ?_
  refine w_aload_n X dX12_wait_14 rfl rfl ?_
  refine g12_waiting X dX12_wait_15 ?_
  try simp only [gI_sI, gI_sL, gL_sI, gL_sL, false_and, and_false, and_self, if_false, if_true, reduceIte, Nat.reduceEqDiff, hl]
  refine w_iload_n X dX12_wait_18 rfl rfl ?_
  refine w_iastoreN X dX12_wait_19 rfl rfl (by omega) ?_
  refine w_aload_n X dX12_wait_20 rfl rfl ?_
  refine g12_waitValues X dX12_wait_21 ?_
  refine w_aload_n X dX12_wait_24 rfl rfl ?_
  refine g12_waiting X dX12_wait_25 ?_
  try simp only [gI_sI, gI_sL, gL_sI, gL_sL, false_and, and_false, and_self, if_false, if_true, reduceIte, Nat.reduceEqDiff, hl]
  refine w_iload_n X dX12_wait_28 rfl rfl ?_
  refine w_iastoreN X dX12_wait_29 rfl rfl (by omega) ?_
  refine w_aload_n X dX12_wait_30 rfl rfl ?_
  refine w_dup X dX12_wait_31 rfl ?_
  refine g12_waiting X dX12_wait_32 ?_
  try simp only [gI_sI, gI_sL, gL_sI, gL_sL, false_and, and_false, and_self, if_false, if_true, reduceIte, Nat.reduceEqDiff, hl]
  refine w_iconst (v := 1) X dX12_wait_35 (by decide) ?_
  refine w_iadd X dX12_wait_36 ?_
  refine p12_waiting X dX12_wait_37 ?_
  exact w_vrF X dX12_wait_40 (by unfold wa_; rw [nI_1])
set_option maxRecDepth 100000 in
set_option maxHeartbeats 4000000 in
theorem c12_operand (G : gg_) (hG : gd_ G) (d : Nat) (M : mm_) (n : Nat) (hl : M.1 0 22 = nI n) (hn : n < 64) (a : Int32) : cm_ G yX12_operand cX12_operand 2 none (d) [.ref (G.1 0), .int a] M (fV_ (op_ M n a)) := by
  refine cm_of hG (by decide) (Nat.le_of_ble_eq_true rfl) (fun C X => ?_)
  refine w_aload_n X dX12_operand_0 rfl rfl ?_
  refine g12_operands X dX12_operand_1 ?_
  refine w_aload_n X dX12_operand_4 rfl rfl ?_
  refine g12_operandCount X dX12_operand_5 ?_
  try simp only [gI_sI, gI_sL, gL_sI, gL_sL, false_and, and_false, and_self, if_false, if_true, reduceIte, Nat.reduceEqDiff, hl]
  refine w_iload_n X dX12_operand_8 rfl rfl ?_
  refine w_iastoreN X dX12_operand_9 rfl rfl (by omega) ?_
  refine w_aload_n X dX12_operand_10 rfl rfl ?_
  refine w_dup X dX12_operand_11 rfl ?_
  refine g12_operandCount X dX12_operand_12 ?_
  try simp only [gI_sI, gI_sL, gL_sI, gL_sL, false_and, and_false, and_self, if_false, if_true, reduceIte, Nat.reduceEqDiff, hl]
  refine w_iconst (v := 1) X dX12_operand_15 (by decide) ?_
  refine w_iadd X dX12_operand_16 ?_
  refine p12_operandCount X dX12_operand_17 ?_
  exact w_vrF X dX12_operand_20 (by unfold op_; rw [nI_1])
set_option maxRecDepth 100000 in
set_option maxHeartbeats 4000000 in
theorem c12_last (G : gg_) (hG : gd_ G) (d : Nat) (M : mm_) (n : Nat) (hl : M.1 0 20 = nI n) (hn : n ≤ 64) : cm_ G yX12_last cX12_last 1 (some .int) (d) [.ref (G.1 0)] M (fI_ (la_ M n) M) := by
  refine cm_of hG (by decide) (Nat.le_of_ble_eq_true rfl) (fun C X => ?_)
  refine w_aload_n X dX12_last_0 rfl rfl ?_
  refine g12_waiting X dX12_last_1 ?_
  try simp only [gI_sI, gI_sL, gL_sI, gL_sL, false_and, and_false, and_self, if_false, if_true, reduceIte, Nat.reduceEqDiff, hl]
  refine w_if_ne (tgt := 11) X dX12_last_4 (by decide) (fun h4 => ?_) (fun h4 => ?_)
  · refine w_aload_n X dX12_last_11 rfl rfl ?_
    refine g12_waits X dX12_last_12 ?_
    refine w_aload_n X dX12_last_15 rfl rfl ?_
    refine g12_waiting X dX12_last_16 ?_
    try simp only [gI_sI, gI_sL, gL_sI, gL_sL, false_and, and_false, and_self, if_false, if_true, reduceIte, Nat.reduceEqDiff, hl]
    refine w_iconst (v := 1) X dX12_last_19 (by decide) ?_
    refine w_isub X dX12_last_20 ?_
    have h0 : 0 < n := Nat.pos_of_ne_zero (fun q => h4 ((nI_z (by omega)).mpr q))
    rw [nI_p n h0]
    refine w_ialoadN X dX12_last_21 rfl rfl (by omega) ?_
    refine w_irF X dX12_last_22 ?_ rfl
    unfold la_
    first | exact (if_pos ((nI_z (by omega)).mp h4)).symm | exact (if_neg (fun q => h4 ((nI_z (by omega)).mpr q))).symm
  · refine w_iconst (v := -1) X dX12_last_7 (by decide) ?_
    refine w_goto (tgt := 22) X dX12_last_8 (by decide) ?_
    refine w_irF X dX12_last_22 ?_ rfl
    unfold la_
    first | exact (if_pos ((nI_z (by omega)).mp h4)).symm | exact (if_neg (fun q => h4 ((nI_z (by omega)).mpr q))).symm
set_option maxRecDepth 100000 in
set_option maxHeartbeats 4000000 in
theorem c12_begin (G : gg_) (hG : gd_ G) (d : Nat) (M : mm_) : cm_ G yX12_begin cX12_begin 1 none (d) [.ref (G.1 0)] M (fV_ (bg_ M)) := by
  refine cm_of hG (by decide) (Nat.le_of_ble_eq_true rfl) (fun C X => ?_)
  refine w_aload_n X dX12_begin_0 rfl rfl ?_
  refine w_iconst (v := 0) X dX12_begin_1 (by decide) ?_
  refine p12_thrown X dX12_begin_2 ?_
  refine w_aload_n X dX12_begin_5 rfl rfl ?_
  refine w_iconst (v := 0) X dX12_begin_6 (by decide) ?_
  refine p12_fault X dX12_begin_7 ?_
  refine w_aload_n X dX12_begin_10 rfl rfl ?_
  refine w_iconst (v := -1) X dX12_begin_11 (by decide) ?_
  refine p12_place X dX12_begin_12 ?_
  refine w_aload_n X dX12_begin_15 rfl rfl ?_
  refine w_iconst (v := 0) X dX12_begin_16 (by decide) ?_
  refine p12_at X dX12_begin_17 ?_
  exact w_vrF X dX12_begin_20 rfl
set_option maxRecDepth 100000 in
set_option maxHeartbeats 4000000 in
theorem c12_place (G : gg_) (hG : gd_ G) (d : Nat) (M : mm_) : cm_ G yX12_place cX12_place 1 (some .int) (d) [.ref (G.1 0)] M (fI_ (M.1 0 4) (sI_ M 0 0 0)) := by
  refine cm_of hG (by decide) (Nat.le_of_ble_eq_true rfl) (fun C X => ?_)
  refine w_aload_n X dX12_place_0 rfl rfl ?_
  refine w_iconst (v := 0) X dX12_place_1 (by decide) ?_
  refine p12_thrown X dX12_place_2 ?_
  refine w_aload_n X dX12_place_5 rfl rfl ?_
  refine g12_place X dX12_place_6 ?_
  try simp only [gI_sI, gI_sL, gL_sI, gL_sL, false_and, and_false, and_self, if_false, if_true, reduceIte, Nat.reduceEqDiff]
  exact w_irF X dX12_place_9 rfl rfl
set_option maxRecDepth 100000 in
set_option maxHeartbeats 4000000 in
theorem c12_value (G : gg_) (hG : gd_ G) (d : Nat) (M : mm_) : cm_ G yX12_value cX12_value 1 (some .int) (d) [.ref (G.1 0)] M (fI_ (M.1 0 41) (sI_ M 0 0 0)) := by
  refine cm_of hG (by decide) (Nat.le_of_ble_eq_true rfl) (fun C X => ?_)
  refine w_aload_n X dX12_value_0 rfl rfl ?_
  refine w_iconst (v := 0) X dX12_value_1 (by decide) ?_
  refine p12_thrown X dX12_value_2 ?_
  refine w_aload_n X dX12_value_5 rfl rfl ?_
  refine g12_value X dX12_value_6 ?_
  try simp only [gI_sI, gI_sL, gL_sI, gL_sL, false_and, and_false, and_self, if_false, if_true, reduceIte, Nat.reduceEqDiff]
  exact w_irF X dX12_value_9 rfl rfl
set_option maxRecDepth 100000 in
set_option maxHeartbeats 4000000 in
theorem c12_invoked (G : gg_) (hG : gd_ G) (d : Nat) (M : mm_) : cm_ G yX12_invoked cX12_invoked 1 (some .int) (d) [.ref (G.1 0)] M (fI_ (M.1 0 40) (sI_ M 0 0 0)) := by
  refine cm_of hG (by decide) (Nat.le_of_ble_eq_true rfl) (fun C X => ?_)
  refine w_aload_n X dX12_invoked_0 rfl rfl ?_
  refine w_iconst (v := 0) X dX12_invoked_1 (by decide) ?_
  refine p12_thrown X dX12_invoked_2 ?_
  refine w_aload_n X dX12_invoked_5 rfl rfl ?_
  refine g12_invoked X dX12_invoked_6 ?_
  try simp only [gI_sI, gI_sL, gL_sI, gL_sL, false_and, and_false, and_self, if_false, if_true, reduceIte, Nat.reduceEqDiff]
  exact w_irF X dX12_invoked_9 rfl rfl
set_option maxRecDepth 100000 in
set_option maxHeartbeats 4000000 in
theorem c12_records (G : gg_) (hG : gd_ G) (d : Nat) (M : mm_) : cm_ G yX12_records cX12_records 1 (some .int) (d) [.ref (G.1 0)] M (fI_ (M.1 0 35) (sI_ M 0 0 0)) := by
  refine cm_of hG (by decide) (Nat.le_of_ble_eq_true rfl) (fun C X => ?_)
  refine w_aload_n X dX12_records_0 rfl rfl ?_
  refine w_iconst (v := 0) X dX12_records_1 (by decide) ?_
  refine p12_thrown X dX12_records_2 ?_
  refine w_aload_n X dX12_records_5 rfl rfl ?_
  refine g12_recordCount X dX12_records_6 ?_
  try simp only [gI_sI, gI_sL, gL_sI, gL_sL, false_and, and_false, and_self, if_false, if_true, reduceIte, Nat.reduceEqDiff]
  exact w_irF X dX12_records_9 rfl rfl
set_option maxRecDepth 100000 in
set_option maxHeartbeats 4000000 in
theorem c12_keeps (G : gg_) (hG : gd_ G) (d : Nat) (M : mm_) : cm_ G yX12_keeps cX12_keeps 1 (some .int) (d) [.ref (G.1 0)] M (fI_ (M.1 0 37) (sI_ M 0 0 0)) := by
  refine cm_of hG (by decide) (Nat.le_of_ble_eq_true rfl) (fun C X => ?_)
  refine w_aload_n X dX12_keeps_0 rfl rfl ?_
  refine w_iconst (v := 0) X dX12_keeps_1 (by decide) ?_
  refine p12_thrown X dX12_keeps_2 ?_
  refine w_aload_n X dX12_keeps_5 rfl rfl ?_
  refine g12_keepCount X dX12_keeps_6 ?_
  try simp only [gI_sI, gI_sL, gL_sI, gL_sL, false_and, and_false, and_self, if_false, if_true, reduceIte, Nat.reduceEqDiff]
  exact w_irF X dX12_keeps_9 rfl rfl
set_option maxRecDepth 100000 in
set_option maxHeartbeats 4000000 in
theorem c12_clear (G : gg_) (hG : gd_ G) (d : Nat) (M : mm_) : cm_ G yX12_clear cX12_clear 2 (some .int) (d) [.ref (G.1 0)] M (fI_ (M.1 0 35) (sI_ (sI_ (sI_ M 0 0 0) 0 35 0) 0 37 0)) := by
  refine cm_of hG (by decide) (Nat.le_of_ble_eq_true rfl) (fun C X => ?_)
  refine w_aload_n X dX12_clear_0 rfl rfl ?_
  refine w_iconst (v := 0) X dX12_clear_1 (by decide) ?_
  refine p12_thrown X dX12_clear_2 ?_
  refine w_aload_n X dX12_clear_5 rfl rfl ?_
  refine g12_recordCount X dX12_clear_6 ?_
  try simp only [gI_sI, gI_sL, gL_sI, gL_sL, false_and, and_false, and_self, if_false, if_true, reduceIte, Nat.reduceEqDiff]
  refine w_istore_n X dX12_clear_9 rfl (by decide) ?_
  refine w_aload_n X dX12_clear_10 rfl rfl ?_
  refine w_iconst (v := 0) X dX12_clear_11 (by decide) ?_
  refine p12_recordCount X dX12_clear_12 ?_
  refine w_aload_n X dX12_clear_15 rfl rfl ?_
  refine w_iconst (v := 0) X dX12_clear_16 (by decide) ?_
  refine p12_keepCount X dX12_clear_17 ?_
  refine w_iload_n X dX12_clear_20 rfl rfl ?_
  exact w_irF X dX12_clear_21 rfl rfl
set_option maxRecDepth 100000 in
set_option maxHeartbeats 4000000 in
theorem c12_count (G : gg_) (hG : gd_ G) (d : Nat) (M : mm_) (w : Int32) : cm_ G yX12_count cX12_count 2 (some .boolean) (d + 1) [.ref (G.1 0), .int w] M (fI_ (if M.1 0 13 = 20 then 0 else 1) (if M.1 0 13 = 20 then fa_ M 3 w else sI_ M 0 13 (M.1 0 13 + 1))) := by
  refine cm_of hG (by decide) (Nat.le_of_ble_eq_true rfl) (fun C X => ?_)
  refine w_aload_n X dX12_count_0 rfl rfl ?_
  refine g12_nodes X dX12_count_1 ?_
  try simp only [gI_sI, gI_sL, gL_sI, gL_sL, false_and, and_false, and_self, if_false, if_true, reduceIte, Nat.reduceEqDiff]
  refine w_bipush (v := 20) X dX12_count_4 (by decide) ?_
  refine w_icmp_ne (tgt := 17) X dX12_count_6 (by decide) (fun h6 => ?_) (fun h6 => ?_)
  · refine w_aload_n X dX12_count_17 rfl rfl ?_
    refine w_dup X dX12_count_18 rfl ?_
    refine g12_nodes X dX12_count_19 ?_
    try simp only [gI_sI, gI_sL, gL_sI, gL_sL, false_and, and_false, and_self, if_false, if_true, reduceIte, Nat.reduceEqDiff]
    refine w_iconst (v := 1) X dX12_count_22 (by decide) ?_
    refine w_iadd X dX12_count_23 ?_
    refine p12_nodes X dX12_count_24 ?_
    refine w_iconst (v := 1) X dX12_count_27 (by decide) ?_
    refine w_zrF X dX12_count_28 (by first | exact Or.inl rfl | exact Or.inr rfl) ?_ ?_
    · first | exact (if_pos (Decidable.not_not.mp h6)).symm | exact (if_neg h6).symm | exact (if_pos h6).symm
    · first | exact (if_pos (Decidable.not_not.mp h6)).symm | exact (if_neg h6).symm | exact (if_pos h6).symm
  · refine w_aload_n X dX12_count_9 rfl rfl ?_
    refine w_iconst (v := 3) X dX12_count_10 (by decide) ?_
    refine w_iload_n X dX12_count_11 rfl rfl ?_
    refine w_v2fV X dX12_count_12 k12_fail rfl rfl (c12_fail G hG _ _ _ _) (Nat.le_of_ble_eq_true rfl) ?_
    refine w_iconst (v := 0) X dX12_count_15 (by decide) ?_
    refine w_zrF X dX12_count_16 (by first | exact Or.inl rfl | exact Or.inr rfl) ?_ ?_
    · first | exact (if_pos (Decidable.not_not.mp h6)).symm | exact (if_neg h6).symm | exact (if_pos h6).symm
    · first | exact (if_pos (Decidable.not_not.mp h6)).symm | exact (if_neg h6).symm | exact (if_pos h6).symm
