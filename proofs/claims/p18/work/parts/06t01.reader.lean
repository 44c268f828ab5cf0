/-! the class: tape, packed names, the reader's small methods. tb_: a byte of the tape; pe_: what peek sees; fiX_: a fault noted -/
theorem ix_ {x : Int32} {n : Nat} (hn : n < 2147483648) (h0 : ¬ x < 0) (h1 : ¬ nI n ≤ x) : ∃ j : Nat, j < n ∧ x = nI j := by
  rcases pk_ix x hn with h | h | h
  · exact absurd h h0
  · exact absurd h h1
  · exact h
def tb_ (M : mm_) (k : Int32) : Int32 := if 0 ≤ k ∧ k < M.1 35 1 then M.1 36 k.toNatClampNeg else -1
def pe_ (M : mm_) : Int32 := if M.1 37 2 = 0 then tb_ M (M.1 37 1) else -1
def fiX_ (M : mm_) (f w : Int32) : mm_ := if M.1 37 2 = 0 then sI_ (sI_ M 37 2 f) 37 3 w else M
def tpX_ (M : mm_) (n : Nat) : Prop := n ≤ 200 ∧ M.1 35 1 = nI n
theorem tp_fi {M : mm_} {n : Nat} {f w : Int32} (h : tpX_ M n) : tpX_ (fiX_ M f w) n := by
  unfold fiX_; split
  · exact ⟨h.1, h.2⟩
  · exact h
def fg_ (c : Int32) : Int32 := if 48 ≤ c ∧ c ≤ 57 then 1 else 0
def rb_ (c : Int32) : Int32 := if (97 ≤ c ∧ c ≤ 122) ∨ c = 46 then 1 else 0
def bl_ (c : Int32) : Int32 := if 0 ≤ c ∧ c ≤ 32 then 1 else 0
def sgX_ (c : Int32) : Int32 := if 97 ≤ c ∧ c ≤ 122 then c - 97 + 1 else if c = 46 then 27 else if c = 42 then 28 else if c = 63 then 29 else 0
def wi_ (p : Int64) (k c : Int32) : Int64 := p ||| (c.toInt64 <<< ((5 * k).toInt64 &&& 63))
def saX_ (p : Int64) (k : Int32) : Int32 := (p.toUInt64 >>> ((5 * k).toInt64.toUInt64 &&& Int64.toUInt64 63)).toInt64.toInt32 &&& 31
def ky_ (p : Int64) (c : Int32) : Int64 := p ||| (c.toInt64 <<< ((60 : Int32).toInt64 &&& 63))
def poX_ (p : Int64) : Int32 := (p.toUInt64 >>> ((60 : Int32).toInt64.toUInt64 &&& Int64.toUInt64 63)).toInt64.toInt32
set_option maxRecDepth 100000 in
set_option maxHeartbeats 600000 in
theorem c9_at (G : gg_) (hG : gd_ G) (d : Nat) (M : mm_) (n : Nat) (ht : tpX_ M n) (x : Int32) : cm_ G yX9_at cX9_at 2 (some .int) (d) [.ref (G.1 35), .int x] M (fI_ (tb_ M x) M) := by
  refine cm_of hG (by decide) (Nat.le_of_ble_eq_true rfl) (fun C X => ?_)
  refine w_iload_n X dX9_at_0 rfl rfl ?_
  refine w_if_lt (tgt := 21) X dX9_at_1 (by decide) (fun h1 => ?_) (fun h1 => ?_)
  · refine w_iconst (v := -1) X dX9_at_21 (by decide) ?_
    refine w_irF X dX9_at_22 ?_ rfl
    unfold tb_
    rw [ht.2]
    exact (if_neg (fun q => absurd h1 (Int32.not_lt.mpr q.1))).symm
  · refine w_iload_n X dX9_at_4 rfl rfl ?_
    refine w_aload_n X dX9_at_5 rfl rfl ?_
    refine g9_13 X dX9_at_6 s_35 rfl ?_
    try simp only [gI_sI, gI_sL, gL_sI, gL_sL, gR_sI, gR_sL, gI_sR, gL_sR, gR_sR, false_and, and_false, and_self, if_false, if_true, reduceIte, Nat.reduceEqDiff, ht.2]
    refine w_icmp_ge (tgt := 21) X dX9_at_9 (by decide) (fun h9 => ?_) (fun h9 => ?_)
    · refine w_iconst (v := -1) X dX9_at_21 (by decide) ?_
      refine w_irF X dX9_at_22 ?_ rfl
      unfold tb_
      rw [ht.2]
      exact (if_neg (fun q => absurd h9 (Int32.not_le.mpr q.2))).symm
    · obtain ⟨j, hj, rfl⟩ := ix_ (Nat.lt_of_le_of_lt ht.1 (by decide)) h1 h9
      refine w_aload_n X dX9_at_12 rfl rfl ?_
      refine g9_9 X dX9_at_13 s_35 rfl ?_
      refine w_iload_n X dX9_at_16 rfl rfl ?_
      refine w_ialoadN X dX9_at_17 s_36 rfl (⟨Nat.lt_of_lt_of_le hj ht.1, by decide⟩) ?_
      try simp only [gI_sI, gI_sL, gL_sI, gL_sL, gR_sI, gR_sL, gI_sR, gL_sR, gR_sR, false_and, and_false, and_self, if_false, if_true, reduceIte, Nat.reduceEqDiff, ht.2]
      refine w_goto (tgt := 22) X dX9_at_18 (by decide) ?_
      refine w_irF X dX9_at_22 ?_ rfl
      unfold tb_
      rw [ht.2]
      rw [if_pos ⟨Int32.not_lt.mp h1, Int32.not_le.mp h9⟩, nI_clamp (by have := ht.1; omega)]
set_option maxRecDepth 100000 in
set_option maxHeartbeats 600000 in
theorem c9_append (G : gg_) (hG : gd_ G) (d : Nat) (M : mm_) (n : Nat) (hn : n < 200) (hl : M.1 35 1 = nI n) (v : Int32) : cm_ G yX9_append cX9_append 2 none (d) [.ref (G.1 35), .int v] M (fV_ (sI_ (sI_ M 36 n v) 35 1 (nI (n + 1)))) := by
  refine cm_of hG (by decide) (Nat.le_of_ble_eq_true rfl) (fun C X => ?_)
  refine w_aload_n X dX9_append_0 rfl rfl ?_
  refine g9_13 X dX9_append_1 s_35 rfl ?_
  try simp only [gI_sI, gI_sL, gL_sI, gL_sL, gR_sI, gR_sL, gI_sR, gL_sR, gR_sR, false_and, and_false, and_self, if_false, if_true, reduceIte, Nat.reduceEqDiff, hl]
  refine w_sipush (v := 200) X dX9_append_4 (by decide) ?_
  refine w_icmp_ge (tgt := 30) X dX9_append_7 (by decide) (fun h7 => absurd h7 (nI_ge (a := n) (b := 200) hn (by decide))) (fun h7 => ?_)
  refine w_aload_n X dX9_append_10 rfl rfl ?_
  refine g9_9 X dX9_append_11 s_35 rfl ?_
  refine w_aload_n X dX9_append_14 rfl rfl ?_
  refine g9_13 X dX9_append_15 s_35 rfl ?_
  try simp only [gI_sI, gI_sL, gL_sI, gL_sL, gR_sI, gR_sL, gI_sR, gL_sR, gR_sR, false_and, and_false, and_self, if_false, if_true, reduceIte, Nat.reduceEqDiff, hl]
  refine w_iload_n X dX9_append_18 rfl rfl ?_
  refine w_iastoreN X dX9_append_19 s_36 rfl (⟨hn, by decide⟩) ?_
  refine w_aload_n X dX9_append_20 rfl rfl ?_
  refine w_dup X dX9_append_21 rfl ?_
  refine g9_13 X dX9_append_22 s_35 rfl ?_
  try simp only [gI_sI, gI_sL, gL_sI, gL_sL, gR_sI, gR_sL, gI_sR, gL_sR, gR_sR, false_and, and_false, and_self, if_false, if_true, reduceIte, Nat.reduceEqDiff, hl]
  refine w_iconst (v := 1) X dX9_append_25 (by decide) ?_
  refine w_iadd X dX9_append_26 ?_
  refine p9_13 X dX9_append_27 s_35 rfl ?_
  rw [nI_1]
  exact w_vrF X dX9_append_30 rfl
set_option maxRecDepth 100000 in
set_option maxHeartbeats 600000 in
theorem c7_isFigure (G : gg_) (hG : gd_ G) (d : Nat) (M : mm_) (c : Int32) : cm_ G yX7_isFigure cX7_isFigure 1 (some .boolean) (d) [.int c] M (fI_ (fg_ c) M) := by
  refine cm_of hG (by decide) (Nat.le_of_ble_eq_true rfl) (fun C X => ?_)
  refine w_iload_n X dX7_isFigure_0 rfl rfl ?_
  refine w_bipush (v := 48) X dX7_isFigure_1 (by decide) ?_
  refine w_icmp_lt (tgt := 16) X dX7_isFigure_3 (by decide) (fun h3 => ?_) (fun h3 => ?_)
  · refine w_iconst (v := 0) X dX7_isFigure_16 (by decide) ?_
    refine w_zrF X dX7_isFigure_17 (by first | exact Or.inl rfl | exact Or.inr rfl) ?_ rfl
    unfold fg_
    exact (if_neg (fun q => absurd h3 (Int32.not_lt.mpr q.1))).symm
  · refine w_iload_n X dX7_isFigure_6 rfl rfl ?_
    refine w_bipush (v := 57) X dX7_isFigure_7 (by decide) ?_
    refine w_icmp_gt (tgt := 16) X dX7_isFigure_9 (by decide) (fun h9 => ?_) (fun h9 => ?_)
    · refine w_iconst (v := 0) X dX7_isFigure_16 (by decide) ?_
      refine w_zrF X dX7_isFigure_17 (by first | exact Or.inl rfl | exact Or.inr rfl) ?_ rfl
      unfold fg_
      exact (if_neg (fun q => absurd h9 (Int32.not_lt.mpr q.2))).symm
    · refine w_iconst (v := 1) X dX7_isFigure_12 (by decide) ?_
      refine w_goto (tgt := 17) X dX7_isFigure_13 (by decide) ?_
      refine w_zrF X dX7_isFigure_17 (by first | exact Or.inl rfl | exact Or.inr rfl) ?_ rfl
      unfold fg_
      exact (if_pos ⟨Int32.not_lt.mp h3, Int32.not_lt.mp h9⟩).symm
set_option maxRecDepth 100000 in
set_option maxHeartbeats 600000 in
theorem c7_isRowByte (G : gg_) (hG : gd_ G) (d : Nat) (M : mm_) (c : Int32) : cm_ G yX7_isRowByte cX7_isRowByte 1 (some .boolean) (d) [.int c] M (fI_ (rb_ c) M) := by
  refine cm_of hG (by decide) (Nat.le_of_ble_eq_true rfl) (fun C X => ?_)
  refine w_iload_n X dX7_isRowByte_0 rfl rfl ?_
  refine w_bipush (v := 97) X dX7_isRowByte_1 (by decide) ?_
  refine w_icmp_lt (tgt := 12) X dX7_isRowByte_3 (by decide) (fun h3 => ?_) (fun h3 => ?_)
  · refine w_iload_n X dX7_isRowByte_12 rfl rfl ?_
    refine w_bipush (v := 46) X dX7_isRowByte_13 (by decide) ?_
    refine w_icmp_ne (tgt := 22) X dX7_isRowByte_15 (by decide) (fun h15 => ?_) (fun h15 => ?_)
    · refine w_iconst (v := 0) X dX7_isRowByte_22 (by decide) ?_
      refine w_zrF X dX7_isRowByte_23 (by first | exact Or.inl rfl | exact Or.inr rfl) ?_ rfl
      unfold rb_
      exact (if_neg (fun q => q.elim (fun q => absurd h3 (Int32.not_lt.mpr q.1)) h15)).symm
    · refine w_iconst (v := 1) X dX7_isRowByte_18 (by decide) ?_
      refine w_goto (tgt := 23) X dX7_isRowByte_19 (by decide) ?_
      refine w_zrF X dX7_isRowByte_23 (by first | exact Or.inl rfl | exact Or.inr rfl) ?_ rfl
      unfold rb_
      exact (if_pos (Or.inr h15)).symm
  · refine w_iload_n X dX7_isRowByte_6 rfl rfl ?_
    refine w_bipush (v := 122) X dX7_isRowByte_7 (by decide) ?_
    refine w_icmp_le (tgt := 18) X dX7_isRowByte_9 (by decide) (fun h9 => ?_) (fun h9 => ?_)
    · refine w_iconst (v := 1) X dX7_isRowByte_18 (by decide) ?_
      refine w_goto (tgt := 23) X dX7_isRowByte_19 (by decide) ?_
      refine w_zrF X dX7_isRowByte_23 (by first | exact Or.inl rfl | exact Or.inr rfl) ?_ rfl
      unfold rb_
      exact (if_pos (Or.inl ⟨Int32.not_lt.mp h3, h9⟩)).symm
    · refine w_iload_n X dX7_isRowByte_12 rfl rfl ?_
      refine w_bipush (v := 46) X dX7_isRowByte_13 (by decide) ?_
      refine w_icmp_ne (tgt := 22) X dX7_isRowByte_15 (by decide) (fun h15 => ?_) (fun h15 => ?_)
      · refine w_iconst (v := 0) X dX7_isRowByte_22 (by decide) ?_
        refine w_zrF X dX7_isRowByte_23 (by first | exact Or.inl rfl | exact Or.inr rfl) ?_ rfl
        unfold rb_
        exact (if_neg (fun q => q.elim (fun q => h9 q.2) h15)).symm
      · refine w_iconst (v := 1) X dX7_isRowByte_18 (by decide) ?_
        refine w_goto (tgt := 23) X dX7_isRowByte_19 (by decide) ?_
        refine w_zrF X dX7_isRowByte_23 (by first | exact Or.inl rfl | exact Or.inr rfl) ?_ rfl
        unfold rb_
        exact (if_pos (Or.inr h15)).symm
set_option maxRecDepth 100000 in
set_option maxHeartbeats 600000 in
theorem c7_isBlank (G : gg_) (hG : gd_ G) (d : Nat) (M : mm_) (c : Int32) : cm_ G yX7_isBlank cX7_isBlank 1 (some .boolean) (d) [.int c] M (fI_ (bl_ c) M) := by
  refine cm_of hG (by decide) (Nat.le_of_ble_eq_true rfl) (fun C X => ?_)
  refine w_iload_n X dX7_isBlank_0 rfl rfl ?_
  refine w_if_lt (tgt := 14) X dX7_isBlank_1 (by decide) (fun h1 => ?_) (fun h1 => ?_)
  · refine w_iconst (v := 0) X dX7_isBlank_14 (by decide) ?_
    refine w_zrF X dX7_isBlank_15 (by first | exact Or.inl rfl | exact Or.inr rfl) ?_ rfl
    unfold bl_
    exact (if_neg (fun q => absurd h1 (Int32.not_lt.mpr q.1))).symm
  · refine w_iload_n X dX7_isBlank_4 rfl rfl ?_
    refine w_bipush (v := 32) X dX7_isBlank_5 (by decide) ?_
    refine w_icmp_gt (tgt := 14) X dX7_isBlank_7 (by decide) (fun h7 => ?_) (fun h7 => ?_)
    · refine w_iconst (v := 0) X dX7_isBlank_14 (by decide) ?_
      refine w_zrF X dX7_isBlank_15 (by first | exact Or.inl rfl | exact Or.inr rfl) ?_ rfl
      unfold bl_
      exact (if_neg (fun q => absurd h7 (Int32.not_lt.mpr q.2))).symm
    · refine w_iconst (v := 1) X dX7_isBlank_10 (by decide) ?_
      refine w_goto (tgt := 15) X dX7_isBlank_11 (by decide) ?_
      refine w_zrF X dX7_isBlank_15 (by first | exact Or.inl rfl | exact Or.inr rfl) ?_ rfl
      unfold bl_
      exact (if_pos ⟨Int32.not_lt.mp h1, Int32.not_lt.mp h7⟩).symm
set_option maxRecDepth 100000 in
set_option maxHeartbeats 600000 in
theorem c6_sign (G : gg_) (hG : gd_ G) (d : Nat) (M : mm_) (c : Int32) : cm_ G yX6_sign cX6_sign 1 (some .int) (d) [.int c] M (fI_ (sgX_ c) M) := by
  refine cm_of hG (by decide) (Nat.le_of_ble_eq_true rfl) (fun C X => ?_)
  refine w_iload_n X dX6_sign_0 rfl rfl ?_
  refine w_bipush (v := 97) X dX6_sign_1 (by decide) ?_
  refine w_icmp_lt (tgt := 19) X dX6_sign_3 (by decide) (fun h3 => ?_) (fun h3 => ?_)
  · refine w_iload_n X dX6_sign_19 rfl rfl ?_
    by_cases h20_42 : c = 42
    · refine w_lookup (tgt := 59) (off := 39) X dX6_sign_20 (by decide) (by rw [h20_42]; decide) (by decide) ?_
      refine w_bipush (v := 28) X dX6_sign_59 (by decide) ?_
      refine w_irF X dX6_sign_61 ?_ rfl
      unfold sgX_
      rw [if_neg (fun q => absurd h3 (Int32.not_lt.mpr q.1))]
      simp [h3, h20_42]
    by_cases h20_46 : c = 46
    · refine w_lookup (tgt := 56) (off := 36) X dX6_sign_20 (by decide) (by rw [h20_46]; decide) (by decide) ?_
      refine w_bipush (v := 27) X dX6_sign_56 (by decide) ?_
      refine w_irF X dX6_sign_58 ?_ rfl
      unfold sgX_
      rw [if_neg (fun q => absurd h3 (Int32.not_lt.mpr q.1))]
      simp [h3, h20_46]
    by_cases h20_63 : c = 63
    · refine w_lookup (tgt := 62) (off := 42) X dX6_sign_20 (by decide) (by rw [h20_63]; decide) (by decide) ?_
      refine w_bipush (v := 29) X dX6_sign_62 (by decide) ?_
      refine w_irF X dX6_sign_64 ?_ rfl
      unfold sgX_
      rw [if_neg (fun q => absurd h3 (Int32.not_lt.mpr q.1))]
      simp [h3, h20_63]
    have t20_42 : (42 : Int) ≠ (c).toInt := fun q => h20_42 (Int32.toInt_inj.mp (by rw [← q]; decide))
    have t20_46 : (46 : Int) ≠ (c).toInt := fun q => h20_46 (Int32.toInt_inj.mp (by rw [← q]; decide))
    have t20_63 : (63 : Int) ≠ (c).toInt := fun q => h20_63 (Int32.toInt_inj.mp (by rw [← q]; decide))
    refine w_lookup (tgt := 65) (off := 45) X dX6_sign_20 (by decide) (by simp only [Op.lookupswitch.offset, t20_42, t20_46, t20_63, if_false]) (by decide) ?_
    refine w_iconst (v := 0) X dX6_sign_65 (by decide) ?_
    refine w_irF X dX6_sign_66 ?_ rfl
    unfold sgX_
    rw [if_neg (fun q => absurd h3 (Int32.not_lt.mpr q.1))]
    simp [h3, h20_42, h20_46, h20_63]
  · refine w_iload_n X dX6_sign_6 rfl rfl ?_
    refine w_bipush (v := 122) X dX6_sign_7 (by decide) ?_
    refine w_icmp_gt (tgt := 19) X dX6_sign_9 (by decide) (fun h9 => ?_) (fun h9 => ?_)
    · refine w_iload_n X dX6_sign_19 rfl rfl ?_
      by_cases h20_42 : c = 42
      · refine w_lookup (tgt := 59) (off := 39) X dX6_sign_20 (by decide) (by rw [h20_42]; decide) (by decide) ?_
        refine w_bipush (v := 28) X dX6_sign_59 (by decide) ?_
        refine w_irF X dX6_sign_61 ?_ rfl
        unfold sgX_
        rw [if_neg (fun q => absurd h9 (Int32.not_lt.mpr q.2))]
        simp [h3, h9, h20_42]
      by_cases h20_46 : c = 46
      · refine w_lookup (tgt := 56) (off := 36) X dX6_sign_20 (by decide) (by rw [h20_46]; decide) (by decide) ?_
        refine w_bipush (v := 27) X dX6_sign_56 (by decide) ?_
        refine w_irF X dX6_sign_58 ?_ rfl
        unfold sgX_
        rw [if_neg (fun q => absurd h9 (Int32.not_lt.mpr q.2))]
        simp [h3, h9, h20_46]
      by_cases h20_63 : c = 63
      · refine w_lookup (tgt := 62) (off := 42) X dX6_sign_20 (by decide) (by rw [h20_63]; decide) (by decide) ?_
        refine w_bipush (v := 29) X dX6_sign_62 (by decide) ?_
        refine w_irF X dX6_sign_64 ?_ rfl
        unfold sgX_
        rw [if_neg (fun q => absurd h9 (Int32.not_lt.mpr q.2))]
        simp [h3, h9, h20_63]
      have t20_42 : (42 : Int) ≠ (c).toInt := fun q => h20_42 (Int32.toInt_inj.mp (by rw [← q]; decide))
      have t20_46 : (46 : Int) ≠ (c).toInt := fun q => h20_46 (Int32.toInt_inj.mp (by rw [← q]; decide))
      have t20_63 : (63 : Int) ≠ (c).toInt := fun q => h20_63 (Int32.toInt_inj.mp (by rw [← q]; decide))
      refine w_lookup (tgt := 65) (off := 45) X dX6_sign_20 (by decide) (by simp only [Op.lookupswitch.offset, t20_42, t20_46, t20_63, if_false]) (by decide) ?_
      refine w_iconst (v := 0) X dX6_sign_65 (by decide) ?_
      refine w_irF X dX6_sign_66 ?_ rfl
      unfold sgX_
      rw [if_neg (fun q => absurd h9 (Int32.not_lt.mpr q.2))]
      simp [h3, h9, h20_42, h20_46, h20_63]
    · refine w_iload_n X dX6_sign_12 rfl rfl ?_
      refine w_bipush (v := 97) X dX6_sign_13 (by decide) ?_
      refine w_isub X dX6_sign_15 ?_
      refine w_iconst (v := 1) X dX6_sign_16 (by decide) ?_
      refine w_iadd X dX6_sign_17 ?_
      refine w_irF X dX6_sign_18 ?_ rfl
      unfold sgX_
      exact (if_pos ⟨Int32.not_lt.mp h3, Int32.not_lt.mp h9⟩).symm
set_option maxRecDepth 100000 in
set_option maxHeartbeats 600000 in
theorem c6_with (G : gg_) (hG : gd_ G) (d : Nat) (M : mm_) (p : Int64) (k c : Int32) : cm_ G yX6_with cX6_with 4 (some .long) (d) [.long p, .int k, .int c] M (fL_ (wi_ p k c) M) := by
  refine cm_of hG (by decide) (Nat.le_of_ble_eq_true rfl) (fun C X => ?_)
  refine w_lload_n X dX6_with_0 rfl rfl ?_
  refine w_iload_n X dX6_with_1 rfl rfl ?_
  refine w_i2l X dX6_with_2 ?_
  refine w_iconst (v := 5) X dX6_with_3 (by decide) ?_
  refine w_iload_n X dX6_with_4 rfl rfl ?_
  refine w_imul X dX6_with_5 ?_
  refine w_lshl X dX6_with_6 ?_
  refine w_lor X dX6_with_7 ?_
  exact w_lrF X dX6_with_8 rfl rfl
set_option maxRecDepth 100000 in
set_option maxHeartbeats 600000 in
theorem c6_signAt (G : gg_) (hG : gd_ G) (d : Nat) (M : mm_) (p : Int64) (k : Int32) : cm_ G yX6_signAt cX6_signAt 3 (some .int) (d) [.long p, .int k] M (fI_ (saX_ p k) M) := by
  refine cm_of hG (by decide) (Nat.le_of_ble_eq_true rfl) (fun C X => ?_)
  refine w_lload_n X dX6_signAt_0 rfl rfl ?_
  refine w_iconst (v := 5) X dX6_signAt_1 (by decide) ?_
  refine w_iload_n X dX6_signAt_2 rfl rfl ?_
  refine w_imul X dX6_signAt_3 ?_
  refine w_lushr X dX6_signAt_4 ?_
  refine w_l2i X dX6_signAt_5 ?_
  refine w_bipush (v := 31) X dX6_signAt_6 (by decide) ?_
  refine w_iand X dX6_signAt_8 ?_
  exact w_irF X dX6_signAt_9 rfl rfl
set_option maxRecDepth 100000 in
set_option maxHeartbeats 600000 in
theorem c6_key (G : gg_) (hG : gd_ G) (d : Nat) (M : mm_) (p : Int64) (c : Int32) : cm_ G yX6_key cX6_key 3 (some .long) (d) [.long p, .int c] M (fL_ (ky_ p c) M) := by
  refine cm_of hG (by decide) (Nat.le_of_ble_eq_true rfl) (fun C X => ?_)
  refine w_lload_n X dX6_key_0 rfl rfl ?_
  refine w_iload_n X dX6_key_1 rfl rfl ?_
  refine w_i2l X dX6_key_2 ?_
  refine w_bipush (v := 60) X dX6_key_3 (by decide) ?_
  refine w_lshl X dX6_key_5 ?_
  refine w_lor X dX6_key_6 ?_
  exact w_lrF X dX6_key_7 rfl rfl
set_option maxRecDepth 100000 in
set_option maxHeartbeats 600000 in
theorem c6_parametersOf (G : gg_) (hG : gd_ G) (d : Nat) (M : mm_) (p : Int64) : cm_ G yX6_parametersOf cX6_parametersOf 2 (some .int) (d) [.long p] M (fI_ (poX_ p) M) := by
  refine cm_of hG (by decide) (Nat.le_of_ble_eq_true rfl) (fun C X => ?_)
  refine w_lload_n X dX6_parametersOf_0 rfl rfl ?_
  refine w_bipush (v := 60) X dX6_parametersOf_1 (by decide) ?_
  refine w_lushr X dX6_parametersOf_3 ?_
  refine w_l2i X dX6_parametersOf_4 ?_
  exact w_irF X dX6_parametersOf_5 rfl rfl
set_option maxRecDepth 100000 in
set_option maxHeartbeats 600000 in
theorem c7_begin (G : gg_) (hG : gd_ G) (d : Nat) (M : mm_) : cm_ G yX7_begin cX7_begin 1 none (d) [.ref (G.1 37)] M (fV_ (sI_ (sI_ (sI_ M 37 1 0) 37 2 0) 37 3 (-1))) := by
  refine cm_of hG (by decide) (Nat.le_of_ble_eq_true rfl) (fun C X => ?_)
  refine w_aload_n X dX7_begin_0 rfl rfl ?_
  refine w_iconst (v := 0) X dX7_begin_1 (by decide) ?_
  refine p7_22 X dX7_begin_2 s_37 rfl ?_
  refine w_aload_n X dX7_begin_5 rfl rfl ?_
  refine w_iconst (v := 0) X dX7_begin_6 (by decide) ?_
  refine p7_15 X dX7_begin_7 s_37 rfl ?_
  refine w_aload_n X dX7_begin_10 rfl rfl ?_
  refine w_iconst (v := -1) X dX7_begin_11 (by decide) ?_
  refine p7_19 X dX7_begin_12 s_37 rfl ?_
  exact w_vrF X dX7_begin_15 rfl
set_option maxRecDepth 100000 in
set_option maxHeartbeats 600000 in
theorem c7_peek (G : gg_) (hG : gd_ G) (d : Nat) (M : mm_) (n : Nat) (ht : tpX_ M n) : cm_ G yX7_peek cX7_peek 1 (some .int) (d + 1) [.ref (G.1 37)] M (fI_ (pe_ M) M) := by
  refine cm_of hG (by decide) (Nat.le_of_ble_eq_true rfl) (fun C X => ?_)
  refine w_aload_n X dX7_peek_0 rfl rfl ?_
  refine g7_15 X dX7_peek_1 s_37 rfl ?_
  refine w_if_ne (tgt := 21) X dX7_peek_4 (by decide) (fun h4 => ?_) (fun h4 => ?_)
  · refine w_iconst (v := -1) X dX7_peek_21 (by decide) ?_
    refine w_irF X dX7_peek_22 ?_ rfl
    unfold pe_
    exact (if_neg h4).symm
  · refine w_aload_n X dX7_peek_7 rfl rfl ?_
    refine g7_9 X dX7_peek_8 s_37 rfl ?_
    refine w_aload_n X dX7_peek_11 rfl rfl ?_
    refine g7_22 X dX7_peek_12 s_37 rfl ?_
    refine w_v1fI X dX7_peek_15 k7_25 rfl s_35 (c9_at G hG _ _ n ht _) (Nat.le_of_ble_eq_true rfl) ?_
    refine w_goto (tgt := 22) X dX7_peek_18 (by decide) ?_
    refine w_irF X dX7_peek_22 ?_ rfl
    unfold pe_
    exact (if_pos h4).symm
set_option maxRecDepth 100000 in
set_option maxHeartbeats 600000 in
theorem c7_fail (G : gg_) (hG : gd_ G) (d : Nat) (M : mm_) (f w : Int32) : cm_ G yX7_fail cX7_fail 3 none (d) [.ref (G.1 37), .int f, .int w] M (fV_ (fiX_ M f w)) := by
  refine cm_of hG (by decide) (Nat.le_of_ble_eq_true rfl) (fun C X => ?_)
  refine w_aload_n X dX7_fail_0 rfl rfl ?_
  refine g7_15 X dX7_fail_1 s_37 rfl ?_
  refine w_if_ne (tgt := 17) X dX7_fail_4 (by decide) (fun h4 => ?_) (fun h4 => ?_)
  · refine w_vrF X dX7_fail_17 ?_
    unfold fiX_
    exact (if_neg h4).symm
  · refine w_aload_n X dX7_fail_7 rfl rfl ?_
    refine w_iload_n X dX7_fail_8 rfl rfl ?_
    refine p7_15 X dX7_fail_9 s_37 rfl ?_
    refine w_aload_n X dX7_fail_12 rfl rfl ?_
    refine w_iload_n X dX7_fail_13 rfl rfl ?_
    refine p7_19 X dX7_fail_14 s_37 rfl ?_
    refine w_vrF X dX7_fail_17 ?_
    unfold fiX_
    exact (if_pos h4).symm
set_option maxRecDepth 100000 in
set_option maxHeartbeats 600000 in
theorem c7_failAtEnd (G : gg_) (hG : gd_ G) (d : Nat) (M : mm_) : cm_ G yX7_failAtEnd cX7_failAtEnd 1 none (d + 1) [.ref (G.1 37)] M (fV_ (fiX_ M 5 (M.1 35 1))) := by
  refine cm_of hG (by decide) (Nat.le_of_ble_eq_true rfl) (fun C X => ?_)
  refine w_aload_n X dX7_failAtEnd_0 rfl rfl ?_
  refine w_iconst (v := 5) X dX7_failAtEnd_1 (by decide) ?_
  refine w_aload_n X dX7_failAtEnd_2 rfl rfl ?_
  refine g7_9 X dX7_failAtEnd_3 s_37 rfl ?_
  refine g7_31 X dX7_failAtEnd_6 s_35 rfl ?_
  refine w_v2fV X dX7_failAtEnd_9 k7_34 rfl s_37 (c7_fail G hG _ _ _ _) (Nat.le_of_ble_eq_true rfl) ?_
  exact w_vrF X dX7_failAtEnd_12 rfl
def ep_ (M : mm_) (c : Int32) : mm_ := sI_ (if pe_ M = c then M else fiX_ M 1 (M.1 37 1)) 37 1 (M.1 37 1 + 1)
theorem fi_pos (M : mm_) (f w : Int32) : (fiX_ M f w).1 37 1 = M.1 37 1 := by unfold fiX_; split <;> rfl
set_option maxRecDepth 100000 in
set_option maxHeartbeats 600000 in
theorem c7_expect (G : gg_) (hG : gd_ G) (d : Nat) (M : mm_) (n : Nat) (ht : tpX_ M n) (c : Int32) : cm_ G yX7_expect cX7_expect 2 none (d + 2) [.ref (G.1 37), .int c] M (fV_ (ep_ M c)) := by
  refine cm_of hG (by decide) (Nat.le_of_ble_eq_true rfl) (fun C X => ?_)
  refine w_aload_n X dX7_expect_0 rfl rfl ?_
  refine w_v0fI X dX7_expect_1 k7_38 rfl s_37 (c7_peek G hG _ _ n ht) (Nat.le_of_ble_eq_true rfl) ?_
  refine w_iload_n X dX7_expect_4 rfl rfl ?_
  refine w_icmp_eq (tgt := 17) X dX7_expect_5 (by decide) (fun h5 => ?_) (fun h5 => ?_)
  · refine w_aload_n X dX7_expect_17 rfl rfl ?_
    refine w_dup X dX7_expect_18 rfl ?_
    refine g7_22 X dX7_expect_19 s_37 rfl ?_
    refine w_iconst (v := 1) X dX7_expect_22 (by decide) ?_
    refine w_iadd X dX7_expect_23 ?_
    refine p7_22 X dX7_expect_24 s_37 rfl ?_
    refine w_vrF X dX7_expect_27 ?_
    unfold ep_
    rw [if_pos h5]
  · refine w_aload_n X dX7_expect_8 rfl rfl ?_
    refine w_iconst (v := 1) X dX7_expect_9 (by decide) ?_
    refine w_aload_n X dX7_expect_10 rfl rfl ?_
    refine g7_22 X dX7_expect_11 s_37 rfl ?_
    refine w_v2fV X dX7_expect_14 k7_34 rfl s_37 (c7_fail G hG _ _ _ _) (Nat.le_of_ble_eq_true rfl) ?_
    refine w_aload_n X dX7_expect_17 rfl rfl ?_
    refine w_dup X dX7_expect_18 rfl ?_
    refine g7_22 X dX7_expect_19 s_37 rfl ?_
    refine w_iconst (v := 1) X dX7_expect_22 (by decide) ?_
    refine w_iadd X dX7_expect_23 ?_
    refine p7_22 X dX7_expect_24 s_37 rfl ?_
    refine w_vrF X dX7_expect_27 ?_
    unfold ep_
    rw [if_neg h5, fi_pos]

