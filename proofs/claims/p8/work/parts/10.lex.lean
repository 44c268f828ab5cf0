/-! the reference's leaves: bytes, faults -/
def il_ (c : Int32) : Int32 := if 97 ≤ c ∧ c ≤ 122 then 1 else 0
def ig_ (c : Int32) : Int32 := if 48 ≤ c ∧ c ≤ 57 then 1 else 0
def io_ (c : Int32) : Int32 := if il_ c = 1 ∨ c = 46 then 1 else 0
theorem il_01 (c : Int32) : il_ c = 0 ∨ il_ c = 1 := by unfold il_; split <;> simp
theorem ig_01 (c : Int32) : ig_ c = 0 ∨ ig_ c = 1 := by unfold ig_; split <;> simp
theorem io_01 (c : Int32) : io_ c = 0 ∨ io_ c = 1 := by unfold io_; split <;> simp
/-- the byte at place k of a tape of n bytes -/
def ba_ (M : mm_) (k : Int32) : Int32 := if k < M.1 0 2 then M.1 1 k.toNatClampNeg else -1
def fa_ (M : mm_) (f w : Int32) : mm_ := if M.1 0 3 = 0 then sI_ (sI_ M 0 3 f) 0 4 w else M
set_option maxRecDepth 100000 in
set_option maxHeartbeats 4000000 in
theorem c12_isLetter (G : gg_) (hG : gd_ G) (d : Nat) (M : mm_) (c : Int32) : cm_ G yX12_isLetter cX12_isLetter 1 (some .boolean) (d) [.int c] M (fI_ (il_ c) M) := by
  refine cm_of hG (by decide) (Nat.le_of_ble_eq_true rfl) (fun C X => ?_)
  refine w_iload_n X dX12_isLetter_0 rfl rfl ?_
  refine w_bipush (v := 97) X dX12_isLetter_1 (by decide) ?_
  refine w_icmp_lt (tgt := 16) X dX12_isLetter_3 (by decide) (fun h3 => ?_) (fun h3 => ?_)
  · refine w_iconst (v := 0) X dX12_isLetter_16 (by decide) ?_
    refine w_zrF X dX12_isLetter_17 (by first | exact Or.inl rfl | exact Or.inr rfl) ?_ rfl
    unfold il_
    first | exact (if_pos ⟨Int32.not_lt.mp h3, Int32.not_lt.mp h9⟩).symm | exact (if_neg (fun q => Int32.not_le.mpr h3 q.1)).symm | exact (if_neg (fun q => Int32.not_le.mpr h9 q.2)).symm
  · refine w_iload_n X dX12_isLetter_6 rfl rfl ?_
    refine w_bipush (v := 122) X dX12_isLetter_7 (by decide) ?_
    refine w_icmp_gt (tgt := 16) X dX12_isLetter_9 (by decide) (fun h9 => ?_) (fun h9 => ?_)
    · refine w_iconst (v := 0) X dX12_isLetter_16 (by decide) ?_
      refine w_zrF X dX12_isLetter_17 (by first | exact Or.inl rfl | exact Or.inr rfl) ?_ rfl
      unfold il_
      first | exact (if_pos ⟨Int32.not_lt.mp h3, Int32.not_lt.mp h9⟩).symm | exact (if_neg (fun q => Int32.not_le.mpr h3 q.1)).symm | exact (if_neg (fun q => Int32.not_le.mpr h9 q.2)).symm
    · refine w_iconst (v := 1) X dX12_isLetter_12 (by decide) ?_
      refine w_goto (tgt := 17) X dX12_isLetter_13 (by decide) ?_
      refine w_zrF X dX12_isLetter_17 (by first | exact Or.inl rfl | exact Or.inr rfl) ?_ rfl
      unfold il_
      first | exact (if_pos ⟨Int32.not_lt.mp h3, Int32.not_lt.mp h9⟩).symm | exact (if_neg (fun q => Int32.not_le.mpr h3 q.1)).symm | exact (if_neg (fun q => Int32.not_le.mpr h9 q.2)).symm
set_option maxRecDepth 100000 in
set_option maxHeartbeats 4000000 in
theorem c12_isFigure (G : gg_) (hG : gd_ G) (d : Nat) (M : mm_) (c : Int32) : cm_ G yX12_isFigure cX12_isFigure 1 (some .boolean) (d) [.int c] M (fI_ (ig_ c) M) := by
  refine cm_of hG (by decide) (Nat.le_of_ble_eq_true rfl) (fun C X => ?_)
  refine w_iload_n X dX12_isFigure_0 rfl rfl ?_
  refine w_bipush (v := 48) X dX12_isFigure_1 (by decide) ?_
  refine w_icmp_lt (tgt := 16) X dX12_isFigure_3 (by decide) (fun h3 => ?_) (fun h3 => ?_)
  · refine w_iconst (v := 0) X dX12_isFigure_16 (by decide) ?_
    refine w_zrF X dX12_isFigure_17 (by first | exact Or.inl rfl | exact Or.inr rfl) ?_ rfl
    unfold ig_
    first | exact (if_pos ⟨Int32.not_lt.mp h3, Int32.not_lt.mp h9⟩).symm | exact (if_neg (fun q => Int32.not_le.mpr h3 q.1)).symm | exact (if_neg (fun q => Int32.not_le.mpr h9 q.2)).symm
  · refine w_iload_n X dX12_isFigure_6 rfl rfl ?_
    refine w_bipush (v := 57) X dX12_isFigure_7 (by decide) ?_
    refine w_icmp_gt (tgt := 16) X dX12_isFigure_9 (by decide) (fun h9 => ?_) (fun h9 => ?_)
    · refine w_iconst (v := 0) X dX12_isFigure_16 (by decide) ?_
      refine w_zrF X dX12_isFigure_17 (by first | exact Or.inl rfl | exact Or.inr rfl) ?_ rfl
      unfold ig_
      first | exact (if_pos ⟨Int32.not_lt.mp h3, Int32.not_lt.mp h9⟩).symm | exact (if_neg (fun q => Int32.not_le.mpr h3 q.1)).symm | exact (if_neg (fun q => Int32.not_le.mpr h9 q.2)).symm
    · refine w_iconst (v := 1) X dX12_isFigure_12 (by decide) ?_
      refine w_goto (tgt := 17) X dX12_isFigure_13 (by decide) ?_
      refine w_zrF X dX12_isFigure_17 (by first | exact Or.inl rfl | exact Or.inr rfl) ?_ rfl
      unfold ig_
      first | exact (if_pos ⟨Int32.not_lt.mp h3, Int32.not_lt.mp h9⟩).symm | exact (if_neg (fun q => Int32.not_le.mpr h3 q.1)).symm | exact (if_neg (fun q => Int32.not_le.mpr h9 q.2)).symm
set_option maxRecDepth 100000 in
set_option maxHeartbeats 4000000 in
theorem c12_isOfRow (G : gg_) (hG : gd_ G) (d : Nat) (M : mm_) (c : Int32) : cm_ G yX12_isOfRow cX12_isOfRow 1 (some .boolean) (d + 1) [.int c] M (fI_ (io_ c) M) := by
  refine cm_of hG (by decide) (Nat.le_of_ble_eq_true rfl) (fun C X => ?_)
  refine w_iload_n X dX12_isOfRow_0 rfl rfl ?_
  refine w_s1fI X dX12_isOfRow_1 k12_isLetter (c12_isLetter G hG _ _ _) (Nat.le_of_ble_eq_true rfl) ?_
  refine w_if_ne (tgt := 13) X dX12_isOfRow_4 (by decide) (fun h4 => ?_) (fun h4 => ?_)
  · refine w_iconst (v := 1) X dX12_isOfRow_13 (by decide) ?_
    refine w_goto (tgt := 18) X dX12_isOfRow_14 (by decide) ?_
    refine w_zrF X dX12_isOfRow_18 (by first | exact Or.inl rfl | exact Or.inr rfl) ?_ rfl
    unfold io_
    rcases il_01 c with h0 | h0 <;> simp_all
  · refine w_iload_n X dX12_isOfRow_7 rfl rfl ?_
    refine w_bipush (v := 46) X dX12_isOfRow_8 (by decide) ?_
    refine w_icmp_ne (tgt := 17) X dX12_isOfRow_10 (by decide) (fun h10 => ?_) (fun h10 => ?_)
    · refine w_iconst (v := 0) X dX12_isOfRow_17 (by decide) ?_
      refine w_zrF X dX12_isOfRow_18 (by first | exact Or.inl rfl | exact Or.inr rfl) ?_ rfl
      unfold io_
      rcases il_01 c with h0 | h0 <;> simp_all
    · refine w_iconst (v := 1) X dX12_isOfRow_13 (by decide) ?_
      refine w_goto (tgt := 18) X dX12_isOfRow_14 (by decide) ?_
      refine w_zrF X dX12_isOfRow_18 (by first | exact Or.inl rfl | exact Or.inr rfl) ?_ rfl
      unfold io_
      rcases il_01 c with h0 | h0 <;> simp_all
set_option maxRecDepth 100000 in
set_option maxHeartbeats 4000000 in
theorem c12_byteAt (G : gg_) (hG : gd_ G) (d : Nat) (M : mm_) (k : Int32) (hk : k < M.1 0 2 → vp_in k 200) : cm_ G yX12_byteAt cX12_byteAt 2 (some .int) (d) [.ref (G.1 0), .int k] M (fI_ (ba_ M k) M) := by
  refine cm_of hG (by decide) (Nat.le_of_ble_eq_true rfl) (fun C X => ?_)
  refine w_iload_n X dX12_byteAt_0 rfl rfl ?_
  refine w_aload_n X dX12_byteAt_1 rfl rfl ?_
  refine g12_size X dX12_byteAt_2 ?_
  refine w_icmp_ge (tgt := 17) X dX12_byteAt_5 (by decide) (fun h5 => ?_) (fun h5 => ?_)
  · refine w_iconst (v := -1) X dX12_byteAt_17 (by decide) ?_
    refine w_irF X dX12_byteAt_18 ?_ rfl
    unfold ba_
    first | exact (if_pos (Int32.not_le.mp h5)).symm | exact (if_neg (Int32.not_lt.mpr h5)).symm
  · refine w_aload_n X dX12_byteAt_8 rfl rfl ?_
    refine g12_tape X dX12_byteAt_9 ?_
    refine w_iload_n X dX12_byteAt_12 rfl rfl ?_
    refine w_iaload X dX12_byteAt_13 rfl rfl (hk (Int32.not_le.mp h5)) ?_
    refine w_goto (tgt := 18) X dX12_byteAt_14 (by decide) ?_
    refine w_irF X dX12_byteAt_18 ?_ rfl
    unfold ba_
    first | exact (if_pos (Int32.not_le.mp h5)).symm | exact (if_neg (Int32.not_lt.mpr h5)).symm
set_option maxRecDepth 100000 in
set_option maxHeartbeats 4000000 in
theorem c12_fail (G : gg_) (hG : gd_ G) (d : Nat) (M : mm_) (f w : Int32) : cm_ G yX12_fail cX12_fail 3 none (d) [.ref (G.1 0), .int f, .int w] M (fV_ (fa_ M f w)) := by
  refine cm_of hG (by decide) (Nat.le_of_ble_eq_true rfl) (fun C X => ?_)
  refine w_aload_n X dX12_fail_0 rfl rfl ?_
  refine g12_fault X dX12_fail_1 ?_
  refine w_if_ne (tgt := 17) X dX12_fail_4 (by decide) (fun h4 => ?_) (fun h4 => ?_)
  · refine w_vrF X dX12_fail_17 ?_
    unfold fa_
    first | exact (if_pos (Decidable.not_not.mp h4)).symm | exact (if_neg h4).symm | exact (if_pos h4).symm
  · refine w_aload_n X dX12_fail_7 rfl rfl ?_
    refine w_iload_n X dX12_fail_8 rfl rfl ?_
    refine p12_fault X dX12_fail_9 ?_
    refine w_aload_n X dX12_fail_12 rfl rfl ?_
    refine w_iload_n X dX12_fail_13 rfl rfl ?_
    refine p12_place X dX12_fail_14 ?_
    refine w_vrF X dX12_fail_17 ?_
    unfold fa_
    first | exact (if_pos (Decidable.not_not.mp h4)).symm | exact (if_neg h4).symm | exact (if_pos h4).symm
set_option maxRecDepth 100000 in
set_option maxHeartbeats 4000000 in
theorem c12_fault (G : gg_) (hG : gd_ G) (d : Nat) (M : mm_) : cm_ G yX12_fault cX12_fault 1 (some .int) (d) [.ref (G.1 0)] M (fI_ (M.1 0 3) (sI_ M 0 0 0)) := by
  refine cm_of hG (by decide) (Nat.le_of_ble_eq_true rfl) (fun C X => ?_)
  refine w_aload_n X dX12_fault_0 rfl rfl ?_
  refine w_iconst (v := 0) X dX12_fault_1 (by decide) ?_
  refine p12_thrown X dX12_fault_2 ?_
  refine w_aload_n X dX12_fault_5 rfl rfl ?_
  refine g12_fault X dX12_fault_6 ?_
  exact w_irF X dX12_fault_9 (by simp [sI_]) rfl
set_option maxRecDepth 100000 in
set_option maxHeartbeats 4000000 in
theorem c12_wipe (G : gg_) (hG : gd_ G) (d : Nat) (M : mm_) : cm_ G yX12_wipe cX12_wipe 2 (some .int) (d) [.ref (G.1 0)] M (fI_ (M.1 0 2) (sI_ (sI_ M 0 0 0) 0 2 0)) := by
  refine cm_of hG (by decide) (Nat.le_of_ble_eq_true rfl) (fun C X => ?_)
  refine w_aload_n X dX12_wipe_0 rfl rfl ?_
  refine w_iconst (v := 0) X dX12_wipe_1 (by decide) ?_
  refine p12_thrown X dX12_wipe_2 ?_
  refine w_aload_n X dX12_wipe_5 rfl rfl ?_
  refine g12_size X dX12_wipe_6 ?_
  refine w_istore_n X dX12_wipe_9 rfl (by decide) ?_
  refine w_aload_n X dX12_wipe_10 rfl rfl ?_
  refine w_iconst (v := 0) X dX12_wipe_11 (by decide) ?_
  refine p12_size X dX12_wipe_12 ?_
  refine w_iload_n X dX12_wipe_15 rfl rfl ?_
  exact w_irF X dX12_wipe_16 (by simp [sI_]) rfl
