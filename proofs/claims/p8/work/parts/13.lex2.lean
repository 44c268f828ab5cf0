theorem sI_self (M : mm_) (a i : Nat) : sI_ M a i (M.1 a i) = M := by
  unfold sI_
  obtain ⟨M1, M2, M3⟩ := M
  congr 1; funext x j
  by_cases h : x = a ∧ j = i
  · simp [h]
  · simp [h]
theorem ba_sL (M : mm_) (a i : Nat) (v : Int64) (k : Int32) : ba_ (sL_ M a i v) k = ba_ M k := rfl
theorem bf_sL (M : mm_) (a i : Nat) (v : Int64) (n k : Nat) : bf_ (sL_ M a i v) n k = bf_ M n k := rfl
theorem tz_sL {M : mm_} {a i n : Nat} {v : Int64} (h : tz_ M n) : tz_ (sL_ M a i v) n := h
theorem tz_sI {M : mm_} {a i n : Nat} {v : Int32} (h : tz_ M n) (hq : ¬ ((0 : Nat) = a ∧ 2 = i)) : tz_ (sI_ M a i v) n := ⟨by rw [sI_ne _ _ _ _ hq]; exact h.1, h.2⟩
theorem bf_sI {M : mm_} {a i n k : Nat} {v : Int32} (hq : a ≠ 1) : bf_ (sI_ M a i v) n k = bf_ M n k := by
  unfold bf_
  rw [sI_ne _ _ _ _ (fun q => hq q.1.symm)]
theorem nI_inj {a b : Nat} (ha : a < 2147483648) (hb : b < 2147483648) : nI a = nI b ↔ a = b := nI_eq ha hb
set_option maxRecDepth 100000 in
set_option maxHeartbeats 4000000 in
theorem c12_ended (G : gg_) (hG : gd_ G) (d : Nat) (M : mm_) (n k : Nat) (ht : tz_ M n) (ha : M.1 0 5 = nI k) (hk : k < 2147483648) : cm_ G yX12_ended cX12_ended 2 (some .boolean) (d + 1) [.ref (G.1 0)] M (fI_ (if bf_ M n k < 0 ∨ (¬ M.1 0 14 = 0 ∧ bf_ M n k ≤ 32) then 1 else 0) M) := by
  refine cm_of hG (by decide) (Nat.le_of_ble_eq_true rfl) (fun C X => ?_)
  refine w_aload_n X dX12_ended_0 rfl rfl ?_
  refine w_aload_n X dX12_ended_1 rfl rfl ?_
  refine g12_at X dX12_ended_2 ?_
  try simp only [gI_sI, gI_sL, gL_sI, gL_sL, false_and, and_false, and_self, if_false, if_true, reduceIte, Nat.reduceEqDiff, ha]
  refine w_v1fI X dX12_ended_5 k12_byteAt rfl rfl (c12_byteAt G hG _ _ (nI k) (fun q => tz_in ht hk q)) (Nat.le_of_ble_eq_true rfl) ?_
  rw [ba_bf ht hk]
  refine w_istore_n X dX12_ended_8 rfl (by decide) ?_
  refine w_iload_n X dX12_ended_9 rfl rfl ?_
  refine w_if_lt (tgt := 26) X dX12_ended_10 (by decide) (fun h10 => ?_) (fun h10 => ?_)
  · refine w_iconst (v := 1) X dX12_ended_26 (by decide) ?_
    refine w_goto (tgt := 31) X dX12_ended_27 (by decide) ?_
    refine w_zrF X dX12_ended_31 (by first | exact Or.inl rfl | exact Or.inr rfl) ?_ rfl
    first | (simp [h10]; done) | (simp_all; done)
  · refine w_aload_n X dX12_ended_13 rfl rfl ?_
    refine g12_inCommand X dX12_ended_14 ?_
    try simp only [gI_sI, gI_sL, gL_sI, gL_sL, false_and, and_false, and_self, if_false, if_true, reduceIte, Nat.reduceEqDiff, ha]
    refine w_if_eq (tgt := 30) X dX12_ended_17 (by decide) (fun h17 => ?_) (fun h17 => ?_)
    · refine w_iconst (v := 0) X dX12_ended_30 (by decide) ?_
      refine w_zrF X dX12_ended_31 (by first | exact Or.inl rfl | exact Or.inr rfl) ?_ rfl
      first | (simp [h10, h17]; done) | (simp_all; done)
    · refine w_iload_n X dX12_ended_20 rfl rfl ?_
      refine w_bipush (v := 32) X dX12_ended_21 (by decide) ?_
      refine w_icmp_gt (tgt := 30) X dX12_ended_23 (by decide) (fun h23 => ?_) (fun h23 => ?_)
      · refine w_iconst (v := 0) X dX12_ended_30 (by decide) ?_
        refine w_zrF X dX12_ended_31 (by first | exact Or.inl rfl | exact Or.inr rfl) ?_ rfl
        first | (simp [h10, h17, h23]; done) | (simp_all; done)
      · refine w_iconst (v := 1) X dX12_ended_26 (by decide) ?_
        refine w_goto (tgt := 31) X dX12_ended_27 (by decide) ?_
        refine w_zrF X dX12_ended_31 (by first | exact Or.inl rfl | exact Or.inr rfl) ?_ rfl
        first | (simp [h10, h17, h23]; done) | (simp_all; done)
set_option maxRecDepth 100000 in
set_option maxHeartbeats 4000000 in
theorem c12_want (G : gg_) (hG : gd_ G) (d : Nat) (M : mm_) (n k : Nat) (ht : tz_ M n) (ha : M.1 0 5 = nI k) (hk : k < 2147483647) (c : Int32) : cm_ G yX12_want cX12_want 2 none (d + 1) [.ref (G.1 0), .int c] M (fV_ (if M.1 0 3 = 0 then (if bf_ M n k = c then sI_ M 0 5 (nI (k + 1)) else fa_ M 1 (nI k)) else M)) := by
  refine cm_of hG (by decide) (Nat.le_of_ble_eq_true rfl) (fun C X => ?_)
  refine w_aload_n X dX12_want_0 rfl rfl ?_
  refine g12_fault X dX12_want_1 ?_
  try simp only [gI_sI, gI_sL, gL_sI, gL_sL, false_and, and_false, and_self, if_false, if_true, reduceIte, Nat.reduceEqDiff, ha]
  refine w_if_ne (tgt := 41) X dX12_want_4 (by decide) (fun h4 => ?_) (fun h4 => ?_)
  · refine w_vrF X dX12_want_41 ?_
    simp [h4, nI_1]
  · refine w_aload_n X dX12_want_7 rfl rfl ?_
    refine w_aload_n X dX12_want_8 rfl rfl ?_
    refine g12_at X dX12_want_9 ?_
    try simp only [gI_sI, gI_sL, gL_sI, gL_sL, false_and, and_false, and_self, if_false, if_true, reduceIte, Nat.reduceEqDiff, ha]
    refine w_v1fI X dX12_want_12 k12_byteAt rfl rfl (c12_byteAt G hG _ _ (nI k) (fun q => tz_in ht (by omega) q)) (Nat.le_of_ble_eq_true rfl) ?_
    rw [ba_bf ht (by omega)]
    refine w_iload_n X dX12_want_15 rfl rfl ?_
    refine w_icmp_ne (tgt := 32) X dX12_want_16 (by decide) (fun h16 => ?_) (fun h16 => ?_)
    · refine w_aload_n X dX12_want_32 rfl rfl ?_
      refine w_iconst (v := 1) X dX12_want_33 (by decide) ?_
      refine w_aload_n X dX12_want_34 rfl rfl ?_
      refine g12_at X dX12_want_35 ?_
      try simp only [gI_sI, gI_sL, gL_sI, gL_sL, false_and, and_false, and_self, if_false, if_true, reduceIte, Nat.reduceEqDiff, ha]
      refine w_v2fV X dX12_want_38 k12_fail rfl rfl (c12_fail G hG _ _ _ _) (Nat.le_of_ble_eq_true rfl) ?_
      refine w_vrF X dX12_want_41 ?_
      simp [h4, h16, nI_1]
    · refine w_aload_n X dX12_want_19 rfl rfl ?_
      refine w_dup X dX12_want_20 rfl ?_
      refine g12_at X dX12_want_21 ?_
      try simp only [gI_sI, gI_sL, gL_sI, gL_sL, false_and, and_false, and_self, if_false, if_true, reduceIte, Nat.reduceEqDiff, ha]
      refine w_iconst (v := 1) X dX12_want_24 (by decide) ?_
      refine w_iadd X dX12_want_25 ?_
      refine p12_at X dX12_want_26 ?_
      refine w_goto (tgt := 41) X dX12_want_29 (by decide) ?_
      refine w_vrF X dX12_want_41 ?_
      simp [h4, h16, nI_1]
set_option maxRecDepth 100000 in
set_option maxHeartbeats 4000000 in
theorem c12_endsAt (G : gg_) (hG : gd_ G) (d : Nat) (M : mm_) (n k : Nat) (ht : tz_ M n) (hk : k < 2147483648) : cm_ G yX12_endsAt cX12_endsAt 2 (some .boolean) (d) [.ref (G.1 0), .int (nI k)] M (fI_ (if bf_ M n k ≤ 32 then 1 else 0) M) := by
  refine cm_of hG (by decide) (Nat.le_of_ble_eq_true rfl) (fun C X => ?_)
  refine w_iload_n X dX12_endsAt_0 rfl rfl ?_
  refine w_aload_n X dX12_endsAt_1 rfl rfl ?_
  refine g12_size X dX12_endsAt_2 ?_
  try simp only [gI_sI, gI_sL, gL_sI, gL_sL, false_and, and_false, and_self, if_false, if_true, reduceIte, Nat.reduceEqDiff, ht.1]
  refine w_icmp_ge (tgt := 19) X dX12_endsAt_5 (by decide) (fun h5 => ?_) (fun h5 => ?_)
  · have eb : bf_ M n k = -1 := if_neg (fun q => Int32.not_le.mpr ((nI_ltI hk (by have := ht.2; omega)).mpr q) h5)
    refine w_iconst (v := 1) X dX12_endsAt_19 (by decide) ?_
    refine w_goto (tgt := 24) X dX12_endsAt_20 (by decide) ?_
    refine w_zrF X dX12_endsAt_24 (by first | exact Or.inl rfl | exact Or.inr rfl) ?_ rfl
    rw [eb]
    first | (simp [h5]; done) | (simp_all; done)
  · have hn := ht.2
    have hc : k < n := (nI_ltI hk (by omega)).mp (Int32.not_le.mp h5)
    have eb : bf_ M n k = M.1 1 k := if_pos hc
    refine w_aload_n X dX12_endsAt_8 rfl rfl ?_
    refine g12_tape X dX12_endsAt_9 ?_
    refine w_iload_n X dX12_endsAt_12 rfl rfl ?_
    refine w_ialoadN X dX12_endsAt_13 rfl rfl (⟨by omega, by omega⟩) ?_
    refine w_bipush (v := 32) X dX12_endsAt_14 (by decide) ?_
    refine w_icmp_gt (tgt := 23) X dX12_endsAt_16 (by decide) (fun h16 => ?_) (fun h16 => ?_)
    · refine w_iconst (v := 0) X dX12_endsAt_23 (by decide) ?_
      refine w_zrF X dX12_endsAt_24 (by first | exact Or.inl rfl | exact Or.inr rfl) ?_ rfl
      rw [eb]
      first | (simp [h5, h16]; done) | (simp_all; done)
    · refine w_iconst (v := 1) X dX12_endsAt_19 (by decide) ?_
      refine w_goto (tgt := 24) X dX12_endsAt_20 (by decide) ?_
      refine w_zrF X dX12_endsAt_24 (by first | exact Or.inl rfl | exact Or.inr rfl) ?_ rfl
      rw [eb]
      first | (simp [h5, h16]; done) | (simp_all; done)
set_option maxRecDepth 100000 in
set_option maxHeartbeats 4000000 in
theorem c12_wantBlank (G : gg_) (hG : gd_ G) (d : Nat) (M : mm_) (n k : Nat) (ht : tz_ M n) (ha : M.1 0 5 = nI k) (hk : k < 2147483648) : cm_ G yX12_wantBlank cX12_wantBlank 1 none (d + 1) [.ref (G.1 0)] M (fV_ (if M.1 0 3 = 0 ∧ ¬ bf_ M n k ≤ 32 then fa_ M 1 (nI k) else M)) := by
  refine cm_of hG (by decide) (Nat.le_of_ble_eq_true rfl) (fun C X => ?_)
  refine w_aload_n X dX12_wantBlank_0 rfl rfl ?_
  refine g12_fault X dX12_wantBlank_1 ?_
  try simp only [gI_sI, gI_sL, gL_sI, gL_sL, false_and, and_false, and_self, if_false, if_true, reduceIte, Nat.reduceEqDiff, ha, ht.1]
  refine w_if_ne (tgt := 41) X dX12_wantBlank_4 (by decide) (fun h4 => ?_) (fun h4 => ?_)
  · refine w_vrF X dX12_wantBlank_41 ?_
    try rw [eb]
    first | (simp [h4]; done) | (simp_all; done)
  · refine w_aload_n X dX12_wantBlank_7 rfl rfl ?_
    refine g12_at X dX12_wantBlank_8 ?_
    try simp only [gI_sI, gI_sL, gL_sI, gL_sL, false_and, and_false, and_self, if_false, if_true, reduceIte, Nat.reduceEqDiff, ha, ht.1]
    refine w_aload_n X dX12_wantBlank_11 rfl rfl ?_
    refine g12_size X dX12_wantBlank_12 ?_
    try simp only [gI_sI, gI_sL, gL_sI, gL_sL, false_and, and_false, and_self, if_false, if_true, reduceIte, Nat.reduceEqDiff, ha, ht.1]
    refine w_icmp_ge (tgt := 41) X dX12_wantBlank_15 (by decide) (fun h15 => ?_) (fun h15 => ?_)
    · have eb : bf_ M n k = -1 := if_neg (fun q => Int32.not_le.mpr ((nI_ltI hk (by have := ht.2; omega)).mpr q) h15)
      refine w_vrF X dX12_wantBlank_41 ?_
      try rw [eb]
      first | (simp [h4, h15]; done) | (simp_all; done)
    · have hn := ht.2
      have hc : k < n := (nI_ltI hk (by omega)).mp (Int32.not_le.mp h15)
      have eb : bf_ M n k = M.1 1 k := if_pos hc
      refine w_aload_n X dX12_wantBlank_18 rfl rfl ?_
      refine g12_tape X dX12_wantBlank_19 ?_
      refine w_aload_n X dX12_wantBlank_22 rfl rfl ?_
      refine g12_at X dX12_wantBlank_23 ?_
      try simp only [gI_sI, gI_sL, gL_sI, gL_sL, false_and, and_false, and_self, if_false, if_true, reduceIte, Nat.reduceEqDiff, ha, ht.1]
      refine w_ialoadN X dX12_wantBlank_26 rfl rfl (⟨by omega, by omega⟩) ?_
      refine w_bipush (v := 32) X dX12_wantBlank_27 (by decide) ?_
      refine w_icmp_le (tgt := 41) X dX12_wantBlank_29 (by decide) (fun h29 => ?_) (fun h29 => ?_)
      · refine w_vrF X dX12_wantBlank_41 ?_
        try rw [eb]
        first | (simp [h4, h15, h29]; done) | (simp_all; done)
      · refine w_aload_n X dX12_wantBlank_32 rfl rfl ?_
        refine w_iconst (v := 1) X dX12_wantBlank_33 (by decide) ?_
        refine w_aload_n X dX12_wantBlank_34 rfl rfl ?_
        refine g12_at X dX12_wantBlank_35 ?_
        try simp only [gI_sI, gI_sL, gL_sI, gL_sL, false_and, and_false, and_self, if_false, if_true, reduceIte, Nat.reduceEqDiff, ha, ht.1]
        refine w_v2fV X dX12_wantBlank_38 k12_fail rfl rfl (c12_fail G hG _ _ _ _) (Nat.le_of_ble_eq_true rfl) ?_
        refine w_vrF X dX12_wantBlank_41 ?_
        try rw [eb]
        first | (simp [h4, h15, h29]; done) | (simp_all; done)
set_option maxRecDepth 100000 in
set_option maxHeartbeats 4000000 in
theorem c12_isOver (G : gg_) (hG : gd_ G) (d : Nat) (M : mm_) (h y : Int32) : cm_ G yX12_isOver cX12_isOver 2 (some .boolean) (d) [.int h, .int y] M (fI_ (if (h = 47 ∨ h = 37) ∧ y = 0 then 1 else 0) M) := by
  refine cm_of hG (by decide) (Nat.le_of_ble_eq_true rfl) (fun C X => ?_)
  refine w_iload_n X dX12_isOver_0 rfl rfl ?_
  refine w_bipush (v := 47) X dX12_isOver_1 (by decide) ?_
  refine w_icmp_eq (tgt := 12) X dX12_isOver_3 (by decide) (fun h3 => ?_) (fun h3 => ?_)
  · refine w_iload_n X dX12_isOver_12 rfl rfl ?_
    refine w_if_ne (tgt := 20) X dX12_isOver_13 (by decide) (fun h13 => ?_) (fun h13 => ?_)
    · refine w_iconst (v := 0) X dX12_isOver_20 (by decide) ?_
      refine w_zrF X dX12_isOver_21 (by first | exact Or.inl rfl | exact Or.inr rfl) ?_ rfl
      first | (simp [h3, h13]; done) | (simp_all; done)
    · refine w_iconst (v := 1) X dX12_isOver_16 (by decide) ?_
      refine w_goto (tgt := 21) X dX12_isOver_17 (by decide) ?_
      refine w_zrF X dX12_isOver_21 (by first | exact Or.inl rfl | exact Or.inr rfl) ?_ rfl
      first | (simp [h3, h13]; done) | (simp_all; done)
  · refine w_iload_n X dX12_isOver_6 rfl rfl ?_
    refine w_bipush (v := 37) X dX12_isOver_7 (by decide) ?_
    refine w_icmp_ne (tgt := 20) X dX12_isOver_9 (by decide) (fun h9 => ?_) (fun h9 => ?_)
    · refine w_iconst (v := 0) X dX12_isOver_20 (by decide) ?_
      refine w_zrF X dX12_isOver_21 (by first | exact Or.inl rfl | exact Or.inr rfl) ?_ rfl
      first | (simp [h3, h9]; done) | (simp_all; done)
    · refine w_iload_n X dX12_isOver_12 rfl rfl ?_
      refine w_if_ne (tgt := 20) X dX12_isOver_13 (by decide) (fun h13 => ?_) (fun h13 => ?_)
      · refine w_iconst (v := 0) X dX12_isOver_20 (by decide) ?_
        refine w_zrF X dX12_isOver_21 (by first | exact Or.inl rfl | exact Or.inr rfl) ?_ rfl
        first | (simp [h3, h9, h13]; done) | (simp_all; done)
      · refine w_iconst (v := 1) X dX12_isOver_16 (by decide) ?_
        refine w_goto (tgt := 21) X dX12_isOver_17 (by decide) ?_
        refine w_zrF X dX12_isOver_21 (by first | exact Or.inl rfl | exact Or.inr rfl) ?_ rfl
        first | (simp [h3, h9, h13]; done) | (simp_all; done)
set_option maxRecDepth 100000 in
set_option maxHeartbeats 4000000 in
theorem c12_word (G : gg_) (hG : gd_ G) (d : Nat) (M : mm_) (a b c e : Int32) : cm_ G yX12_word cX12_word 4 (some .long) (d) [.int a, .int b, .int c, .int e] M (fL_ ((((a.toInt64 <<< ((15 : Int32).toInt64 &&& 63)) ||| (b.toInt64 <<< ((10 : Int32).toInt64 &&& 63))) ||| (c.toInt64 <<< ((5 : Int32).toInt64 &&& 63)) ||| e.toInt64) &&& 1048575) M) := by
  refine cm_of hG (by decide) (Nat.le_of_ble_eq_true rfl) (fun C X => ?_)
  refine w_iload_n X dX12_word_0 rfl rfl ?_
  refine w_i2l X dX12_word_1 ?_
  refine w_bipush (v := 15) X dX12_word_2 (by decide) ?_
  refine w_lshl X dX12_word_4 ?_
  refine w_iload_n X dX12_word_5 rfl rfl ?_
  refine w_i2l X dX12_word_6 ?_
  refine w_bipush (v := 10) X dX12_word_7 (by decide) ?_
  refine w_lshl X dX12_word_9 ?_
  refine w_lor X dX12_word_10 ?_
  refine w_iload_n X dX12_word_11 rfl rfl ?_
  refine w_i2l X dX12_word_12 ?_
  refine w_iconst (v := 5) X dX12_word_13 (by decide) ?_
  refine w_lshl X dX12_word_14 ?_
  refine w_lor X dX12_word_15 ?_
  refine w_iload_n X dX12_word_16 rfl rfl ?_
  refine w_i2l X dX12_word_17 ?_
  refine w_lor X dX12_word_18 ?_
  refine w_ldc2 X dX12_word_19 q12_279 ?_
  refine w_land X dX12_word_22 ?_
  exact w_lrF X dX12_word_23 rfl rfl
