section
/-! the reference's leaves: bytes, faults -/
def il_ (c : Int32) : Int32 := if 97 ≤ c ∧ c ≤ 122 then 1 else 0
def ig_ (c : Int32) : Int32 := if 48 ≤ c ∧ c ≤ 57 then 1 else 0
def io_ (c : Int32) : Int32 := if il_ c = 1 ∨ c = 46 then 1 else 0
theorem il_01 (c : Int32) : il_ c = 0 ∨ il_ c = 1 := by unfold il_; split <;> simp
theorem ig_01 (c : Int32) : ig_ c = 0 ∨ ig_ c = 1 := by unfold ig_; split <;> simp
theorem io_01 (c : Int32) : io_ c = 0 ∨ io_ c = 1 := by unfold io_; split <;> simp
/-- the byte at place k of a tape of n bytes -/
def ba_ (M : mm_) (k : Int32) : Int32 := if k < M.1 0 2 then M.1 1 k.toNatClampNeg else -1
def fa_ (M : mm_) (f w : Int32) : mm_ := if M.1 0 3 = 0 then sI_ (sI_ M 0 3 f) 0 4 w else M
set_option maxRecDepth 100000 in
set_option maxHeartbeats 4000000 in
theorem c12_isLetter (G : gg_) (hG : gd_ G) (d : Nat) (M : mm_) (c : Int32) : cm_ G yX12_isLetter cX12_isLetter 1 (some .boolean) (d) [.int c] M (fI_ (il_ c) M) := by
  refine cm_of hG (by decide) (Nat.le_of_ble_eq_true rfl) (fun C X => ?_)
  refine w_iload_n X dX12_isLetter_0 rfl rfl ?_
  refine w_bipush (v := 97) X dX12_isLetter_1 (by decide) ?_
  refine w_icmp_lt (tgt := 16) X dX12_isLetter_3 (by decide) (fun h3 => ?_) (fun h3 => ?_)
  · refine w_iconst (v := 0) X dX12_isLetter_16 (by decide) ?_
    refine w_zrF X dX12_isLetter_17 (by first | exact Or.inl rfl | exact Or.inr rfl) ?_ rfl
    unfold il_
    first | exact (if_pos ⟨Int32.not_lt.mp h3, Int32.not_lt.mp h9⟩).symm | exact (if_neg (fun q => Int32.not_le.mpr h3 q.1)).symm | exact (if_neg (fun q => Int32.not_le.mpr h9 q.2)).symm
  · refine w_iload_n X dX12_isLetter_6 rfl rfl ?_
    refine w_bipush (v := 122) X dX12_isLetter_7 (by decide) ?_
    refine w_icmp_gt (tgt := 16) X dX12_isLetter_9 (by decide) (fun h9 => ?_) (fun h9 => ?_)
    · refine w_iconst (v := 0) X dX12_isLetter_16 (by decide) ?_
      refine w_zrF X dX12_isLetter_17 (by first | exact Or.inl rfl | exact Or.inr rfl) ?_ rfl
      unfold il_
      first | exact (if_pos ⟨Int32.not_lt.mp h3, Int32.not_lt.mp h9⟩).symm | exact (if_neg (fun q => Int32.not_le.mpr h3 q.1)).symm | exact (if_neg (fun q => Int32.not_le.mpr h9 q.2)).symm
    · refine w_iconst (v := 1) X dX12_isLetter_12 (by decide) ?_
      refine w_goto (tgt := 17) X dX12_isLetter_13 (by decide) ?_
      refine w_zrF X dX12_isLetter_17 (by first | exact Or.inl rfl | exact Or.inr rfl) ?_ rfl
      unfold il_
      first | exact (if_pos ⟨Int32.not_lt.mp h3, Int32.not_lt.mp h9⟩).symm | exact (if_neg (fun q => Int32.not_le.mpr h3 q.1)).symm | exact (if_neg (fun q => Int32.not_le.mpr h9 q.2)).symm
set_option maxRecDepth 100000 in
set_option maxHeartbeats 4000000 in
theorem c12_isFigure (G : gg_) (hG : gd_ G) (d : Nat) (M : mm_) (c : Int32) : cm_ G yX12_isFigure cX12_isFigure 1 (some .boolean) (d) [.int c] M (fI_ (ig_ c) M) := by
  refine cm_of hG (by decide) (Nat.le_of_ble_eq_true rfl) (fun C X => ?_)
  refine w_iload_n X dX12_isFigure_0 rfl rfl ?_
  refine w_bipush (v := 48) X dX12_isFigure_1 (by decide) ?_
  refine w_icmp_lt (tgt := 16) X dX12_isFigure_3 (by decide) (fun h3 => ?_) (fun h3 => ?_)
  · refine w_iconst (v := 0) X dX12_isFigure_16 (by decide) ?_
    refine w_zrF X dX12_isFigure_17 (by first | exact Or.inl rfl | exact Or.inr rfl) ?_ rfl
    unfold ig_
    first | exact (if_pos ⟨Int32.not_lt.mp h3, Int32.not_lt.mp h9⟩).symm | exact (if_neg (fun q => Int32.not_le.mpr h3 q.1)).symm | exact (if_neg (fun q => Int32.not_le.mpr h9 q.2)).symm
  · refine w_iload_n X dX12_isFigure_6 rfl rfl ?_
    refine w_bipush (v := 57) X dX12_isFigure_7 (by decide) ?_
    refine w_icmp_gt (tgt := 16) X dX12_isFigure_9 (by decide) (fun h9 => ?_) (fun h9 => ?_)
    · refine w_iconst (v := 0) X dX12_isFigure_16 (by decide) ?_
      refine w_zrF X dX12_isFigure_17 (by first | exact Or.inl rfl | exact Or.inr rfl) ?_ rfl
      unfold ig_
      first | exact (if_pos ⟨Int32.not_lt.mp h3, Int32.not_lt.mp h9⟩).symm | exact (if_neg (fun q => Int32.not_le.mpr h3 q.1)).symm | exact (if_neg (fun q => Int32.not_le.mpr h9 q.2)).symm
    · refine w_iconst (v := 1) X dX12_isFigure_12 (by decide) ?_
      refine w_goto (tgt := 17) X dX12_isFigure_13 (by decide) ?_
      refine w_zrF X dX12_isFigure_17 (by first | exact Or.inl rfl | exact Or.inr rfl) ?_ rfl
      unfold ig_
      first | exact (if_pos ⟨Int32.not_lt.mp h3, Int32.not_lt.mp h9⟩).symm | exact (if_neg (fun q => Int32.not_le.mpr h3 q.1)).symm | exact (if_neg (fun q => Int32.not_le.mpr h9 q.2)).symm
set_option maxRecDepth 100000 in
set_option maxHeartbeats 4000000 in
theorem c12_isOfRow (G : gg_) (hG : gd_ G) (d : Nat) (M : mm_) (c : Int32) : cm_ G yX12_isOfRow cX12_isOfRow 1 (some .boolean) (d + 1) [.int c] M (fI_ (io_ c) M) := by
  refine cm_of hG (by decide) (Nat.le_of_ble_eq_true rfl) (fun C X => ?_)
  refine w_iload_n X dX12_isOfRow_0 rfl rfl ?_
  refine w_s1fI X dX12_isOfRow_1 k12_isLetter (c12_isLetter G hG _ _ _) (Nat.le_of_ble_eq_true rfl) ?_
  refine w_if_ne (tgt := 13) X dX12_isOfRow_4 (by decide) (fun h4 => ?_) (fun h4 => ?_)
  · refine w_iconst (v := 1) X dX12_isOfRow_13 (by decide) ?_
    refine w_goto (tgt := 18) X dX12_isOfRow_14 (by decide) ?_
    refine w_zrF X dX12_isOfRow_18 (by first | exact Or.inl rfl | exact Or.inr rfl) ?_ rfl
    unfold io_
    rcases il_01 c with h0 | h0 <;> simp_all
  · refine w_iload_n X dX12_isOfRow_7 rfl rfl ?_
    refine w_bipush (v := 46) X dX12_isOfRow_8 (by decide) ?_
    refine w_icmp_ne (tgt := 17) X dX12_isOfRow_10 (by decide) (fun h10 => ?_) (fun h10 => ?_)
    · refine w_iconst (v := 0) X dX12_isOfRow_17 (by decide) ?_
      refine w_zrF X dX12_isOfRow_18 (by first | exact Or.inl rfl | exact Or.inr rfl) ?_ rfl
      unfold io_
      rcases il_01 c with h0 | h0 <;> simp_all
    · refine w_iconst (v := 1) X dX12_isOfRow_13 (by decide) ?_
      refine w_goto (tgt := 18) X dX12_isOfRow_14 (by decide) ?_
      refine w_zrF X dX12_isOfRow_18 (by first | exact Or.inl rfl | exact Or.inr rfl) ?_ rfl
      unfold io_
      rcases il_01 c with h0 | h0 <;> simp_all
set_option maxRecDepth 100000 in
set_option maxHeartbeats 4000000 in
theorem c12_byteAt (G : gg_) (hG : gd_ G) (d : Nat) (M : mm_) (k : Int32) (hk : k < M.1 0 2 → vp_in k 200) : cm_ G yX12_byteAt cX12_byteAt 2 (some .int) (d) [.ref (G.1 0), .int k] M (fI_ (ba_ M k) M) := by
  refine cm_of hG (by decide) (Nat.le_of_ble_eq_true rfl) (fun C X => ?_)
  refine w_iload_n X dX12_byteAt_0 rfl rfl ?_
  refine w_aload_n X dX12_byteAt_1 rfl rfl ?_
  refine g12_size X dX12_byteAt_2 ?_
  refine w_icmp_ge (tgt := 17) X dX12_byteAt_5 (by decide) (fun h5 => ?_) (fun h5 => ?_)
  · refine w_iconst (v := -1) X dX12_byteAt_17 (by decide) ?_
    refine w_irF X dX12_byteAt_18 ?_ rfl
    unfold ba_
    first | exact (if_pos (Int32.not_le.mp h5)).symm | exact (if_neg (Int32.not_lt.mpr h5)).symm
  · refine w_aload_n X dX12_byteAt_8 rfl rfl ?_
    refine g12_tape X dX12_byteAt_9 ?_
    refine w_iload_n X dX12_byteAt_12 rfl rfl ?_
    refine w_iaload X dX12_byteAt_13 rfl rfl (hk (Int32.not_le.mp h5)) ?_
    refine w_goto (tgt := 18) X dX12_byteAt_14 (by decide) ?_
    refine w_irF X dX12_byteAt_18 ?_ rfl
    unfold ba_
    first | exact (if_pos (Int32.not_le.mp h5)).symm | exact (if_neg (Int32.not_lt.mpr h5)).symm
set_option maxRecDepth 100000 in
set_option maxHeartbeats 4000000 in
theorem c12_fail (G : gg_) (hG : gd_ G) (d : Nat) (M : mm_) (f w : Int32) : cm_ G yX12_fail cX12_fail 3 none (d) [.ref (G.1 0), .int f, .int w] M (fV_ (fa_ M f w)) := by
  refine cm_of hG (by decide) (Nat.le_of_ble_eq_true rfl) (fun C X => ?_)
  refine w_aload_n X dX12_fail_0 rfl rfl ?_
  refine g12_fault X dX12_fail_1 ?_
  refine w_if_ne (tgt := 17) X dX12_fail_4 (by decide) (fun h4 => ?_) (fun h4 => ?_)
  · refine w_vrF X dX12_fail_17 ?_
    unfold fa_
    first | exact (if_pos (Decidable.not_not.mp h4)).symm | exact (if_neg h4).symm | exact (if_pos h4).symm
  · refine w_aload_n X dX12_fail_7 rfl rfl ?_
    refine w_iload_n X dX12_fail_8 rfl rfl ?_
    refine p12_fault X dX12_fail_9 ?_
    refine w_aload_n X dX12_fail_12 rfl rfl ?_
    refine w_iload_n X dX12_fail_13 rfl rfl ?_
    refine p12_place X dX12_fail_14 ?_
    refine w_vrF X dX12_fail_17 ?_
    unfold fa_
    first | exact (if_pos (Decidable.not_not.mp h4)).symm | exact (if_neg h4).symm | exact (if_pos h4).symm
set_option maxRecDepth 100000 in
set_option maxHeartbeats 4000000 in
theorem c12_fault (G : gg_) (hG : gd_ G) (d : Nat) (M : mm_) : cm_ G yX12_fault cX12_fault 1 (some .int) (d) [.ref (G.1 0)] M (fI_ (M.1 0 3) (sI_ M 0 0 0)) := by
  refine cm_of hG (by decide) (Nat.le_of_ble_eq_true rfl) (fun C X => ?_)
  refine w_aload_n X dX12_fault_0 rfl rfl ?_
  refine w_iconst (v := 0) X dX12_fault_1 (by decide) ?_
  refine p12_thrown X dX12_fault_2 ?_
  refine w_aload_n X dX12_fault_5 rfl rfl ?_
  refine g12_fault X dX12_fault_6 ?_
  exact w_irF X dX12_fault_9 (by simp [sI_]) rfl
set_option maxRecDepth 100000 in
set_option maxHeartbeats 4000000 in
theorem c12_wipe (G : gg_) (hG : gd_ G) (d : Nat) (M : mm_) : cm_ G yX12_wipe cX12_wipe 2 (some .int) (d) [.ref (G.1 0)] M (fI_ (M.1 0 2) (sI_ (sI_ M 0 0 0) 0 2 0)) := by
  refine cm_of hG (by decide) (Nat.le_of_ble_eq_true rfl) (fun C X => ?_)
  refine w_aload_n X dX12_wipe_0 rfl rfl ?_
  refine w_iconst (v := 0) X dX12_wipe_1 (by decide) ?_
  refine p12_thrown X dX12_wipe_2 ?_
  refine w_aload_n X dX12_wipe_5 rfl rfl ?_
  refine g12_size X dX12_wipe_6 ?_
  refine w_istore_n X dX12_wipe_9 rfl (by decide) ?_
  refine w_aload_n X dX12_wipe_10 rfl rfl ?_
  refine w_iconst (v := 0) X dX12_wipe_11 (by decide) ?_
  refine p12_size X dX12_wipe_12 ?_
  refine w_iload_n X dX12_wipe_15 rfl rfl ?_
  exact w_irF X dX12_wipe_16 (by simp [sI_]) rfl

end
section
/-! the reference's rows and names -/
theorem sI_sI (M : mm_) (a i : Nat) (v w : Int32) : sI_ (sI_ M a i v) a i w = sI_ M a i w := by
  unfold sI_; congr 1; funext x j; by_cases h : x = a ∧ j = i <;> simp [h]
theorem sL_sL (M : mm_) (a i : Nat) (v w : Int64) : sL_ (sL_ M a i v) a i w = sL_ M a i w := by
  unfold sL_; congr 2; funext x j; by_cases h : x = a ∧ j = i <;> simp [h]
theorem sI_at (M : mm_) (a i : Nat) (v : Int32) : (sI_ M a i v).1 a i = v := by simp [sI_]
theorem sI_ne (M : mm_) (a i : Nat) (v : Int32) {x j : Nat} (h : ¬ (x = a ∧ j = i)) : (sI_ M a i v).1 x j = M.1 x j := by simp only [sI_, if_neg h]
theorem sL_ne (M : mm_) (a i : Nat) (v : Int64) {x j : Nat} (h : ¬ (x = a ∧ j = i)) : (sL_ M a i v).2.1 x j = M.2.1 x j := by simp only [sL_, if_neg h]
/-- the tape has n bytes -/
def tz_ (M : mm_) (n : Nat) : Prop := M.1 0 2 = nI n ∧ n ≤ 200
def bf_ (M : mm_) (n k : Nat) : Int32 := if k < n then M.1 1 k else -1
theorem ba_bf {M : mm_} {n k : Nat} (h : tz_ M n) (hk : k < 2 ^ 31) : ba_ M (nI k) = bf_ M n k := by
  unfold ba_ bf_
  rw [h.1]
  have hn := h.2
  by_cases hc : k < n
  · rw [if_pos ((nI_ltI hk (by omega)).mpr hc), if_pos hc, pk_cl k rfl hk]
  · rw [if_neg (fun q => hc ((nI_ltI hk (by omega)).mp q)), if_neg hc]
theorem tz_in {M : mm_} {n k : Nat} (h : tz_ M n) (hk : k < 2 ^ 31) (q : nI k < M.1 0 2) : vp_in (nI k) 200 := by
  have hn := h.2
  rw [h.1] at q
  have := (nI_ltI hk (by omega)).mp q
  exact vp_in_nI (by omega) (by omega)
def rn_ (f : Nat → Int32) : Nat → Nat → Nat
  | 0, _ => 0
  | u + 1, k => if io_ (f k) = 1 then rn_ f u (k + 1) + 1 else 0
theorem rn_le (f : Nat → Int32) : ∀ u k, rn_ f u k ≤ u
  | 0, _ => Nat.le_refl _
  | u + 1, k => by
    unfold rn_
    split
    · exact Nat.succ_le_succ (rn_le f u (k + 1))
    · exact Nat.zero_le _
/-- how many letters and points stand from place k on -/
def rz_ (M : mm_) (n k : Nat) : Nat := rn_ (bf_ M n) (n - k) k
theorem rz_le (M : mm_) (n k : Nat) : rz_ M n k ≤ n - k := rn_le _ _ _
def nc_ (c : Int32) : Int32 := if c = 46 then 27 else c - 96
def nm_ (f : Nat → Int32) (k : Nat) : Nat → Int64
  | 0 => 0
  | j + 1 => (nm_ f k j <<< ((5 : Int32).toInt64 &&& 63)) ||| (nc_ (f (k + j))).toInt64
def dt_ (f : Nat → Int32) (k : Nat) : Nat → Nat
  | 0 => 0
  | j + 1 => if f (k + j) = 46 then dt_ f k j + 1 else dt_ f k j
theorem dt_le (f : Nat → Int32) (k : Nat) : ∀ j, dt_ f k j ≤ j
  | 0 => Nat.le_refl _
  | j + 1 => by
    have := dt_le f k j
    unfold dt_
    split <;> omega
abbrev ne_ (f : Nat → Int32) (k j : Nat) : Prop := 2 < j ∧ dt_ f k j = 1 ∧ ¬ f k = 46 ∧ ¬ f (k + j - 1) = 46
theorem io_bf {M : mm_} {n k : Nat} (h : ¬ k < n) : io_ (bf_ M n k) = 0 := by
  unfold bf_
  rw [if_neg h]
  decide +kernel
set_option maxRecDepth 100000 in
set_option maxHeartbeats 4000000 in
theorem c12_rowSize (G : gg_) (hG : gd_ G) (d : Nat) (M : mm_) (n k : Nat) (ht : tz_ M n) (hk : k < 2 ^ 30) : cm_ G yX12_rowSize cX12_rowSize 3 (some .int) (d + 2) [.ref (G.1 0), .int (nI k)] M (fI_ (nI (rz_ M n k)) M) := by
  refine cm_of hG (by decide) (Nat.le_of_ble_eq_true rfl) (fun C X => ?_)
  have hn := ht.2
  have lp : ∀ (u j : Nat), j + u = n - k → rz_ M n k = rn_ (bf_ M n) u (k + j) + j → wq_ C G (qe_ C G (fI_ (nI (rz_ M n k)) M)) 2 [some (.ref (G.1 0)), some (.int (nI k)), some (.int (nI j))] [] M := by
    intro u
    induction u with
    | zero =>
      intro j hj hr
      have hq : io_ (bf_ M n (k + j)) = 0 := io_bf (by omega)
      have er : rz_ M n k = j := by rw [hr]; simp [rn_]
      refine w_aload_n X dX12_rowSize_2 rfl rfl ?_
      refine w_iload_n X dX12_rowSize_3 rfl rfl ?_
      refine w_iload_n X dX12_rowSize_4 rfl rfl ?_
      refine w_iadd X dX12_rowSize_5 ?_
      rw [nI_add k j]
      refine w_v1fI X dX12_rowSize_6 k12_byteAt rfl rfl (c12_byteAt G hG _ _ (nI (k + j)) (fun q => tz_in ht (by omega) q)) (Nat.le_of_ble_eq_true rfl) ?_
      refine w_s1fI X dX12_rowSize_9 k12_isOfRow (c12_isOfRow G hG _ _ _) (Nat.le_of_ble_eq_true rfl) ?_
      rw [ba_bf ht (by omega)]
      refine w_if_eq (tgt := 21) X dX12_rowSize_12 (by decide) (fun h12 => ?_) (fun h12 => absurd (hq) h12)
      refine w_iload_n X dX12_rowSize_21 rfl rfl ?_
      exact w_irF X dX12_rowSize_22 (by rw [er]) rfl
    | succ u ih =>
      intro j hj hr
      refine w_aload_n X dX12_rowSize_2 rfl rfl ?_
      refine w_iload_n X dX12_rowSize_3 rfl rfl ?_
      refine w_iload_n X dX12_rowSize_4 rfl rfl ?_
      refine w_iadd X dX12_rowSize_5 ?_
      rw [nI_add k j]
      refine w_v1fI X dX12_rowSize_6 k12_byteAt rfl rfl (c12_byteAt G hG _ _ (nI (k + j)) (fun q => tz_in ht (by omega) q)) (Nat.le_of_ble_eq_true rfl) ?_
      refine w_s1fI X dX12_rowSize_9 k12_isOfRow (c12_isOfRow G hG _ _ _) (Nat.le_of_ble_eq_true rfl) ?_
      rw [ba_bf ht (by omega)]
      refine w_if_eq (tgt := 21) X dX12_rowSize_12 (by decide) (fun h12 => ?_) (fun h12 => ?_)
      · refine w_iload_n X dX12_rowSize_21 rfl rfl ?_
        refine w_irF X dX12_rowSize_22 ?_ rfl
        rw [hr]
        simp only [rn_]
        rw [if_neg (by rw [h12]; decide)]
        simp
      · refine w_iinc (v := 1) X dX12_rowSize_15 rfl (by decide) (by decide) ?_
        refine w_goto (tgt := 2) X dX12_rowSize_18 (by decide) ?_
        rw [nI_1 j]
        refine ih (j + 1) (by omega) ?_
        rw [hr]
        simp only [rn_]
        have h1 : io_ (bf_ M n (k + j)) = 1 := (io_01 _).resolve_left h12
        rw [if_pos h1, show k + (j + 1) = k + j + 1 from rfl]
        omega
  refine w_iconst (v := 0) X dX12_rowSize_0 (by decide) ?_
  refine w_istore_n X dX12_rowSize_1 rfl (by decide) ?_
  exact lp (n - k) 0 (by omega) rfl

end
section
section NROWS
variable {C : mc_} {G : gg_} {Q : State → Prop} {pc : Nat} {lv : List (Option Value)} {st : List Value} {M : mm_} {own : String} {cc : ByteArray} {nL : Nat} {ry : Option FieldType} {d : Nat}
end NROWS
theorem nI_2048 (n : Nat) : (64 : Int32) * 32 + nI n = nI (2048 + n) := by rw [show (64 : Int32) * 32 = nI 2048 by decide +kernel, nI_add]
/-- a step more in the row that is being made -/
def pu_ (M : mm_) (n : Nat) (t : Int32) (v : Int64) : mm_ := sI_ (sL_ (sI_ M 2 (2048 + n) t) 3 (2048 + n) v) 0 12 (nI (n + 1))
def wa_ (M : mm_) (n : Nat) (a b c : Int32) : mm_ := sI_ (sI_ (sI_ (sI_ M 7 n a) 8 n b) 9 n c) 0 20 (nI (n + 1))
def op_ (M : mm_) (n : Nat) (a : Int32) : mm_ := sI_ (sI_ M 11 n a) 0 22 (nI (n + 1))
def la_ (M : mm_) (n : Nat) : Int32 := if n = 0 then -1 else M.1 7 (n - 1)
def bg_ (M : mm_) : mm_ := sI_ (sI_ (sI_ (sI_ M 0 0 0) 0 3 0) 0 4 (-1)) 0 5 0
set_option maxRecDepth 100000 in
set_option maxHeartbeats 4000000 in
theorem c12_rowOf (G : gg_) (hG : gd_ G) (d : Nat) (M : mm_) (e : Int32) : cm_ G yX12_rowOf cX12_rowOf 1 (some .int) (d) [.int e] M (fI_ (64 * e) M) := by
  refine cm_of hG (by decide) (Nat.le_of_ble_eq_true rfl) (fun C X => ?_)
  refine w_bipush (v := 64) X dX12_rowOf_0 (by decide) ?_
  refine w_iload_n X dX12_rowOf_2 rfl rfl ?_
  refine w_imul X dX12_rowOf_3 ?_
  exact w_irF X dX12_rowOf_4 rfl rfl
set_option maxRecDepth 100000 in
set_option maxHeartbeats 4000000 in
theorem c12_put (G : gg_) (hG : gd_ G) (d : Nat) (M : mm_) (n : Nat) (hl : M.1 0 12 = nI n) (hn : n < 64) (t : Int32) (v : Int64) : cm_ G yX12_put cX12_put 4 none (d + 1) [.ref (G.1 0), .int t, .long v] M (fV_ (pu_ M n t v)) := by
  refine cm_of hG (by decide) (Nat.le_of_ble_eq_true rfl) (fun C X => ?_)
  refine w_aload_n X dX12_put_0 rfl rfl ?_
  refine g12_steps X dX12_put_1 ?_
  refine w_bipush (v := 32) X dX12_put_4 (by decide) ?_
  refine w_s1fI X dX12_put_6 k12_rowOf (c12_rowOf G hG _ _ _) (Nat.le_of_ble_eq_true rfl) ?_
  refine w_aload_n X dX12_put_9 rfl rfl ?_
  refine g12_length X dX12_put_10 ?_
  try simp only [gI_sI, gI_sL, gL_sI, gL_sL, false_and, and_false, and_self, if_false, if_true, reduceIte, Nat.reduceEqDiff, hl]
  refine w_iadd X dX12_put_13 ?_
  rw [nI_2048]
  refine w_iload_n X dX12_put_14 rfl rfl ?_
  refine w_iastoreN X dX12_put_15 rfl rfl (by omega) ?_
  refine w_aload_n X dX12_put_16 rfl rfl ?_
  refine g12_values X dX12_put_17 ?_
  refine w_bipush (v := 32) X dX12_put_20 (by decide) ?_
  refine w_s1fI X dX12_put_22 k12_rowOf (c12_rowOf G hG _ _ _) (Nat.le_of_ble_eq_true rfl) ?_
  refine w_aload_n X dX12_put_25 rfl rfl ?_
  refine g12_length X dX12_put_26 ?_
  try simp only [gI_sI, gI_sL, gL_sI, gL_sL, false_and, and_false, and_self, if_false, if_true, reduceIte, Nat.reduceEqDiff, hl]
  refine w_iadd X dX12_put_29 ?_
  rw [nI_2048]
  refine w_lload_n X dX12_put_30 rfl rfl ?_
  refine w_lastoreN X dX12_put_31 rfl rfl (by omega) ?_
  refine w_aload_n X dX12_put_32 rfl rfl ?_
  refine w_dup X dX12_put_33 rfl ?_
  refine g12_length X dX12_put_34 ?_
  try simp only [gI_sI, gI_sL, gL_sI, gL_sL, false_and, and_false, and_self, if_false, if_true, reduceIte, Nat.reduceEqDiff, hl]
  refine w_iconst (v := 1) X dX12_put_37 (by decide) ?_
  refine w_iadd X dX12_put_38 ?_
  refine p12_length X dX12_put_39 ?_
  exact w_vrF X dX12_put_42 (by unfold pu_; rw [nI_1])
set_option maxRecDepth 100000 in
set_option maxHeartbeats 4000000 in
theorem c12_wait (G : gg_) (hG : gd_ G) (d : Nat) (M : mm_) (n : Nat) (hl : M.1 0 20 = nI n) (hn : n < 64) (a b c : Int32) : cm_ G yX12_wait cX12_wait 4 none (d) [.ref (G.1 0), .int a, .int b, .int c] M (fV_ (wa_ M n a b c)) := by
  refine cm_of hG (by decide) (Nat.le_of_ble_eq_true rfl) (fun C X => ?_)
  refine w_aload_n X dX12_wait_0 rfl rfl ?_
  refine g12_waits X dX12_wait_1 ?_
  refine w_aload_n X dX12_wait_4 rfl rfl ?_
  refine g12_waiting X dX12_wait_5 ?_
  try simp only [gI_sI, gI_sL, gL_sI, gL_sL, false_and, and_false, and_self, if_false, if_true, reduceIte, Nat.reduceEqDiff, hl]
  refine w_iload_n X dX12_wait_8 rfl rfl ?_
  refine w_iastoreN X dX12_wait_9 rfl rfl (by omega) ?_
  refine w_aload_n X dX12_wait_10 rfl rfl ?_
  refine g12_waitPlaces X dX12_wait_11 ?_
  refine w_aload_n X dX12_wait_14 rfl rfl ?_
  refine g12_waiting X dX12_wait_15 ?_
  try simp only [gI_sI, gI_sL, gL_sI, gL_sL, false_and, and_false, and_self, if_false, if_true, reduceIte, Nat.reduceEqDiff, hl]
  refine w_iload_n X dX12_wait_18 rfl rfl ?_
  refine w_iastoreN X dX12_wait_19 rfl rfl (by omega) ?_
  refine w_aload_n X dX12_wait_20 rfl rfl ?_
  refine g12_waitValues X dX12_wait_21 ?_
  refine w_aload_n X dX12_wait_24 rfl rfl ?_
  refine g12_waiting X dX12_wait_25 ?_
  try simp only [gI_sI, gI_sL, gL_sI, gL_sL, false_and, and_false, and_self, if_false, if_true, reduceIte, Nat.reduceEqDiff, hl]
  refine w_iload_n X dX12_wait_28 rfl rfl ?_
  refine w_iastoreN X dX12_wait_29 rfl rfl (by omega) ?_
  refine w_aload_n X dX12_wait_30 rfl rfl ?_
  refine w_dup X dX12_wait_31 rfl ?_
  refine g12_waiting X dX12_wait_32 ?_
  try simp only [gI_sI, gI_sL, gL_sI, gL_sL, false_and, and_false, and_self, if_false, if_true, reduceIte, Nat.reduceEqDiff, hl]
  refine w_iconst (v := 1) X dX12_wait_35 (by decide) ?_
  refine w_iadd X dX12_wait_36 ?_
  refine p12_waiting X dX12_wait_37 ?_
  exact w_vrF X dX12_wait_40 (by unfold wa_; rw [nI_1])
set_option maxRecDepth 100000 in
set_option maxHeartbeats 4000000 in
theorem c12_operand (G : gg_) (hG : gd_ G) (d : Nat) (M : mm_) (n : Nat) (hl : M.1 0 22 = nI n) (hn : n < 64) (a : Int32) : cm_ G yX12_operand cX12_operand 2 none (d) [.ref (G.1 0), .int a] M (fV_ (op_ M n a)) := by
  refine cm_of hG (by decide) (Nat.le_of_ble_eq_true rfl) (fun C X => ?_)
  refine w_aload_n X dX12_operand_0 rfl rfl ?_
  refine g12_operands X dX12_operand_1 ?_
  refine w_aload_n X dX12_operand_4 rfl rfl ?_
  refine g12_operandCount X dX12_operand_5 ?_
  try simp only [gI_sI, gI_sL, gL_sI, gL_sL, false_and, and_false, and_self, if_false, if_true, reduceIte, Nat.reduceEqDiff, hl]
  refine w_iload_n X dX12_operand_8 rfl rfl ?_
  refine w_iastoreN X dX12_operand_9 rfl rfl (by omega) ?_
  refine w_aload_n X dX12_operand_10 rfl rfl ?_
  refine w_dup X dX12_operand_11 rfl ?_
  refine g12_operandCount X dX12_operand_12 ?_
  try simp only [gI_sI, gI_sL, gL_sI, gL_sL, false_and, and_false, and_self, if_false, if_true, reduceIte, Nat.reduceEqDiff, hl]
  refine w_iconst (v := 1) X dX12_operand_15 (by decide) ?_
  refine w_iadd X dX12_operand_16 ?_
  refine p12_operandCount X dX12_operand_17 ?_
  exact w_vrF X dX12_operand_20 (by unfold op_; rw [nI_1])
set_option maxRecDepth 100000 in
set_option maxHeartbeats 4000000 in
theorem c12_last (G : gg_) (hG : gd_ G) (d : Nat) (M : mm_) (n : Nat) (hl : M.1 0 20 = nI n) (hn : n ≤ 64) : cm_ G yX12_last cX12_last 1 (some .int) (d) [.ref (G.1 0)] M (fI_ (la_ M n) M) := by
  refine cm_of hG (by decide) (Nat.le_of_ble_eq_true rfl) (fun C X => ?_)
  refine w_aload_n X dX12_last_0 rfl rfl ?_
  refine g12_waiting X dX12_last_1 ?_
  try simp only [gI_sI, gI_sL, gL_sI, gL_sL, false_and, and_false, and_self, if_false, if_true, reduceIte, Nat.reduceEqDiff, hl]
  refine w_if_ne (tgt := 11) X dX12_last_4 (by decide) (fun h4 => ?_) (fun h4 => ?_)
  · refine w_aload_n X dX12_last_11 rfl rfl ?_
    refine g12_waits X dX12_last_12 ?_
    refine w_aload_n X dX12_last_15 rfl rfl ?_
    refine g12_waiting X dX12_last_16 ?_
    try simp only [gI_sI, gI_sL, gL_sI, gL_sL, false_and, and_false, and_self, if_false, if_true, reduceIte, Nat.reduceEqDiff, hl]
    refine w_iconst (v := 1) X dX12_last_19 (by decide) ?_
    refine w_isub X dX12_last_20 ?_
    have h0 : 0 < n := Nat.pos_of_ne_zero (fun q => h4 ((nI_z (by omega)).mpr q))
    rw [nI_p n h0]
    refine w_ialoadN X dX12_last_21 rfl rfl (by omega) ?_
    refine w_irF X dX12_last_22 ?_ rfl
    unfold la_
    first | exact (if_pos ((nI_z (by omega)).mp h4)).symm | exact (if_neg (fun q => h4 ((nI_z (by omega)).mpr q))).symm
  · refine w_iconst (v := -1) X dX12_last_7 (by decide) ?_
    refine w_goto (tgt := 22) X dX12_last_8 (by decide) ?_
    refine w_irF X dX12_last_22 ?_ rfl
    unfold la_
    first | exact (if_pos ((nI_z (by omega)).mp h4)).symm | exact (if_neg (fun q => h4 ((nI_z (by omega)).mpr q))).symm
set_option maxRecDepth 100000 in
set_option maxHeartbeats 4000000 in
theorem c12_begin (G : gg_) (hG : gd_ G) (d : Nat) (M : mm_) : cm_ G yX12_begin cX12_begin 1 none (d) [.ref (G.1 0)] M (fV_ (bg_ M)) := by
  refine cm_of hG (by decide) (Nat.le_of_ble_eq_true rfl) (fun C X => ?_)
  refine w_aload_n X dX12_begin_0 rfl rfl ?_
  refine w_iconst (v := 0) X dX12_begin_1 (by decide) ?_
  refine p12_thrown X dX12_begin_2 ?_
  refine w_aload_n X dX12_begin_5 rfl rfl ?_
  refine w_iconst (v := 0) X dX12_begin_6 (by decide) ?_
  refine p12_fault X dX12_begin_7 ?_
  refine w_aload_n X dX12_begin_10 rfl rfl ?_
  refine w_iconst (v := -1) X dX12_begin_11 (by decide) ?_
  refine p12_place X dX12_begin_12 ?_
  refine w_aload_n X dX12_begin_15 rfl rfl ?_
  refine w_iconst (v := 0) X dX12_begin_16 (by decide) ?_
  refine p12_at X dX12_begin_17 ?_
  exact w_vrF X dX12_begin_20 rfl
set_option maxRecDepth 100000 in
set_option maxHeartbeats 4000000 in
theorem c12_place (G : gg_) (hG : gd_ G) (d : Nat) (M : mm_) : cm_ G yX12_place cX12_place 1 (some .int) (d) [.ref (G.1 0)] M (fI_ (M.1 0 4) (sI_ M 0 0 0)) := by
  refine cm_of hG (by decide) (Nat.le_of_ble_eq_true rfl) (fun C X => ?_)
  refine w_aload_n X dX12_place_0 rfl rfl ?_
  refine w_iconst (v := 0) X dX12_place_1 (by decide) ?_
  refine p12_thrown X dX12_place_2 ?_
  refine w_aload_n X dX12_place_5 rfl rfl ?_
  refine g12_place X dX12_place_6 ?_
  try simp only [gI_sI, gI_sL, gL_sI, gL_sL, false_and, and_false, and_self, if_false, if_true, reduceIte, Nat.reduceEqDiff]
  exact w_irF X dX12_place_9 rfl rfl
set_option maxRecDepth 100000 in
set_option maxHeartbeats 4000000 in
theorem c12_value (G : gg_) (hG : gd_ G) (d : Nat) (M : mm_) : cm_ G yX12_value cX12_value 1 (some .int) (d) [.ref (G.1 0)] M (fI_ (M.1 0 41) (sI_ M 0 0 0)) := by
  refine cm_of hG (by decide) (Nat.le_of_ble_eq_true rfl) (fun C X => ?_)
  refine w_aload_n X dX12_value_0 rfl rfl ?_
  refine w_iconst (v := 0) X dX12_value_1 (by decide) ?_
  refine p12_thrown X dX12_value_2 ?_
  refine w_aload_n X dX12_value_5 rfl rfl ?_
  refine g12_value X dX12_value_6 ?_
  try simp only [gI_sI, gI_sL, gL_sI, gL_sL, false_and, and_false, and_self, if_false, if_true, reduceIte, Nat.reduceEqDiff]
  exact w_irF X dX12_value_9 rfl rfl
set_option maxRecDepth 100000 in
set_option maxHeartbeats 4000000 in
theorem c12_invoked (G : gg_) (hG : gd_ G) (d : Nat) (M : mm_) : cm_ G yX12_invoked cX12_invoked 1 (some .int) (d) [.ref (G.1 0)] M (fI_ (M.1 0 40) (sI_ M 0 0 0)) := by
  refine cm_of hG (by decide) (Nat.le_of_ble_eq_true rfl) (fun C X => ?_)
  refine w_aload_n X dX12_invoked_0 rfl rfl ?_
  refine w_iconst (v := 0) X dX12_invoked_1 (by decide) ?_
  refine p12_thrown X dX12_invoked_2 ?_
  refine w_aload_n X dX12_invoked_5 rfl rfl ?_
  refine g12_invoked X dX12_invoked_6 ?_
  try simp only [gI_sI, gI_sL, gL_sI, gL_sL, false_and, and_false, and_self, if_false, if_true, reduceIte, Nat.reduceEqDiff]
  exact w_irF X dX12_invoked_9 rfl rfl
set_option maxRecDepth 100000 in
set_option maxHeartbeats 4000000 in
theorem c12_records (G : gg_) (hG : gd_ G) (d : Nat) (M : mm_) : cm_ G yX12_records cX12_records 1 (some .int) (d) [.ref (G.1 0)] M (fI_ (M.1 0 35) (sI_ M 0 0 0)) := by
  refine cm_of hG (by decide) (Nat.le_of_ble_eq_true rfl) (fun C X => ?_)
  refine w_aload_n X dX12_records_0 rfl rfl ?_
  refine w_iconst (v := 0) X dX12_records_1 (by decide) ?_
  refine p12_thrown X dX12_records_2 ?_
  refine w_aload_n X dX12_records_5 rfl rfl ?_
  refine g12_recordCount X dX12_records_6 ?_
  try simp only [gI_sI, gI_sL, gL_sI, gL_sL, false_and, and_false, and_self, if_false, if_true, reduceIte, Nat.reduceEqDiff]
  exact w_irF X dX12_records_9 rfl rfl
set_option maxRecDepth 100000 in
set_option maxHeartbeats 4000000 in
theorem c12_keeps (G : gg_) (hG : gd_ G) (d : Nat) (M : mm_) : cm_ G yX12_keeps cX12_keeps 1 (some .int) (d) [.ref (G.1 0)] M (fI_ (M.1 0 37) (sI_ M 0 0 0)) := by
  refine cm_of hG (by decide) (Nat.le_of_ble_eq_true rfl) (fun C X => ?_)
  refine w_aload_n X dX12_keeps_0 rfl rfl ?_
  refine w_iconst (v := 0) X dX12_keeps_1 (by decide) ?_
  refine p12_thrown X dX12_keeps_2 ?_
  refine w_aload_n X dX12_keeps_5 rfl rfl ?_
  refine g12_keepCount X dX12_keeps_6 ?_
  try simp only [gI_sI, gI_sL, gL_sI, gL_sL, false_and, and_false, and_self, if_false, if_true, reduceIte, Nat.reduceEqDiff]
  exact w_irF X dX12_keeps_9 rfl rfl
set_option maxRecDepth 100000 in
set_option maxHeartbeats 4000000 in
theorem c12_clear (G : gg_) (hG : gd_ G) (d : Nat) (M : mm_) : cm_ G yX12_clear cX12_clear 2 (some .int) (d) [.ref (G.1 0)] M (fI_ (M.1 0 35) (sI_ (sI_ (sI_ M 0 0 0) 0 35 0) 0 37 0)) := by
  refine cm_of hG (by decide) (Nat.le_of_ble_eq_true rfl) (fun C X => ?_)
  refine w_aload_n X dX12_clear_0 rfl rfl ?_
  refine w_iconst (v := 0) X dX12_clear_1 (by decide) ?_
  refine p12_thrown X dX12_clear_2 ?_
  refine w_aload_n X dX12_clear_5 rfl rfl ?_
  refine g12_recordCount X dX12_clear_6 ?_
  try simp only [gI_sI, gI_sL, gL_sI, gL_sL, false_and, and_false, and_self, if_false, if_true, reduceIte, Nat.reduceEqDiff]
  refine w_istore_n X dX12_clear_9 rfl (by decide) ?_
  refine w_aload_n X dX12_clear_10 rfl rfl ?_
  refine w_iconst (v := 0) X dX12_clear_11 (by decide) ?_
  refine p12_recordCount X dX12_clear_12 ?_
  refine w_aload_n X dX12_clear_15 rfl rfl ?_
  refine w_iconst (v := 0) X dX12_clear_16 (by decide) ?_
  refine p12_keepCount X dX12_clear_17 ?_
  refine w_iload_n X dX12_clear_20 rfl rfl ?_
  exact w_irF X dX12_clear_21 rfl rfl
set_option maxRecDepth 100000 in
set_option maxHeartbeats 4000000 in
theorem c12_count (G : gg_) (hG : gd_ G) (d : Nat) (M : mm_) (w : Int32) : cm_ G yX12_count cX12_count 2 (some .boolean) (d + 1) [.ref (G.1 0), .int w] M (fI_ (if M.1 0 13 = 20 then 0 else 1) (if M.1 0 13 = 20 then fa_ M 3 w else sI_ M 0 13 (M.1 0 13 + 1))) := by
  refine cm_of hG (by decide) (Nat.le_of_ble_eq_true rfl) (fun C X => ?_)
  refine w_aload_n X dX12_count_0 rfl rfl ?_
  refine g12_nodes X dX12_count_1 ?_
  try simp only [gI_sI, gI_sL, gL_sI, gL_sL, false_and, and_false, and_self, if_false, if_true, reduceIte, Nat.reduceEqDiff]
  refine w_bipush (v := 20) X dX12_count_4 (by decide) ?_
  refine w_icmp_ne (tgt := 17) X dX12_count_6 (by decide) (fun h6 => ?_) (fun h6 => ?_)
  · refine w_aload_n X dX12_count_17 rfl rfl ?_
    refine w_dup X dX12_count_18 rfl ?_
    refine g12_nodes X dX12_count_19 ?_
    try simp only [gI_sI, gI_sL, gL_sI, gL_sL, false_and, and_false, and_self, if_false, if_true, reduceIte, Nat.reduceEqDiff]
    refine w_iconst (v := 1) X dX12_count_22 (by decide) ?_
    refine w_iadd X dX12_count_23 ?_
    refine p12_nodes X dX12_count_24 ?_
    refine w_iconst (v := 1) X dX12_count_27 (by decide) ?_
    refine w_zrF X dX12_count_28 (by first | exact Or.inl rfl | exact Or.inr rfl) ?_ ?_
    · first | exact (if_pos (Decidable.not_not.mp h6)).symm | exact (if_neg h6).symm | exact (if_pos h6).symm
    · first | exact (if_pos (Decidable.not_not.mp h6)).symm | exact (if_neg h6).symm | exact (if_pos h6).symm
  · refine w_aload_n X dX12_count_9 rfl rfl ?_
    refine w_iconst (v := 3) X dX12_count_10 (by decide) ?_
    refine w_iload_n X dX12_count_11 rfl rfl ?_
    refine w_v2fV X dX12_count_12 k12_fail rfl rfl (c12_fail G hG _ _ _ _) (Nat.le_of_ble_eq_true rfl) ?_
    refine w_iconst (v := 0) X dX12_count_15 (by decide) ?_
    refine w_zrF X dX12_count_16 (by first | exact Or.inl rfl | exact Or.inr rfl) ?_ ?_
    · first | exact (if_pos (Decidable.not_not.mp h6)).symm | exact (if_neg h6).symm | exact (if_pos h6).symm
    · first | exact (if_pos (Decidable.not_not.mp h6)).symm | exact (if_neg h6).symm | exact (if_pos h6).symm

end
section
theorem sI_self (M : mm_) (a i : Nat) : sI_ M a i (M.1 a i) = M := by
  unfold sI_
  obtain ⟨M1, M2, M3⟩ := M
  congr 1; funext x j
  by_cases h : x = a ∧ j = i
  · simp [h]
  · simp [h]
theorem ba_sL (M : mm_) (a i : Nat) (v : Int64) (k : Int32) : ba_ (sL_ M a i v) k = ba_ M k := rfl
theorem bf_sL (M : mm_) (a i : Nat) (v : Int64) (n k : Nat) : bf_ (sL_ M a i v) n k = bf_ M n k := rfl
theorem tz_sL {M : mm_} {a i n : Nat} {v : Int64} (h : tz_ M n) : tz_ (sL_ M a i v) n := h
theorem tz_sI {M : mm_} {a i n : Nat} {v : Int32} (h : tz_ M n) (hq : ¬ ((0 : Nat) = a ∧ 2 = i)) : tz_ (sI_ M a i v) n := ⟨by rw [sI_ne _ _ _ _ hq]; exact h.1, h.2⟩
theorem bf_sI {M : mm_} {a i n k : Nat} {v : Int32} (hq : a ≠ 1) : bf_ (sI_ M a i v) n k = bf_ M n k := by
  unfold bf_
  rw [sI_ne _ _ _ _ (fun q => hq q.1.symm)]
theorem nI_inj {a b : Nat} (ha : a < 2147483648) (hb : b < 2147483648) : nI a = nI b ↔ a = b := nI_eq ha hb
set_option maxRecDepth 100000 in
set_option maxHeartbeats 4000000 in
theorem c12_ended (G : gg_) (hG : gd_ G) (d : Nat) (M : mm_) (n k : Nat) (ht : tz_ M n) (ha : M.1 0 5 = nI k) (hk : k < 2147483648) : cm_ G yX12_ended cX12_ended 2 (some .boolean) (d + 1) [.ref (G.1 0)] M (fI_ (if bf_ M n k < 0 ∨ (¬ M.1 0 14 = 0 ∧ bf_ M n k ≤ 32) then 1 else 0) M) := by
  refine cm_of hG (by decide) (Nat.le_of_ble_eq_true rfl) (fun C X => ?_)
  refine w_aload_n X dX12_ended_0 rfl rfl ?_
  refine w_aload_n X dX12_ended_1 rfl rfl ?_
  refine g12_at X dX12_ended_2 ?_
  try simp only [gI_sI, gI_sL, gL_sI, gL_sL, false_and, and_false, and_self, if_false, if_true, reduceIte, Nat.reduceEqDiff, ha]
  refine w_v1fI X dX12_ended_5 k12_byteAt rfl rfl (c12_byteAt G hG _ _ (nI k) (fun q => tz_in ht hk q)) (Nat.le_of_ble_eq_true rfl) ?_
  rw [ba_bf ht hk]
  refine w_istore_n X dX12_ended_8 rfl (by decide) ?_
  refine w_iload_n X dX12_ended_9 rfl rfl ?_
  refine w_if_lt (tgt := 26) X dX12_ended_10 (by decide) (fun h10 => ?_) (fun h10 => ?_)
  · refine w_iconst (v := 1) X dX12_ended_26 (by decide) ?_
    refine w_goto (tgt := 31) X dX12_ended_27 (by decide) ?_
    refine w_zrF X dX12_ended_31 (by first | exact Or.inl rfl | exact Or.inr rfl) ?_ rfl
    first | (simp [h10]; done) | (simp_all; done)
  · refine w_aload_n X dX12_ended_13 rfl rfl ?_
    refine g12_inCommand X dX12_ended_14 ?_
    try simp only [gI_sI, gI_sL, gL_sI, gL_sL, false_and, and_false, and_self, if_false, if_true, reduceIte, Nat.reduceEqDiff, ha]
    refine w_if_eq (tgt := 30) X dX12_ended_17 (by decide) (fun h17 => ?_) (fun h17 => ?_)
    · refine w_iconst (v := 0) X dX12_ended_30 (by decide) ?_
      refine w_zrF X dX12_ended_31 (by first | exact Or.inl rfl | exact Or.inr rfl) ?_ rfl
      first | (simp [h10, h17]; done) | (simp_all; done)
    · refine w_iload_n X dX12_ended_20 rfl rfl ?_
      refine w_bipush (v := 32) X dX12_ended_21 (by decide) ?_
      refine w_icmp_gt (tgt := 30) X dX12_ended_23 (by decide) (fun h23 => ?_) (fun h23 => ?_)
      · refine w_iconst (v := 0) X dX12_ended_30 (by decide) ?_
        refine w_zrF X dX12_ended_31 (by first | exact Or.inl rfl | exact Or.inr rfl) ?_ rfl
        first | (simp [h10, h17, h23]; done) | (simp_all; done)
      · refine w_iconst (v := 1) X dX12_ended_26 (by decide) ?_
        refine w_goto (tgt := 31) X dX12_ended_27 (by decide) ?_
        refine w_zrF X dX12_ended_31 (by first | exact Or.inl rfl | exact Or.inr rfl) ?_ rfl
        first | (simp [h10, h17, h23]; done) | (simp_all; done)
set_option maxRecDepth 100000 in
set_option maxHeartbeats 4000000 in
theorem c12_want (G : gg_) (hG : gd_ G) (d : Nat) (M : mm_) (n k : Nat) (ht : tz_ M n) (ha : M.1 0 5 = nI k) (hk : k < 2147483647) (c : Int32) : cm_ G yX12_want cX12_want 2 none (d + 1) [.ref (G.1 0), .int c] M (fV_ (if M.1 0 3 = 0 then (if bf_ M n k = c then sI_ M 0 5 (nI (k + 1)) else fa_ M 1 (nI k)) else M)) := by
  refine cm_of hG (by decide) (Nat.le_of_ble_eq_true rfl) (fun C X => ?_)
  refine w_aload_n X dX12_want_0 rfl rfl ?_
  refine g12_fault X dX12_want_1 ?_
  try simp only [gI_sI, gI_sL, gL_sI, gL_sL, false_and, and_false, and_self, if_false, if_true, reduceIte, Nat.reduceEqDiff, ha]
  refine w_if_ne (tgt := 41) X dX12_want_4 (by decide) (fun h4 => ?_) (fun h4 => ?_)
  · refine w_vrF X dX12_want_41 ?_
    simp [h4, nI_1]
  · refine w_aload_n X dX12_want_7 rfl rfl ?_
    refine w_aload_n X dX12_want_8 rfl rfl ?_
    refine g12_at X dX12_want_9 ?_
    try simp only [gI_sI, gI_sL, gL_sI, gL_sL, false_and, and_false, and_self, if_false, if_true, reduceIte, Nat.reduceEqDiff, ha]
    refine w_v1fI X dX12_want_12 k12_byteAt rfl rfl (c12_byteAt G hG _ _ (nI k) (fun q => tz_in ht (by omega) q)) (Nat.le_of_ble_eq_true rfl) ?_
    rw [ba_bf ht (by omega)]
    refine w_iload_n X dX12_want_15 rfl rfl ?_
    refine w_icmp_ne (tgt := 32) X dX12_want_16 (by decide) (fun h16 => ?_) (fun h16 => ?_)
    · refine w_aload_n X dX12_want_32 rfl rfl ?_
      refine w_iconst (v := 1) X dX12_want_33 (by decide) ?_
      refine w_aload_n X dX12_want_34 rfl rfl ?_
      refine g12_at X dX12_want_35 ?_
      try simp only [gI_sI, gI_sL, gL_sI, gL_sL, false_and, and_false, and_self, if_false, if_true, reduceIte, Nat.reduceEqDiff, ha]
      refine w_v2fV X dX12_want_38 k12_fail rfl rfl (c12_fail G hG _ _ _ _) (Nat.le_of_ble_eq_true rfl) ?_
      refine w_vrF X dX12_want_41 ?_
      simp [h4, h16, nI_1]
    · refine w_aload_n X dX12_want_19 rfl rfl ?_
      refine w_dup X dX12_want_20 rfl ?_
      refine g12_at X dX12_want_21 ?_
      try simp only [gI_sI, gI_sL, gL_sI, gL_sL, false_and, and_false, and_self, if_false, if_true, reduceIte, Nat.reduceEqDiff, ha]
      refine w_iconst (v := 1) X dX12_want_24 (by decide) ?_
      refine w_iadd X dX12_want_25 ?_
      refine p12_at X dX12_want_26 ?_
      refine w_goto (tgt := 41) X dX12_want_29 (by decide) ?_
      refine w_vrF X dX12_want_41 ?_
      simp [h4, h16, nI_1]
set_option maxRecDepth 100000 in
set_option maxHeartbeats 4000000 in
theorem c12_endsAt (G : gg_) (hG : gd_ G) (d : Nat) (M : mm_) (n k : Nat) (ht : tz_ M n) (hk : k < 2147483648) : cm_ G yX12_endsAt cX12_endsAt 2 (some .boolean) (d) [.ref (G.1 0), .int (nI k)] M (fI_ (if bf_ M n k ≤ 32 then 1 else 0) M) := by
  refine cm_of hG (by decide) (Nat.le_of_ble_eq_true rfl) (fun C X => ?_)
  refine w_iload_n X dX12_endsAt_0 rfl rfl ?_
  refine w_aload_n X dX12_endsAt_1 rfl rfl ?_
  refine g12_size X dX12_endsAt_2 ?_
  try simp only [gI_sI, gI_sL, gL_sI, gL_sL, false_and, and_false, and_self, if_false, if_true, reduceIte, Nat.reduceEqDiff, ht.1]
  refine w_icmp_ge (tgt := 19) X dX12_endsAt_5 (by decide) (fun h5 => ?_) (fun h5 => ?_)
  · have eb : bf_ M n k = -1 := if_neg (fun q => Int32.not_le.mpr ((nI_ltI hk (by have := ht.2; omega)).mpr q) h5)
    refine w_iconst (v := 1) X dX12_endsAt_19 (by decide) ?_
    refine w_goto (tgt := 24) X dX12_endsAt_20 (by decide) ?_
    refine w_zrF X dX12_endsAt_24 (by first | exact Or.inl rfl | exact Or.inr rfl) ?_ rfl
    rw [eb]
    first | (simp [h5]; done) | (simp_all; done)
  · have hn := ht.2
    have hc : k < n := (nI_ltI hk (by omega)).mp (Int32.not_le.mp h5)
    have eb : bf_ M n k = M.1 1 k := if_pos hc
    refine w_aload_n X dX12_endsAt_8 rfl rfl ?_
    refine g12_tape X dX12_endsAt_9 ?_
    refine w_iload_n X dX12_endsAt_12 rfl rfl ?_
    refine w_ialoadN X dX12_endsAt_13 rfl rfl (⟨by omega, by omega⟩) ?_
    refine w_bipush (v := 32) X dX12_endsAt_14 (by decide) ?_
    refine w_icmp_gt (tgt := 23) X dX12_endsAt_16 (by decide) (fun h16 => ?_) (fun h16 => ?_)
    · refine w_iconst (v := 0) X dX12_endsAt_23 (by decide) ?_
      refine w_zrF X dX12_endsAt_24 (by first | exact Or.inl rfl | exact Or.inr rfl) ?_ rfl
      rw [eb]
      first | (simp [h5, h16]; done) | (simp_all; done)
    · refine w_iconst (v := 1) X dX12_endsAt_19 (by decide) ?_
      refine w_goto (tgt := 24) X dX12_endsAt_20 (by decide) ?_
      refine w_zrF X dX12_endsAt_24 (by first | exact Or.inl rfl | exact Or.inr rfl) ?_ rfl
      rw [eb]
      first | (simp [h5, h16]; done) | (simp_all; done)
set_option maxRecDepth 100000 in
set_option maxHeartbeats 4000000 in
theorem c12_wantBlank (G : gg_) (hG : gd_ G) (d : Nat) (M : mm_) (n k : Nat) (ht : tz_ M n) (ha : M.1 0 5 = nI k) (hk : k < 2147483648) : cm_ G yX12_wantBlank cX12_wantBlank 1 none (d + 1) [.ref (G.1 0)] M (fV_ (if M.1 0 3 = 0 ∧ ¬ bf_ M n k ≤ 32 then fa_ M 1 (nI k) else M)) := by
  refine cm_of hG (by decide) (Nat.le_of_ble_eq_true rfl) (fun C X => ?_)
  refine w_aload_n X dX12_wantBlank_0 rfl rfl ?_
  refine g12_fault X dX12_wantBlank_1 ?_
  try simp only [gI_sI, gI_sL, gL_sI, gL_sL, false_and, and_false, and_self, if_false, if_true, reduceIte, Nat.reduceEqDiff, ha, ht.1]
  refine w_if_ne (tgt := 41) X dX12_wantBlank_4 (by decide) (fun h4 => ?_) (fun h4 => ?_)
  · refine w_vrF X dX12_wantBlank_41 ?_
    try rw [eb]
    first | (simp [h4]; done) | (simp_all; done)
  · refine w_aload_n X dX12_wantBlank_7 rfl rfl ?_
    refine g12_at X dX12_wantBlank_8 ?_
    try simp only [gI_sI, gI_sL, gL_sI, gL_sL, false_and, and_false, and_self, if_false, if_true, reduceIte, Nat.reduceEqDiff, ha, ht.1]
    refine w_aload_n X dX12_wantBlank_11 rfl rfl ?_
    refine g12_size X dX12_wantBlank_12 ?_
    try simp only [gI_sI, gI_sL, gL_sI, gL_sL, false_and, and_false, and_self, if_false, if_true, reduceIte, Nat.reduceEqDiff, ha, ht.1]
    refine w_icmp_ge (tgt := 41) X dX12_wantBlank_15 (by decide) (fun h15 => ?_) (fun h15 => ?_)
    · have eb : bf_ M n k = -1 := if_neg (fun q => Int32.not_le.mpr ((nI_ltI hk (by have := ht.2; omega)).mpr q) h15)
      refine w_vrF X dX12_wantBlank_41 ?_
      try rw [eb]
      first | (simp [h4, h15]; done) | (simp_all; done)
    · have hn := ht.2
      have hc : k < n := (nI_ltI hk (by omega)).mp (Int32.not_le.mp h15)
      have eb : bf_ M n k = M.1 1 k := if_pos hc
      refine w_aload_n X dX12_wantBlank_18 rfl rfl ?_
      refine g12_tape X dX12_wantBlank_19 ?_
      refine w_aload_n X dX12_wantBlank_22 rfl rfl ?_
      refine g12_at X dX12_wantBlank_23 ?_
      try simp only [gI_sI, gI_sL, gL_sI, gL_sL, false_and, and_false, and_self, if_false, if_true, reduceIte, Nat.reduceEqDiff, ha, ht.1]
      refine w_ialoadN X dX12_wantBlank_26 rfl rfl (⟨by omega, by omega⟩) ?_
      refine w_bipush (v := 32) X dX12_wantBlank_27 (by decide) ?_
      refine w_icmp_le (tgt := 41) X dX12_wantBlank_29 (by decide) (fun h29 => ?_) (fun h29 => ?_)
      · refine w_vrF X dX12_wantBlank_41 ?_
        try rw [eb]
        first | (simp [h4, h15, h29]; done) | (simp_all; done)
      · refine w_aload_n X dX12_wantBlank_32 rfl rfl ?_
        refine w_iconst (v := 1) X dX12_wantBlank_33 (by decide) ?_
        refine w_aload_n X dX12_wantBlank_34 rfl rfl ?_
        refine g12_at X dX12_wantBlank_35 ?_
        try simp only [gI_sI, gI_sL, gL_sI, gL_sL, false_and, and_false, and_self, if_false, if_true, reduceIte, Nat.reduceEqDiff, ha, ht.1]
        refine w_v2fV X dX12_wantBlank_38 k12_fail rfl rfl (c12_fail G hG _ _ _ _) (Nat.le_of_ble_eq_true rfl) ?_
        refine w_vrF X dX12_wantBlank_41 ?_
        try rw [eb]
        first | (simp [h4, h15, h29]; done) | (simp_all; done)
set_option maxRecDepth 100000 in
set_option maxHeartbeats 4000000 in
theorem c12_isOver (G : gg_) (hG : gd_ G) (d : Nat) (M : mm_) (h y : Int32) : cm_ G yX12_isOver cX12_isOver 2 (some .boolean) (d) [.int h, .int y] M (fI_ (if (h = 47 ∨ h = 37) ∧ y = 0 then 1 else 0) M) := by
  refine cm_of hG (by decide) (Nat.le_of_ble_eq_true rfl) (fun C X => ?_)
  refine w_iload_n X dX12_isOver_0 rfl rfl ?_
  refine w_bipush (v := 47) X dX12_isOver_1 (by decide) ?_
  refine w_icmp_eq (tgt := 12) X dX12_isOver_3 (by decide) (fun h3 => ?_) (fun h3 => ?_)
  · refine w_iload_n X dX12_isOver_12 rfl rfl ?_
    refine w_if_ne (tgt := 20) X dX12_isOver_13 (by decide) (fun h13 => ?_) (fun h13 => ?_)
    · refine w_iconst (v := 0) X dX12_isOver_20 (by decide) ?_
      refine w_zrF X dX12_isOver_21 (by first | exact Or.inl rfl | exact Or.inr rfl) ?_ rfl
      first | (simp [h3, h13]; done) | (simp_all; done)
    · refine w_iconst (v := 1) X dX12_isOver_16 (by decide) ?_
      refine w_goto (tgt := 21) X dX12_isOver_17 (by decide) ?_
      refine w_zrF X dX12_isOver_21 (by first | exact Or.inl rfl | exact Or.inr rfl) ?_ rfl
      first | (simp [h3, h13]; done) | (simp_all; done)
  · refine w_iload_n X dX12_isOver_6 rfl rfl ?_
    refine w_bipush (v := 37) X dX12_isOver_7 (by decide) ?_
    refine w_icmp_ne (tgt := 20) X dX12_isOver_9 (by decide) (fun h9 => ?_) (fun h9 => ?_)
    · refine w_iconst (v := 0) X dX12_isOver_20 (by decide) ?_
      refine w_zrF X dX12_isOver_21 (by first | exact Or.inl rfl | exact Or.inr rfl) ?_ rfl
      first | (simp [h3, h9]; done) | (simp_all; done)
    · refine w_iload_n X dX12_isOver_12 rfl rfl ?_
      refine w_if_ne (tgt := 20) X dX12_isOver_13 (by decide) (fun h13 => ?_) (fun h13 => ?_)
      · refine w_iconst (v := 0) X dX12_isOver_20 (by decide) ?_
        refine w_zrF X dX12_isOver_21 (by first | exact Or.inl rfl | exact Or.inr rfl) ?_ rfl
        first | (simp [h3, h9, h13]; done) | (simp_all; done)
      · refine w_iconst (v := 1) X dX12_isOver_16 (by decide) ?_
        refine w_goto (tgt := 21) X dX12_isOver_17 (by decide) ?_
        refine w_zrF X dX12_isOver_21 (by first | exact Or.inl rfl | exact Or.inr rfl) ?_ rfl
        first | (simp [h3, h9, h13]; done) | (simp_all; done)
set_option maxRecDepth 100000 in
set_option maxHeartbeats 4000000 in
theorem c12_word (G : gg_) (hG : gd_ G) (d : Nat) (M : mm_) (a b c e : Int32) : cm_ G yX12_word cX12_word 4 (some .long) (d) [.int a, .int b, .int c, .int e] M (fL_ ((((a.toInt64 <<< ((15 : Int32).toInt64 &&& 63)) ||| (b.toInt64 <<< ((10 : Int32).toInt64 &&& 63))) ||| (c.toInt64 <<< ((5 : Int32).toInt64 &&& 63)) ||| e.toInt64) &&& 1048575) M) := by
  refine cm_of hG (by decide) (Nat.le_of_ble_eq_true rfl) (fun C X => ?_)
  refine w_iload_n X dX12_word_0 rfl rfl ?_
  refine w_i2l X dX12_word_1 ?_
  refine w_bipush (v := 15) X dX12_word_2 (by decide) ?_
  refine w_lshl X dX12_word_4 ?_
  refine w_iload_n X dX12_word_5 rfl rfl ?_
  refine w_i2l X dX12_word_6 ?_
  refine w_bipush (v := 10) X dX12_word_7 (by decide) ?_
  refine w_lshl X dX12_word_9 ?_
  refine w_lor X dX12_word_10 ?_
  refine w_iload_n X dX12_word_11 rfl rfl ?_
  refine w_i2l X dX12_word_12 ?_
  refine w_iconst (v := 5) X dX12_word_13 (by decide) ?_
  refine w_lshl X dX12_word_14 ?_
  refine w_lor X dX12_word_15 ?_
  refine w_iload_n X dX12_word_16 rfl rfl ?_
  refine w_i2l X dX12_word_17 ?_
  refine w_lor X dX12_word_18 ?_
  refine w_ldc2 X dX12_word_19 q12_279 ?_
  refine w_land X dX12_word_22 ?_
  exact w_lrF X dX12_word_23 rfl rfl

end
section
/-- the first place from k on where no blank stands -/
def sk_ (f : Nat → Int32) : Nat → Nat → Nat
  | 0, k => k
  | u + 1, k => if f k ≤ 32 then sk_ f u (k + 1) else k
def sp_ (M : mm_) (n k : Nat) : Nat := sk_ (bf_ M n) (n - k) k
theorem sk_ge (f : Nat → Int32) : ∀ u k, k ≤ sk_ f u k ∧ sk_ f u k ≤ k + u
  | 0, k => ⟨Nat.le_refl _, Nat.le_refl _⟩
  | u + 1, k => by
    have h := sk_ge f u (k + 1)
    unfold sk_
    split <;> omega
theorem sp_le {M : mm_} {n k : Nat} (h : k ≤ n) : k ≤ sp_ M n k ∧ sp_ M n k ≤ n := by
  have := sk_ge (bf_ M n) (n - k) k
  unfold sp_
  omega
def fm_ (M : mm_) (a : Int64) (b : Int32) : Nat → Nat → Int32
  | 0, _ => -1
  | u + 1, m => if M.2.1 5 m = a ∧ M.1 6 m = b then nI m else fm_ M a b u (m + 1)
def fj_ (M : mm_) : Nat → Nat → Int32
  | 0, _ => -1
  | u + 1, j => if M.1 12 j = 0 then nI j else fj_ M u (j + 1)
set_option maxRecDepth 100000 in
set_option maxHeartbeats 4000000 in
theorem c12_skip (G : gg_) (hG : gd_ G) (d : Nat) (M : mm_) (n k : Nat) (ht : tz_ M n) (ha : M.1 0 5 = nI k) (hk : k < 1073741824) : cm_ G yX12_skip cX12_skip 1 none (d) [.ref (G.1 0)] M (fV_ (sI_ M 0 5 (nI (sp_ M n k)))) := by
  refine cm_of hG (by decide) (Nat.le_of_ble_eq_true rfl) (fun C X => ?_)
  have lp : ∀ (u j : Nat), u = n - j → j < 1073741824 → sp_ M n k = sk_ (bf_ M n) u j → wq_ C G (qe_ C G (fV_ (sI_ M 0 5 (nI (sp_ M n k))))) 0 [some (.ref (G.1 0))] [] (sI_ M 0 5 (nI j)) := by
    intro u
    induction u with
    | zero =>
      intro j hu hj hr
      have hn := ht.2
      refine w_aload_n X dX12_skip_0 rfl rfl ?_
      refine g12_at X dX12_skip_1 ?_
      try simp only [gI_sI, gI_sL, gL_sI, gL_sL, false_and, and_false, and_self, if_false, if_true, reduceIte, Nat.reduceEqDiff, ht.1]
      refine w_aload_n X dX12_skip_4 rfl rfl ?_
      refine g12_size X dX12_skip_5 ?_
      try simp only [gI_sI, gI_sL, gL_sI, gL_sL, false_and, and_false, and_self, if_false, if_true, reduceIte, Nat.reduceEqDiff, ht.1]
      refine w_icmp_ge (tgt := 38) X dX12_skip_8 (by decide) (fun h8 => ?_) (fun h8 => absurd (nI_le (by omega) (by omega)) h8)
      exact w_vrF X dX12_skip_38 (by rw [hr]; rfl)
    | succ u ih =>
      intro j hu hj hr
      have hn := ht.2
      have eb : bf_ M n j = M.1 1 j := if_pos (by omega)
      refine w_aload_n X dX12_skip_0 rfl rfl ?_
      refine g12_at X dX12_skip_1 ?_
      try simp only [gI_sI, gI_sL, gL_sI, gL_sL, false_and, and_false, and_self, if_false, if_true, reduceIte, Nat.reduceEqDiff, ht.1]
      refine w_aload_n X dX12_skip_4 rfl rfl ?_
      refine g12_size X dX12_skip_5 ?_
      try simp only [gI_sI, gI_sL, gL_sI, gL_sL, false_and, and_false, and_self, if_false, if_true, reduceIte, Nat.reduceEqDiff, ht.1]
      refine w_icmp_ge (tgt := 38) X dX12_skip_8 (by decide) (fun h8 => absurd h8 (nI_ge (by omega) (by omega))) (fun h8 => ?_)
      refine w_aload_n X dX12_skip_11 rfl rfl ?_
      refine g12_tape X dX12_skip_12 ?_
      refine w_aload_n X dX12_skip_15 rfl rfl ?_
      refine g12_at X dX12_skip_16 ?_
      try simp only [gI_sI, gI_sL, gL_sI, gL_sL, false_and, and_false, and_self, if_false, if_true, reduceIte, Nat.reduceEqDiff, ht.1]
      refine w_ialoadN X dX12_skip_19 rfl rfl (by omega) ?_
      try simp only [gI_sI, gI_sL, gL_sI, gL_sL, false_and, and_false, and_self, if_false, if_true, reduceIte, Nat.reduceEqDiff, ht.1]
      refine w_bipush (v := 32) X dX12_skip_20 (by decide) ?_
      refine w_icmp_gt (tgt := 38) X dX12_skip_22 (by decide) (fun h22 => ?_) (fun h22 => ?_)
      · refine w_vrF X dX12_skip_38 ?_
        rw [hr]
        simp only [sk_]
        rw [if_neg (by rw [eb]; exact Int32.not_le.mpr h22)]
      · refine w_aload_n X dX12_skip_25 rfl rfl ?_
        refine w_dup X dX12_skip_26 rfl ?_
        refine g12_at X dX12_skip_27 ?_
        try simp only [gI_sI, gI_sL, gL_sI, gL_sL, false_and, and_false, and_self, if_false, if_true, reduceIte, Nat.reduceEqDiff, ht.1]
        refine w_iconst (v := 1) X dX12_skip_30 (by decide) ?_
        refine w_iadd X dX12_skip_31 ?_
        refine p12_at X dX12_skip_32 ?_
        refine w_goto (tgt := 0) X dX12_skip_35 (by decide) ?_
        rw [sI_sI, nI_1]
        refine ih (j + 1) (by omega) (by omega) ?_
        rw [hr]
        simp only [sk_]
        rw [if_pos (by rw [eb]; exact Int32.not_lt.mp h22)]
  have e0 : sI_ M 0 5 (nI k) = M := by rw [← ha]; exact sI_self M 0 5
  refine (show wq_ C G (qe_ C G (fV_ (sI_ M 0 5 (nI (sp_ M n k))))) 0 (en_ 1 [.ref (G.1 0)]) [] (sI_ M 0 5 (nI k)) → wq_ C G (qe_ C G (fV_ (sI_ M 0 5 (nI (sp_ M n k))))) 0 (en_ 1 [.ref (G.1 0)]) [] M from fun h => by rw [e0] at h; exact h) ?_
  exact lp (n - k) k rfl hk rfl
set_option maxRecDepth 100000 in
set_option maxHeartbeats 4000000 in
theorem c12_wantEnd (G : gg_) (hG : gd_ G) (d : Nat) (M : mm_) (n k : Nat) (ht : tz_ M n) (ha : M.1 0 5 = nI k) (hk : k < 1073741824) : cm_ G yX12_wantEnd cX12_wantEnd 1 none (d + 1) [.ref (G.1 0)] M (fV_ (if M.1 0 3 = 0 ∧ sp_ M n k < n then fa_ (sI_ M 0 5 (nI (sp_ M n k))) 1 (nI (sp_ M n k)) else sI_ M 0 5 (nI (sp_ M n k)))) := by
  refine cm_of hG (by decide) (Nat.le_of_ble_eq_true rfl) (fun C X => ?_)
  refine w_aload_n X dX12_wantEnd_0 rfl rfl ?_
  refine w_v0fV X dX12_wantEnd_1 k12_skip rfl rfl (c12_skip G hG _ _ n k ht ha hk) (Nat.le_of_ble_eq_true rfl) ?_
  have hq : sp_ M n k < 2147483648 := by have := (sk_ge (bf_ M n) (n - k) k).2; have := ht.2; unfold sp_; omega
  refine w_aload_n X dX12_wantEnd_4 rfl rfl ?_
  refine g12_fault X dX12_wantEnd_5 ?_
  try simp only [gI_sI, gI_sL, gL_sI, gL_sL, false_and, and_false, and_self, if_false, if_true, reduceIte, Nat.reduceEqDiff, ht.1]
  refine w_if_ne (tgt := 31) X dX12_wantEnd_8 (by decide) (fun h8 => ?_) (fun h8 => ?_)
  · refine w_vrF X dX12_wantEnd_31 ?_
    first | (simp [h8]; done) | (simp [h8, e9]; done)
  · refine w_aload_n X dX12_wantEnd_11 rfl rfl ?_
    refine g12_at X dX12_wantEnd_12 ?_
    try simp only [gI_sI, gI_sL, gL_sI, gL_sL, false_and, and_false, and_self, if_false, if_true, reduceIte, Nat.reduceEqDiff, ht.1]
    refine w_aload_n X dX12_wantEnd_15 rfl rfl ?_
    refine g12_size X dX12_wantEnd_16 ?_
    try simp only [gI_sI, gI_sL, gL_sI, gL_sL, false_and, and_false, and_self, if_false, if_true, reduceIte, Nat.reduceEqDiff, ht.1]
    refine w_icmp_ge (tgt := 31) X dX12_wantEnd_19 (by decide) (fun h19 => ?_) (fun h19 => ?_)
    · have e9 : ¬ sp_ M n k < n := fun q => Int32.not_le.mpr ((nI_ltI hq (by have := ht.2; omega)).mpr q) h19
      refine w_vrF X dX12_wantEnd_31 ?_
      first | (simp [h8, h19]; done) | (simp [h8, e9]; done)
    · have e9 : sp_ M n k < n := (nI_ltI hq (by have := ht.2; omega)).mp (Int32.not_le.mp h19)
      refine w_aload_n X dX12_wantEnd_22 rfl rfl ?_
      refine w_iconst (v := 1) X dX12_wantEnd_23 (by decide) ?_
      refine w_aload_n X dX12_wantEnd_24 rfl rfl ?_
      refine g12_at X dX12_wantEnd_25 ?_
      try simp only [gI_sI, gI_sL, gL_sI, gL_sL, false_and, and_false, and_self, if_false, if_true, reduceIte, Nat.reduceEqDiff, ht.1]
      refine w_v2fV X dX12_wantEnd_28 k12_fail rfl rfl (c12_fail G hG _ _ _ _) (Nat.le_of_ble_eq_true rfl) ?_
      refine w_vrF X dX12_wantEnd_31 ?_
      first | (simp [h8, h19]; done) | (simp [h8, e9]; done)
set_option maxRecDepth 100000 in
set_option maxHeartbeats 4000000 in
theorem c12_findMethod (G : gg_) (hG : gd_ G) (d : Nat) (M : mm_) (c : Nat) (hm : M.1 0 9 = nI c) (hc : c ≤ 16) (a : Int64) (b : Int32) : cm_ G yX12_findMethod cX12_findMethod 5 (some .int) (d) [.ref (G.1 0), .long a, .int b] M (fI_ (fm_ M a b c 0) M) := by
  refine cm_of hG (by decide) (Nat.le_of_ble_eq_true rfl) (fun C X => ?_)
  have lp : ∀ (u j : Nat), j + u = c → fm_ M a b c 0 = fm_ M a b u j → wq_ C G (qe_ C G (fI_ (fm_ M a b c 0) M)) 3 [some (.ref (G.1 0)), some (.long a), none, some (.int b), some (.int (nI j))] [] M := by
    intro u
    induction u with
    | zero =>
      intro j hu hr
      refine w_iload X dX12_findMethod_3 rfl ?_
      refine w_aload_n X dX12_findMethod_5 rfl rfl ?_
      refine g12_methods X dX12_findMethod_6 ?_
      try simp only [gI_sI, gI_sL, gL_sI, gL_sL, false_and, and_false, and_self, if_false, if_true, reduceIte, Nat.reduceEqDiff, hm]
      refine w_icmp_ge (tgt := 44) X dX12_findMethod_9 (by decide) (fun h9 => ?_) (fun h9 => absurd (nI_le (by omega) (by omega)) h9)
      refine w_iconst (v := -1) X dX12_findMethod_44 (by decide) ?_
      exact w_irF X dX12_findMethod_45 (by rw [hr]; rfl) rfl
    | succ u ih =>
      intro j hu hr
      refine w_iload X dX12_findMethod_3 rfl ?_
      refine w_aload_n X dX12_findMethod_5 rfl rfl ?_
      refine g12_methods X dX12_findMethod_6 ?_
      try simp only [gI_sI, gI_sL, gL_sI, gL_sL, false_and, and_false, and_self, if_false, if_true, reduceIte, Nat.reduceEqDiff, hm]
      refine w_icmp_ge (tgt := 44) X dX12_findMethod_9 (by decide) (fun h9 => absurd h9 (nI_ge (by omega) (by omega))) (fun h9 => ?_)
      refine w_aload_n X dX12_findMethod_12 rfl rfl ?_
      refine g12_names X dX12_findMethod_13 ?_
      refine w_iload X dX12_findMethod_16 rfl ?_
      refine w_laloadN X dX12_findMethod_18 rfl rfl (by omega) ?_
      try simp only [gI_sI, gI_sL, gL_sI, gL_sL, false_and, and_false, and_self, if_false, if_true, reduceIte, Nat.reduceEqDiff, hm]
      refine w_lload_n X dX12_findMethod_19 rfl rfl ?_
      refine w_lcmp X dX12_findMethod_20 ?_
      refine w_if_ne (tgt := 38) X dX12_findMethod_21 (by decide) (fun h21 => ?_) (fun h21 => ?_)
      · refine w_iinc (v := 1) X dX12_findMethod_38 rfl (by decide) (by decide) ?_
        refine w_goto (tgt := 3) X dX12_findMethod_41 (by decide) ?_
        rw [nI_1]
        refine ih (j + 1) (by omega) ?_
        rw [hr]
        simp only [fm_]
        first | exact (if_neg (fun q => h21 (lc_.mpr q.1))).symm | exact (if_neg (fun q => h32 q.2)).symm | exact if_neg (fun q => h21 (lc_.mpr q.1)) | exact if_neg (fun q => h32 q.2)
      · refine w_aload_n X dX12_findMethod_24 rfl rfl ?_
        refine g12_parameters X dX12_findMethod_25 ?_
        refine w_iload X dX12_findMethod_28 rfl ?_
        refine w_ialoadN X dX12_findMethod_30 rfl rfl (by omega) ?_
        try simp only [gI_sI, gI_sL, gL_sI, gL_sL, false_and, and_false, and_self, if_false, if_true, reduceIte, Nat.reduceEqDiff, hm]
        refine w_iload_n X dX12_findMethod_31 rfl rfl ?_
        refine w_icmp_ne (tgt := 38) X dX12_findMethod_32 (by decide) (fun h32 => ?_) (fun h32 => ?_)
        · refine w_iinc (v := 1) X dX12_findMethod_38 rfl (by decide) (by decide) ?_
          refine w_goto (tgt := 3) X dX12_findMethod_41 (by decide) ?_
          rw [nI_1]
          refine ih (j + 1) (by omega) ?_
          rw [hr]
          simp only [fm_]
          first | exact (if_neg (fun q => h21 (lc_.mpr q.1))).symm | exact (if_neg (fun q => h32 q.2)).symm | exact if_neg (fun q => h21 (lc_.mpr q.1)) | exact if_neg (fun q => h32 q.2)
        · refine w_iload X dX12_findMethod_35 rfl ?_
          refine w_irF X dX12_findMethod_37 ?_ rfl
          rw [hr]
          simp only [fm_]
          exact (if_pos ⟨lc_.mp h21, h32⟩).symm
  refine w_iconst (v := 0) X dX12_findMethod_0 (by decide) ?_
  refine w_istore X dX12_findMethod_1 (by decide) ?_
  exact lp c 0 (by omega) rfl
set_option maxRecDepth 100000 in
set_option maxHeartbeats 4000000 in
theorem c12_freeJob (G : gg_) (hG : gd_ G) (d : Nat) (M : mm_) : cm_ G yX12_freeJob cX12_freeJob 2 (some .int) (d) [.ref (G.1 0)] M (fI_ (fj_ M 8 0) M) := by
  refine cm_of hG (by decide) (Nat.le_of_ble_eq_true rfl) (fun C X => ?_)
  have lp : ∀ (u j : Nat), j + u = 8 → fj_ M 8 0 = fj_ M u j → wq_ C G (qe_ C G (fI_ (fj_ M 8 0) M)) 2 [some (.ref (G.1 0)), some (.int (nI j))] [] M := by
    intro u
    induction u with
    | zero =>
      intro j hu hr
      refine w_iload_n X dX12_freeJob_2 rfl rfl ?_
      refine w_bipush (v := 8) X dX12_freeJob_3 (by decide) ?_
      refine w_icmp_ge (tgt := 25) X dX12_freeJob_5 (by decide) (fun h5 => ?_) (fun h5 => absurd (nI_le (a := 8) (by omega) (by omega)) h5)
      refine w_iconst (v := -1) X dX12_freeJob_25 (by decide) ?_
      exact w_irF X dX12_freeJob_26 (by rw [hr]; rfl) rfl
    | succ u ih =>
      intro j hu hr
      refine w_iload_n X dX12_freeJob_2 rfl rfl ?_
      refine w_bipush (v := 8) X dX12_freeJob_3 (by decide) ?_
      refine w_icmp_ge (tgt := 25) X dX12_freeJob_5 (by decide) (fun h5 => absurd h5 (nI_ge (b := 8) (by omega) (by omega))) (fun h5 => ?_)
      refine w_aload_n X dX12_freeJob_8 rfl rfl ?_
      refine g12_kinds X dX12_freeJob_9 ?_
      refine w_iload_n X dX12_freeJob_12 rfl rfl ?_
      refine w_ialoadN X dX12_freeJob_13 rfl rfl (by omega) ?_
      try simp only [gI_sI, gI_sL, gL_sI, gL_sL, false_and, and_false, and_self, if_false, if_true, reduceIte, Nat.reduceEqDiff]
      refine w_if_ne (tgt := 19) X dX12_freeJob_14 (by decide) (fun h14 => ?_) (fun h14 => ?_)
      · refine w_iinc (v := 1) X dX12_freeJob_19 rfl (by decide) (by decide) ?_
        refine w_goto (tgt := 2) X dX12_freeJob_22 (by decide) ?_
        rw [nI_1]
        refine ih (j + 1) (by omega) ?_
        rw [hr]
        simp only [fj_]
        simp_all
      · refine w_iload_n X dX12_freeJob_17 rfl rfl ?_
        refine w_irF X dX12_freeJob_18 ?_ rfl
        rw [hr]
        simp only [fj_]
        simp_all
  refine w_iconst (v := 0) X dX12_freeJob_0 (by decide) ?_
  refine w_istore_n X dX12_freeJob_1 rfl (by decide) ?_
  exact lp 8 0 (by omega) rfl

end
