/-! the reference's rows and names -/
theorem sI_sI (M : mm_) (a i : Nat) (v w : Int32) : sI_ (sI_ M a i v) a i w = sI_ M a i w := by
  unfold sI_; congr 1; funext x j; by_cases h : x = a ∧ j = i <;> simp [h]
theorem sL_sL (M : mm_) (a i : Nat) (v w : Int64) : sL_ (sL_ M a i v) a i w = sL_ M a i w := by
  unfold sL_; congr 2; funext x j; by_cases h : x = a ∧ j = i <;> simp [h]
theorem sI_at (M : mm_) (a i : Nat) (v : Int32) : (sI_ M a i v).1 a i = v := by simp [sI_]
theorem sI_ne (M : mm_) (a i : Nat) (v : Int32) {x j : Nat} (h : ¬ (x = a ∧ j = i)) : (sI_ M a i v).1 x j = M.1 x j := by simp only [sI_, if_neg h]
theorem sL_at (M : mm_) (a i : Nat) (v : Int64) : (sL_ M a i v).2.1 a i = v := by simp [sL_]
theorem sL_ne (M : mm_) (a i : Nat) (v : Int64) {x j : Nat} (h : ¬ (x = a ∧ j = i)) : (sL_ M a i v).2.1 x j = M.2.1 x j := by simp only [sL_, if_neg h]
/-- the tape has n bytes -/
def tz_ (M : mm_) (n : Nat) : Prop := M.1 0 2 = nI n ∧ n ≤ 200
def bf_ (M : mm_) (n k : Nat) : Int32 := if k < n then M.1 1 k else -1
theorem ba_bf {M : mm_} {n k : Nat} (h : tz_ M n) (hk : k < 2 ^ 31) : ba_ M (nI k) = bf_ M n k := by
  unfold ba_ bf_
  rw [h.1]
  have hn := h.2
  by_cases hc : k < n
  · rw [if_pos ((nI_ltI hk (by omega)).mpr hc), if_pos hc, pk_cl k rfl hk]
  · rw [if_neg (fun q => hc ((nI_ltI hk (by omega)).mp q)), if_neg hc]
theorem tz_in {M : mm_} {n k : Nat} (h : tz_ M n) (hk : k < 2 ^ 31) (q : nI k < M.1 0 2) : vp_in (nI k) 200 := by
  have hn := h.2
  rw [h.1] at q
  have := (nI_ltI hk (by omega)).mp q
  exact vp_in_nI (by omega) (by omega)
def rn_ (f : Nat → Int32) : Nat → Nat → Nat
  | 0, _ => 0
  | u + 1, k => if io_ (f k) = 1 then rn_ f u (k + 1) + 1 else 0
theorem rn_le (f : Nat → Int32) : ∀ u k, rn_ f u k ≤ u
  | 0, _ => Nat.le_refl _
  | u + 1, k => by
    unfold rn_
    split
    · exact Nat.succ_le_succ (rn_le f u (k + 1))
    · exact Nat.zero_le _
/-- how many letters and points stand from place k on -/
def rz_ (M : mm_) (n k : Nat) : Nat := rn_ (bf_ M n) (n - k) k
theorem rz_le (M : mm_) (n k : Nat) : rz_ M n k ≤ n - k := rn_le _ _ _
def nc_ (c : Int32) : Int32 := if c = 46 then 27 else c - 96
def nm_ (f : Nat → Int32) (k : Nat) : Nat → Int64
  | 0 => 0
  | j + 1 => (nm_ f k j <<< ((5 : Int32).toInt64 &&& 63)) ||| (nc_ (f (k + j))).toInt64
def dt_ (f : Nat → Int32) (k : Nat) : Nat → Nat
  | 0 => 0
  | j + 1 => if f (k + j) = 46 then dt_ f k j + 1 else dt_ f k j
theorem dt_le (f : Nat → Int32) (k : Nat) : ∀ j, dt_ f k j ≤ j
  | 0 => Nat.le_refl _
  | j + 1 => by
    have := dt_le f k j
    unfold dt_
    split <;> omega
abbrev ne_ (f : Nat → Int32) (k j : Nat) : Prop := 2 < j ∧ dt_ f k j = 1 ∧ ¬ f k = 46 ∧ ¬ f (k + j - 1) = 46
theorem io_bf {M : mm_} {n k : Nat} (h : ¬ k < n) : io_ (bf_ M n k) = 0 := by
  unfold bf_
  rw [if_neg h]
  decide +kernel
set_option maxRecDepth 100000 in
set_option maxHeartbeats 4000000 in
theorem c12_rowSize (G : gg_) (hG : gd_ G) (d : Nat) (M : mm_) (n k : Nat) (ht : tz_ M n) (hk : k < 2 ^ 30) : cm_ G yX12_rowSize cX12_rowSize 3 (some .int) (d + 2) [.ref (G.1 0), .int (nI k)] M (fI_ (nI (rz_ M n k)) M) := by
  refine cm_of hG (by decide) (Nat.le_of_ble_eq_true rfl) (fun C X => ?_)
  have hn := ht.2
  have lp : ∀ (u j : Nat), j + u = n - k → rz_ M n k = rn_ (bf_ M n) u (k + j) + j → wq_ C G (qe_ C G (fI_ (nI (rz_ M n k)) M)) 2 [some (.ref (G.1 0)), some (.int (nI k)), some (.int (nI j))] [] M := by
    intro u
    induction u with
    | zero =>
      intro j hj hr
      have hq : io_ (bf_ M n (k + j)) = 0 := io_bf (by omega)
      have er : rz_ M n k = j := by rw [hr]; simp [rn_]
      refine w_aload_n X dX12_rowSize_2 rfl rfl ?_
      refine w_iload_n X dX12_rowSize_3 rfl rfl ?_
      refine w_iload_n X dX12_rowSize_4 rfl rfl ?_
      refine w_iadd X dX12_rowSize_5 ?_
      rw [nI_add k j]
      refine w_v1fI X dX12_rowSize_6 k12_byteAt rfl rfl (c12_byteAt G hG _ _ (nI (k + j)) (fun q => tz_in ht (by omega) q)) (Nat.le_of_ble_eq_true rfl) ?_
      refine w_s1fI X dX12_rowSize_9 k12_isOfRow (c12_isOfRow G hG _ _ _) (Nat.le_of_ble_eq_true rfl) ?_
      rw [ba_bf ht (by omega)]
      refine w_if_eq (tgt := 21) X dX12_rowSize_12 (by decide) (fun h12 => ?_) (fun h12 => absurd (hq) h12)
      refine w_iload_n X dX12_rowSize_21 rfl rfl ?_
      exact w_irF X dX12_rowSize_22 (by rw [er]) rfl
    | succ u ih =>
      intro j hj hr
      refine w_aload_n X dX12_rowSize_2 rfl rfl ?_
      refine w_iload_n X dX12_rowSize_3 rfl rfl ?_
      refine w_iload_n X dX12_rowSize_4 rfl rfl ?_
      refine w_iadd X dX12_rowSize_5 ?_
      rw [nI_add k j]
      refine w_v1fI X dX12_rowSize_6 k12_byteAt rfl rfl (c12_byteAt G hG _ _ (nI (k + j)) (fun q => tz_in ht (by omega) q)) (Nat.le_of_ble_eq_true rfl) ?_
      refine w_s1fI X dX12_rowSize_9 k12_isOfRow (c12_isOfRow G hG _ _ _) (Nat.le_of_ble_eq_true rfl) ?_
      rw [ba_bf ht (by omega)]
      refine w_if_eq (tgt := 21) X dX12_rowSize_12 (by decide) (fun h12 => ?_) (fun h12 => ?_)
      · refine w_iload_n X dX12_rowSize_21 rfl rfl ?_
        refine w_irF X dX12_rowSize_22 ?_ rfl
        rw [hr]
        simp only [rn_]
        rw [if_neg (by rw [h12]; decide)]
        simp
      · refine w_iinc (v := 1) X dX12_rowSize_15 rfl (by decide) (by decide) ?_
        refine w_goto (tgt := 2) X dX12_rowSize_18 (by decide) ?_
        rw [nI_1 j]
        refine ih (j + 1) (by omega) ?_
        rw [hr]
        simp only [rn_]
        have h1 : io_ (bf_ M n (k + j)) = 1 := (io_01 _).resolve_left h12
        rw [if_pos h1, show k + (j + 1) = k + j + 1 from rfl]
        omega
  refine w_iconst (v := 0) X dX12_rowSize_0 (by decide) ?_
  refine w_istore_n X dX12_rowSize_1 rfl (by decide) ?_
  exact lp (n - k) 0 (by omega) rfl
