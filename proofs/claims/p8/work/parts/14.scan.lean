/-- the first place from k on where no blank stands -/
def sk_ (f : Nat → Int32) : Nat → Nat → Nat
  | 0, k => k
  | u + 1, k => if f k ≤ 32 then sk_ f u (k + 1) else k
def sp_ (M : mm_) (n k : Nat) : Nat := sk_ (bf_ M n) (n - k) k
theorem sk_ge (f : Nat → Int32) : ∀ u k, k ≤ sk_ f u k ∧ sk_ f u k ≤ k + u
  | 0, k => ⟨Nat.le_refl _, Nat.le_refl _⟩
  | u + 1, k => by
    have h := sk_ge f u (k + 1)
    unfold sk_
    split <;> omega
theorem sp_le {M : mm_} {n k : Nat} (h : k ≤ n) : k ≤ sp_ M n k ∧ sp_ M n k ≤ n := by
  have := sk_ge (bf_ M n) (n - k) k
  unfold sp_
  omega
def fm_ (M : mm_) (a : Int64) (b : Int32) : Nat → Nat → Int32
  | 0, _ => -1
  | u + 1, m => if M.2.1 5 m = a ∧ M.1 6 m = b then nI m else fm_ M a b u (m + 1)
def fj_ (M : mm_) : Nat → Nat → Int32
  | 0, _ => -1
  | u + 1, j => if M.1 12 j = 0 then nI j else fj_ M u (j + 1)
set_option maxRecDepth 100000 in
set_option maxHeartbeats 4000000 in
theorem c12_skip (G : gg_) (hG : gd_ G) (d : Nat) (M : mm_) (n k : Nat) (ht : tz_ M n) (ha : M.1 0 5 = nI k) (hk : k < 1073741824) : cm_ G yX12_skip cX12_skip 1 none (d) [.ref (G.1 0)] M (fV_ (sI_ M 0 5 (nI (sp_ M n k)))) := by
  refine cm_of hG (by decide) (Nat.le_of_ble_eq_true rfl) (fun C X => ?_)
  have lp : ∀ (u j : Nat), u = n - j → j < 1073741824 → sp_ M n k = sk_ (bf_ M n) u j → wq_ C G (qe_ C G (fV_ (sI_ M 0 5 (nI (sp_ M n k))))) 0 [some (.ref (G.1 0))] [] (sI_ M 0 5 (nI j)) := by
    intro u
    induction u with
    | zero =>
      intro j hu hj hr
      have hn := ht.2
      refine w_aload_n X dX12_skip_0 rfl rfl ?_
      refine g12_at X dX12_skip_1 ?_
      try simp only [gI_sI, gI_sL, gL_sI, gL_sL, false_and, and_false, and_self, if_false, if_true, reduceIte, Nat.reduceEqDiff, ht.1]
      refine w_aload_n X dX12_skip_4 rfl rfl ?_
      refine g12_size X dX12_skip_5 ?_
      try simp only [gI_sI, gI_sL, gL_sI, gL_sL, false_and, and_false, and_self, if_false, if_true, reduceIte, Nat.reduceEqDiff, ht.1]
      refine w_icmp_ge (tgt := 38) X dX12_skip_8 (by decide) (fun h8 => ?_) (fun h8 => absurd (nI_le (by omega) (by omega)) h8)
      exact w_vrF X dX12_skip_38 (by rw [hr]; rfl)
    | succ u ih =>
      intro j hu hj hr
      have hn := ht.2
      have eb : bf_ M n j = M.1 1 j := if_pos (by omega)
      refine w_aload_n X dX12_skip_0 rfl rfl ?_
      refine g12_at X dX12_skip_1 ?_
      try simp only [gI_sI, gI_sL, gL_sI, gL_sL, false_and, and_false, and_self, if_false, if_true, reduceIte, Nat.reduceEqDiff, ht.1]
      refine w_aload_n X dX12_skip_4 rfl rfl ?_
      refine g12_size X dX12_skip_5 ?_
      try simp only [gI_sI, gI_sL, gL_sI, gL_sL, false_and, and_false, and_self, if_false, if_true, reduceIte, Nat.reduceEqDiff, ht.1]
      refine w_icmp_ge (tgt := 38) X dX12_skip_8 (by decide) (fun h8 => absurd h8 (nI_ge (by omega) (by omega))) (fun h8 => ?_)
      refine w_aload_n X dX12_skip_11 rfl rfl ?_
      refine g12_tape X dX12_skip_12 ?_
      refine w_aload_n X dX12_skip_15 rfl rfl ?_
      refine g12_at X dX12_skip_16 ?_
      try simp only [gI_sI, gI_sL, gL_sI, gL_sL, false_and, and_false, and_self, if_false, if_true, reduceIte, Nat.reduceEqDiff, ht.1]
      refine w_ialoadN X dX12_skip_19 rfl rfl (by omega) ?_
      try simp only [gI_sI, gI_sL, gL_sI, gL_sL, false_and, and_false, and_self, if_false, if_true, reduceIte, Nat.reduceEqDiff, ht.1]
      refine w_bipush (v := 32) X dX12_skip_20 (by decide) ?_
      refine w_icmp_gt (tgt := 38) X dX12_skip_22 (by decide) (fun h22 => ?_) (fun h22 => ?_)
      · refine w_vrF X dX12_skip_38 ?_
        rw [hr]
        simp only [sk_]
        rw [if_neg (by rw [eb]; exact Int32.not_le.mpr h22)]
      · refine w_aload_n X dX12_skip_25 rfl rfl ?_
        refine w_dup X dX12_skip_26 rfl ?_
        refine g12_at X dX12_skip_27 ?_
        try simp only [gI_sI, gI_sL, gL_sI, gL_sL, false_and, and_false, and_self, if_false, if_true, reduceIte, Nat.reduceEqDiff, ht.1]
        refine w_iconst (v := 1) X dX12_skip_30 (by decide) ?_
        refine w_iadd X dX12_skip_31 ?_
        refine p12_at X dX12_skip_32 ?_
        refine w_goto (tgt := 0) X dX12_skip_35 (by decide) ?_
        rw [sI_sI, nI_1]
        refine ih (j + 1) (by omega) (by omega) ?_
        rw [hr]
        simp only [sk_]
        rw [if_pos (by rw [eb]; exact Int32.not_lt.mp h22)]
  have e0 : sI_ M 0 5 (nI k) = M := by rw [← ha]; exact sI_self M 0 5
  refine (show wq_ C G (qe_ C G (fV_ (sI_ M 0 5 (nI (sp_ M n k))))) 0 (en_ 1 [.ref (G.1 0)]) [] (sI_ M 0 5 (nI k)) → wq_ C G (qe_ C G (fV_ (sI_ M 0 5 (nI (sp_ M n k))))) 0 (en_ 1 [.ref (G.1 0)]) [] M from fun h => by rw [e0] at h; exact h) ?_
  exact lp (n - k) k rfl hk rfl
set_option maxRecDepth 100000 in
set_option maxHeartbeats 4000000 in
theorem c12_wantEnd (G : gg_) (hG : gd_ G) (d : Nat) (M : mm_) (n k : Nat) (ht : tz_ M n) (ha : M.1 0 5 = nI k) (hk : k < 1073741824) : cm_ G yX12_wantEnd cX12_wantEnd 1 none (d + 1) [.ref (G.1 0)] M (fV_ (if M.1 0 3 = 0 ∧ sp_ M n k < n then fa_ (sI_ M 0 5 (nI (sp_ M n k))) 1 (nI (sp_ M n k)) else sI_ M 0 5 (nI (sp_ M n k)))) := by
  refine cm_of hG (by decide) (Nat.le_of_ble_eq_true rfl) (fun C X => ?_)
  refine w_aload_n X dX12_wantEnd_0 rfl rfl ?_
  refine w_v0fV X dX12_wantEnd_1 k12_skip rfl rfl (c12_skip G hG _ _ n k ht ha hk) (Nat.le_of_ble_eq_true rfl) ?_
  have hq : sp_ M n k < 2147483648 := by have := (sk_ge (bf_ M n) (n - k) k).2; have := ht.2; unfold sp_; omega
  refine w_aload_n X dX12_wantEnd_4 rfl rfl ?_
  refine g12_fault X dX12_wantEnd_5 ?_
  try simp only [gI_sI, gI_sL, gL_sI, gL_sL, false_and, and_false, and_self, if_false, if_true, reduceIte, Nat.reduceEqDiff, ht.1]
  refine w_if_ne (tgt := 31) X dX12_wantEnd_8 (by decide) (fun h8 => ?_) (fun h8 => ?_)
  · refine w_vrF X dX12_wantEnd_31 ?_
    first | (simp [h8]; done) | (simp [h8, e9]; done)
  · refine w_aload_n X dX12_wantEnd_11 rfl rfl ?_
    refine g12_at X dX12_wantEnd_12 ?_
    try simp only [gI_sI, gI_sL, gL_sI, gL_sL, false_and, and_false, and_self, if_false, if_true, reduceIte, Nat.reduceEqDiff, ht.1]
    refine w_aload_n X dX12_wantEnd_15 rfl rfl ?_
    refine g12_size X dX12_wantEnd_16 ?_
    try simp only [gI_sI, gI_sL, gL_sI, gL_sL, false_and, and_false, and_self, if_false, if_true, reduceIte, Nat.reduceEqDiff, ht.1]
    refine w_icmp_ge (tgt := 31) X dX12_wantEnd_19 (by decide) (fun h19 => ?_) (fun h19 => ?_)
    · have e9 : ¬ sp_ M n k < n := fun q => Int32.not_le.mpr ((nI_ltI hq (by have := ht.2; omega)).mpr q) h19
      refine w_vrF X dX12_wantEnd_31 ?_
      first | (simp [h8, h19]; done) | (simp [h8, e9]; done)
    · have e9 : sp_ M n k < n := (nI_ltI hq (by have := ht.2; omega)).mp (Int32.not_le.mp h19)
      refine w_aload_n X dX12_wantEnd_22 rfl rfl ?_
      refine w_iconst (v := 1) X dX12_wantEnd_23 (by decide) ?_
      refine w_aload_n X dX12_wantEnd_24 rfl rfl ?_
      refine g12_at X dX12_wantEnd_25 ?_
      try simp only [gI_sI, gI_sL, gL_sI, gL_sL, false_and, and_false, and_self, if_false, if_true, reduceIte, Nat.reduceEqDiff, ht.1]
      refine w_v2fV X dX12_wantEnd_28 k12_fail rfl rfl (c12_fail G hG _ _ _ _) (Nat.le_of_ble_eq_true rfl) ?_
      refine w_vrF X dX12_wantEnd_31 ?_
      first | (simp [h8, h19]; done) | (simp [h8, e9]; done)
set_option maxRecDepth 100000 in
set_option maxHeartbeats 4000000 in
theorem c12_findMethod (G : gg_) (hG : gd_ G) (d : Nat) (M : mm_) (c : Nat) (hm : M.1 0 9 = nI c) (hc : c ≤ 16) (a : Int64) (b : Int32) : cm_ G yX12_findMethod cX12_findMethod 5 (some .int) (d) [.ref (G.1 0), .long a, .int b] M (fI_ (fm_ M a b c 0) M) := by
  refine cm_of hG (by decide) (Nat.le_of_ble_eq_true rfl) (fun C X => ?_)
  have lp : ∀ (u j : Nat), j + u = c → fm_ M a b c 0 = fm_ M a b u j → wq_ C G (qe_ C G (fI_ (fm_ M a b c 0) M)) 3 [some (.ref (G.1 0)), some (.long a), none, some (.int b), some (.int (nI j))] [] M := by
    intro u
    induction u with
    | zero =>
      intro j hu hr
      refine w_iload X dX12_findMethod_3 rfl ?_
      refine w_aload_n X dX12_findMethod_5 rfl rfl ?_
      refine g12_methods X dX12_findMethod_6 ?_
      try simp only [gI_sI, gI_sL, gL_sI, gL_sL, false_and, and_false, and_self, if_false, if_true, reduceIte, Nat.reduceEqDiff, hm]
      refine w_icmp_ge (tgt := 44) X dX12_findMethod_9 (by decide) (fun h9 => ?_) (fun h9 => absurd (nI_le (by omega) (by omega)) h9)
      refine w_iconst (v := -1) X dX12_findMethod_44 (by decide) ?_
      exact w_irF X dX12_findMethod_45 (by rw [hr]; rfl) rfl
    | succ u ih =>
      intro j hu hr
      refine w_iload X dX12_findMethod_3 rfl ?_
      refine w_aload_n X dX12_findMethod_5 rfl rfl ?_
      refine g12_methods X dX12_findMethod_6 ?_
      try simp only [gI_sI, gI_sL, gL_sI, gL_sL, false_and, and_false, and_self, if_false, if_true, reduceIte, Nat.reduceEqDiff, hm]
      refine w_icmp_ge (tgt := 44) X dX12_findMethod_9 (by decide) (fun h9 => absurd h9 (nI_ge (by omega) (by omega))) (fun h9 => ?_)
      refine w_aload_n X dX12_findMethod_12 rfl rfl ?_
      refine g12_names X dX12_findMethod_13 ?_
      refine w_iload X dX12_findMethod_16 rfl ?_
      refine w_laloadN X dX12_findMethod_18 rfl rfl (by omega) ?_
      try simp only [gI_sI, gI_sL, gL_sI, gL_sL, false_and, and_false, and_self, if_false, if_true, reduceIte, Nat.reduceEqDiff, hm]
      refine w_lload_n X dX12_findMethod_19 rfl rfl ?_
      refine w_lcmp X dX12_findMethod_20 ?_
      refine w_if_ne (tgt := 38) X dX12_findMethod_21 (by decide) (fun h21 => ?_) (fun h21 => ?_)
      · refine w_iinc (v := 1) X dX12_findMethod_38 rfl (by decide) (by decide) ?_
        refine w_goto (tgt := 3) X dX12_findMethod_41 (by decide) ?_
        rw [nI_1]
        refine ih (j + 1) (by omega) ?_
        rw [hr]
        simp only [fm_]
        first | exact (if_neg (fun q => h21 (lc_.mpr q.1))).symm | exact (if_neg (fun q => h32 q.2)).symm | exact if_neg (fun q => h21 (lc_.mpr q.1)) | exact if_neg (fun q => h32 q.2)
      · refine w_aload_n X dX12_findMethod_24 rfl rfl ?_
        refine g12_parameters X dX12_findMethod_25 ?_
        refine w_iload X dX12_findMethod_28 rfl ?_
        refine w_ialoadN X dX12_findMethod_30 rfl rfl (by omega) ?_
        try simp only [gI_sI, gI_sL, gL_sI, gL_sL, false_and, and_false, and_self, if_false, if_true, reduceIte, Nat.reduceEqDiff, hm]
        refine w_iload_n X dX12_findMethod_31 rfl rfl ?_
        refine w_icmp_ne (tgt := 38) X dX12_findMethod_32 (by decide) (fun h32 => ?_) (fun h32 => ?_)
        · refine w_iinc (v := 1) X dX12_findMethod_38 rfl (by decide) (by decide) ?_
          refine w_goto (tgt := 3) X dX12_findMethod_41 (by decide) ?_
          rw [nI_1]
          refine ih (j + 1) (by omega) ?_
          rw [hr]
          simp only [fm_]
          first | exact (if_neg (fun q => h21 (lc_.mpr q.1))).symm | exact (if_neg (fun q => h32 q.2)).symm | exact if_neg (fun q => h21 (lc_.mpr q.1)) | exact if_neg (fun q => h32 q.2)
        · refine w_iload X dX12_findMethod_35 rfl ?_
          refine w_irF X dX12_findMethod_37 ?_ rfl
          rw [hr]
          simp only [fm_]
          exact (if_pos ⟨lc_.mp h21, h32⟩).symm
  refine w_iconst (v := 0) X dX12_findMethod_0 (by decide) ?_
  refine w_istore X dX12_findMethod_1 (by decide) ?_
  exact lp c 0 (by omega) rfl
set_option maxRecDepth 100000 in
set_option maxHeartbeats 4000000 in
theorem c12_freeJob (G : gg_) (hG : gd_ G) (d : Nat) (M : mm_) : cm_ G yX12_freeJob cX12_freeJob 2 (some .int) (d) [.ref (G.1 0)] M (fI_ (fj_ M 8 0) M) := by
  refine cm_of hG (by decide) (Nat.le_of_ble_eq_true rfl) (fun C X => ?_)
  have lp : ∀ (u j : Nat), j + u = 8 → fj_ M 8 0 = fj_ M u j → wq_ C G (qe_ C G (fI_ (fj_ M 8 0) M)) 2 [some (.ref (G.1 0)), some (.int (nI j))] [] M := by
    intro u
    induction u with
    | zero =>
      intro j hu hr
      refine w_iload_n X dX12_freeJob_2 rfl rfl ?_
      refine w_bipush (v := 8) X dX12_freeJob_3 (by decide) ?_
      refine w_icmp_ge (tgt := 25) X dX12_freeJob_5 (by decide) (fun h5 => ?_) (fun h5 => absurd (nI_le (a := 8) (by omega) (by omega)) h5)
      refine w_iconst (v := -1) X dX12_freeJob_25 (by decide) ?_
      exact w_irF X dX12_freeJob_26 (by rw [hr]; rfl) rfl
    | succ u ih =>
      intro j hu hr
      refine w_iload_n X dX12_freeJob_2 rfl rfl ?_
      refine w_bipush (v := 8) X dX12_freeJob_3 (by decide) ?_
      refine w_icmp_ge (tgt := 25) X dX12_freeJob_5 (by decide) (fun h5 => absurd h5 (nI_ge (b := 8) (by omega) (by omega))) (fun h5 => ?_)
      refine w_aload_n X dX12_freeJob_8 rfl rfl ?_
      refine g12_kinds X dX12_freeJob_9 ?_
      refine w_iload_n X dX12_freeJob_12 rfl rfl ?_
      refine w_ialoadN X dX12_freeJob_13 rfl rfl (by omega) ?_
      try simp only [gI_sI, gI_sL, gL_sI, gL_sL, false_and, and_false, and_self, if_false, if_true, reduceIte, Nat.reduceEqDiff]
      refine w_if_ne (tgt := 19) X dX12_freeJob_14 (by decide) (fun h14 => ?_) (fun h14 => ?_)
      · refine w_iinc (v := 1) X dX12_freeJob_19 rfl (by decide) (by decide) ?_
        refine w_goto (tgt := 2) X dX12_freeJob_22 (by decide) ?_
        rw [nI_1]
        refine ih (j + 1) (by omega) ?_
        rw [hr]
        simp only [fj_]
        simp_all
      · refine w_iload_n X dX12_freeJob_17 rfl rfl ?_
        refine w_irF X dX12_freeJob_18 ?_ rfl
        rw [hr]
        simp only [fj_]
        simp_all
  refine w_iconst (v := 0) X dX12_freeJob_0 (by decide) ?_
  refine w_istore_n X dX12_freeJob_1 rfl (by decide) ?_
  exact lp 8 0 (by omega) rfl
