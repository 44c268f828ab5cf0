section
/-! the reference's face: readers with arguments, feed -/
def ps_ (M : mm_) (n : Nat) (v : Int32) : mm_ := sI_ (sI_ M 26 n v) 0 47 (nI (n + 1))
/-- the bytes of x, the lowest first, behind a tape of z -/
def fb_ (x : Int64) (j : Nat) : Int32 := ((x >>> (((8 : Int32) * nI j).toInt64 &&& 63)) &&& 255).toInt32
def fd_ (M : mm_) (x : Int64) (z : Nat) : Nat → mm_
  | 0 => M
  | j + 1 => sI_ (sI_ (fd_ M x z j) 1 (z + j) (fb_ x j)) 0 2 (nI (z + j + 1))
theorem fd_2 {M : mm_} {x : Int64} {z : Nat} (h : M.1 0 2 = nI z) : ∀ j, (fd_ M x z j).1 0 2 = nI (z + j)
  | 0 => h
  | j + 1 => by simp [fd_, gI_sI]; rfl
def jt_ (j w : Int32) : Int32 := if j < 0 ∨ ¬ j < 8 then 1 else if w < 0 ∨ ¬ w ≤ 1 then 2 else 0
theorem i8_ {j : Int32} (h0 : ¬ j < 0) (h1 : j < 8) : ∃ b : Nat, b < 8 ∧ j = nI b := by
  obtain ⟨b, hb, rfl⟩ := nI_of h0
  exact ⟨b, (nI_ltI (b := 8) hb (by omega)).mp h1, rfl⟩
theorem iN_ {j : Int32} {n : Nat} (hn : n < 2147483648) (h0 : ¬ j < 0) (h1 : j < nI n) : ∃ b : Nat, b < n ∧ j = nI b := by
  obtain ⟨b, hb, rfl⟩ := nI_of h0
  exact ⟨b, (nI_ltI hb hn).mp h1, rfl⟩
theorem iL_ {j : Int32} {n : Nat} (hn : n < 2147483648) (h0 : ¬ j < 0) (h1 : j ≤ nI n) : ∃ b : Nat, b ≤ n ∧ j = nI b := by
  obtain ⟨b, hb, rfl⟩ := nI_of h0
  exact ⟨b, (nI_leI hb hn).mp h1, rfl⟩
set_option maxRecDepth 100000 in
set_option maxHeartbeats 4000000 in
theorem c12_push (G : gg_) (hG : gd_ G) (d : Nat) (M : mm_) (n : Nat) (hl : M.1 0 47 = nI n) (hn : n < 512) (v : Int32) : cm_ G yX12_push cX12_push 2 none (d) [.ref (G.1 0), .int v] M (fV_ (ps_ M n v)) := by
  refine cm_of hG (by decide) (Nat.le_of_ble_eq_true rfl) (fun C X => ?_)
  refine w_aload_n X dX12_push_0 rfl rfl ?_
  refine g12_stack X dX12_push_1 ?_
  refine w_aload_n X dX12_push_4 rfl rfl ?_
  refine g12_height X dX12_push_5 ?_
  try simp only [gI_sI, gI_sL, gL_sI, gL_sL, false_and, and_false, and_self, if_false, if_true, reduceIte, Nat.reduceEqDiff, hl]
  refine w_iload_n X dX12_push_8 rfl rfl ?_
  refine w_iastoreN X dX12_push_9 rfl rfl (by omega) ?_
  refine w_aload_n X dX12_push_10 rfl rfl ?_
  refine w_dup X dX12_push_11 rfl ?_
  refine g12_height X dX12_push_12 ?_
  try simp only [gI_sI, gI_sL, gL_sI, gL_sL, false_and, and_false, and_self, if_false, if_true, reduceIte, Nat.reduceEqDiff, hl]
  refine w_iconst (v := 1) X dX12_push_15 (by decide) ?_
  refine w_iadd X dX12_push_16 ?_
  refine p12_height X dX12_push_17 ?_
  exact w_vrF X dX12_push_20 (by unfold ps_; rw [nI_1])
set_option maxRecDepth 100000 in
set_option maxHeartbeats 4000000 in
theorem c12_feed_bad (G : gg_) (hG : gd_ G) (d : Nat) (M : mm_) (w : Int32) (x : Int64) (hw : w < 1 ∨ 8 < w) : cm_ G yX12_feed cX12_feed 5 (some .int) (d) [.ref (G.1 0), .int w, .long x] M (fI_ 0 (sI_ M 0 0 1)) := by
  refine cm_of hG (by decide) (Nat.le_of_ble_eq_true rfl) (fun C X => ?_)
  refine w_aload_n X dX12_feed_0 rfl rfl ?_
  refine w_iload_n X dX12_feed_1 rfl rfl ?_
  refine w_iconst (v := 1) X dX12_feed_2 (by decide) ?_
  refine w_icmp_lt (tgt := 12) X dX12_feed_3 (by decide) (fun h3 => ?_) (fun h3 => ?_)
  · refine w_iconst (v := 1) X dX12_feed_12 (by decide) ?_
    refine w_goto (tgt := 17) X dX12_feed_13 (by decide) ?_
    refine p12_thrown X dX12_feed_17 ?_
    refine w_aload_n X dX12_feed_20 rfl rfl ?_
    refine g12_thrown X dX12_feed_21 ?_
    try simp only [gI_sI, gI_sL, gL_sI, gL_sL, false_and, and_false, and_self, if_false, if_true, reduceIte, Nat.reduceEqDiff]
    refine w_if_le (tgt := 29) X dX12_feed_24 (by decide) (fun h24 => absurd h24 (by decide)) (fun h24 => ?_)
    refine w_iconst (v := 0) X dX12_feed_27 (by decide) ?_
    exact w_irF X dX12_feed_28 rfl rfl
  · refine w_iload_n X dX12_feed_6 rfl rfl ?_
    refine w_bipush (v := 8) X dX12_feed_7 (by decide) ?_
    refine w_icmp_le (tgt := 16) X dX12_feed_9 (by decide) (fun h9 => absurd h9 (Int32.not_le.mpr (hw.resolve_left h3))) (fun h9 => ?_)
    refine w_iconst (v := 1) X dX12_feed_12 (by decide) ?_
    refine w_goto (tgt := 17) X dX12_feed_13 (by decide) ?_
    refine p12_thrown X dX12_feed_17 ?_
    refine w_aload_n X dX12_feed_20 rfl rfl ?_
    refine g12_thrown X dX12_feed_21 ?_
    try simp only [gI_sI, gI_sL, gL_sI, gL_sL, false_and, and_false, and_self, if_false, if_true, reduceIte, Nat.reduceEqDiff]
    refine w_if_le (tgt := 29) X dX12_feed_24 (by decide) (fun h24 => absurd h24 (by decide)) (fun h24 => ?_)
    refine w_iconst (v := 0) X dX12_feed_27 (by decide) ?_
    exact w_irF X dX12_feed_28 rfl rfl
set_option maxRecDepth 100000 in
set_option maxHeartbeats 4000000 in
theorem c12_feed_full (G : gg_) (hG : gd_ G) (d : Nat) (M : mm_) (z w : Nat) (x : Int64) (hz : M.1 0 2 = nI z) (hw : 1 ≤ w ∧ w ≤ 8) (hf : 200 < z + w) (hz2 : z ≤ 200) : cm_ G yX12_feed cX12_feed 5 (some .int) (d) [.ref (G.1 0), .int (nI w), .long x] M (fI_ (-1) (sI_ M 0 0 0)) := by
  refine cm_of hG (by decide) (Nat.le_of_ble_eq_true rfl) (fun C X => ?_)
  refine w_aload_n X dX12_feed_0 rfl rfl ?_
  refine w_iload_n X dX12_feed_1 rfl rfl ?_
  refine w_iconst (v := 1) X dX12_feed_2 (by decide) ?_
  refine w_icmp_lt (tgt := 12) X dX12_feed_3 (by decide) (fun h3 => absurd h3 (nI_nlt (b := 1) (by omega) (by omega))) (fun h3 => ?_)
  refine w_iload_n X dX12_feed_6 rfl rfl ?_
  refine w_bipush (v := 8) X dX12_feed_7 (by decide) ?_
  refine w_icmp_le (tgt := 16) X dX12_feed_9 (by decide) (fun h9 => ?_) (fun h9 => absurd (nI_le (b := 8) (by omega) (by omega)) h9)
  refine w_iconst (v := 0) X dX12_feed_16 (by decide) ?_
  refine p12_thrown X dX12_feed_17 ?_
  refine w_aload_n X dX12_feed_20 rfl rfl ?_
  refine g12_thrown X dX12_feed_21 ?_
  try simp only [gI_sI, gI_sL, gL_sI, gL_sL, false_and, and_false, and_self, if_false, if_true, reduceIte, Nat.reduceEqDiff, hz]
  refine w_if_le (tgt := 29) X dX12_feed_24 (by decide) (fun h24 => ?_) (fun h24 => absurd (by decide) h24)
  refine w_aload_n X dX12_feed_29 rfl rfl ?_
  refine g12_size X dX12_feed_30 ?_
  try simp only [gI_sI, gI_sL, gL_sI, gL_sL, false_and, and_false, and_self, if_false, if_true, reduceIte, Nat.reduceEqDiff, hz]
  refine w_iload_n X dX12_feed_33 rfl rfl ?_
  refine w_iadd X dX12_feed_34 ?_
  refine w_sipush (v := 200) X dX12_feed_35 (by decide) ?_
  refine w_icmp_le (tgt := 43) X dX12_feed_38 (by decide) (fun h38 => absurd h38 (by rw [nI_add]; exact nI_ge (a := 200) (by omega) (by omega))) (fun h38 => ?_)
  refine w_iconst (v := -1) X dX12_feed_41 (by decide) ?_
  exact w_irF X dX12_feed_42 rfl rfl
set_option maxRecDepth 100000 in
set_option maxHeartbeats 4000000 in
theorem c12_feed_ok (G : gg_) (hG : gd_ G) (d : Nat) (M : mm_) (z w : Nat) (x : Int64) (hz : M.1 0 2 = nI z) (hw : 1 ≤ w ∧ w ≤ 8) (hf : z + w ≤ 200) : cm_ G yX12_feed cX12_feed 5 (some .int) (d) [.ref (G.1 0), .int (nI w), .long x] M (fI_ (nI (z + w)) (fd_ (sI_ M 0 0 0) x z w)) := by
  refine cm_of hG (by decide) (Nat.le_of_ble_eq_true rfl) (fun C X => ?_)
  have lp : ∀ (u j : Nat), j + u = w → wq_ C G (qe_ C G (fI_ (nI (z + w)) (fd_ (sI_ M 0 0 0) x z w))) 46 [some (.ref (G.1 0)), some (.int (nI w)), some (.long x), none, some (.int (nI j))] [] (fd_ (sI_ M 0 0 0) x z j) := by
    intro u
    induction u with
    | zero =>
      intro j hu
      obtain rfl : j = w := by omega
      refine w_iload X dX12_feed_46 rfl ?_
      refine w_iload_n X dX12_feed_48 rfl rfl ?_
      refine w_icmp_ge (tgt := 89) X dX12_feed_49 (by decide) (fun h49 => ?_) (fun h49 => absurd (Int32.le_refl _) h49)
      refine w_aload_n X dX12_feed_89 rfl rfl ?_
      refine g12_size X dX12_feed_90 ?_
      try simp only [gI_sI, gI_sL, gL_sI, gL_sL, false_and, and_false, and_self, if_false, if_true, reduceIte, Nat.reduceEqDiff, fd_2 (M := sI_ M 0 0 0) (x := x) (z := z) hz j]
      exact w_irF X dX12_feed_93 rfl rfl
    | succ u ih =>
      intro j hu
      refine w_iload X dX12_feed_46 rfl ?_
      refine w_iload_n X dX12_feed_48 rfl rfl ?_
      refine w_icmp_ge (tgt := 89) X dX12_feed_49 (by decide) (fun h49 => absurd h49 (nI_ge (by omega) (by omega))) (fun h49 => ?_)
      refine w_aload_n X dX12_feed_52 rfl rfl ?_
      refine g12_tape X dX12_feed_53 ?_
      refine w_aload_n X dX12_feed_56 rfl rfl ?_
      refine g12_size X dX12_feed_57 ?_
      try simp only [gI_sI, gI_sL, gL_sI, gL_sL, false_and, and_false, and_self, if_false, if_true, reduceIte, Nat.reduceEqDiff, fd_2 (M := sI_ M 0 0 0) (x := x) (z := z) hz j]
      refine w_lload_n X dX12_feed_60 rfl rfl ?_
      refine w_bipush (v := 8) X dX12_feed_61 (by decide) ?_
      refine w_iload X dX12_feed_63 rfl ?_
      refine w_imul X dX12_feed_65 ?_
      refine w_lshr X dX12_feed_66 ?_
      refine w_ldc2 X dX12_feed_67 q12_121 ?_
      refine w_land X dX12_feed_70 ?_
      refine w_l2i X dX12_feed_71 ?_
      refine w_iastoreN X dX12_feed_72 rfl rfl (by omega) ?_
      refine w_aload_n X dX12_feed_73 rfl rfl ?_
      refine w_dup X dX12_feed_74 rfl ?_
      refine g12_size X dX12_feed_75 ?_
      try simp only [gI_sI, gI_sL, gL_sI, gL_sL, false_and, and_false, and_self, if_false, if_true, reduceIte, Nat.reduceEqDiff, fd_2 (M := sI_ M 0 0 0) (x := x) (z := z) hz j]
      refine w_iconst (v := 1) X dX12_feed_78 (by decide) ?_
      refine w_iadd X dX12_feed_79 ?_
      refine p12_size X dX12_feed_80 ?_
      refine w_iinc (v := 1) X dX12_feed_83 rfl (by decide) (by decide) ?_
      refine w_goto (tgt := 46) X dX12_feed_86 (by decide) ?_
      rw [nI_1, nI_1]
      exact ih (j + 1) (by omega)
  refine w_aload_n X dX12_feed_0 rfl rfl ?_
  refine w_iload_n X dX12_feed_1 rfl rfl ?_
  refine w_iconst (v := 1) X dX12_feed_2 (by decide) ?_
  refine w_icmp_lt (tgt := 12) X dX12_feed_3 (by decide) (fun h3 => absurd h3 (nI_nlt (b := 1) (by omega) (by omega))) (fun h3 => ?_)
  refine w_iload_n X dX12_feed_6 rfl rfl ?_
  refine w_bipush (v := 8) X dX12_feed_7 (by decide) ?_
  refine w_icmp_le (tgt := 16) X dX12_feed_9 (by decide) (fun h9 => ?_) (fun h9 => absurd (nI_le (b := 8) (by omega) (by omega)) h9)
  refine w_iconst (v := 0) X dX12_feed_16 (by decide) ?_
  refine p12_thrown X dX12_feed_17 ?_
  refine w_aload_n X dX12_feed_20 rfl rfl ?_
  refine g12_thrown X dX12_feed_21 ?_
  try simp only [gI_sI, gI_sL, gL_sI, gL_sL, false_and, and_false, and_self, if_false, if_true, reduceIte, Nat.reduceEqDiff, hz]
  refine w_if_le (tgt := 29) X dX12_feed_24 (by decide) (fun h24 => ?_) (fun h24 => absurd (by decide) h24)
  refine w_aload_n X dX12_feed_29 rfl rfl ?_
  refine g12_size X dX12_feed_30 ?_
  try simp only [gI_sI, gI_sL, gL_sI, gL_sL, false_and, and_false, and_self, if_false, if_true, reduceIte, Nat.reduceEqDiff, hz]
  refine w_iload_n X dX12_feed_33 rfl rfl ?_
  refine w_iadd X dX12_feed_34 ?_
  refine w_sipush (v := 200) X dX12_feed_35 (by decide) ?_
  refine w_icmp_le (tgt := 43) X dX12_feed_38 (by decide) (fun h38 => ?_) (fun h38 => absurd (by rw [nI_add]; exact nI_le (b := 200) (by omega) (by omega)) h38)
  refine w_iconst (v := 0) X dX12_feed_43 (by decide) ?_
  refine w_istore X dX12_feed_44 (by decide) ?_
  exact lp w 0 (by omega)
set_option maxRecDepth 100000 in
set_option maxHeartbeats 4000000 in
theorem c12_job (G : gg_) (hG : gd_ G) (d : Nat) (M : mm_) (j w : Int32) : cm_ G yX12_job cX12_job 3 (some .int) (d) [.ref (G.1 0), .int j, .int w] M (fI_ (if 0 < jt_ j w then 0 else if w = 0 then M.1 12 j.toNatClampNeg else if M.1 12 j.toNatClampNeg = 1 then M.1 14 j.toNatClampNeg - M.1 15 j.toNatClampNeg else 0) (sI_ M 0 0 (jt_ j w))) := by
  refine cm_of hG (by decide) (Nat.le_of_ble_eq_true rfl) (fun C X => ?_)
  refine w_aload_n X dX12_job_0 rfl rfl ?_
  refine w_iload_n X dX12_job_1 rfl rfl ?_
  refine w_if_lt (tgt := 11) X dX12_job_2 (by decide) (fun h2 => ?_) (fun h2 => ?_)
  · refine w_iconst (v := 1) X dX12_job_11 (by decide) ?_
    refine w_goto (tgt := 29) X dX12_job_12 (by decide) ?_
    refine p12_thrown X dX12_job_29 ?_
    refine w_aload_n X dX12_job_32 rfl rfl ?_
    refine g12_thrown X dX12_job_33 ?_
    try simp only [gI_sI, gI_sL, gL_sI, gL_sL, false_and, and_false, and_self, if_false, if_true, reduceIte, Nat.reduceEqDiff]
    refine w_if_le (tgt := 41) X dX12_job_36 (by decide) (fun h36 => absurd h36 (by decide)) (fun h36 => ?_)
    refine w_iconst (v := 0) X dX12_job_39 (by decide) ?_
    refine w_irF X dX12_job_40 ?_ ?_
    · first | (simp [jt_, h2, h36]; done) | (simp_all [jt_]; done)
    · simp [jt_, h2, h36]
  · refine w_iload_n X dX12_job_5 rfl rfl ?_
    refine w_bipush (v := 8) X dX12_job_6 (by decide) ?_
    refine w_icmp_lt (tgt := 15) X dX12_job_8 (by decide) (fun h8 => ?_) (fun h8 => ?_)
    · refine w_iload_n X dX12_job_15 rfl rfl ?_
      refine w_if_lt (tgt := 24) X dX12_job_16 (by decide) (fun h16 => ?_) (fun h16 => ?_)
      · refine w_iconst (v := 2) X dX12_job_24 (by decide) ?_
        refine w_goto (tgt := 29) X dX12_job_25 (by decide) ?_
        refine p12_thrown X dX12_job_29 ?_
        refine w_aload_n X dX12_job_32 rfl rfl ?_
        refine g12_thrown X dX12_job_33 ?_
        try simp only [gI_sI, gI_sL, gL_sI, gL_sL, false_and, and_false, and_self, if_false, if_true, reduceIte, Nat.reduceEqDiff]
        refine w_if_le (tgt := 41) X dX12_job_36 (by decide) (fun h36 => absurd h36 (by decide)) (fun h36 => ?_)
        refine w_iconst (v := 0) X dX12_job_39 (by decide) ?_
        refine w_irF X dX12_job_40 ?_ ?_
        · first | (simp [jt_, h2, h8, h16, h36]; done) | (simp_all [jt_]; done)
        · simp [jt_, h2, h8, h16, h36]
      · refine w_iload_n X dX12_job_19 rfl rfl ?_
        refine w_iconst (v := 1) X dX12_job_20 (by decide) ?_
        refine w_icmp_le (tgt := 28) X dX12_job_21 (by decide) (fun h21 => ?_) (fun h21 => ?_)
        · refine w_iconst (v := 0) X dX12_job_28 (by decide) ?_
          refine p12_thrown X dX12_job_29 ?_
          refine w_aload_n X dX12_job_32 rfl rfl ?_
          refine g12_thrown X dX12_job_33 ?_
          try simp only [gI_sI, gI_sL, gL_sI, gL_sL, false_and, and_false, and_self, if_false, if_true, reduceIte, Nat.reduceEqDiff]
          refine w_if_le (tgt := 41) X dX12_job_36 (by decide) (fun h36 => ?_) (fun h36 => absurd (by decide) h36)
          refine w_iload_n X dX12_job_41 rfl rfl ?_
          refine w_if_ne (tgt := 54) X dX12_job_42 (by decide) (fun h42 => ?_) (fun h42 => ?_)
          · refine w_aload_n X dX12_job_54 rfl rfl ?_
            refine g12_kinds X dX12_job_55 ?_
            refine w_iload_n X dX12_job_58 rfl rfl ?_
            refine w_iaload X dX12_job_59 rfl rfl (by obtain ⟨b, hb, eb⟩ := i8_ h2 h8; rw [eb]; exact vp_in_nI hb (by omega)) ?_
            try simp only [gI_sI, gI_sL, gL_sI, gL_sL, false_and, and_false, and_self, if_false, if_true, reduceIte, Nat.reduceEqDiff]
            refine w_iconst (v := 1) X dX12_job_60 (by decide) ?_
            refine w_icmp_ne (tgt := 80) X dX12_job_61 (by decide) (fun h61 => ?_) (fun h61 => ?_)
            · refine w_iconst (v := 0) X dX12_job_80 (by decide) ?_
              refine w_irF X dX12_job_81 ?_ ?_
              · first | (simp [jt_, h2, h8, h16, h21, h36, h42, h61]; done) | (simp_all [jt_]; done)
              · simp [jt_, h2, h8, h16, h21, h36, h42, h61]
            · refine w_aload_n X dX12_job_64 rfl rfl ?_
              refine g12_limits X dX12_job_65 ?_
              refine w_iload_n X dX12_job_68 rfl rfl ?_
              refine w_iaload X dX12_job_69 rfl rfl (by obtain ⟨b, hb, eb⟩ := i8_ h2 h8; rw [eb]; exact vp_in_nI hb (by omega)) ?_
              try simp only [gI_sI, gI_sL, gL_sI, gL_sL, false_and, and_false, and_self, if_false, if_true, reduceIte, Nat.reduceEqDiff]
              refine w_aload_n X dX12_job_70 rfl rfl ?_
              refine g12_mades X dX12_job_71 ?_
              refine w_iload_n X dX12_job_74 rfl rfl ?_
              refine w_iaload X dX12_job_75 rfl rfl (by obtain ⟨b, hb, eb⟩ := i8_ h2 h8; rw [eb]; exact vp_in_nI hb (by omega)) ?_
              try simp only [gI_sI, gI_sL, gL_sI, gL_sL, false_and, and_false, and_self, if_false, if_true, reduceIte, Nat.reduceEqDiff]
              refine w_isub X dX12_job_76 ?_
              refine w_goto (tgt := 81) X dX12_job_77 (by decide) ?_
              refine w_irF X dX12_job_81 ?_ ?_
              · first | (simp [jt_, h2, h8, h16, h21, h36, h42, h61]; done) | (simp_all [jt_]; done)
              · simp [jt_, h2, h8, h16, h21, h36, h42, h61]
          · refine w_aload_n X dX12_job_45 rfl rfl ?_
            refine g12_kinds X dX12_job_46 ?_
            refine w_iload_n X dX12_job_49 rfl rfl ?_
            refine w_iaload X dX12_job_50 rfl rfl (by obtain ⟨b, hb, eb⟩ := i8_ h2 h8; rw [eb]; exact vp_in_nI hb (by omega)) ?_
            try simp only [gI_sI, gI_sL, gL_sI, gL_sL, false_and, and_false, and_self, if_false, if_true, reduceIte, Nat.reduceEqDiff]
            refine w_goto (tgt := 81) X dX12_job_51 (by decide) ?_
            refine w_irF X dX12_job_81 ?_ ?_
            · first | (simp [jt_, h2, h8, h16, h21, h36, h42]; done) | (simp_all [jt_]; done)
            · simp [jt_, h2, h8, h16, h21, h36, h42]
        · refine w_iconst (v := 2) X dX12_job_24 (by decide) ?_
          refine w_goto (tgt := 29) X dX12_job_25 (by decide) ?_
          refine p12_thrown X dX12_job_29 ?_
          refine w_aload_n X dX12_job_32 rfl rfl ?_
          refine g12_thrown X dX12_job_33 ?_
          try simp only [gI_sI, gI_sL, gL_sI, gL_sL, false_and, and_false, and_self, if_false, if_true, reduceIte, Nat.reduceEqDiff]
          refine w_if_le (tgt := 41) X dX12_job_36 (by decide) (fun h36 => absurd h36 (by decide)) (fun h36 => ?_)
          refine w_iconst (v := 0) X dX12_job_39 (by decide) ?_
          refine w_irF X dX12_job_40 ?_ ?_
          · first | (simp [jt_, h2, h8, h16, h21, h36]; done) | (simp_all [jt_]; done)
          · simp [jt_, h2, h8, h16, h21, h36]
    · refine w_iconst (v := 1) X dX12_job_11 (by decide) ?_
      refine w_goto (tgt := 29) X dX12_job_12 (by decide) ?_
      refine p12_thrown X dX12_job_29 ?_
      refine w_aload_n X dX12_job_32 rfl rfl ?_
      refine g12_thrown X dX12_job_33 ?_
      try simp only [gI_sI, gI_sL, gL_sI, gL_sL, false_and, and_false, and_self, if_false, if_true, reduceIte, Nat.reduceEqDiff]
      refine w_if_le (tgt := 41) X dX12_job_36 (by decide) (fun h36 => absurd h36 (by decide)) (fun h36 => ?_)
      refine w_iconst (v := 0) X dX12_job_39 (by decide) ?_
      refine w_irF X dX12_job_40 ?_ ?_
      · first | (simp [jt_, h2, h8, h36]; done) | (simp_all [jt_]; done)
      · simp [jt_, h2, h8, h36]
def kt_ (c j w : Int32) (m : Int32) : Int32 := if j < 0 ∨ ¬ j < c then 1 else if w < 0 ∨ ¬ w ≤ m then 2 else 0
set_option maxRecDepth 100000 in
set_option maxHeartbeats 4000000 in
theorem c12_kept (G : gg_) (hG : gd_ G) (d : Nat) (M : mm_) (c : Nat) (hc : M.1 0 37 = nI c) (hc2 : c ≤ 40) (j w : Int32) : cm_ G yX12_kept cX12_kept 3 (some .int) (d) [.ref (G.1 0), .int j, .int w] M (fI_ (if 0 < kt_ (nI c) j w 6 then 0 else M.1 22 (7 * j + w).toNatClampNeg) (sI_ M 0 0 (kt_ (nI c) j w 6))) := by
  refine cm_of hG (by decide) (Nat.le_of_ble_eq_true rfl) (fun C X => ?_)
  refine w_aload_n X dX12_kept_0 rfl rfl ?_
  refine w_iload_n X dX12_kept_1 rfl rfl ?_
  refine w_if_lt (tgt := 13) X dX12_kept_2 (by decide) (fun h2 => ?_) (fun h2 => ?_)
  · refine w_iconst (v := 1) X dX12_kept_13 (by decide) ?_
    refine w_goto (tgt := 32) X dX12_kept_14 (by decide) ?_
    refine p12_thrown X dX12_kept_32 ?_
    refine w_aload_n X dX12_kept_35 rfl rfl ?_
    refine g12_thrown X dX12_kept_36 ?_
    try simp only [gI_sI, gI_sL, gL_sI, gL_sL, false_and, and_false, and_self, if_false, if_true, reduceIte, Nat.reduceEqDiff, hc]
    refine w_if_le (tgt := 46) X dX12_kept_39 (by decide) (fun h39 => absurd h39 (by decide)) (fun h39 => ?_)
    refine w_iconst (v := 0) X dX12_kept_42 (by decide) ?_
    refine w_goto (tgt := 57) X dX12_kept_43 (by decide) ?_
    refine w_irF X dX12_kept_57 ?_ ?_
    · first | (simp [kt_, h2, h39]; done) | (simp_all [kt_]; done)
    · simp [kt_, h2, h39]
  · refine w_iload_n X dX12_kept_5 rfl rfl ?_
    refine w_aload_n X dX12_kept_6 rfl rfl ?_
    refine g12_keepCount X dX12_kept_7 ?_
    try simp only [gI_sI, gI_sL, gL_sI, gL_sL, false_and, and_false, and_self, if_false, if_true, reduceIte, Nat.reduceEqDiff, hc]
    refine w_icmp_lt (tgt := 17) X dX12_kept_10 (by decide) (fun h10 => ?_) (fun h10 => ?_)
    · refine w_iload_n X dX12_kept_17 rfl rfl ?_
      refine w_if_lt (tgt := 27) X dX12_kept_18 (by decide) (fun h18 => ?_) (fun h18 => ?_)
      · refine w_iconst (v := 2) X dX12_kept_27 (by decide) ?_
        refine w_goto (tgt := 32) X dX12_kept_28 (by decide) ?_
        refine p12_thrown X dX12_kept_32 ?_
        refine w_aload_n X dX12_kept_35 rfl rfl ?_
        refine g12_thrown X dX12_kept_36 ?_
        try simp only [gI_sI, gI_sL, gL_sI, gL_sL, false_and, and_false, and_self, if_false, if_true, reduceIte, Nat.reduceEqDiff, hc]
        refine w_if_le (tgt := 46) X dX12_kept_39 (by decide) (fun h39 => absurd h39 (by decide)) (fun h39 => ?_)
        refine w_iconst (v := 0) X dX12_kept_42 (by decide) ?_
        refine w_goto (tgt := 57) X dX12_kept_43 (by decide) ?_
        refine w_irF X dX12_kept_57 ?_ ?_
        · first | (simp [kt_, h2, h10, h18, h39]; done) | (simp_all [kt_]; done)
        · simp [kt_, h2, h10, h18, h39]
      · refine w_iload_n X dX12_kept_21 rfl rfl ?_
        refine w_bipush (v := 6) X dX12_kept_22 (by decide) ?_
        refine w_icmp_le (tgt := 31) X dX12_kept_24 (by decide) (fun h24 => ?_) (fun h24 => ?_)
        · refine w_iconst (v := 0) X dX12_kept_31 (by decide) ?_
          refine p12_thrown X dX12_kept_32 ?_
          refine w_aload_n X dX12_kept_35 rfl rfl ?_
          refine g12_thrown X dX12_kept_36 ?_
          try simp only [gI_sI, gI_sL, gL_sI, gL_sL, false_and, and_false, and_self, if_false, if_true, reduceIte, Nat.reduceEqDiff, hc]
          refine w_if_le (tgt := 46) X dX12_kept_39 (by decide) (fun h39 => ?_) (fun h39 => absurd (by decide) h39)
          refine w_aload_n X dX12_kept_46 rfl rfl ?_
          refine g12_keptOnes X dX12_kept_47 ?_
          refine w_bipush (v := 7) X dX12_kept_50 (by decide) ?_
          refine w_iload_n X dX12_kept_52 rfl rfl ?_
          refine w_imul X dX12_kept_53 ?_
          refine w_iload_n X dX12_kept_54 rfl rfl ?_
          refine w_iadd X dX12_kept_55 ?_
          refine w_iaload X dX12_kept_56 rfl rfl (by obtain ⟨b, hb, eb⟩ := iN_ (n := c) (by omega) h2 h10; obtain ⟨e, he, ee⟩ := iL_ (n := 6) (by omega) h18 h24; rw [eb, ee, show (7 : Int32) = nI 7 from rfl, nI_m]; exact vp_in_nI (by omega) (by omega)) ?_
          try simp only [gI_sI, gI_sL, gL_sI, gL_sL, false_and, and_false, and_self, if_false, if_true, reduceIte, Nat.reduceEqDiff, hc]
          refine w_irF X dX12_kept_57 ?_ ?_
          · first | (simp [kt_, h2, h10, h18, h24, h39]; done) | (simp_all [kt_]; done)
          · simp [kt_, h2, h10, h18, h24, h39]
        · refine w_iconst (v := 2) X dX12_kept_27 (by decide) ?_
          refine w_goto (tgt := 32) X dX12_kept_28 (by decide) ?_
          refine p12_thrown X dX12_kept_32 ?_
          refine w_aload_n X dX12_kept_35 rfl rfl ?_
          refine g12_thrown X dX12_kept_36 ?_
          try simp only [gI_sI, gI_sL, gL_sI, gL_sL, false_and, and_false, and_self, if_false, if_true, reduceIte, Nat.reduceEqDiff, hc]
          refine w_if_le (tgt := 46) X dX12_kept_39 (by decide) (fun h39 => absurd h39 (by decide)) (fun h39 => ?_)
          refine w_iconst (v := 0) X dX12_kept_42 (by decide) ?_
          refine w_goto (tgt := 57) X dX12_kept_43 (by decide) ?_
          refine w_irF X dX12_kept_57 ?_ ?_
          · first | (simp [kt_, h2, h10, h18, h24, h39]; done) | (simp_all [kt_]; done)
          · simp [kt_, h2, h10, h18, h24, h39]
    · refine w_iconst (v := 1) X dX12_kept_13 (by decide) ?_
      refine w_goto (tgt := 32) X dX12_kept_14 (by decide) ?_
      refine p12_thrown X dX12_kept_32 ?_
      refine w_aload_n X dX12_kept_35 rfl rfl ?_
      refine g12_thrown X dX12_kept_36 ?_
      try simp only [gI_sI, gI_sL, gL_sI, gL_sL, false_and, and_false, and_self, if_false, if_true, reduceIte, Nat.reduceEqDiff, hc]
      refine w_if_le (tgt := 46) X dX12_kept_39 (by decide) (fun h39 => absurd h39 (by decide)) (fun h39 => ?_)
      refine w_iconst (v := 0) X dX12_kept_42 (by decide) ?_
      refine w_goto (tgt := 57) X dX12_kept_43 (by decide) ?_
      refine w_irF X dX12_kept_57 ?_ ?_
      · first | (simp [kt_, h2, h10, h39]; done) | (simp_all [kt_]; done)
      · simp [kt_, h2, h10, h39]

end
section
/-! patterns, small numbers, jobs -/
theorem fa_0 {M : mm_} {f w : Int32} (h : M.1 0 3 = 0) : fa_ M f w = sI_ (sI_ M 0 3 f) 0 4 w := if_pos h
def rq_ (n : Nat) : Nat → mm_ → Nat → Nat → mm_
  | 0, M, _, _ => M
  | u + 1, M, k, p => if 32 < bf_ M n k then (if io_ (bf_ M n k) = 0 ∧ ¬ bf_ M n k = 42 ∧ ¬ bf_ M n k = 63 then fa_ M 1 (nI k) else if p = 12 then fa_ M 3 (nI k) else rq_ n u (sI_ (sI_ (sI_ M 19 p (bf_ M n k)) 0 33 (nI (p + 1))) 0 5 (nI (k + 1))) (k + 1) (p + 1)) else M
def rp_ (M : mm_) (n k : Nat) : mm_ := if sp_ M n k < n then rq_ n (n - sp_ M n k) (sI_ (sI_ M 0 5 (nI (sp_ M n k))) 0 33 0) (sp_ M n k) 0 else fa_ (sI_ (sI_ M 0 5 (nI (sp_ M n k))) 0 33 0) 1 (nI (sp_ M n k))
def dw_ (v c : Int32) : Int32 := if v * 10 + c - 48 ≤ 999 then v * 10 + c - 48 else 999
def dv_ (f : Nat → Int32) : Nat → Nat → Int32 → Nat × Int32
  | 0, k, v => (k, v)
  | u + 1, k, v => if ig_ (f k) = 1 then dv_ f u (k + 1) (dw_ v (f k)) else (k, v)
theorem ig_bf {M : mm_} {n k : Nat} (h : ¬ k < n) : ig_ (bf_ M n k) = 0 := by
  unfold bf_
  rw [if_neg h]
  decide +kernel
theorem dv_le (f : Nat → Int32) : ∀ u k v, k ≤ (dv_ f u k v).1 ∧ (dv_ f u k v).1 ≤ k + u
  | 0, k, v => ⟨Nat.le_refl _, Nat.le_refl _⟩
  | u + 1, k, v => by
    unfold dv_
    split
    · have := dv_le f u (k + 1) (dw_ v (f k)); omega
    · simp
set_option maxRecDepth 100000 in
set_option maxHeartbeats 4000000 in
theorem c12_readPattern (G : gg_) (hG : gd_ G) (d : Nat) (M : mm_) (n k : Nat) (ht : tz_ M n) (ha : M.1 0 5 = nI k) (hk : k < 536870912) (hf : M.1 0 3 = 0) : cm_ G yX12_readPattern cX12_readPattern 2 none (d + 2) [.ref (G.1 0)] M (fV_ (rp_ M n k)) := by
  refine cm_of hG (by decide) (Nat.le_of_ble_eq_true rfl) (fun C X => ?_)
  generalize hR : rp_ M n k = R
  have lpf : ∀ (N : mm_) (w1 : Option Value), ¬ N.1 0 3 = 0 → N = R → wq_ C G (qe_ C G (fV_ R)) 29 [some (.ref (G.1 0)), w1] [] N := by
    intro N w1 h3 hr
    refine w_aload_n X dX12_readPattern_29 rfl rfl ?_
    refine g12_fault X dX12_readPattern_30 ?_
    refine w_if_ne (tgt := 156) X dX12_readPattern_33 (by decide) (fun h33 => ?_) (fun h33 => absurd h33 h3)
    exact w_vrF X dX12_readPattern_156 hr
  have lp : ∀ (u : Nat) (N : mm_) (q p : Nat) (w1 : Option Value), tz_ N n → N.1 0 5 = nI q → N.1 0 33 = nI p → p ≤ 12 → N.1 0 3 = 0 → u = n - q → q < 1073741824 → R = rq_ n u N q p → wq_ C G (qe_ C G (fV_ R)) 29 [some (.ref (G.1 0)), w1] [] N := by
    intro u
    induction u with
    | zero =>
      intro N q p w1 hz h5 hp hp2 h3 hu hq hr
      have hn := hz.2
      refine w_aload_n X dX12_readPattern_29 rfl rfl ?_
      refine g12_fault X dX12_readPattern_30 ?_
      try simp only [gI_sI, gI_sL, gL_sI, gL_sL, false_and, and_false, and_self, if_false, if_true, reduceIte, Nat.reduceEqDiff, hz.1, h5, hp, h3]
      refine w_if_ne (tgt := 156) X dX12_readPattern_33 (by decide) (fun h33 => absurd rfl h33) (fun h33 => ?_)
      refine w_aload_n X dX12_readPattern_36 rfl rfl ?_
      refine g12_at X dX12_readPattern_37 ?_
      try simp only [gI_sI, gI_sL, gL_sI, gL_sL, false_and, and_false, and_self, if_false, if_true, reduceIte, Nat.reduceEqDiff, hz.1, h5, hp, h3]
      refine w_aload_n X dX12_readPattern_40 rfl rfl ?_
      refine g12_size X dX12_readPattern_41 ?_
      try simp only [gI_sI, gI_sL, gL_sI, gL_sL, false_and, and_false, and_self, if_false, if_true, reduceIte, Nat.reduceEqDiff, hz.1, h5, hp, h3]
      refine w_icmp_ge (tgt := 156) X dX12_readPattern_44 (by decide) (fun h44 => ?_) (fun h44 => absurd (nI_le (by omega) (by omega)) h44)
      exact w_vrF X dX12_readPattern_156 (by rw [hr]; rfl)
    | succ u ih =>
      intro N q p w1 hz h5 hp hp2 h3 hu hq hr
      have hn := hz.2
      have eb : bf_ N n q = N.1 1 q := if_pos (by omega)
      refine w_aload_n X dX12_readPattern_29 rfl rfl ?_
      refine g12_fault X dX12_readPattern_30 ?_
      try simp only [gI_sI, gI_sL, gL_sI, gL_sL, false_and, and_false, and_self, if_false, if_true, reduceIte, Nat.reduceEqDiff, hz.1, h5, hp, h3]
      refine w_if_ne (tgt := 156) X dX12_readPattern_33 (by decide) (fun h33 => absurd rfl h33) (fun h33 => ?_)
      refine w_aload_n X dX12_readPattern_36 rfl rfl ?_
      refine g12_at X dX12_readPattern_37 ?_
      try simp only [gI_sI, gI_sL, gL_sI, gL_sL, false_and, and_false, and_self, if_false, if_true, reduceIte, Nat.reduceEqDiff, hz.1, h5, hp, h3]
      refine w_aload_n X dX12_readPattern_40 rfl rfl ?_
      refine g12_size X dX12_readPattern_41 ?_
      try simp only [gI_sI, gI_sL, gL_sI, gL_sL, false_and, and_false, and_self, if_false, if_true, reduceIte, Nat.reduceEqDiff, hz.1, h5, hp, h3]
      refine w_icmp_ge (tgt := 156) X dX12_readPattern_44 (by decide) (fun h44 => absurd h44 (nI_ge (by omega) (by omega))) (fun h44 => ?_)
      refine w_aload_n X dX12_readPattern_47 rfl rfl ?_
      refine g12_tape X dX12_readPattern_48 ?_
      refine w_aload_n X dX12_readPattern_51 rfl rfl ?_
      refine g12_at X dX12_readPattern_52 ?_
      try simp only [gI_sI, gI_sL, gL_sI, gL_sL, false_and, and_false, and_self, if_false, if_true, reduceIte, Nat.reduceEqDiff, hz.1, h5, hp, h3]
      refine w_ialoadN X dX12_readPattern_55 rfl rfl (by omega) ?_
      try simp only [gI_sI, gI_sL, gL_sI, gL_sL, false_and, and_false, and_self, if_false, if_true, reduceIte, Nat.reduceEqDiff, hz.1, h5, hp, h3]
      refine w_bipush (v := 32) X dX12_readPattern_56 (by decide) ?_
      refine w_icmp_le (tgt := 156) X dX12_readPattern_58 (by decide) (fun h58 => ?_) (fun h58 => ?_)
      · refine w_vrF X dX12_readPattern_156 ?_
        rw [hr]
        simp only [rq_]
        rw [if_neg (by rw [eb]; exact Int32.not_lt.mpr h58)]
      · refine w_aload_n X dX12_readPattern_61 rfl rfl ?_
        refine g12_tape X dX12_readPattern_62 ?_
        refine w_aload_n X dX12_readPattern_65 rfl rfl ?_
        refine g12_at X dX12_readPattern_66 ?_
        try simp only [gI_sI, gI_sL, gL_sI, gL_sL, false_and, and_false, and_self, if_false, if_true, reduceIte, Nat.reduceEqDiff, hz.1, h5, hp, h3]
        refine w_ialoadN X dX12_readPattern_69 rfl rfl (by omega) ?_
        try simp only [gI_sI, gI_sL, gL_sI, gL_sL, false_and, and_false, and_self, if_false, if_true, reduceIte, Nat.reduceEqDiff, hz.1, h5, hp, h3]
        refine w_istore_n X dX12_readPattern_70 rfl (by decide) ?_
        refine w_iload_n X dX12_readPattern_71 rfl rfl ?_
        refine w_s1fI X dX12_readPattern_72 k12_isOfRow (c12_isOfRow G hG _ _ _) (Nat.le_of_ble_eq_true rfl) ?_
        refine w_if_ne (tgt := 102) X dX12_readPattern_75 (by decide) (fun h75 => ?_) (fun h75 => ?_)
        · refine w_aload_n X dX12_readPattern_102 rfl rfl ?_
          refine g12_newPatternSize X dX12_readPattern_103 ?_
          try simp only [gI_sI, gI_sL, gL_sI, gL_sL, false_and, and_false, and_self, if_false, if_true, reduceIte, Nat.reduceEqDiff, hz.1, h5, hp, h3]
          refine w_bipush (v := 12) X dX12_readPattern_106 (by decide) ?_
          refine w_icmp_ne (tgt := 123) X dX12_readPattern_108 (by decide) (fun h108 => ?_) (fun h108 => ?_)
          · have e108 : ¬ p = 12 := fun q => h108 (by rw [q]; rfl)
            refine w_aload_n X dX12_readPattern_123 rfl rfl ?_
            refine g12_newPattern X dX12_readPattern_124 ?_
            refine w_aload_n X dX12_readPattern_127 rfl rfl ?_
            refine g12_newPatternSize X dX12_readPattern_128 ?_
            try simp only [gI_sI, gI_sL, gL_sI, gL_sL, false_and, and_false, and_self, if_false, if_true, reduceIte, Nat.reduceEqDiff, hz.1, h5, hp, h3]
            refine w_iload_n X dX12_readPattern_131 rfl rfl ?_
            refine w_iastoreN X dX12_readPattern_132 rfl rfl (by have : ¬ p = 12 := e108; omega) ?_
            refine w_aload_n X dX12_readPattern_133 rfl rfl ?_
            refine w_dup X dX12_readPattern_134 rfl ?_
            refine g12_newPatternSize X dX12_readPattern_135 ?_
            try simp only [gI_sI, gI_sL, gL_sI, gL_sL, false_and, and_false, and_self, if_false, if_true, reduceIte, Nat.reduceEqDiff, hz.1, h5, hp, h3]
            refine w_iconst (v := 1) X dX12_readPattern_138 (by decide) ?_
            refine w_iadd X dX12_readPattern_139 ?_
            refine p12_newPatternSize X dX12_readPattern_140 ?_
            refine w_aload_n X dX12_readPattern_143 rfl rfl ?_
            refine w_dup X dX12_readPattern_144 rfl ?_
            refine g12_at X dX12_readPattern_145 ?_
            try simp only [gI_sI, gI_sL, gL_sI, gL_sL, false_and, and_false, and_self, if_false, if_true, reduceIte, Nat.reduceEqDiff, hz.1, h5, hp, h3]
            refine w_iconst (v := 1) X dX12_readPattern_148 (by decide) ?_
            refine w_iadd X dX12_readPattern_149 ?_
            refine p12_at X dX12_readPattern_150 ?_
            refine w_goto (tgt := 29) X dX12_readPattern_153 (by decide) ?_
            rw [nI_1, nI_1]
            refine ih _ (q + 1) (p + 1) _ (tz_sI (tz_sI (tz_sI hz (by omega)) (by omega)) (by omega)) (by simp [sI_]) (by simp [sI_]) (by omega) (by simp [sI_, h3]) (by omega) (by omega) ?_
            rw [hr]
            simp only [rq_]
            simp [eb, h3, h3, h58, h75, e108]
          · have e108 : p = 12 := (nI_eq (b := 12) (by omega) (by omega)).mp h108
            refine w_aload_n X dX12_readPattern_111 rfl rfl ?_
            refine w_iconst (v := 3) X dX12_readPattern_112 (by decide) ?_
            refine w_aload_n X dX12_readPattern_113 rfl rfl ?_
            refine g12_at X dX12_readPattern_114 ?_
            try simp only [gI_sI, gI_sL, gL_sI, gL_sL, false_and, and_false, and_self, if_false, if_true, reduceIte, Nat.reduceEqDiff, hz.1, h5, hp, h3]
            refine w_v2fV X dX12_readPattern_117 k12_fail rfl rfl (c12_fail G hG _ _ _ _) (Nat.le_of_ble_eq_true rfl) ?_
            rw [fa_0 h3]
            refine w_goto (tgt := 153) X dX12_readPattern_120 (by decide) ?_
            refine w_goto (tgt := 29) X dX12_readPattern_153 (by decide) ?_
            refine lpf _ _ (by simp [sI_]) ?_
            rw [hr]
            simp only [rq_]
            simp [eb, h3, h3, h58, h75, e108, fa_0 h3]
        · refine w_iload_n X dX12_readPattern_78 rfl rfl ?_
          refine w_bipush (v := 42) X dX12_readPattern_79 (by decide) ?_
          refine w_icmp_eq (tgt := 102) X dX12_readPattern_81 (by decide) (fun h81 => ?_) (fun h81 => ?_)
          · refine w_aload_n X dX12_readPattern_102 rfl rfl ?_
            refine g12_newPatternSize X dX12_readPattern_103 ?_
            try simp only [gI_sI, gI_sL, gL_sI, gL_sL, false_and, and_false, and_self, if_false, if_true, reduceIte, Nat.reduceEqDiff, hz.1, h5, hp, h3]
            refine w_bipush (v := 12) X dX12_readPattern_106 (by decide) ?_
            refine w_icmp_ne (tgt := 123) X dX12_readPattern_108 (by decide) (fun h108 => ?_) (fun h108 => ?_)
            · have e108 : ¬ p = 12 := fun q => h108 (by rw [q]; rfl)
              refine w_aload_n X dX12_readPattern_123 rfl rfl ?_
              refine g12_newPattern X dX12_readPattern_124 ?_
              refine w_aload_n X dX12_readPattern_127 rfl rfl ?_
              refine g12_newPatternSize X dX12_readPattern_128 ?_
              try simp only [gI_sI, gI_sL, gL_sI, gL_sL, false_and, and_false, and_self, if_false, if_true, reduceIte, Nat.reduceEqDiff, hz.1, h5, hp, h3]
              refine w_iload_n X dX12_readPattern_131 rfl rfl ?_
              refine w_iastoreN X dX12_readPattern_132 rfl rfl (by have : ¬ p = 12 := e108; omega) ?_
              refine w_aload_n X dX12_readPattern_133 rfl rfl ?_
              refine w_dup X dX12_readPattern_134 rfl ?_
              refine g12_newPatternSize X dX12_readPattern_135 ?_
              try simp only [gI_sI, gI_sL, gL_sI, gL_sL, false_and, and_false, and_self, if_false, if_true, reduceIte, Nat.reduceEqDiff, hz.1, h5, hp, h3]
              refine w_iconst (v := 1) X dX12_readPattern_138 (by decide) ?_
              refine w_iadd X dX12_readPattern_139 ?_
              refine p12_newPatternSize X dX12_readPattern_140 ?_
              refine w_aload_n X dX12_readPattern_143 rfl rfl ?_
              refine w_dup X dX12_readPattern_144 rfl ?_
              refine g12_at X dX12_readPattern_145 ?_
              try simp only [gI_sI, gI_sL, gL_sI, gL_sL, false_and, and_false, and_self, if_false, if_true, reduceIte, Nat.reduceEqDiff, hz.1, h5, hp, h3]
              refine w_iconst (v := 1) X dX12_readPattern_148 (by decide) ?_
              refine w_iadd X dX12_readPattern_149 ?_
              refine p12_at X dX12_readPattern_150 ?_
              refine w_goto (tgt := 29) X dX12_readPattern_153 (by decide) ?_
              rw [nI_1, nI_1]
              refine ih _ (q + 1) (p + 1) _ (tz_sI (tz_sI (tz_sI hz (by omega)) (by omega)) (by omega)) (by simp [sI_]) (by simp [sI_]) (by omega) (by simp [sI_, h3]) (by omega) (by omega) ?_
              rw [hr]
              simp only [rq_]
              simp [eb, h3, h3, h58, h75, h81, e108]
            · have e108 : p = 12 := (nI_eq (b := 12) (by omega) (by omega)).mp h108
              refine w_aload_n X dX12_readPattern_111 rfl rfl ?_
              refine w_iconst (v := 3) X dX12_readPattern_112 (by decide) ?_
              refine w_aload_n X dX12_readPattern_113 rfl rfl ?_
              refine g12_at X dX12_readPattern_114 ?_
              try simp only [gI_sI, gI_sL, gL_sI, gL_sL, false_and, and_false, and_self, if_false, if_true, reduceIte, Nat.reduceEqDiff, hz.1, h5, hp, h3]
              refine w_v2fV X dX12_readPattern_117 k12_fail rfl rfl (c12_fail G hG _ _ _ _) (Nat.le_of_ble_eq_true rfl) ?_
              rw [fa_0 h3]
              refine w_goto (tgt := 153) X dX12_readPattern_120 (by decide) ?_
              refine w_goto (tgt := 29) X dX12_readPattern_153 (by decide) ?_
              refine lpf _ _ (by simp [sI_]) ?_
              rw [hr]
              simp only [rq_]
              simp [eb, h3, h3, h58, h75, h81, e108, fa_0 h3]
          · refine w_iload_n X dX12_readPattern_84 rfl rfl ?_
            refine w_bipush (v := 63) X dX12_readPattern_85 (by decide) ?_
            refine w_icmp_eq (tgt := 102) X dX12_readPattern_87 (by decide) (fun h87 => ?_) (fun h87 => ?_)
            · refine w_aload_n X dX12_readPattern_102 rfl rfl ?_
              refine g12_newPatternSize X dX12_readPattern_103 ?_
              try simp only [gI_sI, gI_sL, gL_sI, gL_sL, false_and, and_false, and_self, if_false, if_true, reduceIte, Nat.reduceEqDiff, hz.1, h5, hp, h3]
              refine w_bipush (v := 12) X dX12_readPattern_106 (by decide) ?_
              refine w_icmp_ne (tgt := 123) X dX12_readPattern_108 (by decide) (fun h108 => ?_) (fun h108 => ?_)
              · have e108 : ¬ p = 12 := fun q => h108 (by rw [q]; rfl)
                refine w_aload_n X dX12_readPattern_123 rfl rfl ?_
                refine g12_newPattern X dX12_readPattern_124 ?_
                refine w_aload_n X dX12_readPattern_127 rfl rfl ?_
                refine g12_newPatternSize X dX12_readPattern_128 ?_
                try simp only [gI_sI, gI_sL, gL_sI, gL_sL, false_and, and_false, and_self, if_false, if_true, reduceIte, Nat.reduceEqDiff, hz.1, h5, hp, h3]
                refine w_iload_n X dX12_readPattern_131 rfl rfl ?_
                refine w_iastoreN X dX12_readPattern_132 rfl rfl (by have : ¬ p = 12 := e108; omega) ?_
                refine w_aload_n X dX12_readPattern_133 rfl rfl ?_
                refine w_dup X dX12_readPattern_134 rfl ?_
                refine g12_newPatternSize X dX12_readPattern_135 ?_
                try simp only [gI_sI, gI_sL, gL_sI, gL_sL, false_and, and_false, and_self, if_false, if_true, reduceIte, Nat.reduceEqDiff, hz.1, h5, hp, h3]
                refine w_iconst (v := 1) X dX12_readPattern_138 (by decide) ?_
                refine w_iadd X dX12_readPattern_139 ?_
                refine p12_newPatternSize X dX12_readPattern_140 ?_
                refine w_aload_n X dX12_readPattern_143 rfl rfl ?_
                refine w_dup X dX12_readPattern_144 rfl ?_
                refine g12_at X dX12_readPattern_145 ?_
                try simp only [gI_sI, gI_sL, gL_sI, gL_sL, false_and, and_false, and_self, if_false, if_true, reduceIte, Nat.reduceEqDiff, hz.1, h5, hp, h3]
                refine w_iconst (v := 1) X dX12_readPattern_148 (by decide) ?_
                refine w_iadd X dX12_readPattern_149 ?_
                refine p12_at X dX12_readPattern_150 ?_
                refine w_goto (tgt := 29) X dX12_readPattern_153 (by decide) ?_
                rw [nI_1, nI_1]
                refine ih _ (q + 1) (p + 1) _ (tz_sI (tz_sI (tz_sI hz (by omega)) (by omega)) (by omega)) (by simp [sI_]) (by simp [sI_]) (by omega) (by simp [sI_, h3]) (by omega) (by omega) ?_
                rw [hr]
                simp only [rq_]
                simp [eb, h3, h3, h58, h75, h81, h87, e108]
              · have e108 : p = 12 := (nI_eq (b := 12) (by omega) (by omega)).mp h108
                refine w_aload_n X dX12_readPattern_111 rfl rfl ?_
                refine w_iconst (v := 3) X dX12_readPattern_112 (by decide) ?_
                refine w_aload_n X dX12_readPattern_113 rfl rfl ?_
                refine g12_at X dX12_readPattern_114 ?_
                try simp only [gI_sI, gI_sL, gL_sI, gL_sL, false_and, and_false, and_self, if_false, if_true, reduceIte, Nat.reduceEqDiff, hz.1, h5, hp, h3]
                refine w_v2fV X dX12_readPattern_117 k12_fail rfl rfl (c12_fail G hG _ _ _ _) (Nat.le_of_ble_eq_true rfl) ?_
                rw [fa_0 h3]
                refine w_goto (tgt := 153) X dX12_readPattern_120 (by decide) ?_
                refine w_goto (tgt := 29) X dX12_readPattern_153 (by decide) ?_
                refine lpf _ _ (by simp [sI_]) ?_
                rw [hr]
                simp only [rq_]
                simp [eb, h3, h3, h58, h75, h81, h87, e108, fa_0 h3]
            · refine w_aload_n X dX12_readPattern_90 rfl rfl ?_
              refine w_iconst (v := 1) X dX12_readPattern_91 (by decide) ?_
              refine w_aload_n X dX12_readPattern_92 rfl rfl ?_
              refine g12_at X dX12_readPattern_93 ?_
              try simp only [gI_sI, gI_sL, gL_sI, gL_sL, false_and, and_false, and_self, if_false, if_true, reduceIte, Nat.reduceEqDiff, hz.1, h5, hp, h3]
              refine w_v2fV X dX12_readPattern_96 k12_fail rfl rfl (c12_fail G hG _ _ _ _) (Nat.le_of_ble_eq_true rfl) ?_
              rw [fa_0 h3]
              refine w_goto (tgt := 153) X dX12_readPattern_99 (by decide) ?_
              refine w_goto (tgt := 29) X dX12_readPattern_153 (by decide) ?_
              refine lpf _ _ (by simp [sI_]) ?_
              rw [hr]
              simp only [rq_]
              simp [eb, h3, h3, h58, h75, h81, h87, fa_0 h3]
  refine w_aload_n X dX12_readPattern_0 rfl rfl ?_
  refine w_v0fV X dX12_readPattern_1 k12_skip rfl rfl (c12_skip G hG _ _ n k ht ha (by omega)) (Nat.le_of_ble_eq_true rfl) ?_
  have hn := ht.2
  have hq : sp_ M n k < 1073741824 := by have := (sk_ge (bf_ M n) (n - k) k).2; unfold sp_; omega
  refine w_aload_n X dX12_readPattern_4 rfl rfl ?_
  refine w_iconst (v := 0) X dX12_readPattern_5 (by decide) ?_
  refine p12_newPatternSize X dX12_readPattern_6 ?_
  refine w_aload_n X dX12_readPattern_9 rfl rfl ?_
  refine g12_at X dX12_readPattern_10 ?_
  try simp only [gI_sI, gI_sL, gL_sI, gL_sL, false_and, and_false, and_self, if_false, if_true, reduceIte, Nat.reduceEqDiff, ht.1]
  refine w_aload_n X dX12_readPattern_13 rfl rfl ?_
  refine g12_size X dX12_readPattern_14 ?_
  try simp only [gI_sI, gI_sL, gL_sI, gL_sL, false_and, and_false, and_self, if_false, if_true, reduceIte, Nat.reduceEqDiff, ht.1]
  refine w_icmp_lt (tgt := 29) X dX12_readPattern_17 (by decide) (fun h17 => ?_) (fun h17 => ?_)
  · have e17 : sp_ M n k < n := (nI_ltI (by omega) (by omega)).mp h17
    refine lp (n - sp_ M n k) _ (sp_ M n k) 0 _ (tz_sI (tz_sI ht (by omega)) (by omega)) (by simp [sI_]) (by simp [sI_]; rfl) (by omega) (by simp [sI_, hf]) rfl (by omega) ?_
    rw [← hR]
    unfold rp_
    rw [if_pos e17]
  · have e17 : ¬ sp_ M n k < n := fun q => h17 ((nI_ltI (by omega) (by omega)).mpr q)
    refine w_aload_n X dX12_readPattern_20 rfl rfl ?_
    refine w_iconst (v := 1) X dX12_readPattern_21 (by decide) ?_
    refine w_aload_n X dX12_readPattern_22 rfl rfl ?_
    refine g12_at X dX12_readPattern_23 ?_
    try simp only [gI_sI, gI_sL, gL_sI, gL_sL, false_and, and_false, and_self, if_false, if_true, reduceIte, Nat.reduceEqDiff, ht.1]
    refine w_v2fV X dX12_readPattern_26 k12_fail rfl rfl (c12_fail G hG _ _ _ _) (Nat.le_of_ble_eq_true rfl) ?_
    rw [fa_0 (by simp [sI_, hf])]
    refine lpf _ _ (by simp [sI_]) ?_
    rw [← hR]
    unfold rp_
    rw [if_neg e17, fa_0 (by simp [sI_, hf])]

end
