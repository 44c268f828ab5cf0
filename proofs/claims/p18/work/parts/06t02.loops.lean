/-! the reader's loops: blanks, a row, a number -/
theorem tb_37 (M : mm_) (i : Nat) (v x : Int32) : tb_ (sI_ M 37 i v) x = tb_ M x := rfl
theorem tb_sL (M : mm_) (a i : Nat) (v : Int64) (x : Int32) : tb_ (sL_ M a i v) x = tb_ M x := rfl
theorem tp_37 {M : mm_} {n i : Nat} {v : Int32} (h : tpX_ M n) : tpX_ (sI_ M 37 i v) n := ⟨h.1, h.2⟩
theorem tp_sL {M : mm_} {n a i : Nat} {v : Int64} (h : tpX_ M n) : tpX_ (sL_ M a i v) n := ⟨h.1, h.2⟩
def sk1_ : Nat → mm_ → mm_
  | 0, M => M
  | u + 1, M => if bl_ (pe_ M) = 0 then M else sk1_ u (sI_ M 37 1 (M.1 37 1 + 1))
def ew_ (M : mm_) : mm_ := sk1_ 200 (if pe_ M = -1 then M else if bl_ (pe_ M) = 0 then fiX_ M 1 (M.1 37 1) else M)
/-- the row of letters and points from p on: its length, its points, its packed name -/
def sr1_ (M : mm_) (p : Int32) : Nat → Nat → Int32 → Int64 → Nat × Int32 × Int64
  | 0, j, q, w => (j, q, w)
  | u + 1, j, q, w => if rb_ (tb_ M (p + nI j)) = 0 then (j, q, w) else sr1_ M p u (j + 1) (q + (if tb_ M (p + nI j) = 46 then 1 else 0)) (if j < 12 then wi_ w (nI j) (sgX_ (tb_ M (p + nI j))) else w)
def srO_ (M : mm_) (r : Nat × Int32 × Int64) : mm_ := sI_ (sI_ (sL_ M 37 6 r.2.2) 37 4 (nI r.1)) 37 5 (if r.2.1 = 1 ∧ ¬ tb_ M (M.1 37 1) = 46 ∧ ¬ tb_ M (M.1 37 1 + nI r.1 - 1) = 46 then 1 else 0)
theorem sL_sLX (M : mm_) (a i : Nat) (v w : Int64) : sL_ (sL_ M a i v) a i w = sL_ M a i w := by
  unfold sL_
  congr
  funext x j
  by_cases h : x = a ∧ j = i
  · simp [h]
  · simp [h]
def mn_ (x y : Int64) : Int64 := if y < x then y else x
def nu1_ : Nat → mm_ → Int64 → mm_ × Int64
  | 0, M, v => (M, v)
  | u + 1, M, v => if fg_ (pe_ M) = 0 then (M, v) else nu1_ u (sI_ M 37 1 (M.1 37 1 + 1)) (mn_ (v * 10 + (pe_ M).toInt64 - 48) 1099511627776)
def nuA_ (M : mm_) : mm_ := if fg_ (pe_ M) = 0 then fiX_ M 1 (M.1 37 1) else M
def nuB_ (M : mm_) (p : Int32) (v : Int64) (w : Int32) : mm_ := if v ≤ w.toInt64 then M else fiX_ M 2 p
set_option maxRecDepth 100000 in
set_option maxHeartbeats 600000 in
theorem c7_skipBlanks (G : gg_) (hG : gd_ G) (d : Nat) (M : mm_) (n : Nat) (ht : tpX_ M n) : cm_ G yX7_skipBlanks cX7_skipBlanks 2 none (d + 2) [.ref (G.1 37)] M (fV_ (sk1_ 200 M)) := by
  refine cm_of hG (by decide) (Nat.le_of_ble_eq_true rfl) (fun C X => ?_)
  have lp : ∀ (u i : Nat) (M0 : mm_), i + u = 200 → tpX_ M0 n → sk1_ u M0 = sk1_ 200 M → wq_ C G (qe_ C G (fV_ (sk1_ 200 M))) 2 [some (.ref (G.1 37)), some (.int (nI i))] [] M0 := by
    intro u
    induction u with
    | zero =>
      intro i M0 h1 h2 h3
      obtain rfl : i = 200 := by omega
      refine w_iload_n X dX7_skipBlanks_2 rfl rfl ?_
      refine w_sipush (v := 200) X dX7_skipBlanks_3 (by decide) ?_
      refine w_icmp_ge (tgt := 35) X dX7_skipBlanks_6 (by decide) (fun h6 => ?_) (fun h6 => absurd (by decide) h6)
      exact w_vrF X dX7_skipBlanks_35 h3
    | succ u ih =>
      intro i M0 h1 h2 h3
      rw [sk1_] at h3
      refine w_iload_n X dX7_skipBlanks_2 rfl rfl ?_
      refine w_sipush (v := 200) X dX7_skipBlanks_3 (by decide) ?_
      refine w_icmp_ge (tgt := 35) X dX7_skipBlanks_6 (by decide) (fun h6 => absurd h6 (nI_ge (a := i) (b := 200) (by omega) (by decide))) (fun h6 => ?_)
      refine w_aload_n X dX7_skipBlanks_9 rfl rfl ?_
      refine w_v0fI X dX7_skipBlanks_10 k7_38 rfl s_37 (c7_peek G hG _ _ n h2) (Nat.le_of_ble_eq_true rfl) ?_
      refine w_s1fI X dX7_skipBlanks_13 k7_89 (c7_isBlank G hG _ _ _) (Nat.le_of_ble_eq_true rfl) ?_
      refine w_if_eq (tgt := 35) X dX7_skipBlanks_16 (by decide) (fun h16 => ?_) (fun h16 => ?_)
      · rw [if_pos h16] at h3
        exact w_vrF X dX7_skipBlanks_35 h3
      · rw [if_neg h16] at h3
        refine w_aload_n X dX7_skipBlanks_19 rfl rfl ?_
        refine w_dup X dX7_skipBlanks_20 rfl ?_
        refine g7_22 X dX7_skipBlanks_21 s_37 rfl ?_
        refine w_iconst (v := 1) X dX7_skipBlanks_24 (by decide) ?_
        refine w_iadd X dX7_skipBlanks_25 ?_
        refine p7_22 X dX7_skipBlanks_26 s_37 rfl ?_
        refine w_iinc (v := 1) X dX7_skipBlanks_29 rfl (by decide) (by decide) ?_
        refine w_goto (tgt := 2) X dX7_skipBlanks_32 (by decide) ?_
        rw [nI_1]
        exact ih (i + 1) _ (by omega) (tp_37 h2) h3
  refine w_iconst (v := 0) X dX7_skipBlanks_0 (by decide) ?_
  refine w_istore_n X dX7_skipBlanks_1 rfl (by decide) ?_
  exact lp 200 0 M (by omega) ht rfl
set_option maxRecDepth 100000 in
set_option maxHeartbeats 600000 in
theorem c7_endWord (G : gg_) (hG : gd_ G) (d : Nat) (M : mm_) (n : Nat) (ht : tpX_ M n) : cm_ G yX7_endWord cX7_endWord 1 none (d + 3) [.ref (G.1 37)] M (fV_ (ew_ M)) := by
  refine cm_of hG (by decide) (Nat.le_of_ble_eq_true rfl) (fun C X => ?_)
  refine w_aload_n X dX7_endWord_0 rfl rfl ?_
  refine w_v0fI X dX7_endWord_1 k7_38 rfl s_37 (c7_peek G hG _ _ n ht) (Nat.le_of_ble_eq_true rfl) ?_
  refine w_iconst (v := -1) X dX7_endWord_4 (by decide) ?_
  refine w_icmp_eq (tgt := 27) X dX7_endWord_5 (by decide) (fun h5 => ?_) (fun h5 => ?_)
  · refine w_aload_n X dX7_endWord_27 rfl rfl ?_
    refine w_v0fV X dX7_endWord_28 k7_92 rfl s_37 (c7_skipBlanks G hG _ _ n ht) (Nat.le_of_ble_eq_true rfl) ?_
    refine w_vrF X dX7_endWord_31 ?_
    unfold ew_
    rw [if_pos h5]
  · refine w_aload_n X dX7_endWord_8 rfl rfl ?_
    refine w_v0fI X dX7_endWord_9 k7_38 rfl s_37 (c7_peek G hG _ _ n ht) (Nat.le_of_ble_eq_true rfl) ?_
    refine w_s1fI X dX7_endWord_12 k7_89 (c7_isBlank G hG _ _ _) (Nat.le_of_ble_eq_true rfl) ?_
    refine w_if_ne (tgt := 27) X dX7_endWord_15 (by decide) (fun h15 => ?_) (fun h15 => ?_)
    · refine w_aload_n X dX7_endWord_27 rfl rfl ?_
      refine w_v0fV X dX7_endWord_28 k7_92 rfl s_37 (c7_skipBlanks G hG _ _ n ht) (Nat.le_of_ble_eq_true rfl) ?_
      refine w_vrF X dX7_endWord_31 ?_
      unfold ew_
      rw [if_neg h5, if_neg h15]
    · refine w_aload_n X dX7_endWord_18 rfl rfl ?_
      refine w_iconst (v := 1) X dX7_endWord_19 (by decide) ?_
      refine w_aload_n X dX7_endWord_20 rfl rfl ?_
      refine g7_22 X dX7_endWord_21 s_37 rfl ?_
      refine w_v2fV X dX7_endWord_24 k7_34 rfl s_37 (c7_fail G hG _ _ _ _) (Nat.le_of_ble_eq_true rfl) ?_
      refine w_aload_n X dX7_endWord_27 rfl rfl ?_
      refine w_v0fV X dX7_endWord_28 k7_92 rfl s_37 (c7_skipBlanks G hG _ _ n (tp_fi ht)) (Nat.le_of_ble_eq_true rfl) ?_
      refine w_vrF X dX7_endWord_31 ?_
      unfold ew_
      rw [if_neg h5, if_pos h15]
def tN_ (M : mm_) : mm_ := sI_ (if M.1 37 4 ≤ 12 then (if M.1 37 5 = 0 then fiX_ M 1 (M.1 37 1) else M) else fiX_ (if M.1 37 5 = 0 then fiX_ M 1 (M.1 37 1) else M) 3 (M.1 37 1 + 12)) 37 1 (M.1 37 1 + M.1 37 4)
theorem fi_4 (M : mm_) (f w : Int32) : (fiX_ M f w).1 37 4 = M.1 37 4 := by unfold fiX_; split <;> rfl
theorem fi_L (M : mm_) (f w : Int32) : (fiX_ M f w).2.1 = M.2.1 := by unfold fiX_; split <;> rfl
set_option maxRecDepth 100000 in
set_option maxHeartbeats 600000 in
theorem c7_takeName (G : gg_) (hG : gd_ G) (d : Nat) (M : mm_) : cm_ G yX7_takeName cX7_takeName 1 (some .long) (d + 1) [.ref (G.1 37)] M (fL_ (M.2.1 37 6) (tN_ M)) := by
  refine cm_of hG (by decide) (Nat.le_of_ble_eq_true rfl) (fun C X => ?_)
  refine w_aload_n X dX7_takeName_0 rfl rfl ?_
  refine g7_77 X dX7_takeName_1 s_37 rfl ?_
  refine w_if_ne (tgt := 16) X dX7_takeName_4 (by decide) (fun h4 => ?_) (fun h4 => ?_)
  · refine w_aload_n X dX7_takeName_16 rfl rfl ?_
    refine g7_74 X dX7_takeName_17 s_37 rfl ?_
    refine w_bipush (v := 12) X dX7_takeName_20 (by decide) ?_
    refine w_icmp_le (tgt := 37) X dX7_takeName_22 (by decide) (fun h22 => ?_) (fun h22 => ?_)
    · refine w_aload_n X dX7_takeName_37 rfl rfl ?_
      refine w_dup X dX7_takeName_38 rfl ?_
      refine g7_22 X dX7_takeName_39 s_37 rfl ?_
      refine w_aload_n X dX7_takeName_42 rfl rfl ?_
      refine g7_74 X dX7_takeName_43 s_37 rfl ?_
      refine w_iadd X dX7_takeName_46 ?_
      refine p7_22 X dX7_takeName_47 s_37 rfl ?_
      refine w_aload_n X dX7_takeName_50 rfl rfl ?_
      refine g7_58 X dX7_takeName_51 s_37 rfl ?_
      refine w_lrF X dX7_takeName_54 (by simp [gL_sI, fi_L]) ?_
      unfold tN_
      try simp only [fi_pos, fi_4] at *
      simp [h4, h22]
    · refine w_aload_n X dX7_takeName_25 rfl rfl ?_
      refine w_iconst (v := 3) X dX7_takeName_26 (by decide) ?_
      refine w_aload_n X dX7_takeName_27 rfl rfl ?_
      refine g7_22 X dX7_takeName_28 s_37 rfl ?_
      refine w_bipush (v := 12) X dX7_takeName_31 (by decide) ?_
      refine w_iadd X dX7_takeName_33 ?_
      refine w_v2fV X dX7_takeName_34 k7_34 rfl s_37 (c7_fail G hG _ _ _ _) (Nat.le_of_ble_eq_true rfl) ?_
      refine w_aload_n X dX7_takeName_37 rfl rfl ?_
      refine w_dup X dX7_takeName_38 rfl ?_
      refine g7_22 X dX7_takeName_39 s_37 rfl ?_
      refine w_aload_n X dX7_takeName_42 rfl rfl ?_
      refine g7_74 X dX7_takeName_43 s_37 rfl ?_
      refine w_iadd X dX7_takeName_46 ?_
      refine p7_22 X dX7_takeName_47 s_37 rfl ?_
      refine w_aload_n X dX7_takeName_50 rfl rfl ?_
      refine g7_58 X dX7_takeName_51 s_37 rfl ?_
      refine w_lrF X dX7_takeName_54 (by simp [gL_sI, fi_L]) ?_
      unfold tN_
      try simp only [fi_pos, fi_4] at *
      simp [h4, h22]
  · refine w_aload_n X dX7_takeName_7 rfl rfl ?_
    refine w_iconst (v := 1) X dX7_takeName_8 (by decide) ?_
    refine w_aload_n X dX7_takeName_9 rfl rfl ?_
    refine g7_22 X dX7_takeName_10 s_37 rfl ?_
    refine w_v2fV X dX7_takeName_13 k7_34 rfl s_37 (c7_fail G hG _ _ _ _) (Nat.le_of_ble_eq_true rfl) ?_
    refine w_aload_n X dX7_takeName_16 rfl rfl ?_
    refine g7_74 X dX7_takeName_17 s_37 rfl ?_
    refine w_bipush (v := 12) X dX7_takeName_20 (by decide) ?_
    refine w_icmp_le (tgt := 37) X dX7_takeName_22 (by decide) (fun h22 => ?_) (fun h22 => ?_)
    · refine w_aload_n X dX7_takeName_37 rfl rfl ?_
      refine w_dup X dX7_takeName_38 rfl ?_
      refine g7_22 X dX7_takeName_39 s_37 rfl ?_
      refine w_aload_n X dX7_takeName_42 rfl rfl ?_
      refine g7_74 X dX7_takeName_43 s_37 rfl ?_
      refine w_iadd X dX7_takeName_46 ?_
      refine p7_22 X dX7_takeName_47 s_37 rfl ?_
      refine w_aload_n X dX7_takeName_50 rfl rfl ?_
      refine g7_58 X dX7_takeName_51 s_37 rfl ?_
      refine w_lrF X dX7_takeName_54 (by simp [gL_sI, fi_L]) ?_
      unfold tN_
      try simp only [fi_pos, fi_4] at *
      simp [h4, h22]
    · refine w_aload_n X dX7_takeName_25 rfl rfl ?_
      refine w_iconst (v := 3) X dX7_takeName_26 (by decide) ?_
      refine w_aload_n X dX7_takeName_27 rfl rfl ?_
      refine g7_22 X dX7_takeName_28 s_37 rfl ?_
      refine w_bipush (v := 12) X dX7_takeName_31 (by decide) ?_
      refine w_iadd X dX7_takeName_33 ?_
      refine w_v2fV X dX7_takeName_34 k7_34 rfl s_37 (c7_fail G hG _ _ _ _) (Nat.le_of_ble_eq_true rfl) ?_
      refine w_aload_n X dX7_takeName_37 rfl rfl ?_
      refine w_dup X dX7_takeName_38 rfl ?_
      refine g7_22 X dX7_takeName_39 s_37 rfl ?_
      refine w_aload_n X dX7_takeName_42 rfl rfl ?_
      refine g7_74 X dX7_takeName_43 s_37 rfl ?_
      refine w_iadd X dX7_takeName_46 ?_
      refine p7_22 X dX7_takeName_47 s_37 rfl ?_
      refine w_aload_n X dX7_takeName_50 rfl rfl ?_
      refine g7_58 X dX7_takeName_51 s_37 rfl ?_
      refine w_lrF X dX7_takeName_54 (by simp [gL_sI, fi_L]) ?_
      unfold tN_
      try simp only [fi_pos, fi_4] at *
      simp [h4, h22]
set_option maxRecDepth 100000 in
set_option maxHeartbeats 600000 in
theorem c7_scanRow (G : gg_) (hG : gd_ G) (d : Nat) (M : mm_) (n : Nat) (h2 : tpX_ M n) (r : Nat × Int32 × Int64) (hr : sr1_ M (M.1 37 1) 200 0 0 0 = r) : cm_ G yX7_scanRow cX7_scanRow 4 none (d + 1) [.ref (G.1 37)] M (fV_ (srO_ M r)) := by
  refine cm_of hG (by decide) (Nat.le_of_ble_eq_true rfl) (fun C X => ?_)
  have lp : ∀ (u j : Nat) (q : Int32) (w : Int64) (o : Option Value), j + u = 200 → sr1_ M (M.1 37 1) u j q w = r → wq_ C G (qe_ C G (fV_ (srO_ M r))) 9 [some (.ref (G.1 37)), some (.int (nI j)), some (.int q), o] [] (sL_ M 37 6 w) := by
    intro u
    induction u with
    | zero =>
      intro j q w o h1 h3
      obtain rfl : j = 200 := by omega
      rw [sr1_] at h3
      refine w_iload_n X dX7_scanRow_9 rfl rfl ?_
      refine w_sipush (v := 200) X dX7_scanRow_10 (by decide) ?_
      refine w_icmp_ge (tgt := 91) X dX7_scanRow_13 (by decide) (fun h13 => ?_) (fun h13 => absurd (by decide) h13)
      subst h3
      refine w_aload_n X dX7_scanRow_91 rfl rfl ?_
      refine w_iload_n X dX7_scanRow_92 rfl rfl ?_
      refine p7_74 X dX7_scanRow_93 s_37 rfl ?_
      refine w_aload_n X dX7_scanRow_96 rfl rfl ?_
      refine w_iload_n X dX7_scanRow_97 rfl rfl ?_
      refine w_iconst (v := 1) X dX7_scanRow_98 (by decide) ?_
      refine w_icmp_ne (tgt := 142) X dX7_scanRow_99 (by decide) (fun h99 => ?_) (fun h99 => ?_)
      · refine w_iconst (v := 0) X dX7_scanRow_142 (by decide) ?_
        refine p7_77 X dX7_scanRow_143 s_37 rfl (by first | exact Or.inl rfl | exact Or.inr rfl | assumption) ?_
        refine w_vrF X dX7_scanRow_146 ?_
        unfold srO_
        rw [if_neg (fun z => h99 z.1)]
      · refine w_aload_n X dX7_scanRow_102 rfl rfl ?_
        refine g7_9 X dX7_scanRow_103 s_37 rfl ?_
        refine w_aload_n X dX7_scanRow_106 rfl rfl ?_
        refine g7_22 X dX7_scanRow_107 s_37 rfl ?_
        try simp only [gI_sI, gI_sL, gL_sI, gL_sL, gR_sI, gR_sL, gI_sR, gL_sR, gR_sR, false_and, and_false, and_self, if_false, if_true, reduceIte, Nat.reduceEqDiff]
        refine w_v1fI X dX7_scanRow_110 k7_25 rfl s_35 (c9_at G hG _ _ n (tp_37 (tp_sL h2)) _) (Nat.le_of_ble_eq_true rfl) ?_
        try simp only [tb_37, tb_sL, gI_sL, gI_sI, false_and, and_false, and_self, if_false, if_true, reduceIte, Nat.reduceEqDiff]
        refine w_bipush (v := 46) X dX7_scanRow_113 (by decide) ?_
        refine w_icmp_eq (tgt := 142) X dX7_scanRow_115 (by decide) (fun h115 => ?_) (fun h115 => ?_)
        · refine w_iconst (v := 0) X dX7_scanRow_142 (by decide) ?_
          refine p7_77 X dX7_scanRow_143 s_37 rfl (by first | exact Or.inl rfl | exact Or.inr rfl | assumption) ?_
          refine w_vrF X dX7_scanRow_146 ?_
          unfold srO_
          rw [if_neg (fun z => z.2.1 h115)]
        · refine w_aload_n X dX7_scanRow_118 rfl rfl ?_
          refine g7_9 X dX7_scanRow_119 s_37 rfl ?_
          refine w_aload_n X dX7_scanRow_122 rfl rfl ?_
          refine g7_22 X dX7_scanRow_123 s_37 rfl ?_
          try simp only [gI_sI, gI_sL, gL_sI, gL_sL, gR_sI, gR_sL, gI_sR, gL_sR, gR_sR, false_and, and_false, and_self, if_false, if_true, reduceIte, Nat.reduceEqDiff]
          refine w_iload_n X dX7_scanRow_126 rfl rfl ?_
          refine w_iadd X dX7_scanRow_127 ?_
          refine w_iconst (v := 1) X dX7_scanRow_128 (by decide) ?_
          refine w_isub X dX7_scanRow_129 ?_
          refine w_v1fI X dX7_scanRow_130 k7_25 rfl s_35 (c9_at G hG _ _ n (tp_37 (tp_sL h2)) _) (Nat.le_of_ble_eq_true rfl) ?_
          try simp only [tb_37, tb_sL, gI_sL, gI_sI, false_and, and_false, and_self, if_false, if_true, reduceIte, Nat.reduceEqDiff]
          refine w_bipush (v := 46) X dX7_scanRow_133 (by decide) ?_
          refine w_icmp_eq (tgt := 142) X dX7_scanRow_135 (by decide) (fun h135 => ?_) (fun h135 => ?_)
          · refine w_iconst (v := 0) X dX7_scanRow_142 (by decide) ?_
            refine p7_77 X dX7_scanRow_143 s_37 rfl (by first | exact Or.inl rfl | exact Or.inr rfl | assumption) ?_
            refine w_vrF X dX7_scanRow_146 ?_
            unfold srO_
            rw [if_neg (fun z => z.2.2 h135)]
          · refine w_iconst (v := 1) X dX7_scanRow_138 (by decide) ?_
            refine w_goto (tgt := 143) X dX7_scanRow_139 (by decide) ?_
            refine p7_77 X dX7_scanRow_143 s_37 rfl (by first | exact Or.inl rfl | exact Or.inr rfl | assumption) ?_
            refine w_vrF X dX7_scanRow_146 ?_
            unfold srO_
            rw [if_pos ⟨h99, h115, h135⟩]
    | succ u ih =>
      intro j q w o h1 h3
      rw [sr1_] at h3
      refine w_iload_n X dX7_scanRow_9 rfl rfl ?_
      refine w_sipush (v := 200) X dX7_scanRow_10 (by decide) ?_
      refine w_icmp_ge (tgt := 91) X dX7_scanRow_13 (by decide) (fun h13 => absurd h13 (nI_ge (a := j) (b := 200) (by omega) (by decide))) (fun h13 => ?_)
      refine w_aload_n X dX7_scanRow_16 rfl rfl ?_
      refine g7_9 X dX7_scanRow_17 s_37 rfl ?_
      refine w_aload_n X dX7_scanRow_20 rfl rfl ?_
      refine g7_22 X dX7_scanRow_21 s_37 rfl ?_
      try simp only [gI_sI, gI_sL, gL_sI, gL_sL, gR_sI, gR_sL, gI_sR, gL_sR, gR_sR, false_and, and_false, and_self, if_false, if_true, reduceIte, Nat.reduceEqDiff]
      refine w_iload_n X dX7_scanRow_24 rfl rfl ?_
      refine w_iadd X dX7_scanRow_25 ?_
      refine w_v1fI X dX7_scanRow_26 k7_25 rfl s_35 (c9_at G hG _ _ n (tp_sL h2) _) (Nat.le_of_ble_eq_true rfl) ?_
      try simp only [tb_sL, gI_sL]
      refine w_s1fI X dX7_scanRow_29 k7_62 (c7_isRowByte G hG _ _ _) (Nat.le_of_ble_eq_true rfl) ?_
      refine w_if_eq (tgt := 91) X dX7_scanRow_32 (by decide) (fun h32 => ?_) (fun h32 => ?_)
      · rw [if_pos h32] at h3
        subst h3
        refine w_aload_n X dX7_scanRow_91 rfl rfl ?_
        refine w_iload_n X dX7_scanRow_92 rfl rfl ?_
        refine p7_74 X dX7_scanRow_93 s_37 rfl ?_
        refine w_aload_n X dX7_scanRow_96 rfl rfl ?_
        refine w_iload_n X dX7_scanRow_97 rfl rfl ?_
        refine w_iconst (v := 1) X dX7_scanRow_98 (by decide) ?_
        refine w_icmp_ne (tgt := 142) X dX7_scanRow_99 (by decide) (fun h99 => ?_) (fun h99 => ?_)
        · refine w_iconst (v := 0) X dX7_scanRow_142 (by decide) ?_
          refine p7_77 X dX7_scanRow_143 s_37 rfl (by first | exact Or.inl rfl | exact Or.inr rfl | assumption) ?_
          refine w_vrF X dX7_scanRow_146 ?_
          unfold srO_
          rw [if_neg (fun z => h99 z.1)]
        · refine w_aload_n X dX7_scanRow_102 rfl rfl ?_
          refine g7_9 X dX7_scanRow_103 s_37 rfl ?_
          refine w_aload_n X dX7_scanRow_106 rfl rfl ?_
          refine g7_22 X dX7_scanRow_107 s_37 rfl ?_
          try simp only [gI_sI, gI_sL, gL_sI, gL_sL, gR_sI, gR_sL, gI_sR, gL_sR, gR_sR, false_and, and_false, and_self, if_false, if_true, reduceIte, Nat.reduceEqDiff]
          refine w_v1fI X dX7_scanRow_110 k7_25 rfl s_35 (c9_at G hG _ _ n (tp_37 (tp_sL h2)) _) (Nat.le_of_ble_eq_true rfl) ?_
          try simp only [tb_37, tb_sL, gI_sL, gI_sI, false_and, and_false, and_self, if_false, if_true, reduceIte, Nat.reduceEqDiff]
          refine w_bipush (v := 46) X dX7_scanRow_113 (by decide) ?_
          refine w_icmp_eq (tgt := 142) X dX7_scanRow_115 (by decide) (fun h115 => ?_) (fun h115 => ?_)
          · refine w_iconst (v := 0) X dX7_scanRow_142 (by decide) ?_
            refine p7_77 X dX7_scanRow_143 s_37 rfl (by first | exact Or.inl rfl | exact Or.inr rfl | assumption) ?_
            refine w_vrF X dX7_scanRow_146 ?_
            unfold srO_
            rw [if_neg (fun z => z.2.1 h115)]
          · refine w_aload_n X dX7_scanRow_118 rfl rfl ?_
            refine g7_9 X dX7_scanRow_119 s_37 rfl ?_
            refine w_aload_n X dX7_scanRow_122 rfl rfl ?_
            refine g7_22 X dX7_scanRow_123 s_37 rfl ?_
            try simp only [gI_sI, gI_sL, gL_sI, gL_sL, gR_sI, gR_sL, gI_sR, gL_sR, gR_sR, false_and, and_false, and_self, if_false, if_true, reduceIte, Nat.reduceEqDiff]
            refine w_iload_n X dX7_scanRow_126 rfl rfl ?_
            refine w_iadd X dX7_scanRow_127 ?_
            refine w_iconst (v := 1) X dX7_scanRow_128 (by decide) ?_
            refine w_isub X dX7_scanRow_129 ?_
            refine w_v1fI X dX7_scanRow_130 k7_25 rfl s_35 (c9_at G hG _ _ n (tp_37 (tp_sL h2)) _) (Nat.le_of_ble_eq_true rfl) ?_
            try simp only [tb_37, tb_sL, gI_sL, gI_sI, false_and, and_false, and_self, if_false, if_true, reduceIte, Nat.reduceEqDiff]
            refine w_bipush (v := 46) X dX7_scanRow_133 (by decide) ?_
            refine w_icmp_eq (tgt := 142) X dX7_scanRow_135 (by decide) (fun h135 => ?_) (fun h135 => ?_)
            · refine w_iconst (v := 0) X dX7_scanRow_142 (by decide) ?_
              refine p7_77 X dX7_scanRow_143 s_37 rfl (by first | exact Or.inl rfl | exact Or.inr rfl | assumption) ?_
              refine w_vrF X dX7_scanRow_146 ?_
              unfold srO_
              rw [if_neg (fun z => z.2.2 h135)]
            · refine w_iconst (v := 1) X dX7_scanRow_138 (by decide) ?_
              refine w_goto (tgt := 143) X dX7_scanRow_139 (by decide) ?_
              refine p7_77 X dX7_scanRow_143 s_37 rfl (by first | exact Or.inl rfl | exact Or.inr rfl | assumption) ?_
              refine w_vrF X dX7_scanRow_146 ?_
              unfold srO_
              rw [if_pos ⟨h99, h115, h135⟩]
      · rw [if_neg h32] at h3
        refine w_aload_n X dX7_scanRow_35 rfl rfl ?_
        refine g7_9 X dX7_scanRow_36 s_37 rfl ?_
        refine w_aload_n X dX7_scanRow_39 rfl rfl ?_
        refine g7_22 X dX7_scanRow_40 s_37 rfl ?_
        try simp only [gI_sI, gI_sL, gL_sI, gL_sL, gR_sI, gR_sL, gI_sR, gL_sR, gR_sR, false_and, and_false, and_self, if_false, if_true, reduceIte, Nat.reduceEqDiff]
        refine w_iload_n X dX7_scanRow_43 rfl rfl ?_
        refine w_iadd X dX7_scanRow_44 ?_
        refine w_v1fI X dX7_scanRow_45 k7_25 rfl s_35 (c9_at G hG _ _ n (tp_sL h2) _) (Nat.le_of_ble_eq_true rfl) ?_
        try simp only [tb_sL, gI_sL]
        refine w_istore_n X dX7_scanRow_48 rfl (by decide) ?_
        refine w_iload_n X dX7_scanRow_49 rfl rfl ?_
        refine w_iload_n X dX7_scanRow_50 rfl rfl ?_
        refine w_bipush (v := 46) X dX7_scanRow_51 (by decide) ?_
        refine w_icmp_ne (tgt := 60) X dX7_scanRow_53 (by decide) (fun h53 => ?_) (fun h53 => ?_)
        · rw [if_neg h53] at h3
          refine w_iconst (v := 0) X dX7_scanRow_60 (by decide) ?_
          refine w_iadd X dX7_scanRow_61 ?_
          refine w_istore_n X dX7_scanRow_62 rfl (by decide) ?_
          refine w_iload_n X dX7_scanRow_63 rfl rfl ?_
          refine w_bipush (v := 12) X dX7_scanRow_64 (by decide) ?_
          refine w_icmp_ge (tgt := 85) X dX7_scanRow_66 (by decide) (fun h66 => ?_) (fun h66 => ?_)
          · rw [if_neg (fun z => absurd h66 (nI_ge (a := j) (b := 12) z (by decide)))] at h3
            refine w_iinc (v := 1) X dX7_scanRow_85 rfl (by decide) (by decide) ?_
            refine w_goto (tgt := 9) X dX7_scanRow_88 (by decide) ?_
            rw [nI_1]
            exact ih (j + 1) _ _ _ (by omega) h3
          · rw [if_pos (Nat.lt_of_not_le (fun z => h66 (nI_le (a := 12) (b := j) z (by omega))))] at h3
            refine w_aload_n X dX7_scanRow_69 rfl rfl ?_
            refine w_aload_n X dX7_scanRow_70 rfl rfl ?_
            refine g7_58 X dX7_scanRow_71 s_37 rfl ?_
            try simp only [gI_sI, gI_sL, gL_sI, gL_sL, gR_sI, gR_sL, gI_sR, gL_sR, gR_sR, false_and, and_false, and_self, if_false, if_true, reduceIte, Nat.reduceEqDiff]
            refine w_iload_n X dX7_scanRow_74 rfl rfl ?_
            refine w_iload_n X dX7_scanRow_75 rfl rfl ?_
            refine w_s1fI X dX7_scanRow_76 k7_67 (c6_sign G hG _ _ _) (Nat.le_of_ble_eq_true rfl) ?_
            refine w_s3fL X dX7_scanRow_79 k7_70 (c6_with G hG _ _ _ _ _) (Nat.le_of_ble_eq_true rfl) ?_
            refine p7_58 X dX7_scanRow_82 s_37 rfl ?_
            refine w_iinc (v := 1) X dX7_scanRow_85 rfl (by decide) (by decide) ?_
            refine w_goto (tgt := 9) X dX7_scanRow_88 (by decide) ?_
            rw [nI_1]
            rw [sL_sLX]
            exact ih (j + 1) _ _ _ (by omega) h3
        · rw [if_pos h53] at h3
          refine w_iconst (v := 1) X dX7_scanRow_56 (by decide) ?_
          refine w_goto (tgt := 61) X dX7_scanRow_57 (by decide) ?_
          refine w_iadd X dX7_scanRow_61 ?_
          refine w_istore_n X dX7_scanRow_62 rfl (by decide) ?_
          refine w_iload_n X dX7_scanRow_63 rfl rfl ?_
          refine w_bipush (v := 12) X dX7_scanRow_64 (by decide) ?_
          refine w_icmp_ge (tgt := 85) X dX7_scanRow_66 (by decide) (fun h66 => ?_) (fun h66 => ?_)
          · rw [if_neg (fun z => absurd h66 (nI_ge (a := j) (b := 12) z (by decide)))] at h3
            refine w_iinc (v := 1) X dX7_scanRow_85 rfl (by decide) (by decide) ?_
            refine w_goto (tgt := 9) X dX7_scanRow_88 (by decide) ?_
            rw [nI_1]
            exact ih (j + 1) _ _ _ (by omega) h3
          · rw [if_pos (Nat.lt_of_not_le (fun z => h66 (nI_le (a := 12) (b := j) z (by omega))))] at h3
            refine w_aload_n X dX7_scanRow_69 rfl rfl ?_
            refine w_aload_n X dX7_scanRow_70 rfl rfl ?_
            refine g7_58 X dX7_scanRow_71 s_37 rfl ?_
            try simp only [gI_sI, gI_sL, gL_sI, gL_sL, gR_sI, gR_sL, gI_sR, gL_sR, gR_sR, false_and, and_false, and_self, if_false, if_true, reduceIte, Nat.reduceEqDiff]
            refine w_iload_n X dX7_scanRow_74 rfl rfl ?_
            refine w_iload_n X dX7_scanRow_75 rfl rfl ?_
            refine w_s1fI X dX7_scanRow_76 k7_67 (c6_sign G hG _ _ _) (Nat.le_of_ble_eq_true rfl) ?_
            refine w_s3fL X dX7_scanRow_79 k7_70 (c6_with G hG _ _ _ _ _) (Nat.le_of_ble_eq_true rfl) ?_
            refine p7_58 X dX7_scanRow_82 s_37 rfl ?_
            refine w_iinc (v := 1) X dX7_scanRow_85 rfl (by decide) (by decide) ?_
            refine w_goto (tgt := 9) X dX7_scanRow_88 (by decide) ?_
            rw [nI_1]
            rw [sL_sLX]
            exact ih (j + 1) _ _ _ (by omega) h3
  refine w_iconst (v := 0) X dX7_scanRow_0 (by decide) ?_
  refine w_istore_n X dX7_scanRow_1 rfl (by decide) ?_
  refine w_iconst (v := 0) X dX7_scanRow_2 (by decide) ?_
  refine w_istore_n X dX7_scanRow_3 rfl (by decide) ?_
  refine w_aload_n X dX7_scanRow_4 rfl rfl ?_
  refine w_lconst (v := 0) X dX7_scanRow_5 (by decide) ?_
  refine p7_58 X dX7_scanRow_6 s_37 rfl ?_
  exact lp 200 0 0 0 none (by omega) hr
set_option maxRecDepth 100000 in
set_option maxHeartbeats 600000 in
theorem c7_number (G : gg_) (hG : gd_ G) (d : Nat) (M : mm_) (n : Nat) (ht : tpX_ M n) (w : Int32) (r : mm_ × Int64) (hr : nu1_ 200 (nuA_ M) 0 = r) : cm_ G yX7_number cX7_number 6 (some .int) (d + 2) [.ref (G.1 37), .int w] M (fI_ r.2.toInt32 (nuB_ r.1 (M.1 37 1) r.2 w)) := by
  refine cm_of hG (by decide) (Nat.le_of_ble_eq_true rfl) (fun C X => ?_)
  have lp : ∀ (p : Int32) (u i : Nat) (M0 : mm_) (v : Int64), i + u = 200 → tpX_ M0 n → nu1_ u M0 v = r → wq_ C G (qe_ C G (fI_ r.2.toInt32 (nuB_ r.1 p r.2 w))) 26 [some (.ref (G.1 37)), some (.int w), some (.int p), some (.long v), none, some (.int (nI i))] [] M0 := by
    intro p u
    induction u with
    | zero =>
      intro i M0 v h1 h2 h3
      obtain rfl : i = 200 := by omega
      rw [nu1_] at h3
      refine w_iload X dX7_number_26 rfl ?_
      refine w_sipush (v := 200) X dX7_number_28 (by decide) ?_
      refine w_icmp_ge (tgt := 82) X dX7_number_31 (by decide) (fun h31 => ?_) (fun h31 => absurd (by decide) h31)
      refine w_lload_n X dX7_number_82 rfl rfl ?_
      refine w_iload_n X dX7_number_83 rfl rfl ?_
      refine w_i2l X dX7_number_84 ?_
      refine w_lcmp X dX7_number_85 ?_
      refine w_if_le (tgt := 95) X dX7_number_86 (by decide) (fun h86 => ?_) (fun h86 => ?_)
      · refine w_lload_n X dX7_number_95 rfl rfl ?_
        refine w_l2i X dX7_number_96 ?_
        rw [lc_le] at h86
        refine w_irF X dX7_number_97 (by rw [← h3]) ?_
        rw [← h3]
        unfold nuB_
        exact (if_pos h86).symm
      · refine w_aload_n X dX7_number_89 rfl rfl ?_
        refine w_iconst (v := 2) X dX7_number_90 (by decide) ?_
        refine w_iload_n X dX7_number_91 rfl rfl ?_
        refine w_v2fV X dX7_number_92 k7_34 rfl s_37 (c7_fail G hG _ _ _ _) (Nat.le_of_ble_eq_true rfl) ?_
        refine w_lload_n X dX7_number_95 rfl rfl ?_
        refine w_l2i X dX7_number_96 ?_
        rw [lc_le] at h86
        refine w_irF X dX7_number_97 (by rw [← h3]) ?_
        rw [← h3]
        unfold nuB_
        exact (if_neg h86).symm
    | succ u ih =>
      intro i M0 v h1 h2 h3
      rw [nu1_] at h3
      refine w_iload X dX7_number_26 rfl ?_
      refine w_sipush (v := 200) X dX7_number_28 (by decide) ?_
      refine w_icmp_ge (tgt := 82) X dX7_number_31 (by decide) (fun h31 => absurd h31 (nI_ge (a := i) (b := 200) (by omega) (by decide))) (fun h31 => ?_)
      refine w_aload_n X dX7_number_34 rfl rfl ?_
      refine w_v0fI X dX7_number_35 k7_38 rfl s_37 (c7_peek G hG _ _ n h2) (Nat.le_of_ble_eq_true rfl) ?_
      refine w_s1fI X dX7_number_38 k7_42 (c7_isFigure G hG _ _ _) (Nat.le_of_ble_eq_true rfl) ?_
      refine w_if_eq (tgt := 82) X dX7_number_41 (by decide) (fun h41 => ?_) (fun h41 => ?_)
      · rw [if_pos h41] at h3
        refine w_lload_n X dX7_number_82 rfl rfl ?_
        refine w_iload_n X dX7_number_83 rfl rfl ?_
        refine w_i2l X dX7_number_84 ?_
        refine w_lcmp X dX7_number_85 ?_
        refine w_if_le (tgt := 95) X dX7_number_86 (by decide) (fun h86 => ?_) (fun h86 => ?_)
        · refine w_lload_n X dX7_number_95 rfl rfl ?_
          refine w_l2i X dX7_number_96 ?_
          rw [lc_le] at h86
          refine w_irF X dX7_number_97 (by rw [← h3]) ?_
          rw [← h3]
          unfold nuB_
          exact (if_pos h86).symm
        · refine w_aload_n X dX7_number_89 rfl rfl ?_
          refine w_iconst (v := 2) X dX7_number_90 (by decide) ?_
          refine w_iload_n X dX7_number_91 rfl rfl ?_
          refine w_v2fV X dX7_number_92 k7_34 rfl s_37 (c7_fail G hG _ _ _ _) (Nat.le_of_ble_eq_true rfl) ?_
          refine w_lload_n X dX7_number_95 rfl rfl ?_
          refine w_l2i X dX7_number_96 ?_
          rw [lc_le] at h86
          refine w_irF X dX7_number_97 (by rw [← h3]) ?_
          rw [← h3]
          unfold nuB_
          exact (if_neg h86).symm
      · rw [if_neg h41] at h3
        refine w_lload_n X dX7_number_44 rfl rfl ?_
        refine w_ldc2 X dX7_number_45 q7_46 ?_
        refine w_lmul X dX7_number_48 ?_
        refine w_aload_n X dX7_number_49 rfl rfl ?_
        refine w_v0fI X dX7_number_50 k7_38 rfl s_37 (c7_peek G hG _ _ n h2) (Nat.le_of_ble_eq_true rfl) ?_
        refine w_i2l X dX7_number_53 ?_
        refine w_ladd X dX7_number_54 ?_
        refine w_ldc2 X dX7_number_55 q7_48 ?_
        refine w_lsub X dX7_number_58 ?_
        refine w_ldc2 X dX7_number_59 q7_50 ?_
        refine w_minL X dX7_number_62 mw7_52 (Nat.le_of_ble_eq_true rfl) ?_
        refine w_lstore_n X dX7_number_65 rfl (by decide) ?_
        refine w_aload_n X dX7_number_66 rfl rfl ?_
        refine w_dup X dX7_number_67 rfl ?_
        refine g7_22 X dX7_number_68 s_37 rfl ?_
        refine w_iconst (v := 1) X dX7_number_71 (by decide) ?_
        refine w_iadd X dX7_number_72 ?_
        refine p7_22 X dX7_number_73 s_37 rfl ?_
        refine w_iinc (v := 1) X dX7_number_76 rfl (by decide) (by decide) ?_
        refine w_goto (tgt := 26) X dX7_number_79 (by decide) ?_
        rw [nI_1]
        exact ih (i + 1) _ _ (by omega) (tp_37 h2) h3
  refine w_aload_n X dX7_number_0 rfl rfl ?_
  refine g7_22 X dX7_number_1 s_37 rfl ?_
  refine w_istore_n X dX7_number_4 rfl (by decide) ?_
  refine w_lconst (v := 0) X dX7_number_5 (by decide) ?_
  refine w_lstore_n X dX7_number_6 rfl (by decide) ?_
  refine w_aload_n X dX7_number_7 rfl rfl ?_
  refine w_v0fI X dX7_number_8 k7_38 rfl s_37 (c7_peek G hG _ _ n ht) (Nat.le_of_ble_eq_true rfl) ?_
  refine w_s1fI X dX7_number_11 k7_42 (c7_isFigure G hG _ _ _) (Nat.le_of_ble_eq_true rfl) ?_
  refine w_if_ne (tgt := 23) X dX7_number_14 (by decide) (fun h14 => ?_) (fun h14 => ?_)
  · refine w_iconst (v := 0) X dX7_number_23 (by decide) ?_
    refine w_istore X dX7_number_24 (by decide) ?_
    unfold nuA_ at hr
    rw [if_neg h14] at hr
    exact lp _ 200 0 M 0 (by omega) ht hr
  · refine w_aload_n X dX7_number_17 rfl rfl ?_
    refine w_iconst (v := 1) X dX7_number_18 (by decide) ?_
    refine w_iload_n X dX7_number_19 rfl rfl ?_
    refine w_v2fV X dX7_number_20 k7_34 rfl s_37 (c7_fail G hG _ _ _ _) (Nat.le_of_ble_eq_true rfl) ?_
    refine w_iconst (v := 0) X dX7_number_23 (by decide) ?_
    refine w_istore X dX7_number_24 (by decide) ?_
    unfold nuA_ at hr
    rw [if_pos h14] at hr
    exact lp _ 200 0 _ 0 (by omega) (tp_fi ht) hr

