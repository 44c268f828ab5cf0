section
def ct_ (c j m w k : Int32) : Int32 := if (j < 0 ∨ 8 ≤ j ∨ m < 0 ∨ c ≤ m) ∨ ¬ k = 2 then 1 else if w < 0 ∨ ¬ w ≤ 2 then 2 else 0
theorem nI_m3 (b m e : Nat) : (48 : Int32) * nI b + 3 * nI m + nI e = nI (48 * b + 3 * m + e) := by rw [show (48 : Int32) = nI 48 from rfl, show (3 : Int32) = nI 3 from rfl, pk_mul, pk_mul, nI_add, nI_add]
set_option maxRecDepth 100000 in
set_option maxHeartbeats 4000000 in
theorem c12_record_ (G : gg_) (hG : gd_ G) (d : Nat) (M : mm_) (c : Nat) (hc : M.1 0 35 = nI c) (hc2 : c ≤ 300) (j w : Int32) : cm_ G yX12_record_ cX12_record_ 3 (some .int) (d) [.ref (G.1 0), .int j, .int w] M (fI_ (if 0 < kt_ (nI c) j w 4 then 0 else M.1 21 (5 * j + w).toNatClampNeg) (sI_ M 0 0 (kt_ (nI c) j w 4))) := by
  refine cm_of hG (by decide) (Nat.le_of_ble_eq_true rfl) (fun C X => ?_)
  refine w_aload_n X dX12_record__0 rfl rfl ?_
  refine w_iload_n X dX12_record__1 rfl rfl ?_
  refine w_if_lt (tgt := 13) X dX12_record__2 (by decide) (fun h2 => ?_) (fun h2 => ?_)
  · refine w_iconst (v := 1) X dX12_record__13 (by decide) ?_
    refine w_goto (tgt := 31) X dX12_record__14 (by decide) ?_
    refine p12_thrown X dX12_record__31 ?_
    refine w_aload_n X dX12_record__34 rfl rfl ?_
    refine g12_thrown X dX12_record__35 ?_
    try simp only [gI_sI, gI_sL, gL_sI, gL_sL, false_and, and_false, and_self, if_false, if_true, reduceIte, Nat.reduceEqDiff, hc]
    refine w_if_le (tgt := 45) X dX12_record__38 (by decide) (fun h38 => absurd h38 (by decide)) (fun h38 => ?_)
    refine w_iconst (v := 0) X dX12_record__41 (by decide) ?_
    refine w_goto (tgt := 55) X dX12_record__42 (by decide) ?_
    refine w_irF X dX12_record__55 ?_ ?_
    · first | (simp [kt_, h2, h38]; done) | (simp_all [kt_]; done)
    · simp [kt_, h2, h38]
  · refine w_iload_n X dX12_record__5 rfl rfl ?_
    refine w_aload_n X dX12_record__6 rfl rfl ?_
    refine g12_recordCount X dX12_record__7 ?_
    try simp only [gI_sI, gI_sL, gL_sI, gL_sL, false_and, and_false, and_self, if_false, if_true, reduceIte, Nat.reduceEqDiff, hc]
    refine w_icmp_lt (tgt := 17) X dX12_record__10 (by decide) (fun h10 => ?_) (fun h10 => ?_)
    · refine w_iload_n X dX12_record__17 rfl rfl ?_
      refine w_if_lt (tgt := 26) X dX12_record__18 (by decide) (fun h18 => ?_) (fun h18 => ?_)
      · refine w_iconst (v := 2) X dX12_record__26 (by decide) ?_
        refine w_goto (tgt := 31) X dX12_record__27 (by decide) ?_
        refine p12_thrown X dX12_record__31 ?_
        refine w_aload_n X dX12_record__34 rfl rfl ?_
        refine g12_thrown X dX12_record__35 ?_
        try simp only [gI_sI, gI_sL, gL_sI, gL_sL, false_and, and_false, and_self, if_false, if_true, reduceIte, Nat.reduceEqDiff, hc]
        refine w_if_le (tgt := 45) X dX12_record__38 (by decide) (fun h38 => absurd h38 (by decide)) (fun h38 => ?_)
        refine w_iconst (v := 0) X dX12_record__41 (by decide) ?_
        refine w_goto (tgt := 55) X dX12_record__42 (by decide) ?_
        refine w_irF X dX12_record__55 ?_ ?_
        · first | (simp [kt_, h2, h10, h18, h38]; done) | (simp_all [kt_]; done)
        · simp [kt_, h2, h10, h18, h38]
      · refine w_iload_n X dX12_record__21 rfl rfl ?_
        refine w_iconst (v := 4) X dX12_record__22 (by decide) ?_
        refine w_icmp_le (tgt := 30) X dX12_record__23 (by decide) (fun h23 => ?_) (fun h23 => ?_)
        · refine w_iconst (v := 0) X dX12_record__30 (by decide) ?_
          refine p12_thrown X dX12_record__31 ?_
          refine w_aload_n X dX12_record__34 rfl rfl ?_
          refine g12_thrown X dX12_record__35 ?_
          try simp only [gI_sI, gI_sL, gL_sI, gL_sL, false_and, and_false, and_self, if_false, if_true, reduceIte, Nat.reduceEqDiff, hc]
          refine w_if_le (tgt := 45) X dX12_record__38 (by decide) (fun h38 => ?_) (fun h38 => absurd (by decide) h38)
          refine w_aload_n X dX12_record__45 rfl rfl ?_
          refine g12_records X dX12_record__46 ?_
          refine w_iconst (v := 5) X dX12_record__49 (by decide) ?_
          refine w_iload_n X dX12_record__50 rfl rfl ?_
          refine w_imul X dX12_record__51 ?_
          refine w_iload_n X dX12_record__52 rfl rfl ?_
          refine w_iadd X dX12_record__53 ?_
          refine w_iaload X dX12_record__54 rfl rfl (by obtain ⟨b, hb, eb⟩ := iN_ (n := c) (by omega) h2 h10; obtain ⟨e, he, ee⟩ := iL_ (n := 4) (by omega) h18 h23; rw [eb, ee, show (5 : Int32) = nI 5 from rfl, nI_m]; exact vp_in_nI (by omega) (by omega)) ?_
          try simp only [gI_sI, gI_sL, gL_sI, gL_sL, false_and, and_false, and_self, if_false, if_true, reduceIte, Nat.reduceEqDiff, hc]
          refine w_irF X dX12_record__55 ?_ ?_
          · first | (simp [kt_, h2, h10, h18, h23, h38]; done) | (simp_all [kt_]; done)
          · simp [kt_, h2, h10, h18, h23, h38]
        · refine w_iconst (v := 2) X dX12_record__26 (by decide) ?_
          refine w_goto (tgt := 31) X dX12_record__27 (by decide) ?_
          refine p12_thrown X dX12_record__31 ?_
          refine w_aload_n X dX12_record__34 rfl rfl ?_
          refine g12_thrown X dX12_record__35 ?_
          try simp only [gI_sI, gI_sL, gL_sI, gL_sL, false_and, and_false, and_self, if_false, if_true, reduceIte, Nat.reduceEqDiff, hc]
          refine w_if_le (tgt := 45) X dX12_record__38 (by decide) (fun h38 => absurd h38 (by decide)) (fun h38 => ?_)
          refine w_iconst (v := 0) X dX12_record__41 (by decide) ?_
          refine w_goto (tgt := 55) X dX12_record__42 (by decide) ?_
          refine w_irF X dX12_record__55 ?_ ?_
          · first | (simp [kt_, h2, h10, h18, h23, h38]; done) | (simp_all [kt_]; done)
          · simp [kt_, h2, h10, h18, h23, h38]
    · refine w_iconst (v := 1) X dX12_record__13 (by decide) ?_
      refine w_goto (tgt := 31) X dX12_record__14 (by decide) ?_
      refine p12_thrown X dX12_record__31 ?_
      refine w_aload_n X dX12_record__34 rfl rfl ?_
      refine g12_thrown X dX12_record__35 ?_
      try simp only [gI_sI, gI_sL, gL_sI, gL_sL, false_and, and_false, and_self, if_false, if_true, reduceIte, Nat.reduceEqDiff, hc]
      refine w_if_le (tgt := 45) X dX12_record__38 (by decide) (fun h38 => absurd h38 (by decide)) (fun h38 => ?_)
      refine w_iconst (v := 0) X dX12_record__41 (by decide) ?_
      refine w_goto (tgt := 55) X dX12_record__42 (by decide) ?_
      refine w_irF X dX12_record__55 ?_ ?_
      · first | (simp [kt_, h2, h10, h38]; done) | (simp_all [kt_]; done)
      · simp [kt_, h2, h10, h38]
set_option maxRecDepth 100000 in
set_option maxHeartbeats 4000000 in
theorem c12_counted (G : gg_) (hG : gd_ G) (d : Nat) (M : mm_) (c : Nat) (hc : M.1 0 9 = nI c) (hc2 : c ≤ 16) (j m w : Int32) : cm_ G yX12_counted cX12_counted 5 (some .int) d [.ref (G.1 0), .int j, .int m, .int w] M (fI_ (if 0 < ct_ (nI c) j m w (M.1 12 j.toNatClampNeg) then 0 else M.1 20 (48 * j + 3 * m + w).toNatClampNeg) (sI_ M 0 0 (ct_ (nI c) j m w (M.1 12 j.toNatClampNeg)))) := by
  refine cm_of hG (by decide) (Nat.le_of_ble_eq_true rfl) (fun C X => ?_)
  have j0 : (j < 0 ∨ 8 ≤ j ∨ m < 0 ∨ nI c ≤ m) → wq_ C G (qe_ C G (fI_ (if 0 < ct_ (nI c) j m w (M.1 12 j.toNatClampNeg) then 0 else M.1 20 (48 * j + 3 * m + w).toNatClampNeg) (sI_ M 0 0 (ct_ (nI c) j m w (M.1 12 j.toNatClampNeg))))) 29 [some (.ref (G.1 0)), some (.int j), some (.int m), some (.int w), some (.int 0)] [] M := by
    intro hb
    refine w_aload_n X dX12_counted_29 rfl rfl ?_
    refine w_iload X dX12_counted_30 rfl ?_
    refine w_if_eq (tgt := 45) X dX12_counted_32 (by decide) (fun h32 => ?_) (fun h32 => absurd (rfl) h32)
    refine w_iconst (v := 1) X dX12_counted_45 (by decide) ?_
    refine w_goto (tgt := 63) X dX12_counted_46 (by decide) ?_
    refine p12_thrown X dX12_counted_63 ?_
    refine w_aload_n X dX12_counted_66 rfl rfl ?_
    refine g12_thrown X dX12_counted_67 ?_
    try simp only [gI_sI, gI_sL, gL_sI, gL_sL, false_and, and_false, and_self, if_false, if_true, reduceIte, Nat.reduceEqDiff]
    refine w_if_le (tgt := 77) X dX12_counted_70 (by decide) (fun h70 => absurd h70 (by decide)) (fun h70 => ?_)
    refine w_iconst (v := 0) X dX12_counted_73 (by decide) ?_
    refine w_goto (tgt := 92) X dX12_counted_74 (by decide) ?_
    exact w_irF X dX12_counted_92 (by simp [ct_, hb]) (by simp [ct_, hb])
  have j1 : ¬ j < 0 → ¬ 8 ≤ j → ¬ m < 0 → ¬ nI c ≤ m → wq_ C G (qe_ C G (fI_ (if 0 < ct_ (nI c) j m w (M.1 12 j.toNatClampNeg) then 0 else M.1 20 (48 * j + 3 * m + w).toNatClampNeg) (sI_ M 0 0 (ct_ (nI c) j m w (M.1 12 j.toNatClampNeg))))) 29 [some (.ref (G.1 0)), some (.int j), some (.int m), some (.int w), some (.int 1)] [] M := by
    intro a1 a2 a3 a4
    obtain ⟨b, hb, eb⟩ := i8_ a1 (Int32.not_le.mp a2)
    obtain ⟨q, hq, eq⟩ := iN_ (n := c) (by omega) a3 (Int32.not_le.mp a4)
    refine w_aload_n X dX12_counted_29 rfl rfl ?_
    refine w_iload X dX12_counted_30 rfl ?_
    refine w_if_eq (tgt := 45) X dX12_counted_32 (by decide) (fun h32 => absurd h32 (by decide)) (fun h32 => ?_)
    refine w_aload_n X dX12_counted_35 rfl rfl ?_
    refine g12_kinds X dX12_counted_36 ?_
    refine w_iload_n X dX12_counted_39 rfl rfl ?_
    refine w_iaload X dX12_counted_40 rfl rfl (by first | (rw [eb]; exact vp_in_nI hb (by omega)) | (obtain ⟨e, he, ee⟩ := iL_ (n := 2) (by omega) h50 h55; rw [eb, eq, ee, nI_m3]; exact vp_in_nI (by omega) (by omega))) ?_
    try simp only [gI_sI, gI_sL, gL_sI, gL_sL, false_and, and_false, and_self, if_false, if_true, reduceIte, Nat.reduceEqDiff]
    refine w_iconst (v := 2) X dX12_counted_41 (by decide) ?_
    refine w_icmp_eq (tgt := 49) X dX12_counted_42 (by decide) (fun h42 => ?_) (fun h42 => ?_)
    · refine w_iload_n X dX12_counted_49 rfl rfl ?_
      refine w_if_lt (tgt := 58) X dX12_counted_50 (by decide) (fun h50 => ?_) (fun h50 => ?_)
      · refine w_iconst (v := 2) X dX12_counted_58 (by decide) ?_
        refine w_goto (tgt := 63) X dX12_counted_59 (by decide) ?_
        refine p12_thrown X dX12_counted_63 ?_
        refine w_aload_n X dX12_counted_66 rfl rfl ?_
        refine g12_thrown X dX12_counted_67 ?_
        try simp only [gI_sI, gI_sL, gL_sI, gL_sL, false_and, and_false, and_self, if_false, if_true, reduceIte, Nat.reduceEqDiff]
        refine w_if_le (tgt := 77) X dX12_counted_70 (by decide) (fun h70 => absurd h70 (by decide)) (fun h70 => ?_)
        refine w_iconst (v := 0) X dX12_counted_73 (by decide) ?_
        refine w_goto (tgt := 92) X dX12_counted_74 (by decide) ?_
        refine w_irF X dX12_counted_92 ?_ ?_
        · simp [ct_, a1, a2, a3, a4, h32, h42, h50, h70]
        · simp [ct_, a1, a2, a3, a4, h32, h42, h50, h70]
      · refine w_iload_n X dX12_counted_53 rfl rfl ?_
        refine w_iconst (v := 2) X dX12_counted_54 (by decide) ?_
        refine w_icmp_le (tgt := 62) X dX12_counted_55 (by decide) (fun h55 => ?_) (fun h55 => ?_)
        · refine w_iconst (v := 0) X dX12_counted_62 (by decide) ?_
          refine p12_thrown X dX12_counted_63 ?_
          refine w_aload_n X dX12_counted_66 rfl rfl ?_
          refine g12_thrown X dX12_counted_67 ?_
          try simp only [gI_sI, gI_sL, gL_sI, gL_sL, false_and, and_false, and_self, if_false, if_true, reduceIte, Nat.reduceEqDiff]
          refine w_if_le (tgt := 77) X dX12_counted_70 (by decide) (fun h70 => ?_) (fun h70 => absurd (by decide) h70)
          refine w_aload_n X dX12_counted_77 rfl rfl ?_
          refine g12_counts X dX12_counted_78 ?_
          refine w_bipush (v := 48) X dX12_counted_81 (by decide) ?_
          refine w_iload_n X dX12_counted_83 rfl rfl ?_
          refine w_imul X dX12_counted_84 ?_
          refine w_iconst (v := 3) X dX12_counted_85 (by decide) ?_
          refine w_iload_n X dX12_counted_86 rfl rfl ?_
          refine w_imul X dX12_counted_87 ?_
          refine w_iadd X dX12_counted_88 ?_
          refine w_iload_n X dX12_counted_89 rfl rfl ?_
          refine w_iadd X dX12_counted_90 ?_
          refine w_iaload X dX12_counted_91 rfl rfl (by first | (rw [eb]; exact vp_in_nI hb (by omega)) | (obtain ⟨e, he, ee⟩ := iL_ (n := 2) (by omega) h50 h55; rw [eb, eq, ee, nI_m3]; exact vp_in_nI (by omega) (by omega))) ?_
          try simp only [gI_sI, gI_sL, gL_sI, gL_sL, false_and, and_false, and_self, if_false, if_true, reduceIte, Nat.reduceEqDiff]
          refine w_irF X dX12_counted_92 ?_ ?_
          · simp [ct_, a1, a2, a3, a4, h32, h42, h50, h55, h70]
          · simp [ct_, a1, a2, a3, a4, h32, h42, h50, h55, h70]
        · refine w_iconst (v := 2) X dX12_counted_58 (by decide) ?_
          refine w_goto (tgt := 63) X dX12_counted_59 (by decide) ?_
          refine p12_thrown X dX12_counted_63 ?_
          refine w_aload_n X dX12_counted_66 rfl rfl ?_
          refine g12_thrown X dX12_counted_67 ?_
          try simp only [gI_sI, gI_sL, gL_sI, gL_sL, false_and, and_false, and_self, if_false, if_true, reduceIte, Nat.reduceEqDiff]
          refine w_if_le (tgt := 77) X dX12_counted_70 (by decide) (fun h70 => absurd h70 (by decide)) (fun h70 => ?_)
          refine w_iconst (v := 0) X dX12_counted_73 (by decide) ?_
          refine w_goto (tgt := 92) X dX12_counted_74 (by decide) ?_
          refine w_irF X dX12_counted_92 ?_ ?_
          · simp [ct_, a1, a2, a3, a4, h32, h42, h50, h55, h70]
          · simp [ct_, a1, a2, a3, a4, h32, h42, h50, h55, h70]
    · refine w_iconst (v := 1) X dX12_counted_45 (by decide) ?_
      refine w_goto (tgt := 63) X dX12_counted_46 (by decide) ?_
      refine p12_thrown X dX12_counted_63 ?_
      refine w_aload_n X dX12_counted_66 rfl rfl ?_
      refine g12_thrown X dX12_counted_67 ?_
      try simp only [gI_sI, gI_sL, gL_sI, gL_sL, false_and, and_false, and_self, if_false, if_true, reduceIte, Nat.reduceEqDiff]
      refine w_if_le (tgt := 77) X dX12_counted_70 (by decide) (fun h70 => absurd h70 (by decide)) (fun h70 => ?_)
      refine w_iconst (v := 0) X dX12_counted_73 (by decide) ?_
      refine w_goto (tgt := 92) X dX12_counted_74 (by decide) ?_
      refine w_irF X dX12_counted_92 ?_ ?_
      · simp [ct_, a1, a2, a3, a4, h32, h42, h70]
      · simp [ct_, a1, a2, a3, a4, h32, h42, h70]
  refine w_iload_n X dX12_counted_0 rfl rfl ?_
  refine w_if_lt (tgt := 26) X dX12_counted_1 (by decide) (fun h1 => ?_) (fun h1 => ?_)
  · refine w_iconst (v := 0) X dX12_counted_26 (by decide) ?_
    refine w_istore X dX12_counted_27 (by decide) ?_
    exact j0 (by first | exact Or.inl h1 | exact Or.inr (Or.inl h7) | exact Or.inr (Or.inr (Or.inl h11)) | exact Or.inr (Or.inr (Or.inr h19)))
  · refine w_iload_n X dX12_counted_4 rfl rfl ?_
    refine w_bipush (v := 8) X dX12_counted_5 (by decide) ?_
    refine w_icmp_ge (tgt := 26) X dX12_counted_7 (by decide) (fun h7 => ?_) (fun h7 => ?_)
    · refine w_iconst (v := 0) X dX12_counted_26 (by decide) ?_
      refine w_istore X dX12_counted_27 (by decide) ?_
      exact j0 (by first | exact Or.inl h1 | exact Or.inr (Or.inl h7) | exact Or.inr (Or.inr (Or.inl h11)) | exact Or.inr (Or.inr (Or.inr h19)))
    · refine w_iload_n X dX12_counted_10 rfl rfl ?_
      refine w_if_lt (tgt := 26) X dX12_counted_11 (by decide) (fun h11 => ?_) (fun h11 => ?_)
      · refine w_iconst (v := 0) X dX12_counted_26 (by decide) ?_
        refine w_istore X dX12_counted_27 (by decide) ?_
        exact j0 (by first | exact Or.inl h1 | exact Or.inr (Or.inl h7) | exact Or.inr (Or.inr (Or.inl h11)) | exact Or.inr (Or.inr (Or.inr h19)))
      · refine w_iload_n X dX12_counted_14 rfl rfl ?_
        refine w_aload_n X dX12_counted_15 rfl rfl ?_
        refine g12_methods X dX12_counted_16 ?_
        try simp only [gI_sI, gI_sL, gL_sI, gL_sL, false_and, and_false, and_self, if_false, if_true, reduceIte, Nat.reduceEqDiff, hc]
        refine w_icmp_ge (tgt := 26) X dX12_counted_19 (by decide) (fun h19 => ?_) (fun h19 => ?_)
        · refine w_iconst (v := 0) X dX12_counted_26 (by decide) ?_
          refine w_istore X dX12_counted_27 (by decide) ?_
          exact j0 (by first | exact Or.inl h1 | exact Or.inr (Or.inl h7) | exact Or.inr (Or.inr (Or.inl h11)) | exact Or.inr (Or.inr (Or.inr h19)))
        · refine w_iconst (v := 1) X dX12_counted_22 (by decide) ?_
          refine w_goto (tgt := 27) X dX12_counted_23 (by decide) ?_
          refine w_istore X dX12_counted_27 (by decide) ?_
          exact j1 h1 h7 h11 h19

end
section
/-! the reference's parser: one reduction, by what waits -/
theorem nI_s1 (n : Nat) : nI (n + 1) - 1 = nI n := nI_pred n
theorem nI_d (a b : Nat) (h : b < a) : nI a - nI b - 1 = nI (a - b - 1) := by rw [pk_sub (by omega), nI_p _ (by omega)]
set_option maxRecDepth 100000 in
set_option maxHeartbeats 4000000 in
theorem c12_reduce_1 (G : gg_) (hG : gd_ G) (d : Nat) (M : mm_) (w q ln oc : Nat) (hw : M.1 0 20 = nI (w + 1)) (hl : M.1 0 12 = nI ln) (ho : M.1 0 22 = nI (oc + 1)) (hq : M.1 8 w = nI q) (hw2 : w < 64) (hl2 : ln < 64) (ho2 : oc < 64) (hql : q < ln) (hk : M.1 7 w = 1) : cm_ G yX12_reduce cX12_reduce 4 none (d + 2) [.ref (G.1 0)] M (fV_ (sI_ (sL_ (sI_ M 0 20 (nI w)) 3 (2048 + q) (nI (ln - q - 1)).toInt64) 0 22 (nI oc))) := by
  refine cm_of hG (by decide) (Nat.le_of_ble_eq_true rfl) (fun C X => ?_)
  refine w_aload_n X dX12_reduce_0 rfl rfl ?_
  refine w_dup X dX12_reduce_1 rfl ?_
  refine g12_waiting X dX12_reduce_2 ?_
  try simp only [gI_sI, gI_sL, gL_sI, gL_sL, false_and, and_false, and_self, if_false, if_true, reduceIte, Nat.reduceEqDiff, hw, hl, ho, hq, hk, nI_s1]
  refine w_iconst (v := 1) X dX12_reduce_5 (by decide) ?_
  refine w_isub X dX12_reduce_6 ?_
  rw [nI_s1]
  refine p12_waiting X dX12_reduce_7 ?_
  refine w_aload_n X dX12_reduce_10 rfl rfl ?_
  refine g12_waits X dX12_reduce_11 ?_
  refine w_aload_n X dX12_reduce_14 rfl rfl ?_
  refine g12_waiting X dX12_reduce_15 ?_
  try simp only [gI_sI, gI_sL, gL_sI, gL_sL, false_and, and_false, and_self, if_false, if_true, reduceIte, Nat.reduceEqDiff, hw, hl, ho, hq, hk, nI_s1]
  refine w_ialoadN X dX12_reduce_18 rfl rfl (by omega) ?_
  try simp only [gI_sI, gI_sL, gL_sI, gL_sL, false_and, and_false, and_self, if_false, if_true, reduceIte, Nat.reduceEqDiff, hw, hl, ho, hq, hk, nI_s1]
  refine w_istore_n X dX12_reduce_19 rfl (by decide) ?_
  refine w_aload_n X dX12_reduce_20 rfl rfl ?_
  refine g12_waitPlaces X dX12_reduce_21 ?_
  refine w_aload_n X dX12_reduce_24 rfl rfl ?_
  refine g12_waiting X dX12_reduce_25 ?_
  try simp only [gI_sI, gI_sL, gL_sI, gL_sL, false_and, and_false, and_self, if_false, if_true, reduceIte, Nat.reduceEqDiff, hw, hl, ho, hq, hk, nI_s1]
  refine w_ialoadN X dX12_reduce_28 rfl rfl (by omega) ?_
  try simp only [gI_sI, gI_sL, gL_sI, gL_sL, false_and, and_false, and_self, if_false, if_true, reduceIte, Nat.reduceEqDiff, hw, hl, ho, hq, hk, nI_s1]
  refine w_istore_n X dX12_reduce_29 rfl (by decide) ?_
  refine w_aload_n X dX12_reduce_30 rfl rfl ?_
  refine g12_waitValues X dX12_reduce_31 ?_
  refine w_aload_n X dX12_reduce_34 rfl rfl ?_
  refine g12_waiting X dX12_reduce_35 ?_
  try simp only [gI_sI, gI_sL, gL_sI, gL_sL, false_and, and_false, and_self, if_false, if_true, reduceIte, Nat.reduceEqDiff, hw, hl, ho, hq, hk, nI_s1]
  refine w_ialoadN X dX12_reduce_38 rfl rfl (by omega) ?_
  try simp only [gI_sI, gI_sL, gL_sI, gL_sL, false_and, and_false, and_self, if_false, if_true, reduceIte, Nat.reduceEqDiff, hw, hl, ho, hq, hk, nI_s1]
  refine w_istore_n X dX12_reduce_39 rfl (by decide) ?_
  refine w_iload_n X dX12_reduce_40 rfl rfl ?_
  refine w_iconst (v := 1) X dX12_reduce_41 (by decide) ?_
  refine w_icmp_ne (tgt := 79) X dX12_reduce_42 (by decide) (fun h42 => absurd rfl h42) (fun h42 => ?_)
  refine w_aload_n X dX12_reduce_45 rfl rfl ?_
  refine g12_values X dX12_reduce_46 ?_
  refine w_bipush (v := 32) X dX12_reduce_49 (by decide) ?_
  refine w_s1fI X dX12_reduce_51 k12_rowOf (c12_rowOf G hG _ _ _) (Nat.le_of_ble_eq_true rfl) ?_
  refine w_iload_n X dX12_reduce_54 rfl rfl ?_
  refine w_iadd X dX12_reduce_55 ?_
  rw [nI_2048]
  refine w_aload_n X dX12_reduce_56 rfl rfl ?_
  refine g12_length X dX12_reduce_57 ?_
  try simp only [gI_sI, gI_sL, gL_sI, gL_sL, false_and, and_false, and_self, if_false, if_true, reduceIte, Nat.reduceEqDiff, hw, hl, ho, hq, hk, nI_s1]
  refine w_iload_n X dX12_reduce_60 rfl rfl ?_
  refine w_isub X dX12_reduce_61 ?_
  refine w_iconst (v := 1) X dX12_reduce_62 (by decide) ?_
  refine w_isub X dX12_reduce_63 ?_
  rw [nI_d ln q hql]
  refine w_i2l X dX12_reduce_64 ?_
  refine w_lastoreN X dX12_reduce_65 rfl rfl (by omega) ?_
  refine w_aload_n X dX12_reduce_66 rfl rfl ?_
  refine w_dup X dX12_reduce_67 rfl ?_
  refine g12_operandCount X dX12_reduce_68 ?_
  try simp only [gI_sI, gI_sL, gL_sI, gL_sL, false_and, and_false, and_self, if_false, if_true, reduceIte, Nat.reduceEqDiff, hw, hl, ho, hq, hk, nI_s1]
  refine w_iconst (v := 1) X dX12_reduce_71 (by decide) ?_
  refine w_isub X dX12_reduce_72 ?_
  rw [nI_s1]
  refine p12_operandCount X dX12_reduce_73 ?_
  refine w_goto (tgt := 162) X dX12_reduce_76 (by decide) ?_
  exact w_vrF X dX12_reduce_162 rfl
set_option maxRecDepth 100000 in
set_option maxHeartbeats 4000000 in
theorem c12_reduce_2 (G : gg_) (hG : gd_ G) (d : Nat) (M : mm_) (w q ln oc : Nat) (hw : M.1 0 20 = nI (w + 1)) (hl : M.1 0 12 = nI ln) (ho : M.1 0 22 = nI (oc + 1)) (hq : M.1 8 w = nI q) (hw2 : w < 64) (hl2 : ln < 64) (ho2 : oc < 64) (hql : q < ln) (hk : M.1 7 w = 2) : cm_ G yX12_reduce cX12_reduce 4 none (d + 2) [.ref (G.1 0)] M (fV_ (sI_ (sL_ (sI_ M 0 20 (nI w)) 3 (2048 + q) (nI (ln - q - 1)).toInt64) 11 oc (M.1 9 w))) := by
  refine cm_of hG (by decide) (Nat.le_of_ble_eq_true rfl) (fun C X => ?_)
  refine w_aload_n X dX12_reduce_0 rfl rfl ?_
  refine w_dup X dX12_reduce_1 rfl ?_
  refine g12_waiting X dX12_reduce_2 ?_
  try simp only [gI_sI, gI_sL, gL_sI, gL_sL, false_and, and_false, and_self, if_false, if_true, reduceIte, Nat.reduceEqDiff, hw, hl, ho, hq, hk, nI_s1]
  refine w_iconst (v := 1) X dX12_reduce_5 (by decide) ?_
  refine w_isub X dX12_reduce_6 ?_
  rw [nI_s1]
  refine p12_waiting X dX12_reduce_7 ?_
  refine w_aload_n X dX12_reduce_10 rfl rfl ?_
  refine g12_waits X dX12_reduce_11 ?_
  refine w_aload_n X dX12_reduce_14 rfl rfl ?_
  refine g12_waiting X dX12_reduce_15 ?_
  try simp only [gI_sI, gI_sL, gL_sI, gL_sL, false_and, and_false, and_self, if_false, if_true, reduceIte, Nat.reduceEqDiff, hw, hl, ho, hq, hk, nI_s1]
  refine w_ialoadN X dX12_reduce_18 rfl rfl (by omega) ?_
  try simp only [gI_sI, gI_sL, gL_sI, gL_sL, false_and, and_false, and_self, if_false, if_true, reduceIte, Nat.reduceEqDiff, hw, hl, ho, hq, hk, nI_s1]
  refine w_istore_n X dX12_reduce_19 rfl (by decide) ?_
  refine w_aload_n X dX12_reduce_20 rfl rfl ?_
  refine g12_waitPlaces X dX12_reduce_21 ?_
  refine w_aload_n X dX12_reduce_24 rfl rfl ?_
  refine g12_waiting X dX12_reduce_25 ?_
  try simp only [gI_sI, gI_sL, gL_sI, gL_sL, false_and, and_false, and_self, if_false, if_true, reduceIte, Nat.reduceEqDiff, hw, hl, ho, hq, hk, nI_s1]
  refine w_ialoadN X dX12_reduce_28 rfl rfl (by omega) ?_
  try simp only [gI_sI, gI_sL, gL_sI, gL_sL, false_and, and_false, and_self, if_false, if_true, reduceIte, Nat.reduceEqDiff, hw, hl, ho, hq, hk, nI_s1]
  refine w_istore_n X dX12_reduce_29 rfl (by decide) ?_
  refine w_aload_n X dX12_reduce_30 rfl rfl ?_
  refine g12_waitValues X dX12_reduce_31 ?_
  refine w_aload_n X dX12_reduce_34 rfl rfl ?_
  refine g12_waiting X dX12_reduce_35 ?_
  try simp only [gI_sI, gI_sL, gL_sI, gL_sL, false_and, and_false, and_self, if_false, if_true, reduceIte, Nat.reduceEqDiff, hw, hl, ho, hq, hk, nI_s1]
  refine w_ialoadN X dX12_reduce_38 rfl rfl (by omega) ?_
  try simp only [gI_sI, gI_sL, gL_sI, gL_sL, false_and, and_false, and_self, if_false, if_true, reduceIte, Nat.reduceEqDiff, hw, hl, ho, hq, hk, nI_s1]
  refine w_istore_n X dX12_reduce_39 rfl (by decide) ?_
  refine w_iload_n X dX12_reduce_40 rfl rfl ?_
  refine w_iconst (v := 1) X dX12_reduce_41 (by decide) ?_
  refine w_icmp_ne (tgt := 79) X dX12_reduce_42 (by decide) (fun h42 => ?_) (fun h42 => absurd h42 (by decide))
  refine w_iload_n X dX12_reduce_79 rfl rfl ?_
  refine w_iconst (v := 2) X dX12_reduce_80 (by decide) ?_
  refine w_icmp_ne (tgt := 120) X dX12_reduce_81 (by decide) (fun h81 => absurd rfl h81) (fun h81 => ?_)
  refine w_aload_n X dX12_reduce_84 rfl rfl ?_
  refine g12_values X dX12_reduce_85 ?_
  refine w_bipush (v := 32) X dX12_reduce_88 (by decide) ?_
  refine w_s1fI X dX12_reduce_90 k12_rowOf (c12_rowOf G hG _ _ _) (Nat.le_of_ble_eq_true rfl) ?_
  refine w_iload_n X dX12_reduce_93 rfl rfl ?_
  refine w_iadd X dX12_reduce_94 ?_
  rw [nI_2048]
  refine w_aload_n X dX12_reduce_95 rfl rfl ?_
  refine g12_length X dX12_reduce_96 ?_
  try simp only [gI_sI, gI_sL, gL_sI, gL_sL, false_and, and_false, and_self, if_false, if_true, reduceIte, Nat.reduceEqDiff, hw, hl, ho, hq, hk, nI_s1]
  refine w_iload_n X dX12_reduce_99 rfl rfl ?_
  refine w_isub X dX12_reduce_100 ?_
  refine w_iconst (v := 1) X dX12_reduce_101 (by decide) ?_
  refine w_isub X dX12_reduce_102 ?_
  rw [nI_d ln q hql]
  refine w_i2l X dX12_reduce_103 ?_
  refine w_lastoreN X dX12_reduce_104 rfl rfl (by omega) ?_
  refine w_aload_n X dX12_reduce_105 rfl rfl ?_
  refine g12_operands X dX12_reduce_106 ?_
  refine w_aload_n X dX12_reduce_109 rfl rfl ?_
  refine g12_operandCount X dX12_reduce_110 ?_
  try simp only [gI_sI, gI_sL, gL_sI, gL_sL, false_and, and_false, and_self, if_false, if_true, reduceIte, Nat.reduceEqDiff, hw, hl, ho, hq, hk, nI_s1]
  refine w_iconst (v := 1) X dX12_reduce_113 (by decide) ?_
  refine w_isub X dX12_reduce_114 ?_
  rw [nI_s1]
  refine w_iload_n X dX12_reduce_115 rfl rfl ?_
  refine w_iastoreN X dX12_reduce_116 rfl rfl (by omega) ?_
  refine w_goto (tgt := 162) X dX12_reduce_117 (by decide) ?_
  exact w_vrF X dX12_reduce_162 rfl
set_option maxRecDepth 100000 in
set_option maxHeartbeats 4000000 in
theorem c12_reduce_6 (G : gg_) (hG : gd_ G) (d : Nat) (M : mm_) (w q ln oc : Nat) (hw : M.1 0 20 = nI (w + 1)) (hl : M.1 0 12 = nI ln) (ho : M.1 0 22 = nI (oc + 1)) (hq : M.1 8 w = nI q) (hw2 : w < 64) (hl2 : ln < 64) (ho2 : oc < 64) (hk : M.1 7 w = 6) : cm_ G yX12_reduce cX12_reduce 4 none (d + 2) [.ref (G.1 0)] M (fV_ (pu_ (sI_ M 0 20 (nI w)) ln (if M.1 9 w = 45 then 3 else 4) 0)) := by
  refine cm_of hG (by decide) (Nat.le_of_ble_eq_true rfl) (fun C X => ?_)
  refine w_aload_n X dX12_reduce_0 rfl rfl ?_
  refine w_dup X dX12_reduce_1 rfl ?_
  refine g12_waiting X dX12_reduce_2 ?_
  try simp only [gI_sI, gI_sL, gL_sI, gL_sL, false_and, and_false, and_self, if_false, if_true, reduceIte, Nat.reduceEqDiff, hw, hl, ho, hq, hk, nI_s1]
  refine w_iconst (v := 1) X dX12_reduce_5 (by decide) ?_
  refine w_isub X dX12_reduce_6 ?_
  rw [nI_s1]
  refine p12_waiting X dX12_reduce_7 ?_
  refine w_aload_n X dX12_reduce_10 rfl rfl ?_
  refine g12_waits X dX12_reduce_11 ?_
  refine w_aload_n X dX12_reduce_14 rfl rfl ?_
  refine g12_waiting X dX12_reduce_15 ?_
  try simp only [gI_sI, gI_sL, gL_sI, gL_sL, false_and, and_false, and_self, if_false, if_true, reduceIte, Nat.reduceEqDiff, hw, hl, ho, hq, hk, nI_s1]
  refine w_ialoadN X dX12_reduce_18 rfl rfl (by omega) ?_
  try simp only [gI_sI, gI_sL, gL_sI, gL_sL, false_and, and_false, and_self, if_false, if_true, reduceIte, Nat.reduceEqDiff, hw, hl, ho, hq, hk, nI_s1]
  refine w_istore_n X dX12_reduce_19 rfl (by decide) ?_
  refine w_aload_n X dX12_reduce_20 rfl rfl ?_
  refine g12_waitPlaces X dX12_reduce_21 ?_
  refine w_aload_n X dX12_reduce_24 rfl rfl ?_
  refine g12_waiting X dX12_reduce_25 ?_
  try simp only [gI_sI, gI_sL, gL_sI, gL_sL, false_and, and_false, and_self, if_false, if_true, reduceIte, Nat.reduceEqDiff, hw, hl, ho, hq, hk, nI_s1]
  refine w_ialoadN X dX12_reduce_28 rfl rfl (by omega) ?_
  try simp only [gI_sI, gI_sL, gL_sI, gL_sL, false_and, and_false, and_self, if_false, if_true, reduceIte, Nat.reduceEqDiff, hw, hl, ho, hq, hk, nI_s1]
  refine w_istore_n X dX12_reduce_29 rfl (by decide) ?_
  refine w_aload_n X dX12_reduce_30 rfl rfl ?_
  refine g12_waitValues X dX12_reduce_31 ?_
  refine w_aload_n X dX12_reduce_34 rfl rfl ?_
  refine g12_waiting X dX12_reduce_35 ?_
  try simp only [gI_sI, gI_sL, gL_sI, gL_sL, false_and, and_false, and_self, if_false, if_true, reduceIte, Nat.reduceEqDiff, hw, hl, ho, hq, hk, nI_s1]
  refine w_ialoadN X dX12_reduce_38 rfl rfl (by omega) ?_
  try simp only [gI_sI, gI_sL, gL_sI, gL_sL, false_and, and_false, and_self, if_false, if_true, reduceIte, Nat.reduceEqDiff, hw, hl, ho, hq, hk, nI_s1]
  refine w_istore_n X dX12_reduce_39 rfl (by decide) ?_
  refine w_iload_n X dX12_reduce_40 rfl rfl ?_
  refine w_iconst (v := 1) X dX12_reduce_41 (by decide) ?_
  refine w_icmp_ne (tgt := 79) X dX12_reduce_42 (by decide) (fun h42 => ?_) (fun h42 => absurd h42 (by decide))
  refine w_iload_n X dX12_reduce_79 rfl rfl ?_
  refine w_iconst (v := 2) X dX12_reduce_80 (by decide) ?_
  refine w_icmp_ne (tgt := 120) X dX12_reduce_81 (by decide) (fun h81 => ?_) (fun h81 => absurd h81 (by decide))
  refine w_iload_n X dX12_reduce_120 rfl rfl ?_
  refine w_bipush (v := 6) X dX12_reduce_121 (by decide) ?_
  refine w_icmp_ne (tgt := 145) X dX12_reduce_123 (by decide) (fun h123 => absurd rfl h123) (fun h123 => ?_)
  refine w_aload_n X dX12_reduce_126 rfl rfl ?_
  refine w_iload_n X dX12_reduce_127 rfl rfl ?_
  refine w_bipush (v := 45) X dX12_reduce_128 (by decide) ?_
  refine w_icmp_ne (tgt := 137) X dX12_reduce_130 (by decide) (fun h130 => ?_) (fun h130 => ?_)
  · refine w_iconst (v := 4) X dX12_reduce_137 (by decide) ?_
    refine w_lconst (v := 0) X dX12_reduce_138 (by decide) ?_
    refine w_v2fV X dX12_reduce_139 k12_put rfl rfl (c12_put G hG _ _ ln (by simp [sI_, hl]) (by omega) _ _) (Nat.le_of_ble_eq_true rfl) ?_
    refine w_goto (tgt := 162) X dX12_reduce_142 (by decide) ?_
    exact w_vrF X dX12_reduce_162 (by simp [h42, h81, h123, h130])
  · refine w_iconst (v := 3) X dX12_reduce_133 (by decide) ?_
    refine w_goto (tgt := 138) X dX12_reduce_134 (by decide) ?_
    refine w_lconst (v := 0) X dX12_reduce_138 (by decide) ?_
    refine w_v2fV X dX12_reduce_139 k12_put rfl rfl (c12_put G hG _ _ ln (by simp [sI_, hl]) (by omega) _ _) (Nat.le_of_ble_eq_true rfl) ?_
    refine w_goto (tgt := 162) X dX12_reduce_142 (by decide) ?_
    exact w_vrF X dX12_reduce_162 (by simp [h42, h81, h123, h130])
set_option maxRecDepth 100000 in
set_option maxHeartbeats 4000000 in
theorem c12_reduce_b (G : gg_) (hG : gd_ G) (d : Nat) (M : mm_) (w q ln oc : Nat) (hw : M.1 0 20 = nI (w + 1)) (hl : M.1 0 12 = nI ln) (ho : M.1 0 22 = nI (oc + 1)) (hq : M.1 8 w = nI q) (hw2 : w < 64) (hl2 : ln < 64) (ho2 : oc < 64) (hk : M.1 7 w = 3 ∨ M.1 7 w = 4 ∨ M.1 7 w = 5) : cm_ G yX12_reduce cX12_reduce 4 none (d + 2) [.ref (G.1 0)] M (fV_ (sI_ (pu_ (sI_ M 0 20 (nI w)) ln 2 (M.1 9 w).toInt64) 0 22 (nI oc))) := by
  refine cm_of hG (by decide) (Nat.le_of_ble_eq_true rfl) (fun C X => ?_)
  refine w_aload_n X dX12_reduce_0 rfl rfl ?_
  refine w_dup X dX12_reduce_1 rfl ?_
  refine g12_waiting X dX12_reduce_2 ?_
  try simp only [gI_sI, gI_sL, gL_sI, gL_sL, false_and, and_false, and_self, if_false, if_true, reduceIte, Nat.reduceEqDiff, hw, hl, ho, hq, nI_s1]
  refine w_iconst (v := 1) X dX12_reduce_5 (by decide) ?_
  refine w_isub X dX12_reduce_6 ?_
  rw [nI_s1]
  refine p12_waiting X dX12_reduce_7 ?_
  refine w_aload_n X dX12_reduce_10 rfl rfl ?_
  refine g12_waits X dX12_reduce_11 ?_
  refine w_aload_n X dX12_reduce_14 rfl rfl ?_
  refine g12_waiting X dX12_reduce_15 ?_
  try simp only [gI_sI, gI_sL, gL_sI, gL_sL, false_and, and_false, and_self, if_false, if_true, reduceIte, Nat.reduceEqDiff, hw, hl, ho, hq, nI_s1]
  refine w_ialoadN X dX12_reduce_18 rfl rfl (by omega) ?_
  try simp only [gI_sI, gI_sL, gL_sI, gL_sL, false_and, and_false, and_self, if_false, if_true, reduceIte, Nat.reduceEqDiff, hw, hl, ho, hq, nI_s1]
  refine w_istore_n X dX12_reduce_19 rfl (by decide) ?_
  refine w_aload_n X dX12_reduce_20 rfl rfl ?_
  refine g12_waitPlaces X dX12_reduce_21 ?_
  refine w_aload_n X dX12_reduce_24 rfl rfl ?_
  refine g12_waiting X dX12_reduce_25 ?_
  try simp only [gI_sI, gI_sL, gL_sI, gL_sL, false_and, and_false, and_self, if_false, if_true, reduceIte, Nat.reduceEqDiff, hw, hl, ho, hq, nI_s1]
  refine w_ialoadN X dX12_reduce_28 rfl rfl (by omega) ?_
  try simp only [gI_sI, gI_sL, gL_sI, gL_sL, false_and, and_false, and_self, if_false, if_true, reduceIte, Nat.reduceEqDiff, hw, hl, ho, hq, nI_s1]
  refine w_istore_n X dX12_reduce_29 rfl (by decide) ?_
  refine w_aload_n X dX12_reduce_30 rfl rfl ?_
  refine g12_waitValues X dX12_reduce_31 ?_
  refine w_aload_n X dX12_reduce_34 rfl rfl ?_
  refine g12_waiting X dX12_reduce_35 ?_
  try simp only [gI_sI, gI_sL, gL_sI, gL_sL, false_and, and_false, and_self, if_false, if_true, reduceIte, Nat.reduceEqDiff, hw, hl, ho, hq, nI_s1]
  refine w_ialoadN X dX12_reduce_38 rfl rfl (by omega) ?_
  try simp only [gI_sI, gI_sL, gL_sI, gL_sL, false_and, and_false, and_self, if_false, if_true, reduceIte, Nat.reduceEqDiff, hw, hl, ho, hq, nI_s1]
  refine w_istore_n X dX12_reduce_39 rfl (by decide) ?_
  refine w_iload_n X dX12_reduce_40 rfl rfl ?_
  refine w_iconst (v := 1) X dX12_reduce_41 (by decide) ?_
  refine w_icmp_ne (tgt := 79) X dX12_reduce_42 (by decide) (fun h42 => ?_) (fun h42 => absurd h42 (by rcases hk with z | z | z <;> rw [z] <;> decide))
  refine w_iload_n X dX12_reduce_79 rfl rfl ?_
  refine w_iconst (v := 2) X dX12_reduce_80 (by decide) ?_
  refine w_icmp_ne (tgt := 120) X dX12_reduce_81 (by decide) (fun h81 => ?_) (fun h81 => absurd h81 (by rcases hk with z | z | z <;> rw [z] <;> decide))
  refine w_iload_n X dX12_reduce_120 rfl rfl ?_
  refine w_bipush (v := 6) X dX12_reduce_121 (by decide) ?_
  refine w_icmp_ne (tgt := 145) X dX12_reduce_123 (by decide) (fun h123 => ?_) (fun h123 => absurd h123 (by rcases hk with z | z | z <;> rw [z] <;> decide))
  refine w_aload_n X dX12_reduce_145 rfl rfl ?_
  refine w_iconst (v := 2) X dX12_reduce_146 (by decide) ?_
  refine w_iload_n X dX12_reduce_147 rfl rfl ?_
  refine w_i2l X dX12_reduce_148 ?_
  refine w_v2fV X dX12_reduce_149 k12_put rfl rfl (c12_put G hG _ _ ln (by simp [sI_, hl]) (by omega) _ _) (Nat.le_of_ble_eq_true rfl) ?_
  refine w_aload_n X dX12_reduce_152 rfl rfl ?_
  refine w_dup X dX12_reduce_153 rfl ?_
  refine g12_operandCount X dX12_reduce_154 ?_
  try simp only [gI_sI, gI_sL, gL_sI, gL_sL, false_and, and_false, and_self, if_false, if_true, reduceIte, Nat.reduceEqDiff, hw, hl, ho, hq, nI_s1]
  rw [show (pu_ (sI_ M 0 20 (nI w)) ln 2 (M.1 9 w).toInt64).1 0 22 = nI (oc + 1) by simp [pu_, sI_, sL_, ho]]
  refine w_iconst (v := 1) X dX12_reduce_157 (by decide) ?_
  refine w_isub X dX12_reduce_158 ?_
  rw [nI_s1]
  refine p12_operandCount X dX12_reduce_159 ?_
  exact w_vrF X dX12_reduce_162 rfl

end
section
/-! Trees of expressions (as Term), their codes, and the reference's parser's state as a stack of frames (the top first).
.int v a number; .index i a variable; .length e less than 0; .sum e thrown; .elem (.int c) (.add a b) a sign between two; .mul a (.div b c) ?: ; .rem a b # ; .sub (.long key) args an invocation, args .null or .add a rest. -/
abbrev sv_ : Type := Int32 × Int64
abbrev fr_ : Type := Nat × Int32 × Term × Term × Int64
def ac_ : Term → Nat
  | .add _ r => ac_ r + 1
  | _ => 0
def kv_ : Term → Int64
  | .long k => k
  | _ => 0
def sg_ : Term → Int32
  | .int c => c
  | _ => 0
def tc_ : Term → List sv_
  | .int v => [(0, v.toInt64)]
  | .index i => [(1, (nI i).toInt64)]
  | .length e => tc_ e ++ [(3, 0)]
  | .sum e => tc_ e ++ [(4, 0)]
  | .elem s x => tc_ x ++ [(2, (sg_ s).toInt64)]
  | .mul a (.div b c) => tc_ a ++ (5, lN ((tc_ b).length + 1)) :: (tc_ b ++ (6, lN (tc_ c).length) :: tc_ c)
  | .rem a b => (7, lN ((tc_ a).length + 1)) :: (tc_ a ++ (8, lN (tc_ b).length) :: tc_ b)
  | .sub k x => tc_ x ++ [(9, (kv_ k <<< ((2 : Int32).toInt64 &&& 63)) ||| (nI (ac_ x)).toInt64)]
  | .add a r => tc_ a ++ tc_ r
  | _ => []
/-- how many nodes -/
def nt_ : Term → Nat
  | .int _ => 1
  | .index _ => 1
  | .length e => nt_ e + 1
  | .sum e => nt_ e + 1
  | .elem _ x => nt_ x + 1
  | .mul a (.div b c) => nt_ a + nt_ b + nt_ c + 1
  | .rem a b => nt_ a + nt_ b + 1
  | .sub _ x => nt_ x + 1
  | .add a r => nt_ a + nt_ r
  | _ => 0
theorem tc_le : ∀ e : Term, (tc_ e).length ≤ 2 * nt_ e
  | .int _ => by simp [tc_, nt_]
  | .index _ => by simp [tc_, nt_]
  | .length e => by have := tc_le e; simp [tc_, nt_]; omega
  | .sum e => by have := tc_le e; simp [tc_, nt_]; omega
  | .elem _ x => by have := tc_le x; simp [tc_, nt_]; omega
  | .mul a (.div b c) => by have := tc_le a; have := tc_le b; have := tc_le c; simp [tc_, nt_]; omega
  | .rem a b => by have := tc_le a; have := tc_le b; simp [tc_, nt_]; omega
  | .sub _ x => by have := tc_le x; simp [tc_, nt_]; omega
  | .add a r => by have := tc_le a; have := tc_le r; simp [tc_, nt_]; omega
  | .arg _ | .long _ | .null | .field _ _ _ _ | .static _ _ _ | .string _ _ | .mirror _ | .div _ _ | .op2 _ _ _ | .op1 _ _ | .result | .thrown | .old _ => by simp [tc_]
  | .mul _ (.arg _) | .mul _ (.int _) | .mul _ (.long _) | .mul _ .null | .mul _ (.index _) | .mul _ (.field _ _ _ _) | .mul _ (.static _ _ _) | .mul _ (.string _ _) | .mul _ (.mirror _) | .mul _ (.length _) | .mul _ (.elem _ _) | .mul _ (.add _ _) | .mul _ (.sub _ _) | .mul _ (.mul _ _) | .mul _ (.rem _ _) | .mul _ (.op2 _ _ _) | .mul _ (.op1 _ _) | .mul _ (.sum _) | .mul _ .result | .mul _ .thrown | .mul _ (.old _) => by simp [tc_]
/-- a list of trees, and one more -/
def ao_ : Term → Prop
  | .null => True
  | .add _ r => ao_ r
  | _ => False
def sa_ : Term → Term → Term
  | .add a r, e => .add a (sa_ r e)
  | _, e => .add e .null
theorem tc_sa : ∀ (x e : Term), ao_ x → tc_ (sa_ x e) = tc_ x ++ tc_ e
  | .null, e, _ => by simp [sa_, tc_]
  | .add a r, e, h => by simp [sa_, tc_, tc_sa r e h]
theorem nt_sa : ∀ (x e : Term), ao_ x → nt_ (sa_ x e) = nt_ x + nt_ e
  | .null, e, _ => by simp [sa_, nt_]
  | .add a r, e, h => by simp [sa_, nt_, nt_sa r e h]; omega
theorem ac_sa : ∀ (x e : Term), ao_ x → ac_ (sa_ x e) = ac_ x + 1
  | .null, e, _ => by simp [sa_, ac_]
  | .add a r, e, h => by simp [sa_, ac_, ac_sa r e h]
theorem ao_sa : ∀ (x e : Term), ao_ x → ao_ (sa_ x e)
  | .null, e, _ => by simp [sa_, ao_]
  | .add a r, e, h => by simp [sa_, ao_]; exact ao_sa r e h
def fc_ (f : fr_) : List sv_ := match f.1 with
  | 0 => []
  | 1 => (7, lN ((tc_ f.2.2.1).length + 1)) :: (tc_ f.2.2.1 ++ [(8, 0)])
  | 2 => tc_ f.2.2.1 ++ (5, lN ((tc_ f.2.2.2.1).length + 1)) :: (tc_ f.2.2.2.1 ++ [(6, 0)])
  | 6 => []
  | 7 => tc_ f.2.2.1 ++ [(5, 0)]
  | _ => tc_ f.2.2.1
def cs_ : List fr_ → List sv_
  | [] => []
  | f :: r => cs_ r ++ fc_ f
def fp_ (p : Nat) (f : fr_) : Nat := match f.1 with
  | 1 => p + 1 + (tc_ f.2.2.1).length
  | 2 => p + (tc_ f.2.2.1).length + 1 + (tc_ f.2.2.2.1).length
  | 7 => p + (tc_ f.2.2.1).length
  | 8 => p
  | _ => 0
def fu_ (p : Nat) (f : fr_) : Int32 := match f.1 with
  | 0 => 0
  | 1 => 0
  | 2 => nI p
  | 7 => nI p
  | 8 => nI (ac_ f.2.2.1)
  | _ => f.2.1
def oa_ (p : Nat) : Term → List Nat
  | .add a r => p :: oa_ (p + (tc_ a).length) r
  | _ => []
theorem oa_sa : ∀ (x e : Term) (p : Nat), ao_ x → oa_ p (sa_ x e) = oa_ p x ++ [p + (tc_ x).length]
  | .null, e, p, _ => by simp [sa_, oa_, tc_]
  | .add a r, e, p, h => by simp [sa_, oa_, tc_, oa_sa r e _ h]; omega
def ff_ (p : Nat) (f : fr_) : List Nat := match f.1 with
  | 1 => [p]
  | 3 => [p]
  | 4 => [p]
  | 5 => [p]
  | 8 => oa_ p f.2.2.1
  | _ => []
def os_ : List fr_ → List Nat
  | [] => []
  | f :: r => os_ r ++ ff_ (cs_ r).length f
def nf_ (f : fr_) : Nat := match f.1 with
  | 0 => 0
  | 2 => nt_ f.2.2.1 + nt_ f.2.2.2.1 + 1
  | 6 => 1
  | _ => nt_ f.2.2.1 + 1
def nw_ : List fr_ → Nat
  | [] => 0
  | f :: r => nw_ r + nf_ f
def no_ : List fr_ → Nat
  | [] => 0
  | f :: r => no_ r + (if f.1 = 0 ∨ f.1 = 8 then 1 else 0)
def wr_ (M : mm_) : List fr_ → Prop
  | [] => True
  | f :: r => wr_ M r ∧ (f.1 ≤ 8 ∧ (f.1 = 8 → ao_ f.2.2.1 ∧ ac_ f.2.2.1 ≤ nt_ f.2.2.1)) ∧ M.1 7 r.length = nI f.1 ∧ M.1 8 r.length = nI (fp_ (cs_ r).length f) ∧ M.1 9 r.length = fu_ (cs_ r).length f ∧ (f.1 = 8 → M.2.1 10 r.length = f.2.2.2.2)
def cd_ (M : mm_) (c : List sv_) : Prop := M.1 0 12 = nI c.length ∧ ∀ (i : Nat) (x : sv_), c[i]? = some x → M.1 2 (2048 + i) = x.1 ∧ M.2.1 3 (2048 + i) = x.2
def od_ (M : mm_) (o : List Nat) : Prop := M.1 0 22 = nI o.length ∧ ∀ (i : Nat) (x : Nat), o[i]? = some x → M.1 11 i = nI x
def cu_ : Option Term → List sv_
  | none => []
  | some e => tc_ e
def co_ (p : Nat) : Option Term → List Nat
  | none => []
  | some _ => [p]
def cn_ : Option Term → Nat
  | none => 0
  | some e => nt_ e
def cq_ : Option Term → Prop
  | none => True
  | some e => 1 ≤ nt_ e
/-- the parser's state: n bytes, at place k, the frames W, the current tree, nodes, opened -/
def pr_ (M : mm_) (n k : Nat) (W : List fr_) (u : Option Term) (nd op : Nat) : Prop :=
  tz_ M n ∧ M.1 0 5 = nI k ∧ cd_ M (cs_ W ++ cu_ u) ∧ M.1 0 20 = nI W.length ∧ wr_ M W ∧ od_ M (os_ W ++ co_ (cs_ W).length u) ∧ M.1 0 13 = nI nd ∧ M.1 0 23 = nI op ∧ nw_ W + cn_ u = nd ∧ nd ≤ 20 ∧ no_ W = op ∧ op ≤ 12 ∧ cq_ u
theorem fc_le (f : fr_) : (fc_ f).length ≤ 2 * nf_ f := by
  obtain ⟨k, c, a, b, x⟩ := f
  have ha := tc_le a
  have hb := tc_le b
  unfold fc_ nf_
  match k with
  | 0 => simp
  | 1 => simp; omega
  | 2 => simp; omega
  | 3 => simp; omega
  | 4 => simp; omega
  | 5 => simp; omega
  | 6 => simp
  | 7 => simp; omega
  | k + 8 => simp; omega
theorem cs_le : ∀ W : List fr_, (cs_ W).length ≤ 2 * nw_ W
  | [] => by simp [cs_]
  | f :: r => by
    have := cs_le r
    have := fc_le f
    simp [cs_, nw_]
    omega
theorem nw_len : ∀ W : List fr_, W.length ≤ nw_ W + no_ W
  | [] => by simp
  | f :: r => by
    have h := nw_len r
    obtain ⟨k, c, a, b, x⟩ := f
    simp only [List.length_cons, nw_, no_, nf_]
    match k with
    | 0 => simp; omega
    | 1 => simp; omega
    | 2 => simp; omega
    | 3 => simp; omega
    | 4 => simp; omega
    | 5 => simp; omega
    | 6 => simp; omega
    | 7 => simp; omega
    | k + 8 => simp; split <;> omega

end
section
/-! what updates keep of the parser's state -/
/-- the place of reading is on the tape or near -/
def ao5_ (M : mm_) : Prop := ∃ q : Nat, q < 1073741824 ∧ M.1 0 5 = nI q
/-- nothing but the parser's cells has changed; where there is no fault now, there was none, and the fault's place is the same; the place of reading is still a place -/
def pf_ (M N : mm_) : Prop := (∀ a i : Nat, a ≠ 7 → a ≠ 8 → a ≠ 9 → a ≠ 11 → ¬ (a = 2 ∧ 2048 ≤ i) → ¬ (a = 0 ∧ (i = 3 ∨ i = 4 ∨ i = 5 ∨ i = 12 ∨ i = 13 ∨ i = 20 ∨ i = 22 ∨ i = 23)) → N.1 a i = M.1 a i) ∧ (∀ a i : Nat, a ≠ 10 → ¬ (a = 3 ∧ 2048 ≤ i) → ¬ (a = 0 ∧ i = 24) → N.2.1 a i = M.2.1 a i) ∧ N.2.2 = M.2.2 ∧ (N.1 0 3 = 0 → M.1 0 3 = 0 ∧ N.1 0 4 = M.1 0 4) ∧ (ao5_ M → ao5_ N)
theorem pf_rf (M : mm_) : pf_ M M := ⟨fun _ _ _ _ _ _ _ _ => rfl, fun _ _ _ _ _ => rfl, rfl, fun h => ⟨h, rfl⟩, id⟩
theorem pf_tr {M N O : mm_} (h1 : pf_ M N) (h2 : pf_ N O) : pf_ M O := ⟨fun a i a1 a2 a3 a4 a5 a6 => (h2.1 a i a1 a2 a3 a4 a5 a6).trans (h1.1 a i a1 a2 a3 a4 a5 a6), fun a i a1 a2 a3 => (h2.2.1 a i a1 a2 a3).trans (h1.2.1 a i a1 a2 a3), h2.2.2.1.trans h1.2.2.1, fun h => ⟨(h1.2.2.2.1 (h2.2.2.2.1 h).1).1, (h2.2.2.2.1 h).2.trans (h1.2.2.2.1 (h2.2.2.2.1 h).1).2⟩, fun h => h2.2.2.2.2 (h1.2.2.2.2 h)⟩
theorem at5_ {q : Nat} (h : q < 1073741824) : (0 : Nat) = 7 ∨ (0 : Nat) = 8 ∨ (0 : Nat) = 9 ∨ (0 : Nat) = 11 ∨ ((0 : Nat) = 2 ∧ 2048 ≤ 5) ∨ ((0 : Nat) = 0 ∧ ((5 : Nat) = 12 ∨ (5 : Nat) = 13 ∨ (5 : Nat) = 20 ∨ (5 : Nat) = 22 ∨ (5 : Nat) = 23)) ∨ ((0 : Nat) = 0 ∧ (5 : Nat) = 5 ∧ ∃ r : Nat, r < 1073741824 ∧ nI q = nI r) := Or.inr (Or.inr (Or.inr (Or.inr (Or.inr (Or.inr ⟨rfl, rfl, q, h, rfl⟩)))))
theorem pf_sI {M N : mm_} {a i : Nat} {v : Int32} (h : pf_ M N) (hq : a = 7 ∨ a = 8 ∨ a = 9 ∨ a = 11 ∨ (a = 2 ∧ 2048 ≤ i) ∨ (a = 0 ∧ (i = 12 ∨ i = 13 ∨ i = 20 ∨ i = 22 ∨ i = 23)) ∨ (a = 0 ∧ i = 5 ∧ ∃ r : Nat, r < 1073741824 ∧ v = nI r)) : pf_ M (sI_ N a i v) := by
  have hq2 : a = 7 ∨ a = 8 ∨ a = 9 ∨ a = 11 ∨ (a = 2 ∧ 2048 ≤ i) ∨ (a = 0 ∧ (i = 3 ∨ i = 4 ∨ i = 5 ∨ i = 12 ∨ i = 13 ∨ i = 20 ∨ i = 22 ∨ i = 23)) := by
    rcases hq with q | q | q | q | q | q | ⟨q1, q2, -⟩ <;> omega
  have h34 : ¬ ((0 : Nat) = a ∧ 3 = i) ∧ ¬ ((0 : Nat) = a ∧ 4 = i) := by
    rcases hq with q | q | q | q | q | q | ⟨q1, q2, -⟩ <;> omega
  refine ⟨fun x j b1 b2 b3 b4 b5 b6 => ?_, h.2.1, h.2.2.1, fun y => ?_, fun y => ?_⟩
  · rw [sI_ne _ _ _ _ (fun z => by obtain ⟨rfl, rfl⟩ := z; omega)]
    exact h.1 x j b1 b2 b3 b4 b5 b6
  · rw [sI_ne _ _ _ _ h34.1] at y
    rw [sI_ne _ _ _ _ h34.2]
    exact h.2.2.2.1 y
  · by_cases z : (0 : Nat) = a ∧ 5 = i
    · obtain ⟨rfl, rfl⟩ := z
      rcases hq with q | q | q | q | q | q | ⟨-, -, r, hr, q⟩
      all_goals first | omega | exact ⟨r, hr, by rw [q]; simp [sI_]⟩
    · obtain ⟨r, hr, e⟩ := h.2.2.2.2 y
      exact ⟨r, hr, by rw [sI_ne _ _ _ _ z]; exact e⟩
theorem pf_sL {M N : mm_} {a i : Nat} {v : Int64} (h : pf_ M N) (hq : a = 10 ∨ (a = 3 ∧ 2048 ≤ i) ∨ (a = 0 ∧ i = 24)) : pf_ M (sL_ N a i v) := by
  refine ⟨h.1, fun x j b1 b2 b3 => ?_, h.2.2⟩
  rw [sL_ne _ _ _ _ (fun z => by obtain ⟨rfl, rfl⟩ := z; omega)]
  exact h.2.1 x j b1 b2 b3
theorem pf_pu {M N : mm_} {n : Nat} {t : Int32} {v : Int64} (h : pf_ M N) : pf_ M (pu_ N n t v) := pf_sI (pf_sL (pf_sI h (by omega)) (by omega)) (by omega)
theorem mid_get {α : Type} (A B : List α) (x : α) (i : Nat) : (A ++ x :: B)[i]? = if i < A.length then A[i]? else if i = A.length then some x else B[i - A.length - 1]? := by
  by_cases h : i < A.length
  · rw [if_pos h, List.getElem?_append_left h]
  · rw [if_neg h, List.getElem?_append_right (by omega)]
    by_cases h2 : i = A.length
    · rw [if_pos h2, h2]; simp
    · rw [if_neg h2]
      obtain ⟨k, hk⟩ : ∃ k, i - A.length = k + 1 := ⟨i - A.length - 1, by omega⟩
      rw [hk, List.getElem?_cons_succ]
      simp
theorem cd_patch {M : mm_} {A B : List sv_} {x : Int32} {y v : Int64} (h : cd_ M (A ++ (x, y) :: B)) : cd_ (sL_ M 3 (2048 + A.length) v) (A ++ (x, v) :: B) := by
  refine ⟨by rw [gI_sL, h.1]; simp, fun i z hi => ?_⟩
  rw [mid_get] at hi
  have hh := h.2 i
  simp only [mid_get] at hh
  rw [gI_sL, gL_sL]
  by_cases h1 : i < A.length
  · rw [if_pos h1] at hi
    simp only [if_pos h1] at hh
    rw [if_neg (by omega)]
    exact hh z hi
  · rw [if_neg h1] at hi
    simp only [if_neg h1] at hh
    by_cases h2 : i = A.length
    · rw [if_pos h2] at hi
      simp only [if_pos h2] at hh
      cases hi
      rw [if_pos ⟨rfl, by omega⟩]
      exact ⟨(hh (x, y) rfl).1, rfl⟩
    · rw [if_neg h2] at hi
      simp only [if_neg h2] at hh
      rw [if_neg (by omega)]
      exact hh z hi
theorem cd_sI {M : mm_} {c : List sv_} {a i : Nat} {v : Int32} (h : cd_ M c) (h1 : ¬ (a = 0 ∧ i = 12)) (h2 : a ≠ 2) : cd_ (sI_ M a i v) c := by
  refine ⟨by rw [sI_ne _ _ _ _ (fun z => h1 ⟨z.1.symm, z.2.symm⟩)]; exact h.1, fun j x hj => ?_⟩
  rw [sI_ne _ _ _ _ (fun z => h2 z.1.symm)]
  exact h.2 j x hj
theorem cd_sL {M : mm_} {c : List sv_} {a i : Nat} {v : Int64} (h : cd_ M c) (h2 : a ≠ 3) : cd_ (sL_ M a i v) c := by
  refine ⟨h.1, fun j x hj => ?_⟩
  rw [sL_ne _ _ _ _ (fun z => h2 z.1.symm)]
  exact h.2 j x hj
theorem cd_pu {M : mm_} {c : List sv_} {t : Int32} {v : Int64} (h : cd_ M c) : cd_ (pu_ M c.length t v) (c ++ [(t, v)]) := by
  refine ⟨by simp [pu_, sI_], fun i x hi => ?_⟩
  by_cases h1 : i < c.length
  · rw [List.getElem?_append_left h1] at hi
    have := h.2 i x hi
    simp only [pu_, gI_sI, gL_sI, gI_sL, gL_sL]
    rw [if_neg (by omega), if_neg (by omega), if_neg (by omega)]
    exact this
  · rw [List.getElem?_append_right (by omega)] at hi
    have h2 : i - c.length < 1 := (List.getElem?_eq_some_iff.mp hi).1
    obtain rfl : i = c.length := by omega
    rw [Nat.sub_self] at hi
    cases hi
    simp [pu_, gI_sI, gL_sI, gI_sL, gL_sL]
theorem od_cut {M : mm_} {o : List Nat} {x : Nat} (h : od_ M (o ++ [x])) : od_ (sI_ M 0 22 (nI o.length)) o := by
  refine ⟨by simp [sI_], fun i y hi => ?_⟩
  have h1 := (List.getElem?_eq_some_iff.mp hi).1
  rw [sI_ne _ _ _ _ (by omega)]
  exact h.2 i y (by rw [List.getElem?_append_left h1]; exact hi)
theorem od_new {M : mm_} {o : List Nat} {x y : Nat} (h : od_ M (o ++ [x])) : od_ (sI_ M 11 o.length (nI y)) (o ++ [y]) := by
  refine ⟨by rw [sI_ne _ _ _ _ (by omega), h.1]; simp, fun i z hi => ?_⟩
  by_cases h1 : i < o.length
  · rw [List.getElem?_append_left h1] at hi
    rw [sI_ne _ _ _ _ (by omega)]
    exact h.2 i z (by rw [List.getElem?_append_left h1]; exact hi)
  · rw [List.getElem?_append_right (by omega)] at hi
    have h2 : i - o.length < 1 := (List.getElem?_eq_some_iff.mp hi).1
    obtain rfl : i = o.length := by omega
    rw [Nat.sub_self] at hi
    cases hi
    rw [sI_at]
theorem od_op {M : mm_} {o : List Nat} {x : Nat} (h : od_ M o) : od_ (op_ M o.length (nI x)) (o ++ [x]) := by
  refine ⟨by simp [op_, sI_], fun i z hi => ?_⟩
  unfold op_
  by_cases h1 : i < o.length
  · rw [List.getElem?_append_left h1] at hi
    rw [sI_ne _ _ _ _ (by omega), sI_ne _ _ _ _ (by omega)]
    exact h.2 i z hi
  · rw [List.getElem?_append_right (by omega)] at hi
    have h2 : i - o.length < 1 := (List.getElem?_eq_some_iff.mp hi).1
    obtain rfl : i = o.length := by omega
    rw [Nat.sub_self] at hi
    cases hi
    rw [sI_ne _ _ _ _ (by omega), sI_at]
theorem od_sI {M : mm_} {o : List Nat} {a i : Nat} {v : Int32} (h : od_ M o) (h1 : ¬ (a = 0 ∧ i = 22)) (h2 : a ≠ 11) : od_ (sI_ M a i v) o := by
  refine ⟨by rw [sI_ne _ _ _ _ (fun z => h1 ⟨z.1.symm, z.2.symm⟩)]; exact h.1, fun j x hj => ?_⟩
  rw [sI_ne _ _ _ _ (fun z => h2 z.1.symm)]
  exact h.2 j x hj
theorem od_sL {M : mm_} {o : List Nat} {a i : Nat} {v : Int64} (h : od_ M o) : od_ (sL_ M a i v) o := h
theorem od_pu {M : mm_} {o : List Nat} {n : Nat} {t : Int32} {v : Int64} (h : od_ M o) : od_ (pu_ M n t v) o := od_sI (od_sL (od_sI h (by omega) (by omega))) (by omega) (by omega)
theorem wr_eq {M N : mm_} : ∀ {W : List fr_}, (∀ a i : Nat, (a = 7 ∨ a = 8 ∨ a = 9) → i < W.length → N.1 a i = M.1 a i) → (∀ i : Nat, i < W.length → N.2.1 10 i = M.2.1 10 i) → wr_ M W → wr_ N W
  | [], _, _, h => h
  | f :: r, h1, h2, h => by
    obtain ⟨g0, g1, g2, g3, g4, g5⟩ := h
    refine ⟨wr_eq (fun a i ha hi => h1 a i ha (by simp; omega)) (fun i hi => h2 i (by simp; omega)) g0, g1, ?_, ?_, ?_, fun z => ?_⟩
    · rw [h1 7 _ (Or.inl rfl) (by simp)]; exact g2
    · rw [h1 8 _ (Or.inr (Or.inl rfl)) (by simp)]; exact g3
    · rw [h1 9 _ (Or.inr (Or.inr rfl)) (by simp)]; exact g4
    · rw [h2 _ (by simp)]; exact g5 z
theorem wr_sI {M : mm_} {W : List fr_} {a i : Nat} {v : Int32} (h : wr_ M W) (hq : (a ≠ 7 ∧ a ≠ 8 ∧ a ≠ 9) ∨ W.length ≤ i) : wr_ (sI_ M a i v) W :=
  wr_eq (fun b j hb hj => sI_ne _ _ _ _ (fun z => by omega)) (fun _ _ => rfl) h
theorem wr_sL {M : mm_} {W : List fr_} {a i : Nat} {v : Int64} (h : wr_ M W) (hq : a ≠ 10 ∨ W.length ≤ i) : wr_ (sL_ M a i v) W :=
  wr_eq (M := M) (N := sL_ M a i v) (fun _ _ _ _ => rfl) (fun j hj => sL_ne _ _ _ _ (fun z => by omega)) h
theorem wr_pu {M : mm_} {W : List fr_} {n : Nat} {t : Int32} {v : Int64} (h : wr_ M W) : wr_ (pu_ M n t v) W := wr_sI (wr_sL (wr_sI h (Or.inl (by omega))) (Or.inl (by omega))) (Or.inl (by omega))
theorem tz_pu {M : mm_} {n m : Nat} {t : Int32} {v : Int64} (h : tz_ M n) : tz_ (pu_ M m t v) n := tz_sI (tz_sL (tz_sI h (by omega))) (by omega)
/-- a frame and the tree on its right become one -/
def rf_ (f : fr_) (e : Term) : Term := match f.1 with
  | 1 => .rem f.2.2.1 e
  | 2 => .mul f.2.2.1 (.div f.2.2.2.1 e)
  | 6 => if f.2.1 = 45 then .length e else .sum e
  | _ => .elem (.int f.2.1) (.add f.2.2.1 e)

end
