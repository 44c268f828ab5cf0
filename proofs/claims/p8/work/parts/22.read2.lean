def ct_ (c j m w k : Int32) : Int32 := if (j < 0 ∨ 8 ≤ j ∨ m < 0 ∨ c ≤ m) ∨ ¬ k = 2 then 1 else if w < 0 ∨ ¬ w ≤ 2 then 2 else 0
theorem nI_m3 (b m e : Nat) : (48 : Int32) * nI b + 3 * nI m + nI e = nI (48 * b + 3 * m + e) := by rw [show (48 : Int32) = nI 48 from rfl, show (3 : Int32) = nI 3 from rfl, pk_mul, pk_mul, nI_add, nI_add]
set_option maxRecDepth 100000 in
set_option maxHeartbeats 4000000 in
theorem c12_record_ (G : gg_) (hG : gd_ G) (d : Nat) (M : mm_) (c : Nat) (hc : M.1 0 35 = nI c) (hc2 : c ≤ 300) (j w : Int32) : cm_ G yX12_record_ cX12_record_ 3 (some .int) (d) [.ref (G.1 0), .int j, .int w] M (fI_ (if 0 < kt_ (nI c) j w 4 then 0 else M.1 21 (5 * j + w).toNatClampNeg) (sI_ M 0 0 (kt_ (nI c) j w 4))) := by
  refine cm_of hG (by decide) (Nat.le_of_ble_eq_true rfl) (fun C X => ?_)
  refine w_aload_n X dX12_record__0 rfl rfl ?_
  refine w_iload_n X dX12_record__1 rfl rfl ?_
  refine w_if_lt (tgt := 13) X dX12_record__2 (by decide) (fun h2 => ?_) (fun h2 => ?_)
  · refine w_iconst (v := 1) X dX12_record__13 (by decide) ?_
    refine w_goto (tgt := 31) X dX12_record__14 (by decide) ?_
    refine p12_thrown X dX12_record__31 ?_
    refine w_aload_n X dX12_record__34 rfl rfl ?_
    refine g12_thrown X dX12_record__35 ?_
    try simp only [gI_sI, gI_sL, gL_sI, gL_sL, false_and, and_false, and_self, if_false, if_true, reduceIte, Nat.reduceEqDiff, hc]
    refine w_if_le (tgt := 45) X dX12_record__38 (by decide) (fun h38 => absurd h38 (by decide)) (fun h38 => ?_)
    refine w_iconst (v := 0) X dX12_record__41 (by decide) ?_
    refine w_goto (tgt := 55) X dX12_record__42 (by decide) ?_
    refine w_irF X dX12_record__55 ?_ ?_
    · first | (simp [kt_, h2, h38]; done) | (simp_all [kt_]; done)
    · simp [kt_, h2, h38]
  · refine w_iload_n X dX12_record__5 rfl rfl ?_
    refine w_aload_n X dX12_record__6 rfl rfl ?_
    refine g12_recordCount X dX12_record__7 ?_
    try simp only [gI_sI, gI_sL, gL_sI, gL_sL, false_and, and_false, and_self, if_false, if_true, reduceIte, Nat.reduceEqDiff, hc]
    refine w_icmp_lt (tgt := 17) X dX12_record__10 (by decide) (fun h10 => ?_) (fun h10 => ?_)
    · refine w_iload_n X dX12_record__17 rfl rfl ?_
      refine w_if_lt (tgt := 26) X dX12_record__18 (by decide) (fun h18 => ?_) (fun h18 => ?_)
      · refine w_iconst (v := 2) X dX12_record__26 (by decide) ?_
        refine w_goto (tgt := 31) X dX12_record__27 (by decide) ?_
        refine p12_thrown X dX12_record__31 ?_
        refine w_aload_n X dX12_record__34 rfl rfl ?_
        refine g12_thrown X dX12_record__35 ?_
        try simp only [gI_sI, gI_sL, gL_sI, gL_sL, false_and, and_false, and_self, if_false, if_true, reduceIte, Nat.reduceEqDiff, hc]
        refine w_if_le (tgt := 45) X dX12_record__38 (by decide) (fun h38 => absurd h38 (by decide)) (fun h38 => ?_)
        refine w_iconst (v := 0) X dX12_record__41 (by decide) ?_
        refine w_goto (tgt := 55) X dX12_record__42 (by decide) ?_
        refine w_irF X dX12_record__55 ?_ ?_
        · first | (simp [kt_, h2, h10, h18, h38]; done) | (simp_all [kt_]; done)
        · simp [kt_, h2, h10, h18, h38]
      · refine w_iload_n X dX12_record__21 rfl rfl ?_
        refine w_iconst (v := 4) X dX12_record__22 (by decide) ?_
        refine w_icmp_le (tgt := 30) X dX12_record__23 (by decide) (fun h23 => ?_) (fun h23 => ?_)
        · refine w_iconst (v := 0) X dX12_record__30 (by decide) ?_
          refine p12_thrown X dX12_record__31 ?_
          refine w_aload_n X dX12_record__34 rfl rfl ?_
          refine g12_thrown X dX12_record__35 ?_
          try simp only [gI_sI, gI_sL, gL_sI, gL_sL, false_and, and_false, and_self, if_false, if_true, reduceIte, Nat.reduceEqDiff, hc]
          refine w_if_le (tgt := 45) X dX12_record__38 (by decide) (fun h38 => ?_) (fun h38 => absurd (by decide) h38)
          refine w_aload_n X dX12_record__45 rfl rfl ?_
          refine g12_records X dX12_record__46 ?_
          refine w_iconst (v := 5) X dX12_record__49 (by decide) ?_
          refine w_iload_n X dX12_record__50 rfl rfl ?_
          refine w_imul X dX12_record__51 ?_
          refine w_iload_n X dX12_record__52 rfl rfl ?_
          refine w_iadd X dX12_record__53 ?_
          refine w_iaload X dX12_record__54 rfl rfl (by obtain ⟨b, hb, eb⟩ := iN_ (n := c) (by omega) h2 h10; obtain ⟨e, he, ee⟩ := iL_ (n := 4) (by omega) h18 h23; rw [eb, ee, show (5 : Int32) = nI 5 from rfl, nI_m]; exact vp_in_nI (by omega) (by omega)) ?_
          try simp only [gI_sI, gI_sL, gL_sI, gL_sL, false_and, and_false, and_self, if_false, if_true, reduceIte, Nat.reduceEqDiff, hc]
          refine w_irF X dX12_record__55 ?_ ?_
          · first | (simp [kt_, h2, h10, h18, h23, h38]; done) | (simp_all [kt_]; done)
          · simp [kt_, h2, h10, h18, h23, h38]
        · refine w_iconst (v := 2) X dX12_record__26 (by decide) ?_
          refine w_goto (tgt := 31) X dX12_record__27 (by decide) ?_
          refine p12_thrown X dX12_record__31 ?_
          refine w_aload_n X dX12_record__34 rfl rfl ?_
          refine g12_thrown X dX12_record__35 ?_
          try simp only [gI_sI, gI_sL, gL_sI, gL_sL, false_and, and_false, and_self, if_false, if_true, reduceIte, Nat.reduceEqDiff, hc]
          refine w_if_le (tgt := 45) X dX12_record__38 (by decide) (fun h38 => absurd h38 (by decide)) (fun h38 => ?_)
          refine w_iconst (v := 0) X dX12_record__41 (by decide) ?_
          refine w_goto (tgt := 55) X dX12_record__42 (by decide) ?_
          refine w_irF X dX12_record__55 ?_ ?_
          · first | (simp [kt_, h2, h10, h18, h23, h38]; done) | (simp_all [kt_]; done)
          · simp [kt_, h2, h10, h18, h23, h38]
    · refine w_iconst (v := 1) X dX12_record__13 (by decide) ?_
      refine w_goto (tgt := 31) X dX12_record__14 (by decide) ?_
      refine p12_thrown X dX12_record__31 ?_
      refine w_aload_n X dX12_record__34 rfl rfl ?_
      refine g12_thrown X dX12_record__35 ?_
      try simp only [gI_sI, gI_sL, gL_sI, gL_sL, false_and, and_false, and_self, if_false, if_true, reduceIte, Nat.reduceEqDiff, hc]
      refine w_if_le (tgt := 45) X dX12_record__38 (by decide) (fun h38 => absurd h38 (by decide)) (fun h38 => ?_)
      refine w_iconst (v := 0) X dX12_record__41 (by decide) ?_
      refine w_goto (tgt := 55) X dX12_record__42 (by decide) ?_
      refine w_irF X dX12_record__55 ?_ ?_
      · first | (simp [kt_, h2, h10, h38]; done) | (simp_all [kt_]; done)
      · simp [kt_, h2, h10, h38]
set_option maxRecDepth 100000 in
set_option maxHeartbeats 4000000 in
theorem c12_counted (G : gg_) (hG : gd_ G) (d : Nat) (M : mm_) (c : Nat) (hc : M.1 0 9 = nI c) (hc2 : c ≤ 16) (j m w : Int32) : cm_ G yX12_counted cX12_counted 5 (some .int) d [.ref (G.1 0), .int j, .int m, .int w] M (fI_ (if 0 < ct_ (nI c) j m w (M.1 12 j.toNatClampNeg) then 0 else M.1 20 (48 * j + 3 * m + w).toNatClampNeg) (sI_ M 0 0 (ct_ (nI c) j m w (M.1 12 j.toNatClampNeg)))) := by
  refine cm_of hG (by decide) (Nat.le_of_ble_eq_true rfl) (fun C X => ?_)
  have j0 : (j < 0 ∨ 8 ≤ j ∨ m < 0 ∨ nI c ≤ m) → wq_ C G (qe_ C G (fI_ (if 0 < ct_ (nI c) j m w (M.1 12 j.toNatClampNeg) then 0 else M.1 20 (48 * j + 3 * m + w).toNatClampNeg) (sI_ M 0 0 (ct_ (nI c) j m w (M.1 12 j.toNatClampNeg))))) 29 [some (.ref (G.1 0)), some (.int j), some (.int m), some (.int w), some (.int 0)] [] M := by
    intro hb
    refine w_aload_n X dX12_counted_29 rfl rfl ?_
    refine w_iload X dX12_counted_30 rfl ?_
    refine w_if_eq (tgt := 45) X dX12_counted_32 (by decide) (fun h32 => ?_) (fun h32 => absurd (rfl) h32)
    refine w_iconst (v := 1) X dX12_counted_45 (by decide) ?_
    refine w_goto (tgt := 63) X dX12_counted_46 (by decide) ?_
    refine p12_thrown X dX12_counted_63 ?_
    refine w_aload_n X dX12_counted_66 rfl rfl ?_
    refine g12_thrown X dX12_counted_67 ?_
    try simp only [gI_sI, gI_sL, gL_sI, gL_sL, false_and, and_false, and_self, if_false, if_true, reduceIte, Nat.reduceEqDiff]
    refine w_if_le (tgt := 77) X dX12_counted_70 (by decide) (fun h70 => absurd h70 (by decide)) (fun h70 => ?_)
    refine w_iconst (v := 0) X dX12_counted_73 (by decide) ?_
    refine w_goto (tgt := 92) X dX12_counted_74 (by decide) ?_
    exact w_irF X dX12_counted_92 (by simp [ct_, hb]) (by simp [ct_, hb])
  have j1 : ¬ j < 0 → ¬ 8 ≤ j → ¬ m < 0 → ¬ nI c ≤ m → wq_ C G (qe_ C G (fI_ (if 0 < ct_ (nI c) j m w (M.1 12 j.toNatClampNeg) then 0 else M.1 20 (48 * j + 3 * m + w).toNatClampNeg) (sI_ M 0 0 (ct_ (nI c) j m w (M.1 12 j.toNatClampNeg))))) 29 [some (.ref (G.1 0)), some (.int j), some (.int m), some (.int w), some (.int 1)] [] M := by
    intro a1 a2 a3 a4
    obtain ⟨b, hb, eb⟩ := i8_ a1 (Int32.not_le.mp a2)
    obtain ⟨q, hq, eq⟩ := iN_ (n := c) (by omega) a3 (Int32.not_le.mp a4)
    refine w_aload_n X dX12_counted_29 rfl rfl ?_
    refine w_iload X dX12_counted_30 rfl ?_
    refine w_if_eq (tgt := 45) X dX12_counted_32 (by decide) (fun h32 => absurd h32 (by decide)) (fun h32 => ?_)
    refine w_aload_n X dX12_counted_35 rfl rfl ?_
    refine g12_kinds X dX12_counted_36 ?_
    refine w_iload_n X dX12_counted_39 rfl rfl ?_
    refine w_iaload X dX12_counted_40 rfl rfl (by first | (rw [eb]; exact vp_in_nI hb (by omega)) | (obtain ⟨e, he, ee⟩ := iL_ (n := 2) (by omega) h50 h55; rw [eb, eq, ee, nI_m3]; exact vp_in_nI (by omega) (by omega))) ?_
    try simp only [gI_sI, gI_sL, gL_sI, gL_sL, false_and, and_false, and_self, if_false, if_true, reduceIte, Nat.reduceEqDiff]
    refine w_iconst (v := 2) X dX12_counted_41 (by decide) ?_
    refine w_icmp_eq (tgt := 49) X dX12_counted_42 (by decide) (fun h42 => ?_) (fun h42 => ?_)
    · refine w_iload_n X dX12_counted_49 rfl rfl ?_
      refine w_if_lt (tgt := 58) X dX12_counted_50 (by decide) (fun h50 => ?_) (fun h50 => ?_)
      · refine w_iconst (v := 2) X dX12_counted_58 (by decide) ?_
        refine w_goto (tgt := 63) X dX12_counted_59 (by decide) ?_
        refine p12_thrown X dX12_counted_63 ?_
        refine w_aload_n X dX12_counted_66 rfl rfl ?_
        refine g12_thrown X dX12_counted_67 ?_
        try simp only [gI_sI, gI_sL, gL_sI, gL_sL, false_and, and_false, and_self, if_false, if_true, reduceIte, Nat.reduceEqDiff]
        refine w_if_le (tgt := 77) X dX12_counted_70 (by decide) (fun h70 => absurd h70 (by decide)) (fun h70 => ?_)
        refine w_iconst (v := 0) X dX12_counted_73 (by decide) ?_
        refine w_goto (tgt := 92) X dX12_counted_74 (by decide) ?_
        refine w_irF X dX12_counted_92 ?_ ?_
        · simp [ct_, a1, a2, a3, a4, h32, h42, h50, h70]
        · simp [ct_, a1, a2, a3, a4, h32, h42, h50, h70]
      · refine w_iload_n X dX12_counted_53 rfl rfl ?_
        refine w_iconst (v := 2) X dX12_counted_54 (by decide) ?_
        refine w_icmp_le (tgt := 62) X dX12_counted_55 (by decide) (fun h55 => ?_) (fun h55 => ?_)
        · refine w_iconst (v := 0) X dX12_counted_62 (by decide) ?_
          refine p12_thrown X dX12_counted_63 ?_
          refine w_aload_n X dX12_counted_66 rfl rfl ?_
          refine g12_thrown X dX12_counted_67 ?_
          try simp only [gI_sI, gI_sL, gL_sI, gL_sL, false_and, and_false, and_self, if_false, if_true, reduceIte, Nat.reduceEqDiff]
          refine w_if_le (tgt := 77) X dX12_counted_70 (by decide) (fun h70 => ?_) (fun h70 => absurd (by decide) h70)
          refine w_aload_n X dX12_counted_77 rfl rfl ?_
          refine g12_counts X dX12_counted_78 ?_
          refine w_bipush (v := 48) X dX12_counted_81 (by decide) ?_
          refine w_iload_n X dX12_counted_83 rfl rfl ?_
          refine w_imul X dX12_counted_84 ?_
          refine w_iconst (v := 3) X dX12_counted_85 (by decide) ?_
          refine w_iload_n X dX12_counted_86 rfl rfl ?_
          refine w_imul X dX12_counted_87 ?_
          refine w_iadd X dX12_counted_88 ?_
          refine w_iload_n X dX12_counted_89 rfl rfl ?_
          refine w_iadd X dX12_counted_90 ?_
          refine w_iaload X dX12_counted_91 rfl rfl (by first | (rw [eb]; exact vp_in_nI hb (by omega)) | (obtain ⟨e, he, ee⟩ := iL_ (n := 2) (by omega) h50 h55; rw [eb, eq, ee, nI_m3]; exact vp_in_nI (by omega) (by omega))) ?_
          try simp only [gI_sI, gI_sL, gL_sI, gL_sL, false_and, and_false, and_self, if_false, if_true, reduceIte, Nat.reduceEqDiff]
          refine w_irF X dX12_counted_92 ?_ ?_
          · simp [ct_, a1, a2, a3, a4, h32, h42, h50, h55, h70]
          · simp [ct_, a1, a2, a3, a4, h32, h42, h50, h55, h70]
        · refine w_iconst (v := 2) X dX12_counted_58 (by decide) ?_
          refine w_goto (tgt := 63) X dX12_counted_59 (by decide) ?_
          refine p12_thrown X dX12_counted_63 ?_
          refine w_aload_n X dX12_counted_66 rfl rfl ?_
          refine g12_thrown X dX12_counted_67 ?_
          try simp only [gI_sI, gI_sL, gL_sI, gL_sL, false_and, and_false, and_self, if_false, if_true, reduceIte, Nat.reduceEqDiff]
          refine w_if_le (tgt := 77) X dX12_counted_70 (by decide) (fun h70 => absurd h70 (by decide)) (fun h70 => ?_)
          refine w_iconst (v := 0) X dX12_counted_73 (by decide) ?_
          refine w_goto (tgt := 92) X dX12_counted_74 (by decide) ?_
          refine w_irF X dX12_counted_92 ?_ ?_
          · simp [ct_, a1, a2, a3, a4, h32, h42, h50, h55, h70]
          · simp [ct_, a1, a2, a3, a4, h32, h42, h50, h55, h70]
    · refine w_iconst (v := 1) X dX12_counted_45 (by decide) ?_
      refine w_goto (tgt := 63) X dX12_counted_46 (by decide) ?_
      refine p12_thrown X dX12_counted_63 ?_
      refine w_aload_n X dX12_counted_66 rfl rfl ?_
      refine g12_thrown X dX12_counted_67 ?_
      try simp only [gI_sI, gI_sL, gL_sI, gL_sL, false_and, and_false, and_self, if_false, if_true, reduceIte, Nat.reduceEqDiff]
      refine w_if_le (tgt := 77) X dX12_counted_70 (by decide) (fun h70 => absurd h70 (by decide)) (fun h70 => ?_)
      refine w_iconst (v := 0) X dX12_counted_73 (by decide) ?_
      refine w_goto (tgt := 92) X dX12_counted_74 (by decide) ?_
      refine w_irF X dX12_counted_92 ?_ ?_
      · simp [ct_, a1, a2, a3, a4, h32, h42, h70]
      · simp [ct_, a1, a2, a3, a4, h32, h42, h70]
  refine w_iload_n X dX12_counted_0 rfl rfl ?_
  refine w_if_lt (tgt := 26) X dX12_counted_1 (by decide) (fun h1 => ?_) (fun h1 => ?_)
  · refine w_iconst (v := 0) X dX12_counted_26 (by decide) ?_
    refine w_istore X dX12_counted_27 (by decide) ?_
    exact j0 (by first | exact Or.inl h1 | exact Or.inr (Or.inl h7) | exact Or.inr (Or.inr (Or.inl h11)) | exact Or.inr (Or.inr (Or.inr h19)))
  · refine w_iload_n X dX12_counted_4 rfl rfl ?_
    refine w_bipush (v := 8) X dX12_counted_5 (by decide) ?_
    refine w_icmp_ge (tgt := 26) X dX12_counted_7 (by decide) (fun h7 => ?_) (fun h7 => ?_)
    · refine w_iconst (v := 0) X dX12_counted_26 (by decide) ?_
      refine w_istore X dX12_counted_27 (by decide) ?_
      exact j0 (by first | exact Or.inl h1 | exact Or.inr (Or.inl h7) | exact Or.inr (Or.inr (Or.inl h11)) | exact Or.inr (Or.inr (Or.inr h19)))
    · refine w_iload_n X dX12_counted_10 rfl rfl ?_
      refine w_if_lt (tgt := 26) X dX12_counted_11 (by decide) (fun h11 => ?_) (fun h11 => ?_)
      · refine w_iconst (v := 0) X dX12_counted_26 (by decide) ?_
        refine w_istore X dX12_counted_27 (by decide) ?_
        exact j0 (by first | exact Or.inl h1 | exact Or.inr (Or.inl h7) | exact Or.inr (Or.inr (Or.inl h11)) | exact Or.inr (Or.inr (Or.inr h19)))
      · refine w_iload_n X dX12_counted_14 rfl rfl ?_
        refine w_aload_n X dX12_counted_15 rfl rfl ?_
        refine g12_methods X dX12_counted_16 ?_
        try simp only [gI_sI, gI_sL, gL_sI, gL_sL, false_and, and_false, and_self, if_false, if_true, reduceIte, Nat.reduceEqDiff, hc]
        refine w_icmp_ge (tgt := 26) X dX12_counted_19 (by decide) (fun h19 => ?_) (fun h19 => ?_)
        · refine w_iconst (v := 0) X dX12_counted_26 (by decide) ?_
          refine w_istore X dX12_counted_27 (by decide) ?_
          exact j0 (by first | exact Or.inl h1 | exact Or.inr (Or.inl h7) | exact Or.inr (Or.inr (Or.inl h11)) | exact Or.inr (Or.inr (Or.inr h19)))
        · refine w_iconst (v := 1) X dX12_counted_22 (by decide) ?_
          refine w_goto (tgt := 27) X dX12_counted_23 (by decide) ?_
          refine w_istore X dX12_counted_27 (by decide) ?_
          exact j1 h1 h7 h11 h19
