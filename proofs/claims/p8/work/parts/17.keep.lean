section SWITCH
variable {C : mc_} {G : gg_} {Q : State → Prop} {pc : Nat} {lv : List (Option Value)} {st : List Value} {M : mm_} {own : String} {cc : ByteArray} {nL : Nat} {ry : Option FieldType} {d : Nat}
end SWITCH
/-- what a sign between two values makes -/
def rs_ (h x y : Int32) : Int32 := if h = 43 then x + y else if h = 45 then x - y else if h = 42 then x * y else if h = 47 then x / y else if h = 37 then x - x / y * y else if h = 60 then (if x < y then 1 else 0) else if h = 62 then (if y < x then 1 else 0) else (if x = y then 1 else 0)
theorem nI_m (a b p : Nat) : nI a * nI b + nI p = nI (a * b + p) := by rw [pk_mul, nI_add]
/-- row t is a copy of the row that was made, as far as n -/
def kx_ (M : mm_) (t : Nat) : Nat → mm_
  | 0 => M
  | j + 1 => sL_ (sI_ (kx_ M t j) 2 (64 * t + j) (M.1 2 (2048 + j))) 3 (64 * t + j) (M.2.1 3 (2048 + j))
theorem kx_I {M : mm_} {t : Nat} (ht : t < 32) : ∀ (j : Nat), j ≤ 64 → ∀ (a i : Nat), (kx_ M t j).1 a i = if a = 2 ∧ 64 * t ≤ i ∧ i < 64 * t + j then M.1 2 (2048 + (i - 64 * t)) else M.1 a i
  | 0, _, a, i => by
    rw [if_neg (by omega)]; rfl
  | j + 1, hj, a, i => by
    simp only [kx_, gI_sL, gI_sI]
    rw [kx_I ht j (by omega) a i]
    by_cases h : a = 2 ∧ i = 64 * t + j
    · obtain ⟨rfl, rfl⟩ := h
      rw [if_pos ⟨rfl, rfl⟩, if_pos ⟨rfl, by omega, by omega⟩, show 64 * t + j - 64 * t = j by omega]
    · rw [if_neg h]
      by_cases h2 : a = 2 ∧ 64 * t ≤ i ∧ i < 64 * t + j
      · rw [if_pos h2, if_pos ⟨h2.1, h2.2.1, by omega⟩]
      · rw [if_neg h2, if_neg (fun q => h2 ⟨q.1, q.2.1, by have := q.2.2; have : ¬ i = 64 * t + j := fun z => h ⟨q.1, z⟩; omega⟩)]
theorem kx_L {M : mm_} {t : Nat} (ht : t < 32) : ∀ (j : Nat), j ≤ 64 → ∀ (a i : Nat), (kx_ M t j).2.1 a i = if a = 3 ∧ 64 * t ≤ i ∧ i < 64 * t + j then M.2.1 3 (2048 + (i - 64 * t)) else M.2.1 a i
  | 0, _, a, i => by
    rw [if_neg (by omega)]; rfl
  | j + 1, hj, a, i => by
    simp only [kx_, gL_sL, gL_sI]
    rw [kx_L ht j (by omega) a i]
    by_cases h : a = 3 ∧ i = 64 * t + j
    · obtain ⟨rfl, rfl⟩ := h
      rw [if_pos ⟨rfl, rfl⟩, if_pos ⟨rfl, by omega, by omega⟩, show 64 * t + j - 64 * t = j by omega]
    · rw [if_neg h]
      by_cases h2 : a = 3 ∧ 64 * t ≤ i ∧ i < 64 * t + j
      · rw [if_pos h2, if_pos ⟨h2.1, h2.2.1, by omega⟩]
      · rw [if_neg h2, if_neg (fun q => h2 ⟨q.1, q.2.1, by have := q.2.2; have : ¬ i = 64 * t + j := fun z => h ⟨q.1, z⟩; omega⟩)]
set_option maxRecDepth 100000 in
set_option maxHeartbeats 4000000 in
theorem c12_result (G : gg_) (hG : gd_ G) (d : Nat) (M : mm_) (h x y : Int32) (hy : h = 47 ∨ h = 37 → ¬ y = 0) : cm_ G yX12_result cX12_result 3 (some .int) (d) [.int h, .int x, .int y] M (fI_ (rs_ h x y) M) := by
  refine cm_of hG (by decide) (Nat.le_of_ble_eq_true rfl) (fun C X => ?_)
  refine w_iload_n X dX12_result_0 rfl rfl ?_
  by_cases h1_37 : h = 37
  · refine w_lookup (tgt := 84) (off := 83) X dX12_result_1 (by decide) (by rw [h1_37]; decide) (by decide) ?_
    refine w_iload_n X dX12_result_84 rfl rfl ?_
    refine w_iload_n X dX12_result_85 rfl rfl ?_
    refine w_irem X dX12_result_86 (hy (Or.inr h1_37)) ?_
    refine w_irF X dX12_result_87 ?_ rfl
    unfold rs_
    first | (simp [h1_37]; done) | (simp_all; done)
  by_cases h1_42 : h = 42
  · refine w_lookup (tgt := 76) (off := 75) X dX12_result_1 (by decide) (by rw [h1_42]; decide) (by decide) ?_
    refine w_iload_n X dX12_result_76 rfl rfl ?_
    refine w_iload_n X dX12_result_77 rfl rfl ?_
    refine w_imul X dX12_result_78 ?_
    refine w_irF X dX12_result_79 ?_ rfl
    unfold rs_
    first | (simp [h1_42]; done) | (simp_all; done)
  by_cases h1_43 : h = 43
  · refine w_lookup (tgt := 68) (off := 67) X dX12_result_1 (by decide) (by rw [h1_43]; decide) (by decide) ?_
    refine w_iload_n X dX12_result_68 rfl rfl ?_
    refine w_iload_n X dX12_result_69 rfl rfl ?_
    refine w_iadd X dX12_result_70 ?_
    refine w_irF X dX12_result_71 ?_ rfl
    unfold rs_
    first | (simp [h1_43]; done) | (simp_all; done)
  by_cases h1_45 : h = 45
  · refine w_lookup (tgt := 72) (off := 71) X dX12_result_1 (by decide) (by rw [h1_45]; decide) (by decide) ?_
    refine w_iload_n X dX12_result_72 rfl rfl ?_
    refine w_iload_n X dX12_result_73 rfl rfl ?_
    refine w_isub X dX12_result_74 ?_
    refine w_irF X dX12_result_75 ?_ rfl
    unfold rs_
    first | (simp [h1_45]; done) | (simp_all; done)
  by_cases h1_47 : h = 47
  · refine w_lookup (tgt := 80) (off := 79) X dX12_result_1 (by decide) (by rw [h1_47]; decide) (by decide) ?_
    refine w_iload_n X dX12_result_80 rfl rfl ?_
    refine w_iload_n X dX12_result_81 rfl rfl ?_
    refine w_idiv X dX12_result_82 (hy (Or.inl h1_47)) ?_
    refine w_irF X dX12_result_83 ?_ rfl
    unfold rs_
    first | (simp [h1_47]; done) | (simp_all; done)
  by_cases h1_60 : h = 60
  · refine w_lookup (tgt := 88) (off := 87) X dX12_result_1 (by decide) (by rw [h1_60]; decide) (by decide) ?_
    refine w_iload_n X dX12_result_88 rfl rfl ?_
    refine w_iload_n X dX12_result_89 rfl rfl ?_
    refine w_icmp_ge (tgt := 97) X dX12_result_90 (by decide) (fun h90 => ?_) (fun h90 => ?_)
    · refine w_iconst (v := 0) X dX12_result_97 (by decide) ?_
      refine w_irF X dX12_result_98 ?_ rfl
      unfold rs_
      first | (simp [h1_60, h90]; done) | (simp_all; done)
    · refine w_iconst (v := 1) X dX12_result_93 (by decide) ?_
      refine w_goto (tgt := 98) X dX12_result_94 (by decide) ?_
      refine w_irF X dX12_result_98 ?_ rfl
      unfold rs_
      first | (simp [h1_60, h90]; done) | (simp_all; done)
  by_cases h1_62 : h = 62
  · refine w_lookup (tgt := 99) (off := 98) X dX12_result_1 (by decide) (by rw [h1_62]; decide) (by decide) ?_
    refine w_iload_n X dX12_result_99 rfl rfl ?_
    refine w_iload_n X dX12_result_100 rfl rfl ?_
    refine w_icmp_le (tgt := 108) X dX12_result_101 (by decide) (fun h101 => ?_) (fun h101 => ?_)
    · refine w_iconst (v := 0) X dX12_result_108 (by decide) ?_
      refine w_irF X dX12_result_109 ?_ rfl
      unfold rs_
      first | (simp [h1_62, h101]; done) | (simp_all; done)
    · refine w_iconst (v := 1) X dX12_result_104 (by decide) ?_
      refine w_goto (tgt := 109) X dX12_result_105 (by decide) ?_
      refine w_irF X dX12_result_109 ?_ rfl
      unfold rs_
      first | (simp [h1_62, h101]; done) | (simp_all; done)
  have t1_37 : (37 : Int) ≠ (h).toInt := fun q => h1_37 (Int32.toInt_inj.mp (by rw [← q]; decide))
  have t1_42 : (42 : Int) ≠ (h).toInt := fun q => h1_42 (Int32.toInt_inj.mp (by rw [← q]; decide))
  have t1_43 : (43 : Int) ≠ (h).toInt := fun q => h1_43 (Int32.toInt_inj.mp (by rw [← q]; decide))
  have t1_45 : (45 : Int) ≠ (h).toInt := fun q => h1_45 (Int32.toInt_inj.mp (by rw [← q]; decide))
  have t1_47 : (47 : Int) ≠ (h).toInt := fun q => h1_47 (Int32.toInt_inj.mp (by rw [← q]; decide))
  have t1_60 : (60 : Int) ≠ (h).toInt := fun q => h1_60 (Int32.toInt_inj.mp (by rw [← q]; decide))
  have t1_62 : (62 : Int) ≠ (h).toInt := fun q => h1_62 (Int32.toInt_inj.mp (by rw [← q]; decide))
  refine w_lookup (tgt := 110) (off := 109) X dX12_result_1 (by decide) (by simp only [Op.lookupswitch.offset, t1_37, t1_42, t1_43, t1_45, t1_47, t1_60, t1_62, if_false]) (by decide) ?_
  refine w_iload_n X dX12_result_110 rfl rfl ?_
  refine w_iload_n X dX12_result_111 rfl rfl ?_
  refine w_icmp_ne (tgt := 119) X dX12_result_112 (by decide) (fun h112 => ?_) (fun h112 => ?_)
  · refine w_iconst (v := 0) X dX12_result_119 (by decide) ?_
    refine w_irF X dX12_result_120 ?_ rfl
    unfold rs_
    first | (simp [h1_37, h1_42, h1_43, h1_45, h1_47, h1_60, h1_62, h112]; done) | (simp_all; done)
  · refine w_iconst (v := 1) X dX12_result_115 (by decide) ?_
    refine w_goto (tgt := 120) X dX12_result_116 (by decide) ?_
    refine w_irF X dX12_result_120 ?_ rfl
    unfold rs_
    first | (simp [h1_37, h1_42, h1_43, h1_45, h1_47, h1_60, h1_62, h112]; done) | (simp_all; done)
set_option maxRecDepth 100000 in
set_option maxHeartbeats 4000000 in
theorem c12_keepExpression (G : gg_) (hG : gd_ G) (d : Nat) (M : mm_) (t n : Nat) (ht : t < 32) (hl : M.1 0 12 = nI n) (hn : n ≤ 64) : cm_ G yX12_keepExpression cX12_keepExpression 3 none (d + 1) [.ref (G.1 0), .int (nI t)] M (fV_ (sI_ (kx_ M t n) 4 t (nI n))) := by
  refine cm_of hG (by decide) (Nat.le_of_ble_eq_true rfl) (fun C X => ?_)
  have e12 : ∀ j, j ≤ n → (kx_ M t j).1 0 12 = nI n := fun j hj => by rw [kx_I ht j (by omega), if_neg (by omega)]; exact hl
  have e2 : ∀ j, j < n → (kx_ M t j).1 2 (2048 + j) = M.1 2 (2048 + j) := fun j hj => by rw [kx_I ht j (by omega), if_neg (by omega)]
  have e3 : ∀ j, j < n → (kx_ M t j).2.1 3 (2048 + j) = M.2.1 3 (2048 + j) := fun j hj => by rw [kx_L ht j (by omega), if_neg (by omega)]
  have e64 : ∀ j, (64 : Int32) * nI t + nI j = nI (64 * t + j) := fun j => nI_m 64 t j
  have lp : ∀ (u j : Nat), j + u = n → wq_ C G (qe_ C G (fV_ (sI_ (kx_ M t n) 4 t (nI n)))) 2 [some (.ref (G.1 0)), some (.int (nI t)), some (.int (nI j))] [] (kx_ M t j) := by
    intro u
    induction u with
    | zero =>
      intro j hu
      obtain rfl : j = n := by omega
      refine w_iload_n X dX12_keepExpression_2 rfl rfl ?_
      refine w_aload_n X dX12_keepExpression_3 rfl rfl ?_
      refine g12_length X dX12_keepExpression_4 ?_
      try simp only [gI_sI, gI_sL, gL_sI, gL_sL, false_and, and_false, and_self, if_false, if_true, reduceIte, Nat.reduceEqDiff, e12 j (Nat.le_refl _)]
      refine w_icmp_ge (tgt := 62) X dX12_keepExpression_7 (by decide) (fun h7 => ?_) (fun h7 => absurd (Int32.le_refl _) h7)
      refine w_aload_n X dX12_keepExpression_62 rfl rfl ?_
      refine g12_lengths X dX12_keepExpression_63 ?_
      refine w_iload_n X dX12_keepExpression_66 rfl rfl ?_
      refine w_aload_n X dX12_keepExpression_67 rfl rfl ?_
      refine g12_length X dX12_keepExpression_68 ?_
      try simp only [gI_sI, gI_sL, gL_sI, gL_sL, false_and, and_false, and_self, if_false, if_true, reduceIte, Nat.reduceEqDiff, e12 j (Nat.le_refl _)]
      refine w_iastoreN X dX12_keepExpression_71 rfl rfl (by omega) ?_
      exact w_vrF X dX12_keepExpression_72 rfl
    | succ u ih =>
      intro j hu
      refine w_iload_n X dX12_keepExpression_2 rfl rfl ?_
      refine w_aload_n X dX12_keepExpression_3 rfl rfl ?_
      refine g12_length X dX12_keepExpression_4 ?_
      try simp only [gI_sI, gI_sL, gL_sI, gL_sL, false_and, and_false, and_self, if_false, if_true, reduceIte, Nat.reduceEqDiff, e12 j (by omega), e2 j (by omega), e3 j (by omega)]
      refine w_icmp_ge (tgt := 62) X dX12_keepExpression_7 (by decide) (fun h7 => absurd h7 (nI_ge (by omega) (by omega))) (fun h7 => ?_)
      refine w_aload_n X dX12_keepExpression_10 rfl rfl ?_
      refine g12_steps X dX12_keepExpression_11 ?_
      refine w_iload_n X dX12_keepExpression_14 rfl rfl ?_
      refine w_s1fI X dX12_keepExpression_15 k12_rowOf (c12_rowOf G hG _ _ _) (Nat.le_of_ble_eq_true rfl) ?_
      refine w_iload_n X dX12_keepExpression_18 rfl rfl ?_
      refine w_iadd X dX12_keepExpression_19 ?_
      rw [e64]
      refine w_aload_n X dX12_keepExpression_20 rfl rfl ?_
      refine g12_steps X dX12_keepExpression_21 ?_
      refine w_bipush (v := 32) X dX12_keepExpression_24 (by decide) ?_
      refine w_s1fI X dX12_keepExpression_26 k12_rowOf (c12_rowOf G hG _ _ _) (Nat.le_of_ble_eq_true rfl) ?_
      refine w_iload_n X dX12_keepExpression_29 rfl rfl ?_
      refine w_iadd X dX12_keepExpression_30 ?_
      rw [nI_2048]
      refine w_ialoadN X dX12_keepExpression_31 rfl rfl (by omega) ?_
      try simp only [gI_sI, gI_sL, gL_sI, gL_sL, false_and, and_false, and_self, if_false, if_true, reduceIte, Nat.reduceEqDiff, e12 j (by omega), e2 j (by omega), e3 j (by omega)]
      refine w_iastoreN X dX12_keepExpression_32 rfl rfl (by omega) ?_
      refine w_aload_n X dX12_keepExpression_33 rfl rfl ?_
      refine g12_values X dX12_keepExpression_34 ?_
      refine w_iload_n X dX12_keepExpression_37 rfl rfl ?_
      refine w_s1fI X dX12_keepExpression_38 k12_rowOf (c12_rowOf G hG _ _ _) (Nat.le_of_ble_eq_true rfl) ?_
      refine w_iload_n X dX12_keepExpression_41 rfl rfl ?_
      refine w_iadd X dX12_keepExpression_42 ?_
      rw [e64]
      refine w_aload_n X dX12_keepExpression_43 rfl rfl ?_
      refine g12_values X dX12_keepExpression_44 ?_
      refine w_bipush (v := 32) X dX12_keepExpression_47 (by decide) ?_
      refine w_s1fI X dX12_keepExpression_49 k12_rowOf (c12_rowOf G hG _ _ _) (Nat.le_of_ble_eq_true rfl) ?_
      refine w_iload_n X dX12_keepExpression_52 rfl rfl ?_
      refine w_iadd X dX12_keepExpression_53 ?_
      rw [nI_2048]
      refine w_laloadN X dX12_keepExpression_54 rfl rfl (by omega) ?_
      try simp only [gI_sI, gI_sL, gL_sI, gL_sL, false_and, and_false, and_self, if_false, if_true, reduceIte, Nat.reduceEqDiff, e12 j (by omega), e2 j (by omega), e3 j (by omega)]
      refine w_lastoreN X dX12_keepExpression_55 rfl rfl (by omega) ?_
      refine w_iinc (v := 1) X dX12_keepExpression_56 rfl (by decide) (by decide) ?_
      refine w_goto (tgt := 2) X dX12_keepExpression_59 (by decide) ?_
      rw [nI_1]
      exact ih (j + 1) (by omega)
  refine w_iconst (v := 0) X dX12_keepExpression_0 (by decide) ?_
  refine w_istore_n X dX12_keepExpression_1 rfl (by decide) ?_
  exact lp n 0 (by omega)
