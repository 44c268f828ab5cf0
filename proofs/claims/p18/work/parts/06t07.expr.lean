/-! Expressions: its small methods; behind a fault nothing is read any more -/
def cN_ (M : mm_) (x : Int32) : mm_ := sI_ (if M.1 39 4 < 20 ∧ M.1 39 6 = 0 then M else fiX_ M 3 x) 39 4 (M.1 39 4 + 1)
theorem fi_39 (M : mm_) (f w : Int32) (i : Nat) : (fiX_ M f w).1 39 i = M.1 39 i := by unfold fiX_; split <;> rfl
theorem cN_pos (M : mm_) (x : Int32) : (cN_ M x).1 37 1 = M.1 37 1 := by unfold cN_; split <;> first | rfl | exact fi_pos M 3 x
theorem fi_R (M : mm_) (f w : Int32) : (fiX_ M f w).2.2 = M.2.2 := by unfold fiX_; split <;> rfl
def tS_ (M : mm_) : mm_ := sI_ (cN_ M (M.1 37 1)) 37 1 (M.1 37 1 + 1)
def tA_ (M : mm_) : mm_ := if pe_ M = 40 then (if M.1 39 5 < 12 ∧ M.1 39 6 = 0 then M else fiX_ M 3 (M.1 37 1)) else fiX_ M 1 (M.1 37 1)
def tO_ (M : mm_) : mm_ := sI_ (sI_ (tA_ M) 37 1 (M.1 37 1 + 1)) 39 5 (M.1 39 5 + 1)
def kd_ (c : Int32) : Int32 := if c = 60 ∨ c = 61 ∨ c = 62 then 3 else if c = 43 ∨ c = 45 then 4 else if c = 37 ∨ c = 42 ∨ c = 47 then 5 else 0
/-- behind a fault: an operand is looked for, and none is seen -/
def oF_ (M : mm_) : mm_ := sI_ (sI_ M 37 1 (M.1 37 1 + 1)) 39 5 (M.1 39 5 + 1)
theorem pe_F {M : mm_} (h : ¬ M.1 37 2 = 0) : pe_ M = -1 := by unfold pe_; exact if_neg h
theorem fi_F {M : mm_} {f w : Int32} (h : ¬ M.1 37 2 = 0) : fiX_ M f w = M := by unfold fiX_; exact if_neg h
theorem tA_F {M : mm_} (h : ¬ M.1 37 2 = 0) : tA_ M = M := by
  unfold tA_
  rw [pe_F h]
  rw [if_neg (show ¬ (-1 : Int32) = 40 by decide), fi_F h]
theorem tO_F {M : mm_} (h : ¬ M.1 37 2 = 0) : tO_ M = oF_ M := by unfold tO_ oF_; rw [tA_F h]
theorem tp_oF {M : mm_} {n : Nat} (h : tpX_ M n) : tpX_ (oF_ M) n := ⟨h.1, h.2⟩
set_option maxRecDepth 100000 in
set_option maxHeartbeats 600000 in
theorem c1_countNode (G : gg_) (hG : gd_ G) (d : Nat) (M : mm_) (x : Int32) : cm_ G yX1_countNode cX1_countNode 2 none (d + 1) [.ref (G.1 39), .int x] M (fV_ (cN_ M x)) := by
  refine cm_of hG (by decide) (Nat.le_of_ble_eq_true rfl) (fun C X => ?_)
  refine w_aload_n X dX1_countNode_0 rfl rfl ?_
  refine g1_25 X dX1_countNode_1 s_39 rfl ?_
  refine w_bipush (v := 20) X dX1_countNode_4 (by decide) ?_
  refine w_icmp_ge (tgt := 16) X dX1_countNode_6 (by decide) (fun h6 => ?_) (fun h6 => ?_)
  · refine w_aload_n X dX1_countNode_16 rfl rfl ?_
    refine g1_7 X dX1_countNode_17 s_39 rfl ?_
    refine w_iconst (v := 3) X dX1_countNode_20 (by decide) ?_
    refine w_iload_n X dX1_countNode_21 rfl rfl ?_
    refine w_v2fV X dX1_countNode_22 k1_125 rfl s_37 (c7_fail G hG _ _ _ _) (Nat.le_of_ble_eq_true rfl) ?_
    try simp only [fi_39]
    refine w_aload_n X dX1_countNode_25 rfl rfl ?_
    refine w_dup X dX1_countNode_26 rfl ?_
    refine g1_25 X dX1_countNode_27 s_39 rfl ?_
    refine w_iconst (v := 1) X dX1_countNode_30 (by decide) ?_
    refine w_iadd X dX1_countNode_31 ?_
    refine p1_25 X dX1_countNode_32 s_39 rfl ?_
    refine w_vrF X dX1_countNode_35 ?_
    unfold cN_
    rw [if_neg (fun z => absurd h6 (Int32.not_le.mpr z.1)), fi_39]
  · refine w_aload_n X dX1_countNode_9 rfl rfl ?_
    refine g1_31 X dX1_countNode_10 s_39 rfl ?_
    refine w_if_eq (tgt := 25) X dX1_countNode_13 (by decide) (fun h13 => ?_) (fun h13 => ?_)
    · refine w_aload_n X dX1_countNode_25 rfl rfl ?_
      refine w_dup X dX1_countNode_26 rfl ?_
      refine g1_25 X dX1_countNode_27 s_39 rfl ?_
      refine w_iconst (v := 1) X dX1_countNode_30 (by decide) ?_
      refine w_iadd X dX1_countNode_31 ?_
      refine p1_25 X dX1_countNode_32 s_39 rfl ?_
      refine w_vrF X dX1_countNode_35 ?_
      unfold cN_
      rw [if_pos ⟨Int32.not_le.mp h6, h13⟩]
    · refine w_aload_n X dX1_countNode_16 rfl rfl ?_
      refine g1_7 X dX1_countNode_17 s_39 rfl ?_
      refine w_iconst (v := 3) X dX1_countNode_20 (by decide) ?_
      refine w_iload_n X dX1_countNode_21 rfl rfl ?_
      refine w_v2fV X dX1_countNode_22 k1_125 rfl s_37 (c7_fail G hG _ _ _ _) (Nat.le_of_ble_eq_true rfl) ?_
      try simp only [fi_39]
      refine w_aload_n X dX1_countNode_25 rfl rfl ?_
      refine w_dup X dX1_countNode_26 rfl ?_
      refine g1_25 X dX1_countNode_27 s_39 rfl ?_
      refine w_iconst (v := 1) X dX1_countNode_30 (by decide) ?_
      refine w_iadd X dX1_countNode_31 ?_
      refine p1_25 X dX1_countNode_32 s_39 rfl ?_
      refine w_vrF X dX1_countNode_35 ?_
      unfold cN_
      rw [if_neg (fun z => h13 z.2), fi_39]
set_option maxRecDepth 100000 in
set_option maxHeartbeats 600000 in
theorem c1_takeSign (G : gg_) (hG : gd_ G) (d : Nat) (M : mm_) (n : Nat) (ht : tpX_ M n) : cm_ G yX1_takeSign cX1_takeSign 2 (some .int) (d + 2) [.ref (G.1 39)] M (fI_ (pe_ M) (tS_ M)) := by
  refine cm_of hG (by decide) (Nat.le_of_ble_eq_true rfl) (fun C X => ?_)
  refine w_aload_n X dX1_takeSign_0 rfl rfl ?_
  refine g1_7 X dX1_takeSign_1 s_39 rfl ?_
  refine w_v0fI X dX1_takeSign_4 k1_48 rfl s_37 (c7_peek G hG _ _ n ht) (Nat.le_of_ble_eq_true rfl) ?_
  refine w_istore_n X dX1_takeSign_7 rfl (by decide) ?_
  refine w_aload_n X dX1_takeSign_8 rfl rfl ?_
  refine w_aload_n X dX1_takeSign_9 rfl rfl ?_
  refine g1_7 X dX1_takeSign_10 s_39 rfl ?_
  refine g1_84 X dX1_takeSign_13 s_37 rfl ?_
  refine w_v1fV X dX1_takeSign_16 k1_97 rfl s_39 (c1_countNode G hG _ _ _) (Nat.le_of_ble_eq_true rfl) ?_
  refine w_aload_n X dX1_takeSign_19 rfl rfl ?_
  refine g1_7 X dX1_takeSign_20 s_39 rfl ?_
  refine w_dup X dX1_takeSign_23 rfl ?_
  refine g1_84 X dX1_takeSign_24 s_37 rfl ?_
  refine w_iconst (v := 1) X dX1_takeSign_27 (by decide) ?_
  refine w_iadd X dX1_takeSign_28 ?_
  refine p1_84 X dX1_takeSign_29 s_37 rfl ?_
  rw [cN_pos]
  refine w_iload_n X dX1_takeSign_32 rfl rfl ?_
  exact w_irF X dX1_takeSign_33 rfl rfl
set_option maxRecDepth 100000 in
set_option maxHeartbeats 600000 in
theorem c1_takeOpen (G : gg_) (hG : gd_ G) (d : Nat) (M : mm_) (n : Nat) (ht : tpX_ M n) : cm_ G yX1_takeOpen cX1_takeOpen 1 (some .boolean) (d + 2) [.ref (G.1 39)] M (fI_ (if (tA_ M).1 37 2 = 0 then 1 else 0) (tO_ M)) := by
  refine cm_of hG (by decide) (Nat.le_of_ble_eq_true rfl) (fun C X => ?_)
  refine w_aload_n X dX1_takeOpen_0 rfl rfl ?_
  refine g1_7 X dX1_takeOpen_1 s_39 rfl ?_
  refine w_v0fI X dX1_takeOpen_4 k1_48 rfl s_37 (c7_peek G hG _ _ n ht) (Nat.le_of_ble_eq_true rfl) ?_
  refine w_bipush (v := 40) X dX1_takeOpen_7 (by decide) ?_
  refine w_icmp_eq (tgt := 30) X dX1_takeOpen_9 (by decide) (fun h9 => ?_) (fun h9 => ?_)
  · refine w_aload_n X dX1_takeOpen_30 rfl rfl ?_
    refine g1_28 X dX1_takeOpen_31 s_39 rfl ?_
    refine w_bipush (v := 12) X dX1_takeOpen_34 (by decide) ?_
    refine w_icmp_ge (tgt := 46) X dX1_takeOpen_36 (by decide) (fun h36 => ?_) (fun h36 => ?_)
    · refine w_aload_n X dX1_takeOpen_46 rfl rfl ?_
      refine g1_7 X dX1_takeOpen_47 s_39 rfl ?_
      refine w_iconst (v := 3) X dX1_takeOpen_50 (by decide) ?_
      refine w_aload_n X dX1_takeOpen_51 rfl rfl ?_
      refine g1_7 X dX1_takeOpen_52 s_39 rfl ?_
      refine g1_84 X dX1_takeOpen_55 s_37 rfl ?_
      refine w_v2fV X dX1_takeOpen_58 k1_125 rfl s_37 (c7_fail G hG _ _ _ _) (Nat.le_of_ble_eq_true rfl) ?_
      refine w_aload_n X dX1_takeOpen_61 rfl rfl ?_
      refine g1_7 X dX1_takeOpen_62 s_39 rfl ?_
      refine w_dup X dX1_takeOpen_65 rfl ?_
      refine g1_84 X dX1_takeOpen_66 s_37 rfl ?_
      refine w_iconst (v := 1) X dX1_takeOpen_69 (by decide) ?_
      refine w_iadd X dX1_takeOpen_70 ?_
      refine p1_84 X dX1_takeOpen_71 s_37 rfl ?_
      refine w_aload_n X dX1_takeOpen_74 rfl rfl ?_
      refine w_dup X dX1_takeOpen_75 rfl ?_
      refine g1_28 X dX1_takeOpen_76 s_39 rfl ?_
      refine w_iconst (v := 1) X dX1_takeOpen_79 (by decide) ?_
      refine w_iadd X dX1_takeOpen_80 ?_
      refine p1_28 X dX1_takeOpen_81 s_39 rfl ?_
      refine w_aload_n X dX1_takeOpen_84 rfl rfl ?_
      refine g1_7 X dX1_takeOpen_85 s_39 rfl ?_
      refine g1_159 X dX1_takeOpen_88 s_37 rfl ?_
      refine w_if_ne (tgt := 98) X dX1_takeOpen_91 (by decide) (fun h91 => ?_) (fun h91 => ?_)
      · refine w_iconst (v := 0) X dX1_takeOpen_98 (by decide) ?_
        have hA : tA_ M = fiX_ M 3 (M.1 37 1) := by
          unfold tA_
          rw [if_pos h9, if_neg (fun z => absurd h36 (Int32.not_le.mpr z.1))]
        refine w_zrF X dX1_takeOpen_99 (by first | exact Or.inl rfl | exact Or.inr rfl) ?_ ?_
        · rw [hA]
          have h9 : ¬ (fiX_ M 3 (M.1 37 1)).1 37 2 = 0 := h91
          rw [if_neg h9]
        · unfold tO_
          rw [hA]
          show sI_ (sI_ (fiX_ M 3 (M.1 37 1)) 37 1 ((fiX_ M 3 (M.1 37 1)).1 37 1 + 1)) 39 5 ((fiX_ M 3 (M.1 37 1)).1 39 5 + 1) = _
          rw [fi_pos, fi_39]
      · refine w_iconst (v := 1) X dX1_takeOpen_94 (by decide) ?_
        refine w_goto (tgt := 99) X dX1_takeOpen_95 (by decide) ?_
        have hA : tA_ M = fiX_ M 3 (M.1 37 1) := by
          unfold tA_
          rw [if_pos h9, if_neg (fun z => absurd h36 (Int32.not_le.mpr z.1))]
        refine w_zrF X dX1_takeOpen_99 (by first | exact Or.inl rfl | exact Or.inr rfl) ?_ ?_
        · rw [hA]
          have h9 : (fiX_ M 3 (M.1 37 1)).1 37 2 = 0 := h91
          rw [if_pos h9]
        · unfold tO_
          rw [hA]
          show sI_ (sI_ (fiX_ M 3 (M.1 37 1)) 37 1 ((fiX_ M 3 (M.1 37 1)).1 37 1 + 1)) 39 5 ((fiX_ M 3 (M.1 37 1)).1 39 5 + 1) = _
          rw [fi_pos, fi_39]
    · refine w_aload_n X dX1_takeOpen_39 rfl rfl ?_
      refine g1_31 X dX1_takeOpen_40 s_39 rfl ?_
      refine w_if_eq (tgt := 61) X dX1_takeOpen_43 (by decide) (fun h43 => ?_) (fun h43 => ?_)
      · refine w_aload_n X dX1_takeOpen_61 rfl rfl ?_
        refine g1_7 X dX1_takeOpen_62 s_39 rfl ?_
        refine w_dup X dX1_takeOpen_65 rfl ?_
        refine g1_84 X dX1_takeOpen_66 s_37 rfl ?_
        refine w_iconst (v := 1) X dX1_takeOpen_69 (by decide) ?_
        refine w_iadd X dX1_takeOpen_70 ?_
        refine p1_84 X dX1_takeOpen_71 s_37 rfl ?_
        refine w_aload_n X dX1_takeOpen_74 rfl rfl ?_
        refine w_dup X dX1_takeOpen_75 rfl ?_
        refine g1_28 X dX1_takeOpen_76 s_39 rfl ?_
        refine w_iconst (v := 1) X dX1_takeOpen_79 (by decide) ?_
        refine w_iadd X dX1_takeOpen_80 ?_
        refine p1_28 X dX1_takeOpen_81 s_39 rfl ?_
        refine w_aload_n X dX1_takeOpen_84 rfl rfl ?_
        refine g1_7 X dX1_takeOpen_85 s_39 rfl ?_
        refine g1_159 X dX1_takeOpen_88 s_37 rfl ?_
        refine w_if_ne (tgt := 98) X dX1_takeOpen_91 (by decide) (fun h91 => ?_) (fun h91 => ?_)
        · refine w_iconst (v := 0) X dX1_takeOpen_98 (by decide) ?_
          have hA : tA_ M = M := by
            unfold tA_
            rw [if_pos h9, if_pos ⟨Int32.not_le.mp h36, h43⟩]
          refine w_zrF X dX1_takeOpen_99 (by first | exact Or.inl rfl | exact Or.inr rfl) ?_ ?_
          · rw [hA]
            have h9 : ¬ (M).1 37 2 = 0 := h91
            rw [if_neg h9]
          · unfold tO_
            rw [hA]
            show sI_ (sI_ (M) 37 1 ((M).1 37 1 + 1)) 39 5 ((M).1 39 5 + 1) = _
            rfl
        · refine w_iconst (v := 1) X dX1_takeOpen_94 (by decide) ?_
          refine w_goto (tgt := 99) X dX1_takeOpen_95 (by decide) ?_
          have hA : tA_ M = M := by
            unfold tA_
            rw [if_pos h9, if_pos ⟨Int32.not_le.mp h36, h43⟩]
          refine w_zrF X dX1_takeOpen_99 (by first | exact Or.inl rfl | exact Or.inr rfl) ?_ ?_
          · rw [hA]
            have h9 : (M).1 37 2 = 0 := h91
            rw [if_pos h9]
          · unfold tO_
            rw [hA]
            show sI_ (sI_ (M) 37 1 ((M).1 37 1 + 1)) 39 5 ((M).1 39 5 + 1) = _
            rfl
      · refine w_aload_n X dX1_takeOpen_46 rfl rfl ?_
        refine g1_7 X dX1_takeOpen_47 s_39 rfl ?_
        refine w_iconst (v := 3) X dX1_takeOpen_50 (by decide) ?_
        refine w_aload_n X dX1_takeOpen_51 rfl rfl ?_
        refine g1_7 X dX1_takeOpen_52 s_39 rfl ?_
        refine g1_84 X dX1_takeOpen_55 s_37 rfl ?_
        refine w_v2fV X dX1_takeOpen_58 k1_125 rfl s_37 (c7_fail G hG _ _ _ _) (Nat.le_of_ble_eq_true rfl) ?_
        refine w_aload_n X dX1_takeOpen_61 rfl rfl ?_
        refine g1_7 X dX1_takeOpen_62 s_39 rfl ?_
        refine w_dup X dX1_takeOpen_65 rfl ?_
        refine g1_84 X dX1_takeOpen_66 s_37 rfl ?_
        refine w_iconst (v := 1) X dX1_takeOpen_69 (by decide) ?_
        refine w_iadd X dX1_takeOpen_70 ?_
        refine p1_84 X dX1_takeOpen_71 s_37 rfl ?_
        refine w_aload_n X dX1_takeOpen_74 rfl rfl ?_
        refine w_dup X dX1_takeOpen_75 rfl ?_
        refine g1_28 X dX1_takeOpen_76 s_39 rfl ?_
        refine w_iconst (v := 1) X dX1_takeOpen_79 (by decide) ?_
        refine w_iadd X dX1_takeOpen_80 ?_
        refine p1_28 X dX1_takeOpen_81 s_39 rfl ?_
        refine w_aload_n X dX1_takeOpen_84 rfl rfl ?_
        refine g1_7 X dX1_takeOpen_85 s_39 rfl ?_
        refine g1_159 X dX1_takeOpen_88 s_37 rfl ?_
        refine w_if_ne (tgt := 98) X dX1_takeOpen_91 (by decide) (fun h91 => ?_) (fun h91 => ?_)
        · refine w_iconst (v := 0) X dX1_takeOpen_98 (by decide) ?_
          have hA : tA_ M = fiX_ M 3 (M.1 37 1) := by
            unfold tA_
            rw [if_pos h9, if_neg (fun z => h43 z.2)]
          refine w_zrF X dX1_takeOpen_99 (by first | exact Or.inl rfl | exact Or.inr rfl) ?_ ?_
          · rw [hA]
            have h9 : ¬ (fiX_ M 3 (M.1 37 1)).1 37 2 = 0 := h91
            rw [if_neg h9]
          · unfold tO_
            rw [hA]
            show sI_ (sI_ (fiX_ M 3 (M.1 37 1)) 37 1 ((fiX_ M 3 (M.1 37 1)).1 37 1 + 1)) 39 5 ((fiX_ M 3 (M.1 37 1)).1 39 5 + 1) = _
            rw [fi_pos, fi_39]
        · refine w_iconst (v := 1) X dX1_takeOpen_94 (by decide) ?_
          refine w_goto (tgt := 99) X dX1_takeOpen_95 (by decide) ?_
          have hA : tA_ M = fiX_ M 3 (M.1 37 1) := by
            unfold tA_
            rw [if_pos h9, if_neg (fun z => h43 z.2)]
          refine w_zrF X dX1_takeOpen_99 (by first | exact Or.inl rfl | exact Or.inr rfl) ?_ ?_
          · rw [hA]
            have h9 : (fiX_ M 3 (M.1 37 1)).1 37 2 = 0 := h91
            rw [if_pos h9]
          · unfold tO_
            rw [hA]
            show sI_ (sI_ (fiX_ M 3 (M.1 37 1)) 37 1 ((fiX_ M 3 (M.1 37 1)).1 37 1 + 1)) 39 5 ((fiX_ M 3 (M.1 37 1)).1 39 5 + 1) = _
            rw [fi_pos, fi_39]
  · refine w_aload_n X dX1_takeOpen_12 rfl rfl ?_
    refine g1_7 X dX1_takeOpen_13 s_39 rfl ?_
    refine w_iconst (v := 1) X dX1_takeOpen_16 (by decide) ?_
    refine w_aload_n X dX1_takeOpen_17 rfl rfl ?_
    refine g1_7 X dX1_takeOpen_18 s_39 rfl ?_
    refine g1_84 X dX1_takeOpen_21 s_37 rfl ?_
    refine w_v2fV X dX1_takeOpen_24 k1_125 rfl s_37 (c7_fail G hG _ _ _ _) (Nat.le_of_ble_eq_true rfl) ?_
    refine w_goto (tgt := 61) X dX1_takeOpen_27 (by decide) ?_
    refine w_aload_n X dX1_takeOpen_61 rfl rfl ?_
    refine g1_7 X dX1_takeOpen_62 s_39 rfl ?_
    refine w_dup X dX1_takeOpen_65 rfl ?_
    refine g1_84 X dX1_takeOpen_66 s_37 rfl ?_
    refine w_iconst (v := 1) X dX1_takeOpen_69 (by decide) ?_
    refine w_iadd X dX1_takeOpen_70 ?_
    refine p1_84 X dX1_takeOpen_71 s_37 rfl ?_
    refine w_aload_n X dX1_takeOpen_74 rfl rfl ?_
    refine w_dup X dX1_takeOpen_75 rfl ?_
    refine g1_28 X dX1_takeOpen_76 s_39 rfl ?_
    refine w_iconst (v := 1) X dX1_takeOpen_79 (by decide) ?_
    refine w_iadd X dX1_takeOpen_80 ?_
    refine p1_28 X dX1_takeOpen_81 s_39 rfl ?_
    refine w_aload_n X dX1_takeOpen_84 rfl rfl ?_
    refine g1_7 X dX1_takeOpen_85 s_39 rfl ?_
    refine g1_159 X dX1_takeOpen_88 s_37 rfl ?_
    refine w_if_ne (tgt := 98) X dX1_takeOpen_91 (by decide) (fun h91 => ?_) (fun h91 => ?_)
    · refine w_iconst (v := 0) X dX1_takeOpen_98 (by decide) ?_
      have hA : tA_ M = fiX_ M 1 (M.1 37 1) := by
        unfold tA_
        rw [if_neg h9]
      refine w_zrF X dX1_takeOpen_99 (by first | exact Or.inl rfl | exact Or.inr rfl) ?_ ?_
      · rw [hA]
        have h9 : ¬ (fiX_ M 1 (M.1 37 1)).1 37 2 = 0 := h91
        rw [if_neg h9]
      · unfold tO_
        rw [hA]
        show sI_ (sI_ (fiX_ M 1 (M.1 37 1)) 37 1 ((fiX_ M 1 (M.1 37 1)).1 37 1 + 1)) 39 5 ((fiX_ M 1 (M.1 37 1)).1 39 5 + 1) = _
        rw [fi_pos, fi_39]
    · refine w_iconst (v := 1) X dX1_takeOpen_94 (by decide) ?_
      refine w_goto (tgt := 99) X dX1_takeOpen_95 (by decide) ?_
      have hA : tA_ M = fiX_ M 1 (M.1 37 1) := by
        unfold tA_
        rw [if_neg h9]
      refine w_zrF X dX1_takeOpen_99 (by first | exact Or.inl rfl | exact Or.inr rfl) ?_ ?_
      · rw [hA]
        have h9 : (fiX_ M 1 (M.1 37 1)).1 37 2 = 0 := h91
        rw [if_pos h9]
      · unfold tO_
        rw [hA]
        show sI_ (sI_ (fiX_ M 1 (M.1 37 1)) 37 1 ((fiX_ M 1 (M.1 37 1)).1 37 1 + 1)) 39 5 ((fiX_ M 1 (M.1 37 1)).1 39 5 + 1) = _
        rw [fi_pos, fi_39]
set_option maxRecDepth 100000 in
set_option maxHeartbeats 600000 in
theorem c1_kindOf (G : gg_) (hG : gd_ G) (d : Nat) (M : mm_) (c : Int32) : cm_ G yX1_kindOf cX1_kindOf 1 (some .int) (d) [.int c] M (fI_ (kd_ c) M) := by
  refine cm_of hG (by decide) (Nat.le_of_ble_eq_true rfl) (fun C X => ?_)
  refine w_iload_n X dX1_kindOf_0 rfl rfl ?_
  by_cases h1_37 : c = 37
  · refine w_tableIn (tgt := 124) (off := 123) X dX1_kindOf_1 (by rw [h1_37]; decide) (by rw [h1_37]; decide) (by rw [h1_37]; decide) (by decide) ?_
    refine w_iconst (v := 5) X dX1_kindOf_124 (by decide) ?_
    refine w_irF X dX1_kindOf_125 ?_ rfl
    unfold kd_
    simp [h1_37]
  by_cases h1_38 : c = 38
  · refine w_tableIn (tgt := 126) (off := 125) X dX1_kindOf_1 (by rw [h1_38]; decide) (by rw [h1_38]; decide) (by rw [h1_38]; decide) (by decide) ?_
    refine w_iconst (v := 0) X dX1_kindOf_126 (by decide) ?_
    refine w_irF X dX1_kindOf_127 ?_ rfl
    unfold kd_
    simp [h1_38]
  by_cases h1_39 : c = 39
  · refine w_tableIn (tgt := 126) (off := 125) X dX1_kindOf_1 (by rw [h1_39]; decide) (by rw [h1_39]; decide) (by rw [h1_39]; decide) (by decide) ?_
    refine w_iconst (v := 0) X dX1_kindOf_126 (by decide) ?_
    refine w_irF X dX1_kindOf_127 ?_ rfl
    unfold kd_
    simp [h1_39]
  by_cases h1_40 : c = 40
  · refine w_tableIn (tgt := 126) (off := 125) X dX1_kindOf_1 (by rw [h1_40]; decide) (by rw [h1_40]; decide) (by rw [h1_40]; decide) (by decide) ?_
    refine w_iconst (v := 0) X dX1_kindOf_126 (by decide) ?_
    refine w_irF X dX1_kindOf_127 ?_ rfl
    unfold kd_
    simp [h1_40]
  by_cases h1_41 : c = 41
  · refine w_tableIn (tgt := 126) (off := 125) X dX1_kindOf_1 (by rw [h1_41]; decide) (by rw [h1_41]; decide) (by rw [h1_41]; decide) (by decide) ?_
    refine w_iconst (v := 0) X dX1_kindOf_126 (by decide) ?_
    refine w_irF X dX1_kindOf_127 ?_ rfl
    unfold kd_
    simp [h1_41]
  by_cases h1_42 : c = 42
  · refine w_tableIn (tgt := 124) (off := 123) X dX1_kindOf_1 (by rw [h1_42]; decide) (by rw [h1_42]; decide) (by rw [h1_42]; decide) (by decide) ?_
    refine w_iconst (v := 5) X dX1_kindOf_124 (by decide) ?_
    refine w_irF X dX1_kindOf_125 ?_ rfl
    unfold kd_
    simp [h1_42]
  by_cases h1_43 : c = 43
  · refine w_tableIn (tgt := 122) (off := 121) X dX1_kindOf_1 (by rw [h1_43]; decide) (by rw [h1_43]; decide) (by rw [h1_43]; decide) (by decide) ?_
    refine w_iconst (v := 4) X dX1_kindOf_122 (by decide) ?_
    refine w_irF X dX1_kindOf_123 ?_ rfl
    unfold kd_
    simp [h1_43]
  by_cases h1_44 : c = 44
  · refine w_tableIn (tgt := 126) (off := 125) X dX1_kindOf_1 (by rw [h1_44]; decide) (by rw [h1_44]; decide) (by rw [h1_44]; decide) (by decide) ?_
    refine w_iconst (v := 0) X dX1_kindOf_126 (by decide) ?_
    refine w_irF X dX1_kindOf_127 ?_ rfl
    unfold kd_
    simp [h1_44]
  by_cases h1_45 : c = 45
  · refine w_tableIn (tgt := 122) (off := 121) X dX1_kindOf_1 (by rw [h1_45]; decide) (by rw [h1_45]; decide) (by rw [h1_45]; decide) (by decide) ?_
    refine w_iconst (v := 4) X dX1_kindOf_122 (by decide) ?_
    refine w_irF X dX1_kindOf_123 ?_ rfl
    unfold kd_
    simp [h1_45]
  by_cases h1_46 : c = 46
  · refine w_tableIn (tgt := 126) (off := 125) X dX1_kindOf_1 (by rw [h1_46]; decide) (by rw [h1_46]; decide) (by rw [h1_46]; decide) (by decide) ?_
    refine w_iconst (v := 0) X dX1_kindOf_126 (by decide) ?_
    refine w_irF X dX1_kindOf_127 ?_ rfl
    unfold kd_
    simp [h1_46]
  by_cases h1_47 : c = 47
  · refine w_tableIn (tgt := 124) (off := 123) X dX1_kindOf_1 (by rw [h1_47]; decide) (by rw [h1_47]; decide) (by rw [h1_47]; decide) (by decide) ?_
    refine w_iconst (v := 5) X dX1_kindOf_124 (by decide) ?_
    refine w_irF X dX1_kindOf_125 ?_ rfl
    unfold kd_
    simp [h1_47]
  by_cases h1_48 : c = 48
  · refine w_tableIn (tgt := 126) (off := 125) X dX1_kindOf_1 (by rw [h1_48]; decide) (by rw [h1_48]; decide) (by rw [h1_48]; decide) (by decide) ?_
    refine w_iconst (v := 0) X dX1_kindOf_126 (by decide) ?_
    refine w_irF X dX1_kindOf_127 ?_ rfl
    unfold kd_
    simp [h1_48]
  by_cases h1_49 : c = 49
  · refine w_tableIn (tgt := 126) (off := 125) X dX1_kindOf_1 (by rw [h1_49]; decide) (by rw [h1_49]; decide) (by rw [h1_49]; decide) (by decide) ?_
    refine w_iconst (v := 0) X dX1_kindOf_126 (by decide) ?_
    refine w_irF X dX1_kindOf_127 ?_ rfl
    unfold kd_
    simp [h1_49]
  by_cases h1_50 : c = 50
  · refine w_tableIn (tgt := 126) (off := 125) X dX1_kindOf_1 (by rw [h1_50]; decide) (by rw [h1_50]; decide) (by rw [h1_50]; decide) (by decide) ?_
    refine w_iconst (v := 0) X dX1_kindOf_126 (by decide) ?_
    refine w_irF X dX1_kindOf_127 ?_ rfl
    unfold kd_
    simp [h1_50]
  by_cases h1_51 : c = 51
  · refine w_tableIn (tgt := 126) (off := 125) X dX1_kindOf_1 (by rw [h1_51]; decide) (by rw [h1_51]; decide) (by rw [h1_51]; decide) (by decide) ?_
    refine w_iconst (v := 0) X dX1_kindOf_126 (by decide) ?_
    refine w_irF X dX1_kindOf_127 ?_ rfl
    unfold kd_
    simp [h1_51]
  by_cases h1_52 : c = 52
  · refine w_tableIn (tgt := 126) (off := 125) X dX1_kindOf_1 (by rw [h1_52]; decide) (by rw [h1_52]; decide) (by rw [h1_52]; decide) (by decide) ?_
    refine w_iconst (v := 0) X dX1_kindOf_126 (by decide) ?_
    refine w_irF X dX1_kindOf_127 ?_ rfl
    unfold kd_
    simp [h1_52]
  by_cases h1_53 : c = 53
  · refine w_tableIn (tgt := 126) (off := 125) X dX1_kindOf_1 (by rw [h1_53]; decide) (by rw [h1_53]; decide) (by rw [h1_53]; decide) (by decide) ?_
    refine w_iconst (v := 0) X dX1_kindOf_126 (by decide) ?_
    refine w_irF X dX1_kindOf_127 ?_ rfl
    unfold kd_
    simp [h1_53]
  by_cases h1_54 : c = 54
  · refine w_tableIn (tgt := 126) (off := 125) X dX1_kindOf_1 (by rw [h1_54]; decide) (by rw [h1_54]; decide) (by rw [h1_54]; decide) (by decide) ?_
    refine w_iconst (v := 0) X dX1_kindOf_126 (by decide) ?_
    refine w_irF X dX1_kindOf_127 ?_ rfl
    unfold kd_
    simp [h1_54]
  by_cases h1_55 : c = 55
  · refine w_tableIn (tgt := 126) (off := 125) X dX1_kindOf_1 (by rw [h1_55]; decide) (by rw [h1_55]; decide) (by rw [h1_55]; decide) (by decide) ?_
    refine w_iconst (v := 0) X dX1_kindOf_126 (by decide) ?_
    refine w_irF X dX1_kindOf_127 ?_ rfl
    unfold kd_
    simp [h1_55]
  by_cases h1_56 : c = 56
  · refine w_tableIn (tgt := 126) (off := 125) X dX1_kindOf_1 (by rw [h1_56]; decide) (by rw [h1_56]; decide) (by rw [h1_56]; decide) (by decide) ?_
    refine w_iconst (v := 0) X dX1_kindOf_126 (by decide) ?_
    refine w_irF X dX1_kindOf_127 ?_ rfl
    unfold kd_
    simp [h1_56]
  by_cases h1_57 : c = 57
  · refine w_tableIn (tgt := 126) (off := 125) X dX1_kindOf_1 (by rw [h1_57]; decide) (by rw [h1_57]; decide) (by rw [h1_57]; decide) (by decide) ?_
    refine w_iconst (v := 0) X dX1_kindOf_126 (by decide) ?_
    refine w_irF X dX1_kindOf_127 ?_ rfl
    unfold kd_
    simp [h1_57]
  by_cases h1_58 : c = 58
  · refine w_tableIn (tgt := 126) (off := 125) X dX1_kindOf_1 (by rw [h1_58]; decide) (by rw [h1_58]; decide) (by rw [h1_58]; decide) (by decide) ?_
    refine w_iconst (v := 0) X dX1_kindOf_126 (by decide) ?_
    refine w_irF X dX1_kindOf_127 ?_ rfl
    unfold kd_
    simp [h1_58]
  by_cases h1_59 : c = 59
  · refine w_tableIn (tgt := 126) (off := 125) X dX1_kindOf_1 (by rw [h1_59]; decide) (by rw [h1_59]; decide) (by rw [h1_59]; decide) (by decide) ?_
    refine w_iconst (v := 0) X dX1_kindOf_126 (by decide) ?_
    refine w_irF X dX1_kindOf_127 ?_ rfl
    unfold kd_
    simp [h1_59]
  by_cases h1_60 : c = 60
  · refine w_tableIn (tgt := 120) (off := 119) X dX1_kindOf_1 (by rw [h1_60]; decide) (by rw [h1_60]; decide) (by rw [h1_60]; decide) (by decide) ?_
    refine w_iconst (v := 3) X dX1_kindOf_120 (by decide) ?_
    refine w_irF X dX1_kindOf_121 ?_ rfl
    unfold kd_
    simp [h1_60]
  by_cases h1_61 : c = 61
  · refine w_tableIn (tgt := 120) (off := 119) X dX1_kindOf_1 (by rw [h1_61]; decide) (by rw [h1_61]; decide) (by rw [h1_61]; decide) (by decide) ?_
    refine w_iconst (v := 3) X dX1_kindOf_120 (by decide) ?_
    refine w_irF X dX1_kindOf_121 ?_ rfl
    unfold kd_
    simp [h1_61]
  by_cases h1_62 : c = 62
  · refine w_tableIn (tgt := 120) (off := 119) X dX1_kindOf_1 (by rw [h1_62]; decide) (by rw [h1_62]; decide) (by rw [h1_62]; decide) (by decide) ?_
    refine w_iconst (v := 3) X dX1_kindOf_120 (by decide) ?_
    refine w_irF X dX1_kindOf_121 ?_ rfl
    unfold kd_
    simp [h1_62]
  have t1_37 : (37 : Int) ≠ (c).toInt := fun q => h1_37 (Int32.toInt_inj.mp (by rw [← q]; decide))
  have t1_38 : (38 : Int) ≠ (c).toInt := fun q => h1_38 (Int32.toInt_inj.mp (by rw [← q]; decide))
  have t1_39 : (39 : Int) ≠ (c).toInt := fun q => h1_39 (Int32.toInt_inj.mp (by rw [← q]; decide))
  have t1_40 : (40 : Int) ≠ (c).toInt := fun q => h1_40 (Int32.toInt_inj.mp (by rw [← q]; decide))
  have t1_41 : (41 : Int) ≠ (c).toInt := fun q => h1_41 (Int32.toInt_inj.mp (by rw [← q]; decide))
  have t1_42 : (42 : Int) ≠ (c).toInt := fun q => h1_42 (Int32.toInt_inj.mp (by rw [← q]; decide))
  have t1_43 : (43 : Int) ≠ (c).toInt := fun q => h1_43 (Int32.toInt_inj.mp (by rw [← q]; decide))
  have t1_44 : (44 : Int) ≠ (c).toInt := fun q => h1_44 (Int32.toInt_inj.mp (by rw [← q]; decide))
  have t1_45 : (45 : Int) ≠ (c).toInt := fun q => h1_45 (Int32.toInt_inj.mp (by rw [← q]; decide))
  have t1_46 : (46 : Int) ≠ (c).toInt := fun q => h1_46 (Int32.toInt_inj.mp (by rw [← q]; decide))
  have t1_47 : (47 : Int) ≠ (c).toInt := fun q => h1_47 (Int32.toInt_inj.mp (by rw [← q]; decide))
  have t1_48 : (48 : Int) ≠ (c).toInt := fun q => h1_48 (Int32.toInt_inj.mp (by rw [← q]; decide))
  have t1_49 : (49 : Int) ≠ (c).toInt := fun q => h1_49 (Int32.toInt_inj.mp (by rw [← q]; decide))
  have t1_50 : (50 : Int) ≠ (c).toInt := fun q => h1_50 (Int32.toInt_inj.mp (by rw [← q]; decide))
  have t1_51 : (51 : Int) ≠ (c).toInt := fun q => h1_51 (Int32.toInt_inj.mp (by rw [← q]; decide))
  have t1_52 : (52 : Int) ≠ (c).toInt := fun q => h1_52 (Int32.toInt_inj.mp (by rw [← q]; decide))
  have t1_53 : (53 : Int) ≠ (c).toInt := fun q => h1_53 (Int32.toInt_inj.mp (by rw [← q]; decide))
  have t1_54 : (54 : Int) ≠ (c).toInt := fun q => h1_54 (Int32.toInt_inj.mp (by rw [← q]; decide))
  have t1_55 : (55 : Int) ≠ (c).toInt := fun q => h1_55 (Int32.toInt_inj.mp (by rw [← q]; decide))
  have t1_56 : (56 : Int) ≠ (c).toInt := fun q => h1_56 (Int32.toInt_inj.mp (by rw [← q]; decide))
  have t1_57 : (57 : Int) ≠ (c).toInt := fun q => h1_57 (Int32.toInt_inj.mp (by rw [← q]; decide))
  have t1_58 : (58 : Int) ≠ (c).toInt := fun q => h1_58 (Int32.toInt_inj.mp (by rw [← q]; decide))
  have t1_59 : (59 : Int) ≠ (c).toInt := fun q => h1_59 (Int32.toInt_inj.mp (by rw [← q]; decide))
  have t1_60 : (60 : Int) ≠ (c).toInt := fun q => h1_60 (Int32.toInt_inj.mp (by rw [← q]; decide))
  have t1_61 : (61 : Int) ≠ (c).toInt := fun q => h1_61 (Int32.toInt_inj.mp (by rw [← q]; decide))
  have t1_62 : (62 : Int) ≠ (c).toInt := fun q => h1_62 (Int32.toInt_inj.mp (by rw [← q]; decide))
  refine w_tableOut (tgt := 126) X dX1_kindOf_1 (by omega) (by decide) ?_
  refine w_iconst (v := 0) X dX1_kindOf_126 (by decide) ?_
  refine w_irF X dX1_kindOf_127 ?_ rfl
  unfold kd_
  simp [h1_37, h1_38, h1_39, h1_40, h1_41, h1_42, h1_43, h1_44, h1_45, h1_46, h1_47, h1_48, h1_49, h1_50, h1_51, h1_52, h1_53, h1_54, h1_55, h1_56, h1_57, h1_58, h1_59, h1_60, h1_61, h1_62]
set_option maxRecDepth 100000 in
set_option maxHeartbeats 600000 in
theorem f1_operand (G : gg_) (hG : gd_ G) (d : Nat) (M : mm_) (n : Nat) (ht : tpX_ M n) (hf : ¬ M.1 37 2 = 0) : cm_ G yX1_operand cX1_operand 3 none (d + 3) [.ref (G.1 39)] M (fV_ (oF_ M)) := by
  refine cm_of hG (by decide) (Nat.le_of_ble_eq_true rfl) (fun C X => ?_)
  refine w_aload_n X dX1_operand_0 rfl rfl ?_
  refine g1_7 X dX1_operand_1 s_39 rfl ?_
  refine g1_84 X dX1_operand_4 s_37 rfl ?_
  refine w_istore_n X dX1_operand_7 rfl (by decide) ?_
  refine w_aload_n X dX1_operand_8 rfl rfl ?_
  refine g1_7 X dX1_operand_9 s_39 rfl ?_
  refine w_v0fI X dX1_operand_12 k1_48 rfl s_37 (c7_peek G hG _ _ n ht) (Nat.le_of_ble_eq_true rfl) ?_
  rw [pe_F hf]
  refine w_s1fI X dX1_operand_15 k1_87 (c7_isFigure G hG _ _ _) (Nat.le_of_ble_eq_true rfl) ?_
  refine w_if_eq (tgt := 50) X dX1_operand_18 (by decide) (fun h18 => ?_) (fun h18 => absurd (by decide) h18)
  refine w_aload_n X dX1_operand_50 rfl rfl ?_
  refine g1_7 X dX1_operand_51 s_39 rfl ?_
  refine w_v0fI X dX1_operand_54 k1_48 rfl s_37 (c7_peek G hG _ _ n ht) (Nat.le_of_ble_eq_true rfl) ?_
  rw [pe_F hf]
  refine w_s1fI X dX1_operand_57 k1_100 (c7_isRowByte G hG _ _ _) (Nat.le_of_ble_eq_true rfl) ?_
  refine w_if_eq (tgt := 70) X dX1_operand_60 (by decide) (fun h60 => ?_) (fun h60 => absurd (by decide) h60)
  refine w_aload_n X dX1_operand_70 rfl rfl ?_
  refine w_v0fI X dX1_operand_71 k1_106 rfl s_39 (c1_takeOpen G hG _ _ n ht) (Nat.le_of_ble_eq_true rfl) ?_
  rw [tA_F hf, if_neg hf, tO_F hf]
  refine w_if_eq (tgt := 100) X dX1_operand_74 (by decide) (fun h74 => ?_) (fun h74 => absurd (rfl) h74)
  exact w_vrF X dX1_operand_100 rfl
set_option maxRecDepth 100000 in
set_option maxHeartbeats 600000 in
theorem f1_signed (G : gg_) (hG : gd_ G) (d : Nat) (M : mm_) (n : Nat) (ht : tpX_ M n) (hf : ¬ M.1 37 2 = 0) : cm_ G yX1_signed cX1_signed 2 none (d + 4) [.ref (G.1 39)] M (fV_ (oF_ M)) := by
  refine cm_of hG (by decide) (Nat.le_of_ble_eq_true rfl) (fun C X => ?_)
  refine w_aload_n X dX1_signed_0 rfl rfl ?_
  refine g1_7 X dX1_signed_1 s_39 rfl ?_
  refine w_v0fI X dX1_signed_4 k1_48 rfl s_37 (c7_peek G hG _ _ n ht) (Nat.le_of_ble_eq_true rfl) ?_
  rw [pe_F hf]
  refine w_bipush (v := 45) X dX1_signed_7 (by decide) ?_
  refine w_icmp_eq (tgt := 29) X dX1_signed_9 (by decide) (fun h9 => absurd h9 (by decide)) (fun h9 => ?_)
  refine w_aload_n X dX1_signed_12 rfl rfl ?_
  refine g1_7 X dX1_signed_13 s_39 rfl ?_
  refine w_v0fI X dX1_signed_16 k1_48 rfl s_37 (c7_peek G hG _ _ n ht) (Nat.le_of_ble_eq_true rfl) ?_
  rw [pe_F hf]
  refine w_bipush (v := 33) X dX1_signed_19 (by decide) ?_
  refine w_icmp_eq (tgt := 29) X dX1_signed_21 (by decide) (fun h21 => absurd h21 (by decide)) (fun h21 => ?_)
  refine w_aload_n X dX1_signed_24 rfl rfl ?_
  refine w_v0fV X dX1_signed_25 k1_81 rfl s_39 (f1_operand G hG _ _ n ht hf) (Nat.le_of_ble_eq_true rfl) ?_
  exact w_vrF X dX1_signed_28 rfl
set_option maxRecDepth 100000 in
set_option maxHeartbeats 600000 in
theorem f1_joined6 (G : gg_) (hG : gd_ G) (d : Nat) (M : mm_) (n : Nat) (ht : tpX_ M n) (hf : ¬ M.1 37 2 = 0) : cm_ G yX1_joined cX1_joined 5 none (d + 5) [.ref (G.1 39), .int 6] M (fV_ (oF_ M)) := by
  refine cm_of hG (by decide) (Nat.le_of_ble_eq_true rfl) (fun C X => ?_)
  refine w_iload_n X dX1_joined_0 rfl rfl ?_
  refine w_bipush (v := 6) X dX1_joined_1 (by decide) ?_
  refine w_icmp_lt (tgt := 11) X dX1_joined_3 (by decide) (fun h3 => absurd h3 (by decide)) (fun h3 => ?_)
  refine w_aload_n X dX1_joined_6 rfl rfl ?_
  refine w_v0fV X dX1_joined_7 k1_75 rfl s_39 (f1_signed G hG _ _ n ht hf) (Nat.le_of_ble_eq_true rfl) ?_
  exact w_vrF X dX1_joined_10 rfl
set_option maxRecDepth 100000 in
set_option maxHeartbeats 600000 in
theorem f1_joined5 (G : gg_) (hG : gd_ G) (d : Nat) (M : mm_) (n : Nat) (ht : tpX_ M n) (hf : ¬ M.1 37 2 = 0) : cm_ G yX1_joined cX1_joined 5 none (d + 6) [.ref (G.1 39), .int 5] M (fV_ (oF_ M)) := by
  refine cm_of hG (by decide) (Nat.le_of_ble_eq_true rfl) (fun C X => ?_)
  refine w_iload_n X dX1_joined_0 rfl rfl ?_
  refine w_bipush (v := 6) X dX1_joined_1 (by decide) ?_
  refine w_icmp_lt (tgt := 11) X dX1_joined_3 (by decide) (fun h3 => ?_) (fun h3 => absurd (by decide) h3)
  refine w_aload_n X dX1_joined_11 rfl rfl ?_
  refine w_iload_n X dX1_joined_12 rfl rfl ?_
  refine w_iconst (v := 1) X dX1_joined_13 (by decide) ?_
  refine w_iadd X dX1_joined_14 ?_
  refine w_v1fV X dX1_joined_15 k1_65 rfl s_39 (f1_joined6 G hG _ _ n ht hf) (Nat.le_of_ble_eq_true rfl) ?_
  refine w_iload_n X dX1_joined_18 rfl rfl ?_
  refine w_iconst (v := 3) X dX1_joined_19 (by decide) ?_
  refine w_icmp_ne (tgt := 27) X dX1_joined_20 (by decide) (fun h20 => ?_) (fun h20 => absurd h20 (by decide))
  refine w_bipush (v := 20) X dX1_joined_27 (by decide) ?_
  refine w_istore_n X dX1_joined_29 rfl (by decide) ?_
  refine w_iconst (v := 0) X dX1_joined_30 (by decide) ?_
  refine w_istore_n X dX1_joined_31 rfl (by decide) ?_
  refine w_iload_n X dX1_joined_32 rfl rfl ?_
  refine w_iload_n X dX1_joined_33 rfl rfl ?_
  refine w_icmp_ge (tgt := 81) X dX1_joined_34 (by decide) (fun h34 => absurd h34 (by decide)) (fun h34 => ?_)
  refine w_aload_n X dX1_joined_37 rfl rfl ?_
  refine g1_7 X dX1_joined_38 s_39 rfl ?_
  refine w_v0fI X dX1_joined_41 k1_48 rfl s_37 (c7_peek G hG _ (oF_ M) n (tp_oF ht)) (Nat.le_of_ble_eq_true rfl) ?_
  rw [pe_F (M := oF_ M) hf]
  refine w_s1fI X dX1_joined_44 k1_78 (c1_kindOf G hG _ _ _) (Nat.le_of_ble_eq_true rfl) ?_
  refine w_iload_n X dX1_joined_47 rfl rfl ?_
  refine w_icmp_ne (tgt := 81) X dX1_joined_48 (by decide) (fun h48 => ?_) (fun h48 => absurd h48 (by decide))
  exact w_vrF X dX1_joined_81 rfl
set_option maxRecDepth 100000 in
set_option maxHeartbeats 600000 in
theorem f1_joined4 (G : gg_) (hG : gd_ G) (d : Nat) (M : mm_) (n : Nat) (ht : tpX_ M n) (hf : ¬ M.1 37 2 = 0) : cm_ G yX1_joined cX1_joined 5 none (d + 7) [.ref (G.1 39), .int 4] M (fV_ (oF_ M)) := by
  refine cm_of hG (by decide) (Nat.le_of_ble_eq_true rfl) (fun C X => ?_)
  refine w_iload_n X dX1_joined_0 rfl rfl ?_
  refine w_bipush (v := 6) X dX1_joined_1 (by decide) ?_
  refine w_icmp_lt (tgt := 11) X dX1_joined_3 (by decide) (fun h3 => ?_) (fun h3 => absurd (by decide) h3)
  refine w_aload_n X dX1_joined_11 rfl rfl ?_
  refine w_iload_n X dX1_joined_12 rfl rfl ?_
  refine w_iconst (v := 1) X dX1_joined_13 (by decide) ?_
  refine w_iadd X dX1_joined_14 ?_
  refine w_v1fV X dX1_joined_15 k1_65 rfl s_39 (f1_joined5 G hG _ _ n ht hf) (Nat.le_of_ble_eq_true rfl) ?_
  refine w_iload_n X dX1_joined_18 rfl rfl ?_
  refine w_iconst (v := 3) X dX1_joined_19 (by decide) ?_
  refine w_icmp_ne (tgt := 27) X dX1_joined_20 (by decide) (fun h20 => ?_) (fun h20 => absurd h20 (by decide))
  refine w_bipush (v := 20) X dX1_joined_27 (by decide) ?_
  refine w_istore_n X dX1_joined_29 rfl (by decide) ?_
  refine w_iconst (v := 0) X dX1_joined_30 (by decide) ?_
  refine w_istore_n X dX1_joined_31 rfl (by decide) ?_
  refine w_iload_n X dX1_joined_32 rfl rfl ?_
  refine w_iload_n X dX1_joined_33 rfl rfl ?_
  refine w_icmp_ge (tgt := 81) X dX1_joined_34 (by decide) (fun h34 => absurd h34 (by decide)) (fun h34 => ?_)
  refine w_aload_n X dX1_joined_37 rfl rfl ?_
  refine g1_7 X dX1_joined_38 s_39 rfl ?_
  refine w_v0fI X dX1_joined_41 k1_48 rfl s_37 (c7_peek G hG _ (oF_ M) n (tp_oF ht)) (Nat.le_of_ble_eq_true rfl) ?_
  rw [pe_F (M := oF_ M) hf]
  refine w_s1fI X dX1_joined_44 k1_78 (c1_kindOf G hG _ _ _) (Nat.le_of_ble_eq_true rfl) ?_
  refine w_iload_n X dX1_joined_47 rfl rfl ?_
  refine w_icmp_ne (tgt := 81) X dX1_joined_48 (by decide) (fun h48 => ?_) (fun h48 => absurd h48 (by decide))
  exact w_vrF X dX1_joined_81 rfl
set_option maxRecDepth 100000 in
set_option maxHeartbeats 600000 in
theorem f1_joined3 (G : gg_) (hG : gd_ G) (d : Nat) (M : mm_) (n : Nat) (ht : tpX_ M n) (hf : ¬ M.1 37 2 = 0) : cm_ G yX1_joined cX1_joined 5 none (d + 8) [.ref (G.1 39), .int 3] M (fV_ (oF_ M)) := by
  refine cm_of hG (by decide) (Nat.le_of_ble_eq_true rfl) (fun C X => ?_)
  refine w_iload_n X dX1_joined_0 rfl rfl ?_
  refine w_bipush (v := 6) X dX1_joined_1 (by decide) ?_
  refine w_icmp_lt (tgt := 11) X dX1_joined_3 (by decide) (fun h3 => ?_) (fun h3 => absurd (by decide) h3)
  refine w_aload_n X dX1_joined_11 rfl rfl ?_
  refine w_iload_n X dX1_joined_12 rfl rfl ?_
  refine w_iconst (v := 1) X dX1_joined_13 (by decide) ?_
  refine w_iadd X dX1_joined_14 ?_
  refine w_v1fV X dX1_joined_15 k1_65 rfl s_39 (f1_joined4 G hG _ _ n ht hf) (Nat.le_of_ble_eq_true rfl) ?_
  refine w_iload_n X dX1_joined_18 rfl rfl ?_
  refine w_iconst (v := 3) X dX1_joined_19 (by decide) ?_
  refine w_icmp_ne (tgt := 27) X dX1_joined_20 (by decide) (fun h20 => absurd rfl h20) (fun h20 => ?_)
  refine w_iconst (v := 1) X dX1_joined_23 (by decide) ?_
  refine w_goto (tgt := 29) X dX1_joined_24 (by decide) ?_
  refine w_istore_n X dX1_joined_29 rfl (by decide) ?_
  refine w_iconst (v := 0) X dX1_joined_30 (by decide) ?_
  refine w_istore_n X dX1_joined_31 rfl (by decide) ?_
  refine w_iload_n X dX1_joined_32 rfl rfl ?_
  refine w_iload_n X dX1_joined_33 rfl rfl ?_
  refine w_icmp_ge (tgt := 81) X dX1_joined_34 (by decide) (fun h34 => absurd h34 (by decide)) (fun h34 => ?_)
  refine w_aload_n X dX1_joined_37 rfl rfl ?_
  refine g1_7 X dX1_joined_38 s_39 rfl ?_
  refine w_v0fI X dX1_joined_41 k1_48 rfl s_37 (c7_peek G hG _ (oF_ M) n (tp_oF ht)) (Nat.le_of_ble_eq_true rfl) ?_
  rw [pe_F (M := oF_ M) hf]
  refine w_s1fI X dX1_joined_44 k1_78 (c1_kindOf G hG _ _ _) (Nat.le_of_ble_eq_true rfl) ?_
  refine w_iload_n X dX1_joined_47 rfl rfl ?_
  refine w_icmp_ne (tgt := 81) X dX1_joined_48 (by decide) (fun h48 => ?_) (fun h48 => absurd h48 (by decide))
  exact w_vrF X dX1_joined_81 rfl
set_option maxRecDepth 100000 in
set_option maxHeartbeats 600000 in
theorem f1_choice (G : gg_) (hG : gd_ G) (d : Nat) (M : mm_) (n : Nat) (ht : tpX_ M n) (hf : ¬ M.1 37 2 = 0) : cm_ G yX1_choice cX1_choice 3 none (d + 9) [.ref (G.1 39)] M (fV_ (oF_ M)) := by
  refine cm_of hG (by decide) (Nat.le_of_ble_eq_true rfl) (fun C X => ?_)
  refine w_aload_n X dX1_choice_0 rfl rfl ?_
  refine w_iconst (v := 3) X dX1_choice_1 (by decide) ?_
  refine w_v1fV X dX1_choice_2 k1_65 rfl s_39 (f1_joined3 G hG _ _ n ht hf) (Nat.le_of_ble_eq_true rfl) ?_
  refine w_aload_n X dX1_choice_5 rfl rfl ?_
  refine g1_7 X dX1_choice_6 s_39 rfl ?_
  refine w_v0fI X dX1_choice_9 k1_48 rfl s_37 (c7_peek G hG _ (oF_ M) n (tp_oF ht)) (Nat.le_of_ble_eq_true rfl) ?_
  rw [pe_F (M := oF_ M) hf]
  refine w_bipush (v := 63) X dX1_choice_12 (by decide) ?_
  refine w_icmp_eq (tgt := 18) X dX1_choice_14 (by decide) (fun h14 => absurd h14 (by decide)) (fun h14 => ?_)
  exact w_vrF X dX1_choice_17 rfl
set_option maxRecDepth 100000 in
set_option maxHeartbeats 600000 in
theorem f1_expression (G : gg_) (hG : gd_ G) (d : Nat) (M : mm_) (n : Nat) (ht : tpX_ M n) (hf : ¬ M.1 37 2 = 0) (k : Nat) (hk : cdX_ k) (hc : M.2.2 39 1 = some k) : cm_ G yX1_expression cX1_expression 4 none (d + 10) [.ref (G.1 39)] M (fV_ (oF_ M)) := by
  refine cm_of hG (by decide) (Nat.le_of_ble_eq_true rfl) (fun C X => ?_)
  refine w_aload_n X dX1_expression_0 rfl rfl ?_
  refine r1_13 X dX1_expression_1 s_39 rfl (hc) ?_
  refine g1_42 X dX1_expression_4 hk.1 rfl ?_
  refine w_istore_n X dX1_expression_7 rfl (by decide) ?_
  refine w_aload_n X dX1_expression_8 rfl rfl ?_
  refine w_v0fV X dX1_expression_9 k1_45 rfl s_39 (f1_choice G hG _ _ n ht hf) (Nat.le_of_ble_eq_true rfl) ?_
  refine w_iconst (v := 0) X dX1_expression_12 (by decide) ?_
  refine w_istore_n X dX1_expression_13 rfl (by decide) ?_
  refine w_iload_n X dX1_expression_14 rfl rfl ?_
  refine w_bipush (v := 20) X dX1_expression_15 (by decide) ?_
  refine w_icmp_ge (tgt := 64) X dX1_expression_17 (by decide) (fun h17 => absurd h17 (by decide)) (fun h17 => ?_)
  refine w_aload_n X dX1_expression_20 rfl rfl ?_
  refine g1_7 X dX1_expression_21 s_39 rfl ?_
  refine w_v0fI X dX1_expression_24 k1_48 rfl s_37 (c7_peek G hG _ (oF_ M) n (tp_oF ht)) (Nat.le_of_ble_eq_true rfl) ?_
  rw [pe_F (M := oF_ M) hf]
  refine w_bipush (v := 35) X dX1_expression_27 (by decide) ?_
  refine w_icmp_ne (tgt := 64) X dX1_expression_29 (by decide) (fun h29 => ?_) (fun h29 => absurd h29 (by decide))
  exact w_vrF X dX1_expression_64 rfl

