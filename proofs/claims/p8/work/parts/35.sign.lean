/-- a byte behind a tree -/
def si_ (c : Int32) (k : Nat) (W : List fr_) (e : Term) (nd op : Nat) : ss_ ⊕ (Int32 × Nat) :=
  if c = 35 then ha_ k W e nd op else if c = 63 then qu_ k W e nd op else if c = 58 then cl_ k W e nd op
  else if c = 60 ∨ c = 61 ∨ c = 62 then bt_ 3 c k W e nd op else if c = 43 ∨ c = 45 then bt_ 4 c k W e nd op else if c = 42 ∨ c = 47 ∨ c = 37 then bt_ 5 c k W e nd op
  else if c = 44 then cm2_ k W e nd op else if c = 41 then cz_ k W e nd op else .inr (1, k)
/-- what is answered: whether an operand is wanted -/
def ow2_ (r : Int32) : ss_ ⊕ (Int32 × Nat) → Prop
  | .inl S => r = match S.2.2.1 with | none => 1 | some _ => 0
  | .inr _ => True
def pw_ (M : mm_) (n : Nat) (q : ss_ ⊕ (Int32 × Nat)) (r : Int32) (N : mm_) : Prop := (r = 0 ∨ r = 1) ∧ px_ M n q N ∧ ow2_ r q
theorem ow_ha {k nd op : Nat} {W : List fr_} {e : Term} : ow2_ 1 (ha_ k W e nd op) := by unfold ha_; split <;> simp [ow2_]
theorem ow_qu {k nd op : Nat} {W : List fr_} {e : Term} : ow2_ 1 (qu_ k W e nd op) := by unfold qu_; split <;> simp [ow2_]
theorem ow_bt {k nd op L : Nat} {c : Int32} {W : List fr_} {e : Term} : ow2_ 1 (bt_ L c k W e nd op) := by
  unfold bt_
  generalize rt_ (if L = 3 then 4 else L) W e = q
  split
  · simp [ow2_]
  · split <;> simp [ow2_]
theorem ow_cl {k nd op : Nat} {W : List fr_} {e : Term} : ow2_ 1 (cl_ k W e nd op) := by
  unfold cl_
  split
  · simp [ow2_]
  · split <;> simp [ow2_]
theorem ow_cm {k nd op : Nat} {W : List fr_} {e : Term} : ow2_ 1 (cm2_ k W e nd op) := by
  unfold cm2_
  split
  · simp [ow2_]
  · split <;> simp [ow2_]
theorem ow_cz {k nd op : Nat} {W : List fr_} {e : Term} : ow2_ 0 (cz_ k W e nd op) := by
  unfold cz_
  split
  · simp [ow2_]
  · split
    · simp [ow2_]
    · split <;> simp [ow2_]
set_option maxRecDepth 100000 in
set_option maxHeartbeats 4000000 in
theorem c12_readSign (G : gg_) (hG : gd_ G) (d : Nat) (M : mm_) (n k nd op : Nat) (W : List fr_) (e : Term) (h : pr_ M n k W (some e) nd op) (hf : M.1 0 3 = 0) (hk : k < 268435456) : cm_ G yX12_readSign cX12_readSign 2 (some .boolean) (d + 6) [.ref (G.1 0)] M (rI_ (pw_ M n (si_ (bf_ M n k) k W e nd op))) := by
  refine cm_of hG (by decide) (Nat.le_of_ble_eq_true rfl) (fun C X => ?_)
  have h0 := h.1
  have h5 := h.2.1
  refine w_aload_n X dX12_readSign_0 rfl rfl ?_
  refine w_aload_n X dX12_readSign_1 rfl rfl ?_
  refine g12_at X dX12_readSign_2 ?_
  try simp only [gI_sI, gI_sL, gL_sI, gL_sL, false_and, and_false, and_self, if_false, if_true, reduceIte, Nat.reduceEqDiff, h5]
  refine w_v1fI X dX12_readSign_5 k12_byteAt rfl rfl (c12_byteAt G hG _ _ (nI k) (fun z => tz_in h0 (by omega) z)) (Nat.le_of_ble_eq_true rfl) ?_
  rw [ba_bf h0 (by omega)]
  refine w_istore_n X dX12_readSign_8 rfl (by decide) ?_
  refine w_iload_n X dX12_readSign_9 rfl rfl ?_
  refine w_bipush (v := 35) X dX12_readSign_10 (by decide) ?_
  refine w_icmp_ne (tgt := 22) X dX12_readSign_12 (by decide) (fun h12 => ?_) (fun h12 => ?_)
  · refine w_iload_n X dX12_readSign_22 rfl rfl ?_
    refine w_bipush (v := 63) X dX12_readSign_23 (by decide) ?_
    refine w_icmp_ne (tgt := 35) X dX12_readSign_25 (by decide) (fun h25 => ?_) (fun h25 => ?_)
    · refine w_iload_n X dX12_readSign_35 rfl rfl ?_
      refine w_bipush (v := 58) X dX12_readSign_36 (by decide) ?_
      refine w_icmp_ne (tgt := 48) X dX12_readSign_38 (by decide) (fun h38 => ?_) (fun h38 => ?_)
      · refine w_iload_n X dX12_readSign_48 rfl rfl ?_
        refine w_bipush (v := 60) X dX12_readSign_49 (by decide) ?_
        refine w_icmp_eq (tgt := 66) X dX12_readSign_51 (by decide) (fun h51 => ?_) (fun h51 => ?_)
        · refine w_aload_n X dX12_readSign_66 rfl rfl ?_
          refine w_iconst (v := 3) X dX12_readSign_67 (by decide) ?_
          refine w_iload_n X dX12_readSign_68 rfl rfl ?_
          refine w_v2rV X dX12_readSign_69 k12_between rfl rfl (c12_between G hG _ M n k nd op 3 _ W e h hf hk (by omega)) (Nat.le_of_ble_eq_true rfl) (fun N69 h69 => ?_)
          refine w_goto (tgt := 157) X dX12_readSign_72 (by decide) ?_
          refine w_iconst (v := 1) X dX12_readSign_157 (by decide) ?_
          refine w_zrR X dX12_readSign_158 (by first | exact Or.inl rfl | exact Or.inr rfl) ⟨Or.inr rfl, ?_, ?_⟩
          · have hs : si_ (bf_ M n k) k W e nd op = bt_ 3 (bf_ M n k) k W e nd op := by unfold si_; simp [h12, h25, h38, h51]
            rw [hs]
            exact h69
          · have hs : si_ (bf_ M n k) k W e nd op = bt_ 3 (bf_ M n k) k W e nd op := by unfold si_; simp [h12, h25, h38, h51]
            rw [hs]
            exact ow_bt
        · refine w_iload_n X dX12_readSign_54 rfl rfl ?_
          refine w_bipush (v := 61) X dX12_readSign_55 (by decide) ?_
          refine w_icmp_eq (tgt := 66) X dX12_readSign_57 (by decide) (fun h57 => ?_) (fun h57 => ?_)
          · refine w_aload_n X dX12_readSign_66 rfl rfl ?_
            refine w_iconst (v := 3) X dX12_readSign_67 (by decide) ?_
            refine w_iload_n X dX12_readSign_68 rfl rfl ?_
            refine w_v2rV X dX12_readSign_69 k12_between rfl rfl (c12_between G hG _ M n k nd op 3 _ W e h hf hk (by omega)) (Nat.le_of_ble_eq_true rfl) (fun N69 h69 => ?_)
            refine w_goto (tgt := 157) X dX12_readSign_72 (by decide) ?_
            refine w_iconst (v := 1) X dX12_readSign_157 (by decide) ?_
            refine w_zrR X dX12_readSign_158 (by first | exact Or.inl rfl | exact Or.inr rfl) ⟨Or.inr rfl, ?_, ?_⟩
            · have hs : si_ (bf_ M n k) k W e nd op = bt_ 3 (bf_ M n k) k W e nd op := by unfold si_; simp [h12, h25, h38, h51, h57]
              rw [hs]
              exact h69
            · have hs : si_ (bf_ M n k) k W e nd op = bt_ 3 (bf_ M n k) k W e nd op := by unfold si_; simp [h12, h25, h38, h51, h57]
              rw [hs]
              exact ow_bt
          · refine w_iload_n X dX12_readSign_60 rfl rfl ?_
            refine w_bipush (v := 62) X dX12_readSign_61 (by decide) ?_
            refine w_icmp_ne (tgt := 75) X dX12_readSign_63 (by decide) (fun h63 => ?_) (fun h63 => ?_)
            · refine w_iload_n X dX12_readSign_75 rfl rfl ?_
              refine w_bipush (v := 43) X dX12_readSign_76 (by decide) ?_
              refine w_icmp_eq (tgt := 87) X dX12_readSign_78 (by decide) (fun h78 => ?_) (fun h78 => ?_)
              · refine w_aload_n X dX12_readSign_87 rfl rfl ?_
                refine w_iconst (v := 4) X dX12_readSign_88 (by decide) ?_
                refine w_iload_n X dX12_readSign_89 rfl rfl ?_
                refine w_v2rV X dX12_readSign_90 k12_between rfl rfl (c12_between G hG _ M n k nd op 4 _ W e h hf hk (by omega)) (Nat.le_of_ble_eq_true rfl) (fun N90 h90 => ?_)
                refine w_goto (tgt := 157) X dX12_readSign_93 (by decide) ?_
                refine w_iconst (v := 1) X dX12_readSign_157 (by decide) ?_
                refine w_zrR X dX12_readSign_158 (by first | exact Or.inl rfl | exact Or.inr rfl) ⟨Or.inr rfl, ?_, ?_⟩
                · have hs : si_ (bf_ M n k) k W e nd op = bt_ 4 (bf_ M n k) k W e nd op := by unfold si_; simp [h12, h25, h38, h51, h57, h63, h78]
                  rw [hs]
                  exact h90
                · have hs : si_ (bf_ M n k) k W e nd op = bt_ 4 (bf_ M n k) k W e nd op := by unfold si_; simp [h12, h25, h38, h51, h57, h63, h78]
                  rw [hs]
                  exact ow_bt
              · refine w_iload_n X dX12_readSign_81 rfl rfl ?_
                refine w_bipush (v := 45) X dX12_readSign_82 (by decide) ?_
                refine w_icmp_ne (tgt := 96) X dX12_readSign_84 (by decide) (fun h84 => ?_) (fun h84 => ?_)
                · refine w_iload_n X dX12_readSign_96 rfl rfl ?_
                  refine w_bipush (v := 42) X dX12_readSign_97 (by decide) ?_
                  refine w_icmp_eq (tgt := 114) X dX12_readSign_99 (by decide) (fun h99 => ?_) (fun h99 => ?_)
                  · refine w_aload_n X dX12_readSign_114 rfl rfl ?_
                    refine w_iconst (v := 5) X dX12_readSign_115 (by decide) ?_
                    refine w_iload_n X dX12_readSign_116 rfl rfl ?_
                    refine w_v2rV X dX12_readSign_117 k12_between rfl rfl (c12_between G hG _ M n k nd op 5 _ W e h hf hk (by omega)) (Nat.le_of_ble_eq_true rfl) (fun N117 h117 => ?_)
                    refine w_goto (tgt := 157) X dX12_readSign_120 (by decide) ?_
                    refine w_iconst (v := 1) X dX12_readSign_157 (by decide) ?_
                    refine w_zrR X dX12_readSign_158 (by first | exact Or.inl rfl | exact Or.inr rfl) ⟨Or.inr rfl, ?_, ?_⟩
                    · have hs : si_ (bf_ M n k) k W e nd op = bt_ 5 (bf_ M n k) k W e nd op := by unfold si_; simp [h12, h25, h38, h51, h57, h63, h78, h84, h99]
                      rw [hs]
                      exact h117
                    · have hs : si_ (bf_ M n k) k W e nd op = bt_ 5 (bf_ M n k) k W e nd op := by unfold si_; simp [h12, h25, h38, h51, h57, h63, h78, h84, h99]
                      rw [hs]
                      exact ow_bt
                  · refine w_iload_n X dX12_readSign_102 rfl rfl ?_
                    refine w_bipush (v := 47) X dX12_readSign_103 (by decide) ?_
                    refine w_icmp_eq (tgt := 114) X dX12_readSign_105 (by decide) (fun h105 => ?_) (fun h105 => ?_)
                    · refine w_aload_n X dX12_readSign_114 rfl rfl ?_
                      refine w_iconst (v := 5) X dX12_readSign_115 (by decide) ?_
                      refine w_iload_n X dX12_readSign_116 rfl rfl ?_
                      refine w_v2rV X dX12_readSign_117 k12_between rfl rfl (c12_between G hG _ M n k nd op 5 _ W e h hf hk (by omega)) (Nat.le_of_ble_eq_true rfl) (fun N117 h117 => ?_)
                      refine w_goto (tgt := 157) X dX12_readSign_120 (by decide) ?_
                      refine w_iconst (v := 1) X dX12_readSign_157 (by decide) ?_
                      refine w_zrR X dX12_readSign_158 (by first | exact Or.inl rfl | exact Or.inr rfl) ⟨Or.inr rfl, ?_, ?_⟩
                      · have hs : si_ (bf_ M n k) k W e nd op = bt_ 5 (bf_ M n k) k W e nd op := by unfold si_; simp [h12, h25, h38, h51, h57, h63, h78, h84, h99, h105]
                        rw [hs]
                        exact h117
                      · have hs : si_ (bf_ M n k) k W e nd op = bt_ 5 (bf_ M n k) k W e nd op := by unfold si_; simp [h12, h25, h38, h51, h57, h63, h78, h84, h99, h105]
                        rw [hs]
                        exact ow_bt
                    · refine w_iload_n X dX12_readSign_108 rfl rfl ?_
                      refine w_bipush (v := 37) X dX12_readSign_109 (by decide) ?_
                      refine w_icmp_ne (tgt := 123) X dX12_readSign_111 (by decide) (fun h111 => ?_) (fun h111 => ?_)
                      · refine w_iload_n X dX12_readSign_123 rfl rfl ?_
                        refine w_bipush (v := 44) X dX12_readSign_124 (by decide) ?_
                        refine w_icmp_ne (tgt := 136) X dX12_readSign_126 (by decide) (fun h126 => ?_) (fun h126 => ?_)
                        · refine w_iload_n X dX12_readSign_136 rfl rfl ?_
                          refine w_bipush (v := 41) X dX12_readSign_137 (by decide) ?_
                          refine w_icmp_ne (tgt := 148) X dX12_readSign_139 (by decide) (fun h139 => ?_) (fun h139 => ?_)
                          · refine w_aload_n X dX12_readSign_148 rfl rfl ?_
                            refine w_iconst (v := 1) X dX12_readSign_149 (by decide) ?_
                            refine w_aload_n X dX12_readSign_150 rfl rfl ?_
                            refine g12_at X dX12_readSign_151 ?_
                            try simp only [gI_sI, gI_sL, gL_sI, gL_sL, false_and, and_false, and_self, if_false, if_true, reduceIte, Nat.reduceEqDiff, h5]
                            refine w_v2fV X dX12_readSign_154 k12_fail rfl rfl (c12_fail G hG _ _ _ _) (Nat.le_of_ble_eq_true rfl) ?_
                            refine w_iconst (v := 1) X dX12_readSign_157 (by decide) ?_
                            refine w_zrR X dX12_readSign_158 (by first | exact Or.inl rfl | exact Or.inr rfl) ⟨Or.inr rfl, ?_, ?_⟩
                            · have hs : si_ (bf_ M n k) k W e nd op = .inr (1, k) := by unfold si_; simp [h12, h25, h38, h51, h57, h63, h78, h84, h99, h105, h111, h126, h139]
                              rw [hs]
                              exact px_fa (pf_rf M) hf
                            · have hs : si_ (bf_ M n k) k W e nd op = .inr (1, k) := by unfold si_; simp [h12, h25, h38, h51, h57, h63, h78, h84, h99, h105, h111, h126, h139]
                              rw [hs]
                              exact trivial
                          · refine w_aload_n X dX12_readSign_142 rfl rfl ?_
                            refine w_v0rV X dX12_readSign_143 k12_close rfl rfl (c12_close G hG _ M n k nd op W e h hf hk) (Nat.le_of_ble_eq_true rfl) (fun N143 h143 => ?_)
                            refine w_iconst (v := 0) X dX12_readSign_146 (by decide) ?_
                            refine w_zrR X dX12_readSign_147 (by first | exact Or.inl rfl | exact Or.inr rfl) ⟨Or.inl rfl, ?_, ?_⟩
                            · have hs : si_ (bf_ M n k) k W e nd op = cz_ k W e nd op := by unfold si_; simp [h12, h25, h38, h51, h57, h63, h78, h84, h99, h105, h111, h126, h139]
                              rw [hs]
                              exact h143
                            · have hs : si_ (bf_ M n k) k W e nd op = cz_ k W e nd op := by unfold si_; simp [h12, h25, h38, h51, h57, h63, h78, h84, h99, h105, h111, h126, h139]
                              rw [hs]
                              exact ow_cz
                        · refine w_aload_n X dX12_readSign_129 rfl rfl ?_
                          refine w_v0rV X dX12_readSign_130 k12_comma rfl rfl (c12_comma G hG _ M n k nd op W e h hf hk) (Nat.le_of_ble_eq_true rfl) (fun N130 h130 => ?_)
                          refine w_goto (tgt := 157) X dX12_readSign_133 (by decide) ?_
                          refine w_iconst (v := 1) X dX12_readSign_157 (by decide) ?_
                          refine w_zrR X dX12_readSign_158 (by first | exact Or.inl rfl | exact Or.inr rfl) ⟨Or.inr rfl, ?_, ?_⟩
                          · have hs : si_ (bf_ M n k) k W e nd op = cm2_ k W e nd op := by unfold si_; simp [h12, h25, h38, h51, h57, h63, h78, h84, h99, h105, h111, h126]
                            rw [hs]
                            exact h130
                          · have hs : si_ (bf_ M n k) k W e nd op = cm2_ k W e nd op := by unfold si_; simp [h12, h25, h38, h51, h57, h63, h78, h84, h99, h105, h111, h126]
                            rw [hs]
                            exact ow_cm
                      · refine w_aload_n X dX12_readSign_114 rfl rfl ?_
                        refine w_iconst (v := 5) X dX12_readSign_115 (by decide) ?_
                        refine w_iload_n X dX12_readSign_116 rfl rfl ?_
                        refine w_v2rV X dX12_readSign_117 k12_between rfl rfl (c12_between G hG _ M n k nd op 5 _ W e h hf hk (by omega)) (Nat.le_of_ble_eq_true rfl) (fun N117 h117 => ?_)
                        refine w_goto (tgt := 157) X dX12_readSign_120 (by decide) ?_
                        refine w_iconst (v := 1) X dX12_readSign_157 (by decide) ?_
                        refine w_zrR X dX12_readSign_158 (by first | exact Or.inl rfl | exact Or.inr rfl) ⟨Or.inr rfl, ?_, ?_⟩
                        · have hs : si_ (bf_ M n k) k W e nd op = bt_ 5 (bf_ M n k) k W e nd op := by unfold si_; simp [h12, h25, h38, h51, h57, h63, h78, h84, h99, h105, h111]
                          rw [hs]
                          exact h117
                        · have hs : si_ (bf_ M n k) k W e nd op = bt_ 5 (bf_ M n k) k W e nd op := by unfold si_; simp [h12, h25, h38, h51, h57, h63, h78, h84, h99, h105, h111]
                          rw [hs]
                          exact ow_bt
                · refine w_aload_n X dX12_readSign_87 rfl rfl ?_
                  refine w_iconst (v := 4) X dX12_readSign_88 (by decide) ?_
                  refine w_iload_n X dX12_readSign_89 rfl rfl ?_
                  refine w_v2rV X dX12_readSign_90 k12_between rfl rfl (c12_between G hG _ M n k nd op 4 _ W e h hf hk (by omega)) (Nat.le_of_ble_eq_true rfl) (fun N90 h90 => ?_)
                  refine w_goto (tgt := 157) X dX12_readSign_93 (by decide) ?_
                  refine w_iconst (v := 1) X dX12_readSign_157 (by decide) ?_
                  refine w_zrR X dX12_readSign_158 (by first | exact Or.inl rfl | exact Or.inr rfl) ⟨Or.inr rfl, ?_, ?_⟩
                  · have hs : si_ (bf_ M n k) k W e nd op = bt_ 4 (bf_ M n k) k W e nd op := by unfold si_; simp [h12, h25, h38, h51, h57, h63, h78, h84]
                    rw [hs]
                    exact h90
                  · have hs : si_ (bf_ M n k) k W e nd op = bt_ 4 (bf_ M n k) k W e nd op := by unfold si_; simp [h12, h25, h38, h51, h57, h63, h78, h84]
                    rw [hs]
                    exact ow_bt
            · refine w_aload_n X dX12_readSign_66 rfl rfl ?_
              refine w_iconst (v := 3) X dX12_readSign_67 (by decide) ?_
              refine w_iload_n X dX12_readSign_68 rfl rfl ?_
              refine w_v2rV X dX12_readSign_69 k12_between rfl rfl (c12_between G hG _ M n k nd op 3 _ W e h hf hk (by omega)) (Nat.le_of_ble_eq_true rfl) (fun N69 h69 => ?_)
              refine w_goto (tgt := 157) X dX12_readSign_72 (by decide) ?_
              refine w_iconst (v := 1) X dX12_readSign_157 (by decide) ?_
              refine w_zrR X dX12_readSign_158 (by first | exact Or.inl rfl | exact Or.inr rfl) ⟨Or.inr rfl, ?_, ?_⟩
              · have hs : si_ (bf_ M n k) k W e nd op = bt_ 3 (bf_ M n k) k W e nd op := by unfold si_; simp [h12, h25, h38, h51, h57, h63]
                rw [hs]
                exact h69
              · have hs : si_ (bf_ M n k) k W e nd op = bt_ 3 (bf_ M n k) k W e nd op := by unfold si_; simp [h12, h25, h38, h51, h57, h63]
                rw [hs]
                exact ow_bt
      · refine w_aload_n X dX12_readSign_41 rfl rfl ?_
        refine w_v0rV X dX12_readSign_42 k12_colon rfl rfl (c12_colon G hG _ M n k nd op W e h hf hk) (Nat.le_of_ble_eq_true rfl) (fun N42 h42 => ?_)
        refine w_goto (tgt := 157) X dX12_readSign_45 (by decide) ?_
        refine w_iconst (v := 1) X dX12_readSign_157 (by decide) ?_
        refine w_zrR X dX12_readSign_158 (by first | exact Or.inl rfl | exact Or.inr rfl) ⟨Or.inr rfl, ?_, ?_⟩
        · have hs : si_ (bf_ M n k) k W e nd op = cl_ k W e nd op := by unfold si_; simp [h12, h25, h38]
          rw [hs]
          exact h42
        · have hs : si_ (bf_ M n k) k W e nd op = cl_ k W e nd op := by unfold si_; simp [h12, h25, h38]
          rw [hs]
          exact ow_cl
    · refine w_aload_n X dX12_readSign_28 rfl rfl ?_
      refine w_v0rV X dX12_readSign_29 k12_question rfl rfl (c12_question G hG _ M n k nd op W e h hf hk) (Nat.le_of_ble_eq_true rfl) (fun N29 h29 => ?_)
      refine w_goto (tgt := 157) X dX12_readSign_32 (by decide) ?_
      refine w_iconst (v := 1) X dX12_readSign_157 (by decide) ?_
      refine w_zrR X dX12_readSign_158 (by first | exact Or.inl rfl | exact Or.inr rfl) ⟨Or.inr rfl, ?_, ?_⟩
      · have hs : si_ (bf_ M n k) k W e nd op = qu_ k W e nd op := by unfold si_; simp [h12, h25]
        rw [hs]
        exact h29
      · have hs : si_ (bf_ M n k) k W e nd op = qu_ k W e nd op := by unfold si_; simp [h12, h25]
        rw [hs]
        exact ow_qu
  · refine w_aload_n X dX12_readSign_15 rfl rfl ?_
    refine w_v0rV X dX12_readSign_16 k12_hash rfl rfl (c12_hash G hG _ M n k nd op W e h hf hk) (Nat.le_of_ble_eq_true rfl) (fun N16 h16 => ?_)
    refine w_goto (tgt := 157) X dX12_readSign_19 (by decide) ?_
    refine w_iconst (v := 1) X dX12_readSign_157 (by decide) ?_
    refine w_zrR X dX12_readSign_158 (by first | exact Or.inl rfl | exact Or.inr rfl) ⟨Or.inr rfl, ?_, ?_⟩
    · have hs : si_ (bf_ M n k) k W e nd op = ha_ k W e nd op := by unfold si_; simp [h12]
      rw [hs]
      exact h16
    · have hs : si_ (bf_ M n k) k W e nd op = ha_ k W e nd op := by unfold si_; simp [h12]
      rw [hs]
      exact ow_ha
