/-! Machine: keep -/
def keX_ (M : mm_) (q : Nat) (n m p : Int32) : mm_ := if p = 0 ∨ ¬ rF_ M 245 = 0 then M else rE_ (rP_ (rP_ (rP_ (rP_ (rP_ (rP_ (rP_ M 245 280 0 n) 245 280 1 m) 245 280 2 (M.1 q 0)) 245 280 3 (M.1 q 1)) 245 280 4 (M.1 q 2)) 245 280 5 (if p = 2 then 1 else 0)) 245 280 6 (if p = 2 then M.1 q 4 else M.1 q 3)) 245
theorem fyX_ke {r q : Nat} {M : mm_} {n m p : Int32} : fyX_ r M (keX_ M q n m p) := by
  have hk : 245 = 243 ∨ 245 = 245 := Or.inr rfl
  unfold keX_; split
  · exact fyX_rf
  · exact fyX_tr (fyX_tr (fyX_tr (fyX_tr (fyX_tr (fyX_tr (fyX_tr (fyX_rP hk) (fyX_rP hk)) (fyX_rP hk)) (fyX_rP hk)) (fyX_rP hk)) (fyX_rP hk)) (fyX_rP hk)) (fyX_rE hk)
theorem keX_o {a i q : Nat} {M : mm_} {n m p : Int32} (h1 : ¬ a = 245) (h2 : ¬ a = 246) : (keX_ M q n m p).1 a i = M.1 a i := by
  unfold keX_; split
  · rfl
  · rw [rE_o h1, rP_o h2, rP_o h2, rP_o h2, rP_o h2, rP_o h2, rP_o h2, rP_o h2]
set_option maxRecDepth 100000 in
set_option maxHeartbeats 600000 in
theorem c4_keep (G : gg_) (hG : gd_ G) (d : Nat) (M : mm_) (q : Nat) (hq2 : q < 12) (n m p : Int32) : cm_ G yX4_keep cX4_keep 6 none (d + 1) [.ref (G.1 247), .int n, .int m, .int p, .ref (G.1 (249 + q))] M (fV_ (keX_ M (249 + q) n m p)) := by
  refine cm_of hG (by decide) (Nat.le_of_ble_eq_true rfl) (fun C X => ?_)
  have hq : ¬ 249 + q = 245 + 1 := by omega
  refine w_iload_n X dX4_keep_0 rfl rfl ?_
  refine w_if_eq (tgt := 14) X dX4_keep_1 (by decide) (fun h1 => ?_) (fun h1 => ?_)
  · refine w_vrF X dX4_keep_14 ?_
    unfold keX_
    rw [if_pos (Or.inl h1)]
  · refine w_aload_n X dX4_keep_4 rfl rfl ?_
    refine g4_23 X dX4_keep_5 s_247 rfl ?_
    refine w_v0fI X dX4_keep_8 k4_181 rfl s_245 (c8_isFull G hG _ _ 245 280 rw_kept) (Nat.le_of_ble_eq_true rfl) ?_
    refine w_if_eq (tgt := 15) X dX4_keep_11 (by decide) (fun h11 => ?_) (fun h11 => ?_)
    · refine w_aload_n X dX4_keep_15 rfl rfl ?_
      refine g4_23 X dX4_keep_16 s_247 rfl ?_
      refine w_iconst (v := 0) X dX4_keep_19 (by decide) ?_
      refine w_iload_n X dX4_keep_20 rfl rfl ?_
      refine w_v2fV X dX4_keep_21 k4_187 rfl s_245 (c8_put G hG _ _ 245 280 rw_kept _ _) (Nat.le_of_ble_eq_true rfl) ?_
      refine w_aload_n X dX4_keep_24 rfl rfl ?_
      refine g4_23 X dX4_keep_25 s_247 rfl ?_
      refine w_iconst (v := 1) X dX4_keep_28 (by decide) ?_
      refine w_iload_n X dX4_keep_29 rfl rfl ?_
      refine w_v2fV X dX4_keep_30 k4_187 rfl s_245 (c8_put G hG _ _ 245 280 rw_kept _ _) (Nat.le_of_ble_eq_true rfl) ?_
      refine w_iconst (v := 0) X dX4_keep_33 (by decide) ?_
      refine w_istore X dX4_keep_34 (by decide) ?_
      refine w_iload X dX4_keep_36 rfl ?_
      refine w_iconst (v := 3) X dX4_keep_38 (by decide) ?_
      refine w_icmp_ge (tgt := 64) X dX4_keep_39 (by decide) (fun h39 => absurd h39 (by decide)) (fun h39 => ?_)
      refine w_aload_n X dX4_keep_42 rfl rfl ?_
      refine g4_23 X dX4_keep_43 s_247 rfl ?_
      refine w_iconst (v := 2) X dX4_keep_46 (by decide) ?_
      refine w_iload X dX4_keep_47 rfl ?_
      refine w_iadd X dX4_keep_49 ?_
      refine w_aload X dX4_keep_50 rfl ?_
      refine w_iload X dX4_keep_52 rfl ?_
      refine w_ialoadN X dX4_keep_54 (vr_row q hq2) rfl (⟨by decide, by decide⟩) ?_
      refine w_v2fV X dX4_keep_55 k4_187 rfl s_245 (c8_put G hG _ _ 245 280 rw_kept _ _) (Nat.le_of_ble_eq_true rfl) ?_
      refine w_iinc (v := 1) X dX4_keep_58 rfl (by decide) (by decide) ?_
      refine w_goto (tgt := 36) X dX4_keep_61 (by decide) ?_
      refine w_iload X dX4_keep_36 rfl ?_
      refine w_iconst (v := 3) X dX4_keep_38 (by decide) ?_
      refine w_icmp_ge (tgt := 64) X dX4_keep_39 (by decide) (fun h39 => absurd h39 (by decide)) (fun h39 => ?_)
      refine w_aload_n X dX4_keep_42 rfl rfl ?_
      refine g4_23 X dX4_keep_43 s_247 rfl ?_
      refine w_iconst (v := 2) X dX4_keep_46 (by decide) ?_
      refine w_iload X dX4_keep_47 rfl ?_
      refine w_iadd X dX4_keep_49 ?_
      refine w_aload X dX4_keep_50 rfl ?_
      refine w_iload X dX4_keep_52 rfl ?_
      rw [show (0 : Int32) + 1 = nI 1 from rfl]
      refine w_ialoadN X dX4_keep_54 (vr_row q hq2) rfl (⟨by decide, by decide⟩) ?_
      refine w_v2fV X dX4_keep_55 k4_187 rfl s_245 (c8_put G hG _ _ 245 280 rw_kept _ _) (Nat.le_of_ble_eq_true rfl) ?_
      refine w_iinc (v := 1) X dX4_keep_58 rfl (by decide) (by decide) ?_
      refine w_goto (tgt := 36) X dX4_keep_61 (by decide) ?_
      refine w_iload X dX4_keep_36 rfl ?_
      refine w_iconst (v := 3) X dX4_keep_38 (by decide) ?_
      refine w_icmp_ge (tgt := 64) X dX4_keep_39 (by decide) (fun h39 => absurd h39 (by decide)) (fun h39 => ?_)
      refine w_aload_n X dX4_keep_42 rfl rfl ?_
      refine g4_23 X dX4_keep_43 s_247 rfl ?_
      refine w_iconst (v := 2) X dX4_keep_46 (by decide) ?_
      refine w_iload X dX4_keep_47 rfl ?_
      refine w_iadd X dX4_keep_49 ?_
      refine w_aload X dX4_keep_50 rfl ?_
      refine w_iload X dX4_keep_52 rfl ?_
      rw [show nI 1 + 1 = nI 2 from rfl]
      refine w_ialoadN X dX4_keep_54 (vr_row q hq2) rfl (⟨by decide, by decide⟩) ?_
      refine w_v2fV X dX4_keep_55 k4_187 rfl s_245 (c8_put G hG _ _ 245 280 rw_kept _ _) (Nat.le_of_ble_eq_true rfl) ?_
      refine w_iinc (v := 1) X dX4_keep_58 rfl (by decide) (by decide) ?_
      refine w_goto (tgt := 36) X dX4_keep_61 (by decide) ?_
      refine w_iload X dX4_keep_36 rfl ?_
      refine w_iconst (v := 3) X dX4_keep_38 (by decide) ?_
      refine w_icmp_ge (tgt := 64) X dX4_keep_39 (by decide) (fun h39 => ?_) (fun h39 => absurd ((by decide)) h39)
      refine w_aload_n X dX4_keep_64 rfl rfl ?_
      refine g4_23 X dX4_keep_65 s_247 rfl ?_
      refine w_iconst (v := 5) X dX4_keep_68 (by decide) ?_
      refine w_iload_n X dX4_keep_69 rfl rfl ?_
      refine w_iconst (v := 2) X dX4_keep_70 (by decide) ?_
      refine w_icmp_ne (tgt := 78) X dX4_keep_71 (by decide) (fun h71 => ?_) (fun h71 => ?_)
      · refine w_iconst (v := 0) X dX4_keep_78 (by decide) ?_
        refine w_v2fV X dX4_keep_79 k4_187 rfl s_245 (c8_put G hG _ _ 245 280 rw_kept _ _) (Nat.le_of_ble_eq_true rfl) ?_
        refine w_aload_n X dX4_keep_82 rfl rfl ?_
        refine g4_23 X dX4_keep_83 s_247 rfl ?_
        refine w_bipush (v := 6) X dX4_keep_86 (by decide) ?_
        refine w_aload X dX4_keep_88 rfl ?_
        refine w_iload_n X dX4_keep_90 rfl rfl ?_
        refine w_iconst (v := 2) X dX4_keep_91 (by decide) ?_
        refine w_icmp_ne (tgt := 99) X dX4_keep_92 (by decide) (fun h92 => ?_) (fun h92 => absurd h92 h71)
        refine w_iconst (v := 3) X dX4_keep_99 (by decide) ?_
        refine w_ialoadN X dX4_keep_100 (vr_row q hq2) rfl (⟨by decide, by decide⟩) ?_
        refine w_v2fV X dX4_keep_101 k4_187 rfl s_245 (c8_put G hG _ _ 245 280 rw_kept _ _) (Nat.le_of_ble_eq_true rfl) ?_
        refine w_aload_n X dX4_keep_104 rfl rfl ?_
        refine g4_23 X dX4_keep_105 s_247 rfl ?_
        refine w_v0fV X dX4_keep_108 k4_191 rfl s_245 (c8_endRow G hG _ _ 245 280 rw_kept) (Nat.le_of_ble_eq_true rfl) ?_
        refine w_vrF X dX4_keep_111 ?_
        unfold keX_
        rw [if_neg (fun z => z.elim h1 (fun y => y h11)), if_neg h71, if_neg h71]
        simp only [rP_o hq]
        rfl
      · refine w_iconst (v := 1) X dX4_keep_74 (by decide) ?_
        refine w_goto (tgt := 79) X dX4_keep_75 (by decide) ?_
        refine w_v2fV X dX4_keep_79 k4_187 rfl s_245 (c8_put G hG _ _ 245 280 rw_kept _ _) (Nat.le_of_ble_eq_true rfl) ?_
        refine w_aload_n X dX4_keep_82 rfl rfl ?_
        refine g4_23 X dX4_keep_83 s_247 rfl ?_
        refine w_bipush (v := 6) X dX4_keep_86 (by decide) ?_
        refine w_aload X dX4_keep_88 rfl ?_
        refine w_iload_n X dX4_keep_90 rfl rfl ?_
        refine w_iconst (v := 2) X dX4_keep_91 (by decide) ?_
        refine w_icmp_ne (tgt := 99) X dX4_keep_92 (by decide) (fun h92 => absurd h71 h92) (fun h92 => ?_)
        refine w_iconst (v := 4) X dX4_keep_95 (by decide) ?_
        refine w_goto (tgt := 100) X dX4_keep_96 (by decide) ?_
        refine w_ialoadN X dX4_keep_100 (vr_row q hq2) rfl (⟨by decide, by decide⟩) ?_
        refine w_v2fV X dX4_keep_101 k4_187 rfl s_245 (c8_put G hG _ _ 245 280 rw_kept _ _) (Nat.le_of_ble_eq_true rfl) ?_
        refine w_aload_n X dX4_keep_104 rfl rfl ?_
        refine g4_23 X dX4_keep_105 s_247 rfl ?_
        refine w_v0fV X dX4_keep_108 k4_191 rfl s_245 (c8_endRow G hG _ _ 245 280 rw_kept) (Nat.le_of_ble_eq_true rfl) ?_
        refine w_vrF X dX4_keep_111 ?_
        unfold keX_
        rw [if_neg (fun z => z.elim h1 (fun y => y h11)), if_pos h71, if_pos h71]
        simp only [rP_o hq]
        rfl
    · refine w_vrF X dX4_keep_14 ?_
      unfold keX_
      rw [if_pos (Or.inr h11)]
