/-! Machine: keep -/
def keX_ (M : mm_) (q : Nat) (n m p : Int32) : mm_ := if p = 0 ∨ ¬ rF_ M 245 = 0 then M else rE_ (rP_ (rP_ (rP_ (rP_ (rP_ (rP_ (rP_ M 245 280 0 n) 245 280 1 m) 245 280 2 (M.1 q 0)) 245 280 3 (M.1 q 1)) 245 280 4 (M.1 q 2)) 245 280 5 (if p = 2 then 1 else 0)) 245 280 6 (if p = 2 then M.1 q 4 else M.1 q 3)) 245
theorem rP_at {M : mm_} {z j : Nat} {v : Int32} (h1 : M.1 245 1 = 7) (h3 : M.1 245 3 = nI z) (hz : z < 40) (hj : j < 7) : rP_ M 245 280 (nI j) v = sI_ M 246 (7 * z + j) v := by
  have e : M.1 245 3 * M.1 245 1 + nI j = nI (7 * z + j) := by rw [h1, h3, show (7 : Int32) = nI 7 from rfl, pk_mul, nI_add, Nat.mul_comm z 7]
  unfold rP_
  rw [e, if_pos ⟨nI_le (a := 0) (b := 7 * z + j) (by omega) (by omega), nI_lt (a := 7 * z + j) (b := 280) (by omega) (by omega)⟩, nI_clamp (by omega)]
theorem ke_kp {M : mm_} {q c m : Nat} {n p : Int32} (hc : mt_ M c) (hm : m < c) (h : kpX_ M) : kpX_ (keX_ M q n (nI m) p) := by
  unfold keX_
  split
  · exact h
  rename_i hp
  obtain ⟨c2, a1, a2, a3, z, a4, a5, a6⟩ := h
  obtain rfl : c2 = c := (nI_eq (by have := a1.1; omega) (by have := hc.1; omega)).mp (a1.2.symm.trans hc.2)
  have hF : rF_ M 245 = 0 := Decidable.not_not.mp (fun y => hp (Or.inr y))
  have hz : z < 40 := by
    unfold rF_ at hF
    by_cases y : M.1 245 3 < M.1 245 0
    · rw [a5, a2] at y; exact (nI_ltI (a := z) (b := 40) (by omega) (by decide)).mp y
    · rw [if_neg y] at hF; exact absurd hF (by decide)
  have st : ∀ (A : mm_) (j : Nat) (v : Int32), A.1 245 1 = 7 → A.1 245 3 = nI z → j < 7 → (rP_ A 245 280 (nI j) v).1 245 = A.1 245 ∧ rP_ A 245 280 (nI j) v = sI_ A 246 (7 * z + j) v := fun A j v b1 b2 b3 => by
    have e := rP_at (v := v) b1 b2 hz b3
    exact ⟨by rw [e]; funext i; rw [gI_sI, if_neg (by omega)], e⟩
  obtain ⟨e0, f0⟩ := st M 0 n a3 a5 (by decide)
  have g0 := a3; have k0 := a5
  rw [← e0] at g0 k0
  generalize hA0 : rP_ M 245 280 0 n = A0
  rw [show rP_ M 245 280 (nI 0) n = A0 from hA0] at g0 k0 f0 e0
  obtain ⟨e1, f1⟩ := st A0 1 (nI m) g0 k0 (by decide)
  rw [← e1] at g0 k0
  generalize hA1 : rP_ A0 245 280 1 (nI m) = A1
  rw [show rP_ A0 245 280 (nI 1) (nI m) = A1 from hA1] at g0 k0 f1 e1
  generalize M.1 q 0 = v2; generalize M.1 q 1 = v3; generalize M.1 q 2 = v4
  generalize (if p = 2 then (1 : Int32) else 0) = v5; generalize (if p = 2 then M.1 q 4 else M.1 q 3) = v6
  obtain ⟨e2, f2⟩ := st A1 2 v2 g0 k0 (by decide)
  rw [← e2] at g0 k0
  generalize hA2 : rP_ A1 245 280 2 v2 = A2
  rw [show rP_ A1 245 280 (nI 2) v2 = A2 from hA2] at g0 k0 f2 e2
  obtain ⟨e3, f3⟩ := st A2 3 v3 g0 k0 (by decide)
  rw [← e3] at g0 k0
  generalize hA3 : rP_ A2 245 280 3 v3 = A3
  rw [show rP_ A2 245 280 (nI 3) v3 = A3 from hA3] at g0 k0 f3 e3
  obtain ⟨e4, f4⟩ := st A3 4 v4 g0 k0 (by decide)
  rw [← e4] at g0 k0
  generalize hA4 : rP_ A3 245 280 4 v4 = A4
  rw [show rP_ A3 245 280 (nI 4) v4 = A4 from hA4] at g0 k0 f4 e4
  obtain ⟨e5, f5⟩ := st A4 5 v5 g0 k0 (by decide)
  rw [← e5] at g0 k0
  generalize hA5 : rP_ A4 245 280 5 v5 = A5
  rw [show rP_ A4 245 280 (nI 5) v5 = A5 from hA5] at g0 k0 f5 e5
  obtain ⟨e6, f6⟩ := st A5 6 v6 g0 k0 (by decide)
  rw [← e6] at g0 k0
  generalize hA6 : rP_ A5 245 280 6 v6 = A6
  rw [show rP_ A5 245 280 (nI 6) v6 = A6 from hA6] at g0 k0 f6 e6
  have h0 : A6.1 245 0 = 40 := by rw [e6, e5, e4, e3, e2, e1, e0]; exact a2
  have h45 : A6.1 45 2 = M.1 45 2 := by
    rw [f6, gI_sI, if_neg (by omega), f5, gI_sI, if_neg (by omega), f4, gI_sI, if_neg (by omega), f3, gI_sI, if_neg (by omega), f2, gI_sI, if_neg (by omega), f1, gI_sI, if_neg (by omega), f0, gI_sI, if_neg (by omega)]
  have hE : rE_ A6 245 = sI_ A6 245 3 (nI (z + 1)) := by
    unfold rE_
    rw [h0, k0, if_neg (show ¬ (40 : Int32) ≤ nI z from fun y => absurd y (Int32.not_le.mpr (nI_lt (a := z) (b := 40) hz (by decide)))), nI_1]
  rw [hE]
  refine ⟨c2, ⟨hc.1, by rw [gI_sI, if_neg (by omega), h45]; exact hc.2⟩, by rw [gI_sI, if_neg (by omega)]; exact h0, by rw [gI_sI, if_neg (by omega)]; exact g0, z + 1, by omega, by rw [gI_sI, if_pos ⟨rfl, rfl⟩], fun i hi => ?_⟩
  rw [gI_sI, if_neg (by omega)]
  by_cases hiz : i = z
  · subst hiz
    refine ⟨m, hm, ?_⟩
    rw [f6, gI_sI, if_neg (by omega), f5, gI_sI, if_neg (by omega), f4, gI_sI, if_neg (by omega), f3, gI_sI, if_neg (by omega), f2, gI_sI, if_neg (by omega), f1, gI_sI, if_pos ⟨rfl, rfl⟩]
  · obtain ⟨m2, b1, b2⟩ := a6 i (by omega)
    refine ⟨m2, b1, ?_⟩
    rw [f6, gI_sI, if_neg (by omega), f5, gI_sI, if_neg (by omega), f4, gI_sI, if_neg (by omega), f3, gI_sI, if_neg (by omega), f2, gI_sI, if_neg (by omega), f1, gI_sI, if_neg (by omega), f0, gI_sI, if_neg (by omega)]
    exact b2
theorem keX_o {a i q : Nat} {M : mm_} {n m p : Int32} (h1 : ¬ a = 245) (h2 : ¬ a = 246) : (keX_ M q n m p).1 a i = M.1 a i := by
  unfold keX_; split
  · rfl
  · rw [rE_o h1, rP_o h2, rP_o h2, rP_o h2, rP_o h2, rP_o h2, rP_o h2, rP_o h2]
theorem rP_R {M : mm_} {k c : Nat} {x v : Int32} : (rP_ M k c x v).2 = M.2 := by unfold rP_; split <;> rfl
theorem rE_R {M : mm_} {k : Nat} : (rE_ M k).2 = M.2 := by unfold rE_; split <;> rfl
theorem keX_R {M : mm_} {q : Nat} {n m p : Int32} : (keX_ M q n m p).2 = M.2 := by
  unfold keX_; split
  · rfl
  · rw [rE_R, rP_R, rP_R, rP_R, rP_R, rP_R, rP_R, rP_R]
theorem fyX_ke {r q c m : Nat} {M : mm_} {n p : Int32} (hc : mt_ M c) (hm : m < c) : fyX_ r M (keX_ M q n (nI m) p) := ⟨⟨keX_R, fun a i z => keX_o (by unfold faX_ at z; omega) (by unfold faX_ at z; omega), fun t ht => Or.inl (keX_o (by omega) (by omega)), ke_kp hc hm⟩, fun q z => keX_o (by omega) (by omega)⟩
set_option maxRecDepth 100000 in
set_option maxHeartbeats 600000 in
theorem c4_keep (G : gg_) (hG : gd_ G) (d : Nat) (M : mm_) (q : Nat) (hq2 : q < 12) (n m p : Int32) : cm_ G yX4_keep cX4_keep 6 none (d + 1) [.ref (G.1 247), .int n, .int m, .int p, .ref (G.1 (249 + q))] M (fV_ (keX_ M (249 + q) n m p)) := by
  refine cm_of hG (by decide) (Nat.le_of_ble_eq_true rfl) (fun C X => ?_)
  have hq : ¬ 249 + q = 245 + 1 := by omega
  refine w_iload_n X dX4_keep_0 rfl rfl ?_
  refine w_if_eq (tgt := 14) X dX4_keep_1 (by decide) (fun h1 => ?_) (fun h1 => ?_)
  · refine w_vrF X dX4_keep_14 ?_
    unfold keX_
    rw [if_pos (Or.inl h1)]
  · refine w_aload_n X dX4_keep_4 rfl rfl ?_
    refine g4_23 X dX4_keep_5 s_247 rfl ?_
    refine w_v0fI X dX4_keep_8 k4_181 rfl s_245 (c8_isFull G hG _ _ 245 280 rw_kept) (Nat.le_of_ble_eq_true rfl) ?_
    refine w_if_eq (tgt := 15) X dX4_keep_11 (by decide) (fun h11 => ?_) (fun h11 => ?_)
    · refine w_aload_n X dX4_keep_15 rfl rfl ?_
      refine g4_23 X dX4_keep_16 s_247 rfl ?_
      refine w_iconst (v := 0) X dX4_keep_19 (by decide) ?_
      refine w_iload_n X dX4_keep_20 rfl rfl ?_
      refine w_v2fV X dX4_keep_21 k4_187 rfl s_245 (c8_put G hG _ _ 245 280 rw_kept _ _) (Nat.le_of_ble_eq_true rfl) ?_
      refine w_aload_n X dX4_keep_24 rfl rfl ?_
      refine g4_23 X dX4_keep_25 s_247 rfl ?_
      refine w_iconst (v := 1) X dX4_keep_28 (by decide) ?_
      refine w_iload_n X dX4_keep_29 rfl rfl ?_
      refine w_v2fV X dX4_keep_30 k4_187 rfl s_245 (c8_put G hG _ _ 245 280 rw_kept _ _) (Nat.le_of_ble_eq_true rfl) ?_
      refine w_iconst (v := 0) X dX4_keep_33 (by decide) ?_
      refine w_istore X dX4_keep_34 (by decide) ?_
      refine w_iload X dX4_keep_36 rfl ?_
      refine w_iconst (v := 3) X dX4_keep_38 (by decide) ?_
      refine w_icmp_ge (tgt := 64) X dX4_keep_39 (by decide) (fun h39 => absurd h39 (by decide)) (fun h39 => ?_)
      refine w_aload_n X dX4_keep_42 rfl rfl ?_
      refine g4_23 X dX4_keep_43 s_247 rfl ?_
      refine w_iconst (v := 2) X dX4_keep_46 (by decide) ?_
      refine w_iload X dX4_keep_47 rfl ?_
      refine w_iadd X dX4_keep_49 ?_
      refine w_aload X dX4_keep_50 rfl ?_
      refine w_iload X dX4_keep_52 rfl ?_
      refine w_ialoadN X dX4_keep_54 (vr_row q hq2) rfl (⟨by decide, by decide⟩) ?_
      refine w_v2fV X dX4_keep_55 k4_187 rfl s_245 (c8_put G hG _ _ 245 280 rw_kept _ _) (Nat.le_of_ble_eq_true rfl) ?_
      refine w_iinc (v := 1) X dX4_keep_58 rfl (by decide) (by decide) ?_
      refine w_goto (tgt := 36) X dX4_keep_61 (by decide) ?_
      refine w_iload X dX4_keep_36 rfl ?_
      refine w_iconst (v := 3) X dX4_keep_38 (by decide) ?_
      refine w_icmp_ge (tgt := 64) X dX4_keep_39 (by decide) (fun h39 => absurd h39 (by decide)) (fun h39 => ?_)
      refine w_aload_n X dX4_keep_42 rfl rfl ?_
      refine g4_23 X dX4_keep_43 s_247 rfl ?_
      refine w_iconst (v := 2) X dX4_keep_46 (by decide) ?_
      refine w_iload X dX4_keep_47 rfl ?_
      refine w_iadd X dX4_keep_49 ?_
      refine w_aload X dX4_keep_50 rfl ?_
      refine w_iload X dX4_keep_52 rfl ?_
      rw [show (0 : Int32) + 1 = nI 1 from rfl]
      refine w_ialoadN X dX4_keep_54 (vr_row q hq2) rfl (⟨by decide, by decide⟩) ?_
      refine w_v2fV X dX4_keep_55 k4_187 rfl s_245 (c8_put G hG _ _ 245 280 rw_kept _ _) (Nat.le_of_ble_eq_true rfl) ?_
      refine w_iinc (v := 1) X dX4_keep_58 rfl (by decide) (by decide) ?_
      refine w_goto (tgt := 36) X dX4_keep_61 (by decide) ?_
      refine w_iload X dX4_keep_36 rfl ?_
      refine w_iconst (v := 3) X dX4_keep_38 (by decide) ?_
      refine w_icmp_ge (tgt := 64) X dX4_keep_39 (by decide) (fun h39 => absurd h39 (by decide)) (fun h39 => ?_)
      refine w_aload_n X dX4_keep_42 rfl rfl ?_
      refine g4_23 X dX4_keep_43 s_247 rfl ?_
      refine w_iconst (v := 2) X dX4_keep_46 (by decide) ?_
      refine w_iload X dX4_keep_47 rfl ?_
      refine w_iadd X dX4_keep_49 ?_
      refine w_aload X dX4_keep_50 rfl ?_
      refine w_iload X dX4_keep_52 rfl ?_
      rw [show nI 1 + 1 = nI 2 from rfl]
      refine w_ialoadN X dX4_keep_54 (vr_row q hq2) rfl (⟨by decide, by decide⟩) ?_
      refine w_v2fV X dX4_keep_55 k4_187 rfl s_245 (c8_put G hG _ _ 245 280 rw_kept _ _) (Nat.le_of_ble_eq_true rfl) ?_
      refine w_iinc (v := 1) X dX4_keep_58 rfl (by decide) (by decide) ?_
      refine w_goto (tgt := 36) X dX4_keep_61 (by decide) ?_
      refine w_iload X dX4_keep_36 rfl ?_
      refine w_iconst (v := 3) X dX4_keep_38 (by decide) ?_
      refine w_icmp_ge (tgt := 64) X dX4_keep_39 (by decide) (fun h39 => ?_) (fun h39 => absurd ((by decide)) h39)
      refine w_aload_n X dX4_keep_64 rfl rfl ?_
      refine g4_23 X dX4_keep_65 s_247 rfl ?_
      refine w_iconst (v := 5) X dX4_keep_68 (by decide) ?_
      refine w_iload_n X dX4_keep_69 rfl rfl ?_
      refine w_iconst (v := 2) X dX4_keep_70 (by decide) ?_
      refine w_icmp_ne (tgt := 78) X dX4_keep_71 (by decide) (fun h71 => ?_) (fun h71 => ?_)
      · refine w_iconst (v := 0) X dX4_keep_78 (by decide) ?_
        refine w_v2fV X dX4_keep_79 k4_187 rfl s_245 (c8_put G hG _ _ 245 280 rw_kept _ _) (Nat.le_of_ble_eq_true rfl) ?_
        refine w_aload_n X dX4_keep_82 rfl rfl ?_
        refine g4_23 X dX4_keep_83 s_247 rfl ?_
        refine w_bipush (v := 6) X dX4_keep_86 (by decide) ?_
        refine w_aload X dX4_keep_88 rfl ?_
        refine w_iload_n X dX4_keep_90 rfl rfl ?_
        refine w_iconst (v := 2) X dX4_keep_91 (by decide) ?_
        refine w_icmp_ne (tgt := 99) X dX4_keep_92 (by decide) (fun h92 => ?_) (fun h92 => absurd h92 h71)
        refine w_iconst (v := 3) X dX4_keep_99 (by decide) ?_
        refine w_ialoadN X dX4_keep_100 (vr_row q hq2) rfl (⟨by decide, by decide⟩) ?_
        refine w_v2fV X dX4_keep_101 k4_187 rfl s_245 (c8_put G hG _ _ 245 280 rw_kept _ _) (Nat.le_of_ble_eq_true rfl) ?_
        refine w_aload_n X dX4_keep_104 rfl rfl ?_
        refine g4_23 X dX4_keep_105 s_247 rfl ?_
        refine w_v0fV X dX4_keep_108 k4_191 rfl s_245 (c8_endRow G hG _ _ 245 280 rw_kept) (Nat.le_of_ble_eq_true rfl) ?_
        refine w_vrF X dX4_keep_111 ?_
        unfold keX_
        rw [if_neg (fun z => z.elim h1 (fun y => y h11)), if_neg h71, if_neg h71]
        simp only [rP_o hq]
        rfl
      · refine w_iconst (v := 1) X dX4_keep_74 (by decide) ?_
        refine w_goto (tgt := 79) X dX4_keep_75 (by decide) ?_
        refine w_v2fV X dX4_keep_79 k4_187 rfl s_245 (c8_put G hG _ _ 245 280 rw_kept _ _) (Nat.le_of_ble_eq_true rfl) ?_
        refine w_aload_n X dX4_keep_82 rfl rfl ?_
        refine g4_23 X dX4_keep_83 s_247 rfl ?_
        refine w_bipush (v := 6) X dX4_keep_86 (by decide) ?_
        refine w_aload X dX4_keep_88 rfl ?_
        refine w_iload_n X dX4_keep_90 rfl rfl ?_
        refine w_iconst (v := 2) X dX4_keep_91 (by decide) ?_
        refine w_icmp_ne (tgt := 99) X dX4_keep_92 (by decide) (fun h92 => absurd h71 h92) (fun h92 => ?_)
        refine w_iconst (v := 4) X dX4_keep_95 (by decide) ?_
        refine w_goto (tgt := 100) X dX4_keep_96 (by decide) ?_
        refine w_ialoadN X dX4_keep_100 (vr_row q hq2) rfl (⟨by decide, by decide⟩) ?_
        refine w_v2fV X dX4_keep_101 k4_187 rfl s_245 (c8_put G hG _ _ 245 280 rw_kept _ _) (Nat.le_of_ble_eq_true rfl) ?_
        refine w_aload_n X dX4_keep_104 rfl rfl ?_
        refine g4_23 X dX4_keep_105 s_247 rfl ?_
        refine w_v0fV X dX4_keep_108 k4_191 rfl s_245 (c8_endRow G hG _ _ 245 280 rw_kept) (Nat.le_of_ble_eq_true rfl) ?_
        refine w_vrF X dX4_keep_111 ?_
        unfold keX_
        rw [if_neg (fun z => z.elim h1 (fun y => y h11)), if_pos h71, if_pos h71]
        simp only [rP_o hq]
        rfl
    · refine w_vrF X dX4_keep_14 ?_
      unfold keX_
      rw [if_pos (Or.inr h11)]
