theorem ig_e {c : Int32} (h : ig_ c = 1) : ∃ e : Nat, e ≤ 9 ∧ c = nI (48 + e) := by
  unfold ig_ at h
  split at h
  · rename_i q
    have h0 : ¬ c < 0 := fun z => by
      have a := Int32.le_iff_toInt_le.mp q.1
      have b := Int32.lt_iff_toInt_lt.mp z
      simp at a b
      omega
    obtain ⟨j, hj, rfl⟩ := nI_of h0
    have a := (nI_leI (a := 48) (by omega) hj).mp q.1
    have b := (nI_leI (b := 57) hj (by omega)).mp q.2
    exact ⟨j - 48, by omega, by rw [show 48 + (j - 48) = j by omega]⟩
  · exact absurd h (by decide)
def dg_ (c : Int32) : Nat := c.toNatClampNeg - 48
theorem dg_nI {e : Nat} (h : e ≤ 9) : dg_ (nI (48 + e)) = e := by unfold dg_; rw [pk_cl (48 + e) rfl (by omega)]; omega
def dn_ (w e : Nat) : Nat := if w * 10 + e ≤ 9999999999 then w * 10 + e else 9999999999
theorem dn_le (w e : Nat) : dn_ w e ≤ 9999999999 := by unfold dn_; split <;> omega
def nv_ (f : Nat → Int32) : Nat → Nat → Nat → Nat × Nat
  | 0, k, w => (k, w)
  | u + 1, k, w => if ig_ (f k) = 1 then nv_ f u (k + 1) (dn_ w (dg_ (f k))) else (k, w)
theorem nv_le (f : Nat → Int32) : ∀ u k w, w ≤ 9999999999 → k ≤ (nv_ f u k w).1 ∧ (nv_ f u k w).1 ≤ k + u ∧ (nv_ f u k w).2 ≤ 9999999999
  | 0, k, w, h => ⟨Nat.le_refl _, Nat.le_refl _, h⟩
  | u + 1, k, w, h => by
    unfold nv_
    split
    · have := nv_le f u (k + 1) (dn_ w (dg_ (f k))) (dn_le _ _); omega
    · simp; exact h
theorem lN_st {w e : Nat} (hw : w ≤ 9999999999) (he : e ≤ 9) : lN w * 10 + (nI (48 + e)).toInt64 - 48 = lN (w * 10 + e) := by
  rw [show (10 : Int64) = lN 10 from rfl, show (48 : Int64) = lN 48 from rfl, lN_mul, nI_l (by omega), lN_add, lN_sub (by omega)]
  congr 1
  omega
def rn2_ (f : Nat → Int32) (n k : Nat) (W : List fr_) (nd op : Nat) : ss_ ⊕ (Int32 × Nat) := if nd = 20 then .inr (3, k) else if 2147483647 < (nv_ f (n - k) k 0).2 then .inr (2, k) else .inl ((nv_ f (n - k) k 0).1, W, some (.int (nI (nv_ f (n - k) k 0).2)), nd + 1, op)
theorem pr_leaf {M N : mm_} {n k k2 nd op : Nat} {W : List fr_} {e : Term} {t : Int32} {v : Int64} (h : pr_ M n k W none nd op) (hn : nd < 20) (he : tc_ e = [(t, v)]) (he2 : nt_ e = 1) (h0 : tz_ N n) (h5 : N.1 0 5 = nI k2) (hc : cd_ N (cs_ W ++ [(t, v)])) (h20 : N.1 0 20 = nI W.length) (hw : wr_ N W) (ho : od_ N (os_ W ++ [(cs_ W).length])) (h13 : N.1 0 13 = nI (nd + 1)) (h23 : N.1 0 23 = nI op) : pr_ N n k2 W (some e) (nd + 1) op := by
  obtain ⟨-, -, -, -, -, -, -, -, a1, a2, a3, a4, -⟩ := h
  refine ⟨h0, h5, by rw [cu_, he]; exact hc, h20, hw, ho, h13, h23, ?_, by omega, a3, a4, ?_⟩
  · simp only [cn_] at a1 ⊢; omega
  · show 1 ≤ nt_ e; omega
set_option maxRecDepth 100000 in
set_option maxHeartbeats 4000000 in
theorem c12_readNumber (G : gg_) (hG : gd_ G) (d : Nat) (M : mm_) (n k nd op : Nat) (W : List fr_) (h : pr_ M n k W none nd op) (hf : M.1 0 3 = 0) (hk : k < 536870912) : cm_ G yX12_readNumber cX12_readNumber 4 none (d + 3) [.ref (G.1 0)] M (rV_ (px_ M n (rn2_ (bf_ M n) n k W nd op))) := by
  refine cm_of hG (by decide) (Nat.le_of_ble_eq_true rfl) (fun C X => ?_)
  have hle := pr_len h
  have hos := pr_os h
  have hh := id h
  obtain ⟨h0, h5, hc, h20, hw, ho, h13, h23, hn1, hn2, hop, hop2, hcq⟩ := hh
  simp only [cu_, List.append_nil, co_] at hc ho hle
  have hn := h0.2
  have h12 := hc.1
  have h22 := ho.1
  by_cases hd20 : nd = 20
  · have e20 : M.1 0 13 = 20 := by rw [h13, hd20]; rfl
    refine w_aload_n X dX12_readNumber_0 rfl rfl ?_
    refine g12_at X dX12_readNumber_1 ?_
    try simp only [gI_sI, gI_sL, gL_sI, gL_sL, false_and, and_false, and_self, if_false, if_true, reduceIte, Nat.reduceEqDiff, h5]
    refine w_istore_n X dX12_readNumber_4 rfl (by decide) ?_
    refine w_aload_n X dX12_readNumber_5 rfl rfl ?_
    refine w_iload_n X dX12_readNumber_6 rfl rfl ?_
    refine w_v1fI X dX12_readNumber_7 k12_count rfl rfl (c12_count G hG _ _ _) (Nat.le_of_ble_eq_true rfl) ?_
    refine w_if_ne (tgt := 14) X dX12_readNumber_10 (by decide) (fun h10 => absurd (if_pos e20) h10) (fun h10 => ?_)
    refine w_vrR X dX12_readNumber_13 ?_
    rw [show rn2_ (bf_ M n) n k W nd op = _ from if_pos hd20, if_pos e20]
    exact px_fa (pf_rf M) hf
  have e20 : ¬ M.1 0 13 = 20 := fun q => hd20 ((nI_eq (b := 20) (by omega) (by omega)).mp (h13.symm.trans q))
  have lp : ∀ (u q w : Nat), u = n - q → q < 1073741824 → w ≤ 9999999999 → nv_ (bf_ M n) (n - k) k 0 = nv_ (bf_ M n) u q w → wq_ C G (qe_ C G (rV_ (px_ M n (rn2_ (bf_ M n) n k W nd op)))) 16 [some (.ref (G.1 0)), some (.int (nI k)), some (.long (lN w)), none] [] (sI_ (sI_ M 0 13 (nI (nd + 1))) 0 5 (nI q)) := by
    intro u
    have j79 : ∀ q w : Nat, q < 1073741824 → w ≤ 9999999999 → nv_ (bf_ M n) (n - k) k 0 = (q, w) → wq_ C G (qe_ C G (rV_ (px_ M n (rn2_ (bf_ M n) n k W nd op)))) 79 [some (.ref (G.1 0)), some (.int (nI k)), some (.long (lN w)), none] [] (sI_ (sI_ M 0 13 (nI (nd + 1))) 0 5 (nI q)) := by
      intro q w hq hw2 hr
      refine w_lload_n X dX12_readNumber_79 rfl rfl ?_
      refine w_ldc2 X dX12_readNumber_80 q12_190 ?_
      refine w_lcmp X dX12_readNumber_83 ?_
      refine w_if_le (tgt := 93) X dX12_readNumber_84 (by decide) (fun h84 => ?_) (fun h84 => ?_)
      · have e84 : ¬ 2147483647 < w := fun z => by
          have q1 := lc_le.mp h84
          have q2 := (pk_lLE (a := w) (b := 2147483647) (by omega) (by omega)).mp q1
          omega
        refine w_aload_n X dX12_readNumber_93 rfl rfl ?_
        refine w_aload_n X dX12_readNumber_94 rfl rfl ?_
        refine g12_length X dX12_readNumber_95 ?_
        try simp only [gI_sI, gI_sL, gL_sI, gL_sL, false_and, and_false, and_self, if_false, if_true, reduceIte, Nat.reduceEqDiff, h12, h22, gI_wa, gL_wa, gI_pu, gL_pu, gI_op, gL_op]
        refine w_v1fV X dX12_readNumber_98 k12_operand rfl rfl (c12_operand G hG _ _ (os_ W).length (by simp [sI_, h22]) (by omega) _) (Nat.le_of_ble_eq_true rfl) ?_
        refine w_aload_n X dX12_readNumber_101 rfl rfl ?_
        refine w_iconst (v := 0) X dX12_readNumber_102 (by decide) ?_
        refine w_lload_n X dX12_readNumber_103 rfl rfl ?_
        refine w_v2fV X dX12_readNumber_104 k12_put rfl rfl (c12_put G hG _ _ (cs_ W).length (by simp [op_, sI_, h12]) (by omega) _ _) (Nat.le_of_ble_eq_true rfl) ?_
        refine w_vrR X dX12_readNumber_107 ?_
        have hbt : rn2_ (bf_ M n) n k W nd op = _ := if_neg hd20
        rw [hr] at hbt
        simp only at hbt
        rw [hbt]
        first
          | (rw [if_pos e84]
             exact ⟨pf_pu (pf_op (pf_f2 (pf_sI (pf_sI (pf_rf M) (by first | omega | exact at5_ (by omega))) (by first | omega | exact at5_ (by omega))))), by simp [pu_, op_, sI_, sL_], by simp [pu_, op_, sI_, sL_]⟩)
          | (rw [if_neg e84]
             refine ⟨pf_pu (pf_op (pf_sI (pf_sI (pf_rf M) (by first | omega | exact at5_ (by omega))) (by first | omega | exact at5_ (by omega)))), pr_leaf (t := 0) (v := lN w) h (by first | omega | exact at5_ (by omega)) (by simp only [tc_]; rw [nI_l (by first | omega | exact at5_ (by omega))]) (by simp [nt_]) (tz_pu (tz_op (tz_sI (tz_sI h0 (by first | omega | exact at5_ (by omega))) (by first | omega | exact at5_ (by omega))))) (by simp [pu_, op_, sI_, sL_]) (cd_pu (cd_op (cd_sI (cd_sI hc (by first | omega | exact at5_ (by omega)) (by first | omega | exact at5_ (by omega))) (by first | omega | exact at5_ (by omega)) (by first | omega | exact at5_ (by omega))))) (by simp [pu_, op_, sI_, sL_, h20]) (wr_pu (wr_op (wr_sI (wr_sI hw (Or.inl (by first | omega | exact at5_ (by omega)))) (Or.inl (by first | omega | exact at5_ (by omega)))))) (od_pu (od_op (od_sI (od_sI (by simpa using ho) (by first | omega | exact at5_ (by omega)) (by first | omega | exact at5_ (by omega))) (by first | omega | exact at5_ (by omega)) (by first | omega | exact at5_ (by omega))))) (by simp [pu_, op_, sI_, sL_]) (by simp [pu_, op_, sI_, sL_, h23]), by simp [pu_, op_, sI_, sL_, hf]⟩)
      · have e84 : 2147483647 < w := Nat.not_le.mp (fun z => h84 (lc_le.mpr ((pk_lLE (a := w) (b := 2147483647) (by omega) (by omega)).mpr z)))
        refine w_aload_n X dX12_readNumber_87 rfl rfl ?_
        refine w_iconst (v := 2) X dX12_readNumber_88 (by decide) ?_
        refine w_iload_n X dX12_readNumber_89 rfl rfl ?_
        refine w_v2fV X dX12_readNumber_90 k12_fail rfl rfl (c12_fail G hG _ _ _ _) (Nat.le_of_ble_eq_true rfl) ?_
        rw [fa_0 (by simp [sI_, hf])]
        refine w_aload_n X dX12_readNumber_93 rfl rfl ?_
        refine w_aload_n X dX12_readNumber_94 rfl rfl ?_
        refine g12_length X dX12_readNumber_95 ?_
        try simp only [gI_sI, gI_sL, gL_sI, gL_sL, false_and, and_false, and_self, if_false, if_true, reduceIte, Nat.reduceEqDiff, h12, h22, gI_wa, gL_wa, gI_pu, gL_pu, gI_op, gL_op]
        refine w_v1fV X dX12_readNumber_98 k12_operand rfl rfl (c12_operand G hG _ _ (os_ W).length (by simp [sI_, h22]) (by omega) _) (Nat.le_of_ble_eq_true rfl) ?_
        refine w_aload_n X dX12_readNumber_101 rfl rfl ?_
        refine w_iconst (v := 0) X dX12_readNumber_102 (by decide) ?_
        refine w_lload_n X dX12_readNumber_103 rfl rfl ?_
        refine w_v2fV X dX12_readNumber_104 k12_put rfl rfl (c12_put G hG _ _ (cs_ W).length (by simp [op_, sI_, h12]) (by omega) _ _) (Nat.le_of_ble_eq_true rfl) ?_
        refine w_vrR X dX12_readNumber_107 ?_
        have hbt : rn2_ (bf_ M n) n k W nd op = _ := if_neg hd20
        rw [hr] at hbt
        simp only at hbt
        rw [hbt]
        first
          | (rw [if_pos e84]
             exact ⟨pf_pu (pf_op (pf_f2 (pf_sI (pf_sI (pf_rf M) (by first | omega | exact at5_ (by omega))) (by first | omega | exact at5_ (by omega))))), by simp [pu_, op_, sI_, sL_], by simp [pu_, op_, sI_, sL_]⟩)
          | (rw [if_neg e84]
             refine ⟨pf_pu (pf_op (pf_sI (pf_sI (pf_rf M) (by first | omega | exact at5_ (by omega))) (by first | omega | exact at5_ (by omega)))), pr_leaf (t := 0) (v := lN w) h (by first | omega | exact at5_ (by omega)) (by simp only [tc_]; rw [nI_l (by first | omega | exact at5_ (by omega))]) (by simp [nt_]) (tz_pu (tz_op (tz_sI (tz_sI h0 (by first | omega | exact at5_ (by omega))) (by first | omega | exact at5_ (by omega))))) (by simp [pu_, op_, sI_, sL_]) (cd_pu (cd_op (cd_sI (cd_sI hc (by first | omega | exact at5_ (by omega)) (by first | omega | exact at5_ (by omega))) (by first | omega | exact at5_ (by omega)) (by first | omega | exact at5_ (by omega))))) (by simp [pu_, op_, sI_, sL_, h20]) (wr_pu (wr_op (wr_sI (wr_sI hw (Or.inl (by first | omega | exact at5_ (by omega)))) (Or.inl (by first | omega | exact at5_ (by omega)))))) (od_pu (od_op (od_sI (od_sI (by simpa using ho) (by first | omega | exact at5_ (by omega)) (by first | omega | exact at5_ (by omega))) (by first | omega | exact at5_ (by omega)) (by first | omega | exact at5_ (by omega))))) (by simp [pu_, op_, sI_, sL_]) (by simp [pu_, op_, sI_, sL_, h23]), by simp [pu_, op_, sI_, sL_, hf]⟩)
    induction u with
    | zero =>
      intro q w hu hq hw2 hr
      have e27 : ig_ (bf_ M n q) = 0 := ig_bf (by omega)
      refine w_aload_n X dX12_readNumber_16 rfl rfl ?_
      refine w_aload_n X dX12_readNumber_17 rfl rfl ?_
      refine g12_at X dX12_readNumber_18 ?_
      try simp only [gI_sI, gI_sL, gL_sI, gL_sL, false_and, and_false, and_self, if_false, if_true, reduceIte, Nat.reduceEqDiff]
      refine w_v1fI X dX12_readNumber_21 k12_byteAt rfl rfl (c12_byteAt G hG _ _ (nI q) (fun z => tz_in (tz_sI (tz_sI h0 (by omega)) (by omega)) (by omega) z)) (Nat.le_of_ble_eq_true rfl) ?_
      rw [ba_bf (tz_sI (tz_sI h0 (by omega)) (by omega)) (by omega), bf_sI (by omega), bf_sI (by omega)]
      refine w_s1fI X dX12_readNumber_24 k12_isFigure (c12_isFigure G hG _ _ _) (Nat.le_of_ble_eq_true rfl) ?_
      refine w_if_eq (tgt := 79) X dX12_readNumber_27 (by decide) (fun h27 => ?_) (fun h27 => absurd (e27) h27)
      exact j79 q w hq hw2 hr
    | succ u ih =>
      intro q w hu hq hw2 hr
      refine w_aload_n X dX12_readNumber_16 rfl rfl ?_
      refine w_aload_n X dX12_readNumber_17 rfl rfl ?_
      refine g12_at X dX12_readNumber_18 ?_
      try simp only [gI_sI, gI_sL, gL_sI, gL_sL, false_and, and_false, and_self, if_false, if_true, reduceIte, Nat.reduceEqDiff]
      refine w_v1fI X dX12_readNumber_21 k12_byteAt rfl rfl (c12_byteAt G hG _ _ (nI q) (fun z => tz_in (tz_sI (tz_sI h0 (by omega)) (by omega)) (by omega) z)) (Nat.le_of_ble_eq_true rfl) ?_
      rw [ba_bf (tz_sI (tz_sI h0 (by omega)) (by omega)) (by omega), bf_sI (by omega), bf_sI (by omega)]
      refine w_s1fI X dX12_readNumber_24 k12_isFigure (c12_isFigure G hG _ _ _) (Nat.le_of_ble_eq_true rfl) ?_
      refine w_if_eq (tgt := 79) X dX12_readNumber_27 (by decide) (fun h27 => ?_) (fun h27 => ?_)
      · refine j79 q w hq hw2 ?_
        rw [hr]
        simp only [nv_]
        rw [if_neg (by rw [h27]; decide)]
      · have e27 : ig_ (bf_ M n q) = 1 := (ig_01 _).resolve_left h27
        obtain ⟨e, he, ee⟩ := ig_e e27
        have hr2 : nv_ (bf_ M n) (n - k) k 0 = nv_ (bf_ M n) u (q + 1) (dn_ w e) := by rw [hr]; simp only [nv_]; rw [if_pos e27, ee, dg_nI he]
        refine w_lload_n X dX12_readNumber_30 rfl rfl ?_
        refine w_ldc2 X dX12_readNumber_31 q12_184 ?_
        refine w_lmul X dX12_readNumber_34 ?_
        refine w_aload_n X dX12_readNumber_35 rfl rfl ?_
        refine w_aload_n X dX12_readNumber_36 rfl rfl ?_
        refine g12_at X dX12_readNumber_37 ?_
        try simp only [gI_sI, gI_sL, gL_sI, gL_sL, false_and, and_false, and_self, if_false, if_true, reduceIte, Nat.reduceEqDiff]
        refine w_v1fI X dX12_readNumber_40 k12_byteAt rfl rfl (c12_byteAt G hG _ _ (nI q) (fun z => tz_in (tz_sI (tz_sI h0 (by omega)) (by omega)) (by omega) z)) (Nat.le_of_ble_eq_true rfl) ?_
        rw [ba_bf (tz_sI (tz_sI h0 (by omega)) (by omega)) (by omega), bf_sI (by omega), bf_sI (by omega)]
        rw [ee]
        refine w_i2l X dX12_readNumber_43 ?_
        refine w_ladd X dX12_readNumber_44 ?_
        refine w_ldc2 X dX12_readNumber_45 q12_186 ?_
        refine w_lsub X dX12_readNumber_48 ?_
        rw [lN_st hw2 he]
        refine w_lstore_n X dX12_readNumber_49 rfl (by decide) ?_
        refine w_lload_n X dX12_readNumber_50 rfl rfl ?_
        refine w_ldc2 X dX12_readNumber_51 q12_188 ?_
        refine w_lcmp X dX12_readNumber_54 ?_
        refine w_if_le (tgt := 64) X dX12_readNumber_55 (by decide) (fun h55 => ?_) (fun h55 => ?_)
        · refine w_lload_n X dX12_readNumber_64 rfl rfl ?_
          refine w_lstore_n X dX12_readNumber_65 rfl (by decide) ?_
          refine w_aload_n X dX12_readNumber_66 rfl rfl ?_
          refine w_dup X dX12_readNumber_67 rfl ?_
          refine g12_at X dX12_readNumber_68 ?_
          try simp only [gI_sI, gI_sL, gL_sI, gL_sL, false_and, and_false, and_self, if_false, if_true, reduceIte, Nat.reduceEqDiff]
          refine w_iconst (v := 1) X dX12_readNumber_71 (by decide) ?_
          refine w_iadd X dX12_readNumber_72 ?_
          refine p12_at X dX12_readNumber_73 ?_
          refine w_goto (tgt := 16) X dX12_readNumber_76 (by decide) ?_
          rw [sI_sI, nI_1]
          have e55 : w * 10 + e ≤ 9999999999 := (pk_lLE (b := 9999999999) (by omega) (by omega)).mp (lc_le.mp h55)
          have hd : dn_ w e = w * 10 + e := if_pos e55
          refine ih (q + 1) (w * 10 + e) (by omega) (by omega) e55 ?_
          rw [hr2, hd]
        · refine w_ldc2 X dX12_readNumber_58 q12_188 ?_
          refine w_goto (tgt := 65) X dX12_readNumber_61 (by decide) ?_
          refine w_lstore_n X dX12_readNumber_65 rfl (by decide) ?_
          refine w_aload_n X dX12_readNumber_66 rfl rfl ?_
          refine w_dup X dX12_readNumber_67 rfl ?_
          refine g12_at X dX12_readNumber_68 ?_
          try simp only [gI_sI, gI_sL, gL_sI, gL_sL, false_and, and_false, and_self, if_false, if_true, reduceIte, Nat.reduceEqDiff]
          refine w_iconst (v := 1) X dX12_readNumber_71 (by decide) ?_
          refine w_iadd X dX12_readNumber_72 ?_
          refine p12_at X dX12_readNumber_73 ?_
          refine w_goto (tgt := 16) X dX12_readNumber_76 (by decide) ?_
          rw [sI_sI, nI_1]
          have e55 : ¬ w * 10 + e ≤ 9999999999 := fun z => h55 (lc_le.mpr ((pk_lLE (b := 9999999999) (by omega) (by omega)).mpr z))
          have hd : dn_ w e = 9999999999 := if_neg e55
          refine ih (q + 1) 9999999999 (by omega) (by omega) (by omega) ?_
          rw [hr2, hd]
  refine w_aload_n X dX12_readNumber_0 rfl rfl ?_
  refine g12_at X dX12_readNumber_1 ?_
  try simp only [gI_sI, gI_sL, gL_sI, gL_sL, false_and, and_false, and_self, if_false, if_true, reduceIte, Nat.reduceEqDiff, h5]
  refine w_istore_n X dX12_readNumber_4 rfl (by decide) ?_
  refine w_aload_n X dX12_readNumber_5 rfl rfl ?_
  refine w_iload_n X dX12_readNumber_6 rfl rfl ?_
  refine w_v1fI X dX12_readNumber_7 k12_count rfl rfl (c12_count G hG _ _ _) (Nat.le_of_ble_eq_true rfl) ?_
  rw [if_neg e20, if_neg e20]
  simp only [h13, nI_1]
  refine w_if_ne (tgt := 14) X dX12_readNumber_10 (by decide) (fun h10 => ?_) (fun h10 => absurd h10 (by decide))
  refine w_lconst (v := 0) X dX12_readNumber_14 (by decide) ?_
  refine w_lstore_n X dX12_readNumber_15 rfl (by decide) ?_
  have e5 : sI_ (sI_ M 0 13 (nI (nd + 1))) 0 5 (nI k) = sI_ M 0 13 (nI (nd + 1)) := by
    have := sI_self (sI_ M 0 13 (nI (nd + 1))) 0 5
    rw [show (sI_ M 0 13 (nI (nd + 1))).1 0 5 = nI k by simp [sI_, h5]] at this
    exact this
  have hh := lp (n - k) k 0 rfl (by omega) (by omega) rfl
  rw [e5] at hh
  exact hh
