section
theorem bf_fa {M : mm_} {f w : Int32} {n k : Nat} : bf_ (fa_ M f w) n k = bf_ M n k := by
  unfold fa_
  split
  · rw [bf_sI (by omega), bf_sI (by omega)]
  · rfl
theorem tz_fa {M : mm_} {f w : Int32} {n : Nat} (h : tz_ M n) : tz_ (fa_ M f w) n := by
  unfold fa_
  split
  · exact tz_sI (tz_sI h (by omega)) (by omega)
  · exact h
theorem fa_at {M : mm_} {f w : Int32} {a i : Nat} (h : ¬ (a = 0 ∧ (i = 3 ∨ i = 4))) : (fa_ M f w).1 a i = M.1 a i := by
  unfold fa_
  split
  · rw [sI_ne _ _ _ _ (fun q => h ⟨q.1, Or.inr q.2⟩), sI_ne _ _ _ _ (fun q => h ⟨q.1, Or.inl q.2⟩)]
  · rfl
/-- behind the figures: the fault of a number that is too great or too small, then the blank that must follow -/
def sn_ (M : mm_) (n : Nat) (least : Int32) (s : Nat) (k : Nat) (v : Int32) : mm_ :=
  let N := if v < least ∨ ¬ v ≤ 99 then fa_ (sI_ M 0 5 (nI k)) 2 (nI s) else sI_ M 0 5 (nI k)
  if N.1 0 3 = 0 ∧ ¬ bf_ M n k ≤ 32 then fa_ N 1 (nI k) else N
def pj_ (M : mm_) (b : Nat) : Nat → mm_
  | 0 => M
  | j + 1 => sI_ (pj_ M b j) 17 (12 * b + j) (M.1 19 j)
theorem pj_I {M : mm_} {b : Nat} : ∀ (j : Nat) (a i : Nat), a ≠ 17 → (pj_ M b j).1 a i = M.1 a i
  | 0, a, i, h => rfl
  | j + 1, a, i, h => by rw [pj_, sI_ne _ _ _ _ (fun q => h q.1), pj_I j a i h]
def zj_ (M : mm_) (b : Nat) : Nat → mm_
  | 0 => M
  | j + 1 => sI_ (zj_ M b j) 20 (48 * b + j) 0
def nj_ (M : mm_) (b z : Nat) (kd : Int32) : mm_ := zj_ (pj_ (sI_ (sI_ (sI_ (sI_ (sI_ M 12 b kd) 15 b 0) 14 b 0) 16 b (vp_nar .boolean 0)) 18 b (nI z)) b z) b 48
def zk_ (M : mm_) : Nat → mm_
  | 0 => M
  | j + 1 => sI_ (zk_ M j) 12 j 0
def nk_ (M : mm_) : Nat → Nat
  | 0 => 0
  | j + 1 => if M.1 12 j ≤ 0 then nk_ M j else nk_ M j + 1
theorem zk_I {M : mm_} : ∀ (j : Nat) (a i : Nat), ¬ (a = 12 ∧ i < j) → (zk_ M j).1 a i = M.1 a i
  | 0, a, i, h => rfl
  | j + 1, a, i, h => by rw [zk_, sI_ne _ _ _ _ (fun q => h ⟨q.1, by omega⟩), zk_I j a i (fun q => h ⟨q.1, by omega⟩)]
set_option maxRecDepth 100000 in
set_option maxHeartbeats 4000000 in
theorem c12_smallNumber (G : gg_) (hG : gd_ G) (d : Nat) (M : mm_) (n k s : Nat) (ht : tz_ M n) (ha : M.1 0 5 = nI k) (hk : k < 536870912) (hs : s = sp_ M n k) (least : Int32) : cm_ G yX12_smallNumber cX12_smallNumber 4 (some .int) (d + 2) [.ref (G.1 0), .int least] M (fI_ (if ig_ (bf_ M n s) = 0 then 0 else (dv_ (bf_ M n) (n - s) s 0).2) (if ig_ (bf_ M n s) = 0 then fa_ (sI_ M 0 5 (nI s)) 1 (nI s) else sn_ M n least s (dv_ (bf_ M n) (n - s) s 0).1 (dv_ (bf_ M n) (n - s) s 0).2)) := by
  refine cm_of hG (by decide) (Nat.le_of_ble_eq_true rfl) (fun C X => ?_)
  have hn := ht.2
  have hq : s < 1073741824 := by rw [hs]; have := (sk_ge (bf_ M n) (n - k) k).2; unfold sp_; omega
  have lp : ∀ (u q : Nat) (v : Int32), ¬ ig_ (bf_ M n s) = 0 → u = n - q → q < 1073741824 → dv_ (bf_ M n) (n - s) s 0 = dv_ (bf_ M n) u q v → wq_ C G (qe_ C G (fI_ (if ig_ (bf_ M n s) = 0 then 0 else (dv_ (bf_ M n) (n - s) s 0).2) (if ig_ (bf_ M n s) = 0 then fa_ (sI_ M 0 5 (nI s)) 1 (nI s) else sn_ M n least s (dv_ (bf_ M n) (n - s) s 0).1 (dv_ (bf_ M n) (n - s) s 0).2))) 36 [some (.ref (G.1 0)), some (.int least), some (.int (nI s)), some (.int v)] [] (sI_ M 0 5 (nI q)) := by
    intro u
    induction u with
    | zero =>
      intro q v hg hu hq2 hr
      have er : dv_ (bf_ M n) (n - s) s 0 = (q, v) := hr
      have e47 : ig_ (bf_ M n q) = 0 := ig_bf (by omega)
      refine w_aload_n X dX12_smallNumber_36 rfl rfl ?_
      refine w_aload_n X dX12_smallNumber_37 rfl rfl ?_
      refine g12_at X dX12_smallNumber_38 ?_
      try simp only [gI_sI, gI_sL, gL_sI, gL_sL, false_and, and_false, and_self, if_false, if_true, reduceIte, Nat.reduceEqDiff]
      refine w_v1fI X dX12_smallNumber_41 k12_byteAt rfl rfl (c12_byteAt G hG _ _ (nI q) (fun z => tz_in (tz_sI ht (by omega)) (by omega) z)) (Nat.le_of_ble_eq_true rfl) ?_
      rw [ba_bf (tz_sI ht (by omega)) (by omega), bf_sI (by omega)]
      refine w_s1fI X dX12_smallNumber_44 k12_isFigure (c12_isFigure G hG _ _ _) (Nat.le_of_ble_eq_true rfl) ?_
      refine w_if_eq (tgt := 95) X dX12_smallNumber_47 (by decide) (fun h47 => ?_) (fun h47 => absurd (e47) h47)
      refine w_iload_n X dX12_smallNumber_95 rfl rfl ?_
      refine w_iload_n X dX12_smallNumber_96 rfl rfl ?_
      refine w_icmp_lt (tgt := 106) X dX12_smallNumber_97 (by decide) (fun h97 => ?_) (fun h97 => ?_)
      · refine w_aload_n X dX12_smallNumber_106 rfl rfl ?_
        refine w_iconst (v := 2) X dX12_smallNumber_107 (by decide) ?_
        refine w_iload_n X dX12_smallNumber_108 rfl rfl ?_
        refine w_v2fV X dX12_smallNumber_109 k12_fail rfl rfl (c12_fail G hG _ _ _ _) (Nat.le_of_ble_eq_true rfl) ?_
        refine w_aload_n X dX12_smallNumber_112 rfl rfl ?_
        refine w_v0fV X dX12_smallNumber_113 k12_wantBlank rfl rfl (c12_wantBlank G hG _ _ n q (tz_fa (tz_sI ht (by omega))) (by rw [fa_at (by omega)]; simp [sI_]) (by omega)) (Nat.le_of_ble_eq_true rfl) ?_
        refine w_iload_n X dX12_smallNumber_116 rfl rfl ?_
        refine w_irF X dX12_smallNumber_117 ?_ ?_
        · rw [if_neg hg, er]
        · rw [if_neg hg, er]
          simp only [sn_]
          try rw [bf_fa]
          rw [bf_sI (by omega)]
          simp [e47, h97]
      · refine w_iload_n X dX12_smallNumber_100 rfl rfl ?_
        refine w_bipush (v := 99) X dX12_smallNumber_101 (by decide) ?_
        refine w_icmp_le (tgt := 112) X dX12_smallNumber_103 (by decide) (fun h103 => ?_) (fun h103 => ?_)
        · refine w_aload_n X dX12_smallNumber_112 rfl rfl ?_
          refine w_v0fV X dX12_smallNumber_113 k12_wantBlank rfl rfl (c12_wantBlank G hG _ _ n q (tz_sI ht (by omega)) (by simp [sI_]) (by omega)) (Nat.le_of_ble_eq_true rfl) ?_
          refine w_iload_n X dX12_smallNumber_116 rfl rfl ?_
          refine w_irF X dX12_smallNumber_117 ?_ ?_
          · rw [if_neg hg, er]
          · rw [if_neg hg, er]
            simp only [sn_]
            try rw [bf_fa]
            rw [bf_sI (by omega)]
            simp [e47, h97, h103]
        · refine w_aload_n X dX12_smallNumber_106 rfl rfl ?_
          refine w_iconst (v := 2) X dX12_smallNumber_107 (by decide) ?_
          refine w_iload_n X dX12_smallNumber_108 rfl rfl ?_
          refine w_v2fV X dX12_smallNumber_109 k12_fail rfl rfl (c12_fail G hG _ _ _ _) (Nat.le_of_ble_eq_true rfl) ?_
          refine w_aload_n X dX12_smallNumber_112 rfl rfl ?_
          refine w_v0fV X dX12_smallNumber_113 k12_wantBlank rfl rfl (c12_wantBlank G hG _ _ n q (tz_fa (tz_sI ht (by omega))) (by rw [fa_at (by omega)]; simp [sI_]) (by omega)) (Nat.le_of_ble_eq_true rfl) ?_
          refine w_iload_n X dX12_smallNumber_116 rfl rfl ?_
          refine w_irF X dX12_smallNumber_117 ?_ ?_
          · rw [if_neg hg, er]
          · rw [if_neg hg, er]
            simp only [sn_]
            try rw [bf_fa]
            rw [bf_sI (by omega)]
            simp [e47, h97, h103]
    | succ u ih =>
      intro q v hg hu hq2 hr
      refine w_aload_n X dX12_smallNumber_36 rfl rfl ?_
      refine w_aload_n X dX12_smallNumber_37 rfl rfl ?_
      refine g12_at X dX12_smallNumber_38 ?_
      try simp only [gI_sI, gI_sL, gL_sI, gL_sL, false_and, and_false, and_self, if_false, if_true, reduceIte, Nat.reduceEqDiff]
      refine w_v1fI X dX12_smallNumber_41 k12_byteAt rfl rfl (c12_byteAt G hG _ _ (nI q) (fun z => tz_in (tz_sI ht (by omega)) (by omega) z)) (Nat.le_of_ble_eq_true rfl) ?_
      rw [ba_bf (tz_sI ht (by omega)) (by omega), bf_sI (by omega)]
      refine w_s1fI X dX12_smallNumber_44 k12_isFigure (c12_isFigure G hG _ _ _) (Nat.le_of_ble_eq_true rfl) ?_
      refine w_if_eq (tgt := 95) X dX12_smallNumber_47 (by decide) (fun h47 => ?_) (fun h47 => ?_)
      · have er : dv_ (bf_ M n) (n - s) s 0 = (q, v) := by rw [hr]; simp only [dv_]; rw [if_neg (by rw [h47]; decide)]
        refine w_iload_n X dX12_smallNumber_95 rfl rfl ?_
        refine w_iload_n X dX12_smallNumber_96 rfl rfl ?_
        refine w_icmp_lt (tgt := 106) X dX12_smallNumber_97 (by decide) (fun h97 => ?_) (fun h97 => ?_)
        · refine w_aload_n X dX12_smallNumber_106 rfl rfl ?_
          refine w_iconst (v := 2) X dX12_smallNumber_107 (by decide) ?_
          refine w_iload_n X dX12_smallNumber_108 rfl rfl ?_
          refine w_v2fV X dX12_smallNumber_109 k12_fail rfl rfl (c12_fail G hG _ _ _ _) (Nat.le_of_ble_eq_true rfl) ?_
          refine w_aload_n X dX12_smallNumber_112 rfl rfl ?_
          refine w_v0fV X dX12_smallNumber_113 k12_wantBlank rfl rfl (c12_wantBlank G hG _ _ n q (tz_fa (tz_sI ht (by omega))) (by rw [fa_at (by omega)]; simp [sI_]) (by omega)) (Nat.le_of_ble_eq_true rfl) ?_
          refine w_iload_n X dX12_smallNumber_116 rfl rfl ?_
          refine w_irF X dX12_smallNumber_117 ?_ ?_
          · rw [if_neg hg, er]
          · rw [if_neg hg, er]
            simp only [sn_]
            try rw [bf_fa]
            rw [bf_sI (by omega)]
            simp [h47, h97]
        · refine w_iload_n X dX12_smallNumber_100 rfl rfl ?_
          refine w_bipush (v := 99) X dX12_smallNumber_101 (by decide) ?_
          refine w_icmp_le (tgt := 112) X dX12_smallNumber_103 (by decide) (fun h103 => ?_) (fun h103 => ?_)
          · refine w_aload_n X dX12_smallNumber_112 rfl rfl ?_
            refine w_v0fV X dX12_smallNumber_113 k12_wantBlank rfl rfl (c12_wantBlank G hG _ _ n q (tz_sI ht (by omega)) (by simp [sI_]) (by omega)) (Nat.le_of_ble_eq_true rfl) ?_
            refine w_iload_n X dX12_smallNumber_116 rfl rfl ?_
            refine w_irF X dX12_smallNumber_117 ?_ ?_
            · rw [if_neg hg, er]
            · rw [if_neg hg, er]
              simp only [sn_]
              try rw [bf_fa]
              rw [bf_sI (by omega)]
              simp [h47, h97, h103]
          · refine w_aload_n X dX12_smallNumber_106 rfl rfl ?_
            refine w_iconst (v := 2) X dX12_smallNumber_107 (by decide) ?_
            refine w_iload_n X dX12_smallNumber_108 rfl rfl ?_
            refine w_v2fV X dX12_smallNumber_109 k12_fail rfl rfl (c12_fail G hG _ _ _ _) (Nat.le_of_ble_eq_true rfl) ?_
            refine w_aload_n X dX12_smallNumber_112 rfl rfl ?_
            refine w_v0fV X dX12_smallNumber_113 k12_wantBlank rfl rfl (c12_wantBlank G hG _ _ n q (tz_fa (tz_sI ht (by omega))) (by rw [fa_at (by omega)]; simp [sI_]) (by omega)) (Nat.le_of_ble_eq_true rfl) ?_
            refine w_iload_n X dX12_smallNumber_116 rfl rfl ?_
            refine w_irF X dX12_smallNumber_117 ?_ ?_
            · rw [if_neg hg, er]
            · rw [if_neg hg, er]
              simp only [sn_]
              try rw [bf_fa]
              rw [bf_sI (by omega)]
              simp [h47, h97, h103]
      · have e47 : ig_ (bf_ M n q) = 1 := (ig_01 _).resolve_left h47
        refine w_iload_n X dX12_smallNumber_50 rfl rfl ?_
        refine w_bipush (v := 10) X dX12_smallNumber_51 (by decide) ?_
        refine w_imul X dX12_smallNumber_53 ?_
        refine w_aload_n X dX12_smallNumber_54 rfl rfl ?_
        refine w_aload_n X dX12_smallNumber_55 rfl rfl ?_
        refine g12_at X dX12_smallNumber_56 ?_
        try simp only [gI_sI, gI_sL, gL_sI, gL_sL, false_and, and_false, and_self, if_false, if_true, reduceIte, Nat.reduceEqDiff]
        refine w_v1fI X dX12_smallNumber_59 k12_byteAt rfl rfl (c12_byteAt G hG _ _ (nI q) (fun z => tz_in (tz_sI ht (by omega)) (by omega) z)) (Nat.le_of_ble_eq_true rfl) ?_
        rw [ba_bf (tz_sI ht (by omega)) (by omega), bf_sI (by omega)]
        refine w_iadd X dX12_smallNumber_62 ?_
        refine w_bipush (v := 48) X dX12_smallNumber_63 (by decide) ?_
        refine w_isub X dX12_smallNumber_65 ?_
        refine w_istore_n X dX12_smallNumber_66 rfl (by decide) ?_
        refine w_iload_n X dX12_smallNumber_67 rfl rfl ?_
        refine w_sipush (v := 999) X dX12_smallNumber_68 (by decide) ?_
        refine w_icmp_le (tgt := 80) X dX12_smallNumber_71 (by decide) (fun h71 => ?_) (fun h71 => ?_)
        · refine w_iload_n X dX12_smallNumber_80 rfl rfl ?_
          refine w_istore_n X dX12_smallNumber_81 rfl (by decide) ?_
          refine w_aload_n X dX12_smallNumber_82 rfl rfl ?_
          refine w_dup X dX12_smallNumber_83 rfl ?_
          refine g12_at X dX12_smallNumber_84 ?_
          try simp only [gI_sI, gI_sL, gL_sI, gL_sL, false_and, and_false, and_self, if_false, if_true, reduceIte, Nat.reduceEqDiff]
          refine w_iconst (v := 1) X dX12_smallNumber_87 (by decide) ?_
          refine w_iadd X dX12_smallNumber_88 ?_
          refine p12_at X dX12_smallNumber_89 ?_
          refine w_goto (tgt := 36) X dX12_smallNumber_92 (by decide) ?_
          rw [sI_sI, nI_1]
          refine ih (q + 1) _ hg (by omega) (by omega) ?_
          rw [hr]
          simp only [dv_]
          rw [if_pos e47]
          simp [dw_, h71]
        · refine w_sipush (v := 999) X dX12_smallNumber_74 (by decide) ?_
          refine w_goto (tgt := 81) X dX12_smallNumber_77 (by decide) ?_
          refine w_istore_n X dX12_smallNumber_81 rfl (by decide) ?_
          refine w_aload_n X dX12_smallNumber_82 rfl rfl ?_
          refine w_dup X dX12_smallNumber_83 rfl ?_
          refine g12_at X dX12_smallNumber_84 ?_
          try simp only [gI_sI, gI_sL, gL_sI, gL_sL, false_and, and_false, and_self, if_false, if_true, reduceIte, Nat.reduceEqDiff]
          refine w_iconst (v := 1) X dX12_smallNumber_87 (by decide) ?_
          refine w_iadd X dX12_smallNumber_88 ?_
          refine p12_at X dX12_smallNumber_89 ?_
          refine w_goto (tgt := 36) X dX12_smallNumber_92 (by decide) ?_
          rw [sI_sI, nI_1]
          refine ih (q + 1) _ hg (by omega) (by omega) ?_
          rw [hr]
          simp only [dv_]
          rw [if_pos e47]
          simp [dw_, h71]
  refine w_aload_n X dX12_smallNumber_0 rfl rfl ?_
  refine w_v0fV X dX12_smallNumber_1 k12_skip rfl rfl (c12_skip G hG _ _ n k ht ha (by omega)) (Nat.le_of_ble_eq_true rfl) ?_
  rw [← hs]
  refine w_aload_n X dX12_smallNumber_4 rfl rfl ?_
  refine g12_at X dX12_smallNumber_5 ?_
  try simp only [gI_sI, gI_sL, gL_sI, gL_sL, false_and, and_false, and_self, if_false, if_true, reduceIte, Nat.reduceEqDiff]
  refine w_istore_n X dX12_smallNumber_8 rfl (by decide) ?_
  refine w_aload_n X dX12_smallNumber_9 rfl rfl ?_
  refine w_aload_n X dX12_smallNumber_10 rfl rfl ?_
  refine g12_at X dX12_smallNumber_11 ?_
  try simp only [gI_sI, gI_sL, gL_sI, gL_sL, false_and, and_false, and_self, if_false, if_true, reduceIte, Nat.reduceEqDiff]
  refine w_v1fI X dX12_smallNumber_14 k12_byteAt rfl rfl (c12_byteAt G hG _ _ (nI s) (fun z => tz_in (tz_sI ht (by omega)) (by omega) z)) (Nat.le_of_ble_eq_true rfl) ?_
  rw [ba_bf (tz_sI ht (by omega)) (by omega), bf_sI (by omega)]
  refine w_s1fI X dX12_smallNumber_17 k12_isFigure (c12_isFigure G hG _ _ _) (Nat.le_of_ble_eq_true rfl) ?_
  refine w_if_ne (tgt := 34) X dX12_smallNumber_20 (by decide) (fun h20 => ?_) (fun h20 => ?_)
  · refine w_iconst (v := 0) X dX12_smallNumber_34 (by decide) ?_
    refine w_istore_n X dX12_smallNumber_35 rfl (by decide) ?_
    exact lp (n - s) s 0 h20 rfl hq rfl
  · refine w_aload_n X dX12_smallNumber_23 rfl rfl ?_
    refine w_iconst (v := 1) X dX12_smallNumber_24 (by decide) ?_
    refine w_aload_n X dX12_smallNumber_25 rfl rfl ?_
    refine g12_at X dX12_smallNumber_26 ?_
    try simp only [gI_sI, gI_sL, gL_sI, gL_sL, false_and, and_false, and_self, if_false, if_true, reduceIte, Nat.reduceEqDiff]
    refine w_v2fV X dX12_smallNumber_29 k12_fail rfl rfl (c12_fail G hG _ _ _ _) (Nat.le_of_ble_eq_true rfl) ?_
    refine w_iconst (v := 0) X dX12_smallNumber_32 (by decide) ?_
    exact w_irF X dX12_smallNumber_33 (if_pos h20).symm (if_pos h20).symm
set_option maxRecDepth 100000 in
set_option maxHeartbeats 4000000 in
theorem c12_newJob (G : gg_) (hG : gd_ G) (d : Nat) (M : mm_) (b z : Nat) (hb : b < 8) (hz : M.1 0 33 = nI z) (hz2 : z ≤ 12) (kd : Int32) : cm_ G yX12_newJob cX12_newJob 4 (some .int) d [.ref (G.1 0), .int kd, .int (nI b)] M (fI_ (nI b) (nj_ M b z kd)) := by
  refine cm_of hG (by decide) (Nat.le_of_ble_eq_true rfl) (fun C X => ?_)
  have e33 : ∀ j, (pj_ (sI_ (sI_ (sI_ (sI_ (sI_ M 12 b kd) 15 b 0) 14 b 0) 16 b (vp_nar .boolean 0)) 18 b (nI z)) b j).1 0 33 = nI z := fun j => by rw [pj_I j 0 33 (by omega)]; simp [sI_, hz]
  have e19 : ∀ j i, (pj_ (sI_ (sI_ (sI_ (sI_ (sI_ M 12 b kd) 15 b 0) 14 b 0) 16 b (vp_nar .boolean 0)) 18 b (nI z)) b j).1 19 i = M.1 19 i := fun j i => by rw [pj_I j 19 i (by omega)]; simp [sI_]
  have e48 : ∀ j, (48 : Int32) * nI b + nI j = nI (48 * b + j) := fun j => nI_m 48 b j
  have l2 : ∀ (u j : Nat), j + u = 48 → wq_ C G (qe_ C G (fI_ (nI b) (nj_ M b z kd))) 73 [some (.ref (G.1 0)), some (.int kd), some (.int (nI b)), some (.int (nI j))] [] (zj_ (pj_ (sI_ (sI_ (sI_ (sI_ (sI_ M 12 b kd) 15 b 0) 14 b 0) 16 b (vp_nar .boolean 0)) 18 b (nI z)) b z) b j) := by
    intro u
    induction u with
    | zero =>
      intro j hu
      obtain rfl : j = 48 := by omega
      refine w_iload_n X dX12_newJob_73 rfl rfl ?_
      refine w_bipush (v := 48) X dX12_newJob_74 (by decide) ?_
      refine w_icmp_ge (tgt := 97) X dX12_newJob_76 (by decide) (fun h76 => ?_) (fun h76 => absurd (by decide) h76)
      refine w_iload_n X dX12_newJob_97 rfl rfl ?_
      exact w_irF X dX12_newJob_98 rfl rfl
    | succ u ih =>
      intro j hu
      refine w_iload_n X dX12_newJob_73 rfl rfl ?_
      refine w_bipush (v := 48) X dX12_newJob_74 (by decide) ?_
      refine w_icmp_ge (tgt := 97) X dX12_newJob_76 (by decide) (fun h76 => absurd h76 (nI_ge (b := 48) (by omega) (by omega))) (fun h76 => ?_)
      refine w_aload_n X dX12_newJob_79 rfl rfl ?_
      refine g12_counts X dX12_newJob_80 ?_
      refine w_bipush (v := 48) X dX12_newJob_83 (by decide) ?_
      refine w_iload_n X dX12_newJob_85 rfl rfl ?_
      refine w_imul X dX12_newJob_86 ?_
      refine w_iload_n X dX12_newJob_87 rfl rfl ?_
      refine w_iadd X dX12_newJob_88 ?_
      rw [e48]
      refine w_iconst (v := 0) X dX12_newJob_89 (by decide) ?_
      refine w_iastoreN X dX12_newJob_90 rfl rfl (by omega) ?_
      refine w_iinc (v := 1) X dX12_newJob_91 rfl (by decide) (by decide) ?_
      refine w_goto (tgt := 73) X dX12_newJob_94 (by decide) ?_
      rw [nI_1]
      exact ih (j + 1) (by omega)
  have l1 : ∀ (u j : Nat), j + u = z → wq_ C G (qe_ C G (fI_ (nI b) (nj_ M b z kd))) 40 [some (.ref (G.1 0)), some (.int kd), some (.int (nI b)), some (.int (nI j))] [] (pj_ (sI_ (sI_ (sI_ (sI_ (sI_ M 12 b kd) 15 b 0) 14 b 0) 16 b (vp_nar .boolean 0)) 18 b (nI z)) b j) := by
    intro u
    induction u with
    | zero =>
      intro j hu
      obtain rfl : j = z := by omega
      refine w_iload_n X dX12_newJob_40 rfl rfl ?_
      refine w_aload_n X dX12_newJob_41 rfl rfl ?_
      refine g12_newPatternSize X dX12_newJob_42 ?_
      try simp only [gI_sI, gI_sL, gL_sI, gL_sL, false_and, and_false, and_self, if_false, if_true, reduceIte, Nat.reduceEqDiff, e33]
      refine w_icmp_ge (tgt := 71) X dX12_newJob_45 (by decide) (fun h45 => ?_) (fun h45 => absurd (Int32.le_refl _) h45)
      refine w_iconst (v := 0) X dX12_newJob_71 (by decide) ?_
      refine w_istore_n X dX12_newJob_72 rfl (by decide) ?_
      exact l2 48 0 (by omega)
    | succ u ih =>
      intro j hu
      refine w_iload_n X dX12_newJob_40 rfl rfl ?_
      refine w_aload_n X dX12_newJob_41 rfl rfl ?_
      refine g12_newPatternSize X dX12_newJob_42 ?_
      try simp only [gI_sI, gI_sL, gL_sI, gL_sL, false_and, and_false, and_self, if_false, if_true, reduceIte, Nat.reduceEqDiff, e33, e19]
      refine w_icmp_ge (tgt := 71) X dX12_newJob_45 (by decide) (fun h45 => absurd h45 (nI_ge (by omega) (by omega))) (fun h45 => ?_)
      refine w_aload_n X dX12_newJob_48 rfl rfl ?_
      refine g12_patterns X dX12_newJob_49 ?_
      refine w_bipush (v := 12) X dX12_newJob_52 (by decide) ?_
      refine w_iload_n X dX12_newJob_54 rfl rfl ?_
      refine w_imul X dX12_newJob_55 ?_
      refine w_iload_n X dX12_newJob_56 rfl rfl ?_
      refine w_iadd X dX12_newJob_57 ?_
      rw [nI_12]
      refine w_aload_n X dX12_newJob_58 rfl rfl ?_
      refine g12_newPattern X dX12_newJob_59 ?_
      refine w_iload_n X dX12_newJob_62 rfl rfl ?_
      refine w_ialoadN X dX12_newJob_63 rfl rfl (by omega) ?_
      try simp only [gI_sI, gI_sL, gL_sI, gL_sL, false_and, and_false, and_self, if_false, if_true, reduceIte, Nat.reduceEqDiff, e33, e19]
      refine w_iastoreN X dX12_newJob_64 rfl rfl (by omega) ?_
      refine w_iinc (v := 1) X dX12_newJob_65 rfl (by decide) (by decide) ?_
      refine w_goto (tgt := 40) X dX12_newJob_68 (by decide) ?_
      rw [nI_1]
      have e := ih (j + 1) (by omega)
      simp only [pj_] at e
      rw [show (sI_ (sI_ (sI_ (sI_ (sI_ M 12 b kd) 15 b 0) 14 b 0) 16 b (vp_nar .boolean 0)) 18 b (nI z)).1 19 j = M.1 19 j by simp [sI_]] at e
      exact e
  refine w_aload_n X dX12_newJob_0 rfl rfl ?_
  refine g12_kinds X dX12_newJob_1 ?_
  refine w_iload_n X dX12_newJob_4 rfl rfl ?_
  refine w_iload_n X dX12_newJob_5 rfl rfl ?_
  refine w_iastoreN X dX12_newJob_6 rfl rfl (by omega) ?_
  refine w_aload_n X dX12_newJob_7 rfl rfl ?_
  refine g12_mades X dX12_newJob_8 ?_
  refine w_iload_n X dX12_newJob_11 rfl rfl ?_
  refine w_iconst (v := 0) X dX12_newJob_12 (by decide) ?_
  refine w_iastoreN X dX12_newJob_13 rfl rfl (by omega) ?_
  refine w_aload_n X dX12_newJob_14 rfl rfl ?_
  refine g12_limits X dX12_newJob_15 ?_
  refine w_iload_n X dX12_newJob_18 rfl rfl ?_
  refine w_iconst (v := 0) X dX12_newJob_19 (by decide) ?_
  refine w_iastoreN X dX12_newJob_20 rfl rfl (by omega) ?_
  refine w_aload_n X dX12_newJob_21 rfl rfl ?_
  refine g12_conditioned X dX12_newJob_22 ?_
  refine w_iload_n X dX12_newJob_25 rfl rfl ?_
  refine w_iconst (v := 0) X dX12_newJob_26 (by decide) ?_
  refine w_bastoreN X dX12_newJob_27 rfl rfl (by omega) ?_
  refine w_aload_n X dX12_newJob_28 rfl rfl ?_
  refine g12_patternSizes X dX12_newJob_29 ?_
  refine w_iload_n X dX12_newJob_32 rfl rfl ?_
  refine w_aload_n X dX12_newJob_33 rfl rfl ?_
  refine g12_newPatternSize X dX12_newJob_34 ?_
  try simp only [gI_sI, gI_sL, gL_sI, gL_sL, false_and, and_false, and_self, if_false, if_true, reduceIte, Nat.reduceEqDiff, hz]
  refine w_iastoreN X dX12_newJob_37 rfl rfl (by omega) ?_
  refine w_iconst (v := 0) X dX12_newJob_38 (by decide) ?_
  refine w_istore_n X dX12_newJob_39 rfl (by decide) ?_
  exact l1 z 0 (by omega)

end
section
def vv_ (c : Int32) : Int32 := if c = 114 then 3 else if c = 120 then 4 else if c = 110 then 5 else if c = 107 then 6 else c - 97
def ow_ (c : Int32) : Int32 := if 97 ≤ c ∧ c ≤ 99 then 1 else 0
def vo_ (M : mm_) (c : Int32) : Int32 := if (¬ ow_ c = 0 ∧ vv_ c < M.1 0 15) ∨ (¬ M.1 0 14 = 0 ∧ (¬ ow_ c = 0 ∨ (¬ vv_ c < 3 ∧ ¬ 6 < vv_ c ∧ ¬ c = 100 ∧ ¬ c = 101 ∧ ¬ c = 102 ∧ ¬ c = 103))) then vv_ c else -1
theorem nI_k (n : Nat) (k : Nat) (x : Int32) (h : x = nI k) : nI n + x = nI (n + k) := by rw [h, nI_add]
/-- a record more, if there is room -/
def rc_ (M : mm_) (c : Nat) (j m e : Int32) : mm_ := if c < 300 then sI_ (sI_ (sI_ (sI_ (sI_ (sI_ M 21 (5 * c) j) 21 (5 * c + 1) m) 21 (5 * c + 2) (M.1 0 58)) 21 (5 * c + 3) (if M.1 0 59 = 0 then 0 else 1)) 21 (5 * c + 4) e) 0 35 (nI (c + 1)) else M
def rd_ (M : mm_) (c b : Nat) (m e : Int32) : mm_ := if M.1 15 b + 1 = M.1 14 b then sI_ (sI_ (rc_ M c (nI b) m e) 15 b (M.1 15 b + 1)) 12 b 0 else sI_ (rc_ M c (nI b) m e) 15 b (M.1 15 b + 1)
def kp_ (M : mm_) (c e : Nat) : Nat → mm_
  | 0 => M
  | j + 1 => sI_ (kp_ M c e j) 22 (7 * c + 2 + j) (M.1 24 (3 * e + j))
theorem kp_I {M : mm_} {c e : Nat} : ∀ (j : Nat) (a i : Nat), a ≠ 22 → (kp_ M c e j).1 a i = M.1 a i
  | 0, a, i, h => rfl
  | j + 1, a, i, h => by rw [kp_, sI_ne _ _ _ _ (fun q => h q.1), kp_I j a i h]
def ko_ (M : mm_) (c e : Nat) (j pt v : Int32) : mm_ := if c = 40 then M else sI_ (sI_ (sI_ (kp_ (sI_ (sI_ M 22 (7 * c) j) 22 (7 * c + 1) (M.1 23 e)) c e 3) 22 (7 * c + 5) (pt - 1)) 22 (7 * c + 6) v) 0 37 (nI (c + 1))
set_option maxRecDepth 100000 in
set_option maxHeartbeats 4000000 in
theorem c12_variableOf (G : gg_) (hG : gd_ G) (d : Nat) (M : mm_) (c : Int32) : cm_ G yX12_variableOf cX12_variableOf 4 (some .int) d [.ref (G.1 0), .int c] M (fI_ (vo_ M c) M) := by
  refine cm_of hG (by decide) (Nat.le_of_ble_eq_true rfl) (fun C X => ?_)
  have j64 : ∀ w v : Int32, w = ow_ c → v = vv_ c → wq_ C G (qe_ C G (fI_ (vo_ M c) M)) 64 [some (.ref (G.1 0)), some (.int c), some (.int v), some (.int w)] [] M := by
    intro w v hw hv
    refine w_iload_n X dX12_variableOf_64 rfl rfl ?_
    refine w_if_eq (tgt := 76) X dX12_variableOf_65 (by decide) (fun h65 => ?_) (fun h65 => ?_)
    · refine w_aload_n X dX12_variableOf_76 rfl rfl ?_
      refine g12_inCommand X dX12_variableOf_77 ?_
      refine w_if_eq (tgt := 126) X dX12_variableOf_80 (by decide) (fun h80 => ?_) (fun h80 => ?_)
      · refine w_iconst (v := -1) X dX12_variableOf_126 (by decide) ?_
        refine w_irF X dX12_variableOf_127 ?_ rfl
        unfold vo_
        rw [← hw, ← hv]
        first | (simp [h65, h80]; done) | (simp_all; done)
      · refine w_iload_n X dX12_variableOf_83 rfl rfl ?_
        refine w_if_ne (tgt := 122) X dX12_variableOf_84 (by decide) (fun h84 => absurd h65 h84) (fun h84 => ?_)
        refine w_iload_n X dX12_variableOf_87 rfl rfl ?_
        refine w_iconst (v := 3) X dX12_variableOf_88 (by decide) ?_
        refine w_icmp_lt (tgt := 126) X dX12_variableOf_89 (by decide) (fun h89 => ?_) (fun h89 => ?_)
        · refine w_iconst (v := -1) X dX12_variableOf_126 (by decide) ?_
          refine w_irF X dX12_variableOf_127 ?_ rfl
          unfold vo_
          rw [← hw, ← hv]
          first | (simp [h65, h80, h84, h89]; done) | (simp_all; done)
        · refine w_iload_n X dX12_variableOf_92 rfl rfl ?_
          refine w_bipush (v := 6) X dX12_variableOf_93 (by decide) ?_
          refine w_icmp_gt (tgt := 126) X dX12_variableOf_95 (by decide) (fun h95 => ?_) (fun h95 => ?_)
          · refine w_iconst (v := -1) X dX12_variableOf_126 (by decide) ?_
            refine w_irF X dX12_variableOf_127 ?_ rfl
            unfold vo_
            rw [← hw, ← hv]
            first | (simp [h65, h80, h84, h89, h95]; done) | (simp_all; done)
          · refine w_iload_n X dX12_variableOf_98 rfl rfl ?_
            refine w_bipush (v := 100) X dX12_variableOf_99 (by decide) ?_
            refine w_icmp_eq (tgt := 126) X dX12_variableOf_101 (by decide) (fun h101 => ?_) (fun h101 => ?_)
            · refine w_iconst (v := -1) X dX12_variableOf_126 (by decide) ?_
              refine w_irF X dX12_variableOf_127 ?_ rfl
              unfold vo_
              rw [← hw, ← hv]
              first | (simp [h65, h80, h84, h89, h95, h101]; done) | (simp_all; done)
            · refine w_iload_n X dX12_variableOf_104 rfl rfl ?_
              refine w_bipush (v := 101) X dX12_variableOf_105 (by decide) ?_
              refine w_icmp_eq (tgt := 126) X dX12_variableOf_107 (by decide) (fun h107 => ?_) (fun h107 => ?_)
              · refine w_iconst (v := -1) X dX12_variableOf_126 (by decide) ?_
                refine w_irF X dX12_variableOf_127 ?_ rfl
                unfold vo_
                rw [← hw, ← hv]
                first | (simp [h65, h80, h84, h89, h95, h101, h107]; done) | (simp_all; done)
              · refine w_iload_n X dX12_variableOf_110 rfl rfl ?_
                refine w_bipush (v := 102) X dX12_variableOf_111 (by decide) ?_
                refine w_icmp_eq (tgt := 126) X dX12_variableOf_113 (by decide) (fun h113 => ?_) (fun h113 => ?_)
                · refine w_iconst (v := -1) X dX12_variableOf_126 (by decide) ?_
                  refine w_irF X dX12_variableOf_127 ?_ rfl
                  unfold vo_
                  rw [← hw, ← hv]
                  first | (simp [h65, h80, h84, h89, h95, h101, h107, h113]; done) | (simp_all; done)
                · refine w_iload_n X dX12_variableOf_116 rfl rfl ?_
                  refine w_bipush (v := 103) X dX12_variableOf_117 (by decide) ?_
                  refine w_icmp_eq (tgt := 126) X dX12_variableOf_119 (by decide) (fun h119 => ?_) (fun h119 => ?_)
                  · refine w_iconst (v := -1) X dX12_variableOf_126 (by decide) ?_
                    refine w_irF X dX12_variableOf_127 ?_ rfl
                    unfold vo_
                    rw [← hw, ← hv]
                    first | (simp [h65, h80, h84, h89, h95, h101, h107, h113, h119]; done) | (simp_all; done)
                  · refine w_iload_n X dX12_variableOf_122 rfl rfl ?_
                    refine w_goto (tgt := 127) X dX12_variableOf_123 (by decide) ?_
                    refine w_irF X dX12_variableOf_127 ?_ rfl
                    unfold vo_
                    rw [← hw, ← hv]
                    first | (simp [h65, h80, h84, h89, h95, h101, h107, h113, h119]; done) | (simp_all; done)
    · refine w_iload_n X dX12_variableOf_68 rfl rfl ?_
      refine w_aload_n X dX12_variableOf_69 rfl rfl ?_
      refine g12_variables X dX12_variableOf_70 ?_
      refine w_icmp_lt (tgt := 122) X dX12_variableOf_73 (by decide) (fun h73 => ?_) (fun h73 => ?_)
      · refine w_iload_n X dX12_variableOf_122 rfl rfl ?_
        refine w_goto (tgt := 127) X dX12_variableOf_123 (by decide) ?_
        refine w_irF X dX12_variableOf_127 ?_ rfl
        unfold vo_
        rw [← hw, ← hv]
        first | (simp [h65, h73]; done) | (simp_all; done)
      · refine w_aload_n X dX12_variableOf_76 rfl rfl ?_
        refine g12_inCommand X dX12_variableOf_77 ?_
        refine w_if_eq (tgt := 126) X dX12_variableOf_80 (by decide) (fun h80 => ?_) (fun h80 => ?_)
        · refine w_iconst (v := -1) X dX12_variableOf_126 (by decide) ?_
          refine w_irF X dX12_variableOf_127 ?_ rfl
          unfold vo_
          rw [← hw, ← hv]
          first | (simp [h65, h73, h80]; done) | (simp_all; done)
        · refine w_iload_n X dX12_variableOf_83 rfl rfl ?_
          refine w_if_ne (tgt := 122) X dX12_variableOf_84 (by decide) (fun h84 => ?_) (fun h84 => absurd h84 h65)
          refine w_iload_n X dX12_variableOf_122 rfl rfl ?_
          refine w_goto (tgt := 127) X dX12_variableOf_123 (by decide) ?_
          refine w_irF X dX12_variableOf_127 ?_ rfl
          unfold vo_
          rw [← hw, ← hv]
          first | (simp [h65, h73, h80, h84]; done) | (simp_all; done)
  have j46 : ∀ v : Int32, v = vv_ c → wq_ C G (qe_ C G (fI_ (vo_ M c) M)) 46 [some (.ref (G.1 0)), some (.int c), some (.int v), none] [] M := by
    intro v hv
    refine w_iload_n X dX12_variableOf_46 rfl rfl ?_
    refine w_bipush (v := 97) X dX12_variableOf_47 (by decide) ?_
    refine w_icmp_lt (tgt := 62) X dX12_variableOf_49 (by decide) (fun h49 => ?_) (fun h49 => ?_)
    · refine w_iconst (v := 0) X dX12_variableOf_62 (by decide) ?_
      refine w_istore_n X dX12_variableOf_63 rfl (by decide) ?_
      refine j64 _ _ ?_ hv
      unfold ow_
      exact (if_neg (fun z => Int32.not_le.mpr h49 z.1)).symm
    · refine w_iload_n X dX12_variableOf_52 rfl rfl ?_
      refine w_bipush (v := 99) X dX12_variableOf_53 (by decide) ?_
      refine w_icmp_gt (tgt := 62) X dX12_variableOf_55 (by decide) (fun h55 => ?_) (fun h55 => ?_)
      · refine w_iconst (v := 0) X dX12_variableOf_62 (by decide) ?_
        refine w_istore_n X dX12_variableOf_63 rfl (by decide) ?_
        refine j64 _ _ ?_ hv
        unfold ow_
        exact (if_neg (fun z => Int32.not_le.mpr h55 z.2)).symm
      · refine w_iconst (v := 1) X dX12_variableOf_58 (by decide) ?_
        refine w_goto (tgt := 63) X dX12_variableOf_59 (by decide) ?_
        refine w_istore_n X dX12_variableOf_63 rfl (by decide) ?_
        refine j64 _ _ ?_ hv
        unfold ow_
        exact (if_pos ⟨Int32.not_lt.mp h49, Int32.not_lt.mp h55⟩).symm
  refine w_iload_n X dX12_variableOf_0 rfl rfl ?_
  refine w_bipush (v := 114) X dX12_variableOf_1 (by decide) ?_
  refine w_icmp_ne (tgt := 10) X dX12_variableOf_3 (by decide) (fun h3 => ?_) (fun h3 => ?_)
  · refine w_iload_n X dX12_variableOf_10 rfl rfl ?_
    refine w_bipush (v := 120) X dX12_variableOf_11 (by decide) ?_
    refine w_icmp_ne (tgt := 20) X dX12_variableOf_13 (by decide) (fun h13 => ?_) (fun h13 => ?_)
    · refine w_iload_n X dX12_variableOf_20 rfl rfl ?_
      refine w_bipush (v := 110) X dX12_variableOf_21 (by decide) ?_
      refine w_icmp_ne (tgt := 30) X dX12_variableOf_23 (by decide) (fun h23 => ?_) (fun h23 => ?_)
      · refine w_iload_n X dX12_variableOf_30 rfl rfl ?_
        refine w_bipush (v := 107) X dX12_variableOf_31 (by decide) ?_
        refine w_icmp_ne (tgt := 41) X dX12_variableOf_33 (by decide) (fun h33 => ?_) (fun h33 => ?_)
        · refine w_iload_n X dX12_variableOf_41 rfl rfl ?_
          refine w_bipush (v := 97) X dX12_variableOf_42 (by decide) ?_
          refine w_isub X dX12_variableOf_44 ?_
          refine w_istore_n X dX12_variableOf_45 rfl (by decide) ?_
          refine j46 _ ?_
          unfold vv_
          simp [h3, h13, h23, h33]
        · refine w_bipush (v := 6) X dX12_variableOf_36 (by decide) ?_
          refine w_goto (tgt := 45) X dX12_variableOf_38 (by decide) ?_
          refine w_istore_n X dX12_variableOf_45 rfl (by decide) ?_
          refine j46 _ ?_
          unfold vv_
          simp [h3, h13, h23, h33]
      · refine w_iconst (v := 5) X dX12_variableOf_26 (by decide) ?_
        refine w_goto (tgt := 45) X dX12_variableOf_27 (by decide) ?_
        refine w_istore_n X dX12_variableOf_45 rfl (by decide) ?_
        refine j46 _ ?_
        unfold vv_
        simp [h3, h13, h23]
    · refine w_iconst (v := 4) X dX12_variableOf_16 (by decide) ?_
      refine w_goto (tgt := 45) X dX12_variableOf_17 (by decide) ?_
      refine w_istore_n X dX12_variableOf_45 rfl (by decide) ?_
      refine j46 _ ?_
      unfold vv_
      simp [h3, h13]
  · refine w_iconst (v := 3) X dX12_variableOf_6 (by decide) ?_
    refine w_goto (tgt := 45) X dX12_variableOf_7 (by decide) ?_
    refine w_istore_n X dX12_variableOf_45 rfl (by decide) ?_
    refine j46 _ ?_
    unfold vv_
    simp [h3]
set_option maxRecDepth 100000 in
set_option maxHeartbeats 4000000 in
theorem c12_record (G : gg_) (hG : gd_ G) (d : Nat) (M : mm_) (c b : Nat) (hc : M.1 0 35 = nI c) (hc2 : c ≤ 300) (hb : b < 8) (m e : Int32) : cm_ G yX12_record cX12_record 5 none (d) [.ref (G.1 0), .int (nI b), .int m, .int e] M (fV_ (rd_ M c b m e)) := by
  refine cm_of hG (by decide) (Nat.le_of_ble_eq_true rfl) (fun C X => ?_)
  refine w_aload_n X dX12_record_0 rfl rfl ?_
  refine g12_recordCount X dX12_record_1 ?_
  try simp only [gI_sI, gI_sL, gL_sI, gL_sL, false_and, and_false, and_self, if_false, if_true, reduceIte, Nat.reduceEqDiff, hc]
  refine w_sipush (v := 300) X dX12_record_4 (by decide) ?_
  refine w_icmp_ge (tgt := 90) X dX12_record_7 (by decide) (fun h7 => ?_) (fun h7 => ?_)
  · have e7 : ¬ c < 300 := fun q => Int32.not_le.mpr (nI_lt (b := 300) q (by omega)) h7
    refine w_aload_n X dX12_record_90 rfl rfl ?_
    refine g12_mades X dX12_record_91 ?_
    refine w_iload_n X dX12_record_94 rfl rfl ?_
    refine w_dup2 X dX12_record_95 rfl rfl ?_
    refine w_ialoadN X dX12_record_96 rfl rfl (by omega) ?_
    try simp only [gI_sI, gI_sL, gL_sI, gL_sL, false_and, and_false, and_self, if_false, if_true, reduceIte, Nat.reduceEqDiff, hc]
    refine w_iconst (v := 1) X dX12_record_97 (by decide) ?_
    refine w_iadd X dX12_record_98 ?_
    refine w_iastoreN X dX12_record_99 rfl rfl (by omega) ?_
    refine w_aload_n X dX12_record_100 rfl rfl ?_
    refine g12_mades X dX12_record_101 ?_
    refine w_iload_n X dX12_record_104 rfl rfl ?_
    refine w_ialoadN X dX12_record_105 rfl rfl (by omega) ?_
    try simp only [gI_sI, gI_sL, gL_sI, gL_sL, false_and, and_false, and_self, if_false, if_true, reduceIte, Nat.reduceEqDiff, hc]
    refine w_aload_n X dX12_record_106 rfl rfl ?_
    refine g12_limits X dX12_record_107 ?_
    refine w_iload_n X dX12_record_110 rfl rfl ?_
    refine w_ialoadN X dX12_record_111 rfl rfl (by omega) ?_
    try simp only [gI_sI, gI_sL, gL_sI, gL_sL, false_and, and_false, and_self, if_false, if_true, reduceIte, Nat.reduceEqDiff, hc]
    refine w_icmp_ne (tgt := 122) X dX12_record_112 (by decide) (fun h112 => ?_) (fun h112 => ?_)
    · refine w_vrF X dX12_record_122 ?_
      unfold rd_ rc_
      simp [e7, h112, nI_1]
    · refine w_aload_n X dX12_record_115 rfl rfl ?_
      refine g12_kinds X dX12_record_116 ?_
      refine w_iload_n X dX12_record_119 rfl rfl ?_
      refine w_iconst (v := 0) X dX12_record_120 (by decide) ?_
      refine w_iastoreN X dX12_record_121 rfl rfl (by omega) ?_
      refine w_vrF X dX12_record_122 ?_
      unfold rd_ rc_
      simp [e7, h112, nI_1]
  · have e7 : c < 300 := (nI_ltI (b := 300) (by omega) (by omega)).mp (Int32.not_le.mp h7)
    refine w_iconst (v := 5) X dX12_record_10 (by decide) ?_
    refine w_aload_n X dX12_record_11 rfl rfl ?_
    refine g12_recordCount X dX12_record_12 ?_
    try simp only [gI_sI, gI_sL, gL_sI, gL_sL, false_and, and_false, and_self, if_false, if_true, reduceIte, Nat.reduceEqDiff, hc]
    refine w_imul X dX12_record_15 ?_
    rw [show (5 : Int32) * nI c = nI (5 * c) from pk_mul 5 c]
    refine w_istore X dX12_record_16 (by decide) ?_
    refine w_aload_n X dX12_record_18 rfl rfl ?_
    refine g12_records X dX12_record_19 ?_
    refine w_iload X dX12_record_22 rfl ?_
    refine w_iload_n X dX12_record_24 rfl rfl ?_
    refine w_iastoreN X dX12_record_25 rfl rfl (by omega) ?_
    refine w_aload_n X dX12_record_26 rfl rfl ?_
    refine g12_records X dX12_record_27 ?_
    refine w_iload X dX12_record_30 rfl ?_
    refine w_iconst (v := 1) X dX12_record_32 (by decide) ?_
    refine w_iadd X dX12_record_33 ?_
    rw [nI_k (5 * c) 1 1 rfl]
    refine w_iload_n X dX12_record_34 rfl rfl ?_
    refine w_iastoreN X dX12_record_35 rfl rfl (by omega) ?_
    refine w_aload_n X dX12_record_36 rfl rfl ?_
    refine g12_records X dX12_record_37 ?_
    refine w_iload X dX12_record_40 rfl ?_
    refine w_iconst (v := 2) X dX12_record_42 (by decide) ?_
    refine w_iadd X dX12_record_43 ?_
    rw [nI_k (5 * c) 2 2 rfl]
    refine w_aload_n X dX12_record_44 rfl rfl ?_
    refine g12_probeValue X dX12_record_45 ?_
    try simp only [gI_sI, gI_sL, gL_sI, gL_sL, false_and, and_false, and_self, if_false, if_true, reduceIte, Nat.reduceEqDiff, hc]
    refine w_iastoreN X dX12_record_48 rfl rfl (by omega) ?_
    refine w_aload_n X dX12_record_49 rfl rfl ?_
    refine g12_records X dX12_record_50 ?_
    refine w_iload X dX12_record_53 rfl ?_
    refine w_iconst (v := 3) X dX12_record_55 (by decide) ?_
    refine w_iadd X dX12_record_56 ?_
    rw [nI_k (5 * c) 3 3 rfl]
    refine w_aload_n X dX12_record_57 rfl rfl ?_
    refine g12_probeThrew X dX12_record_58 ?_
    try simp only [gI_sI, gI_sL, gL_sI, gL_sL, false_and, and_false, and_self, if_false, if_true, reduceIte, Nat.reduceEqDiff, hc]
    refine w_if_eq (tgt := 68) X dX12_record_61 (by decide) (fun h61 => ?_) (fun h61 => ?_)
    · refine w_iconst (v := 0) X dX12_record_68 (by decide) ?_
      refine w_iastoreN X dX12_record_69 rfl rfl (by omega) ?_
      refine w_aload_n X dX12_record_70 rfl rfl ?_
      refine g12_records X dX12_record_71 ?_
      refine w_iload X dX12_record_74 rfl ?_
      refine w_iconst (v := 4) X dX12_record_76 (by decide) ?_
      refine w_iadd X dX12_record_77 ?_
      rw [nI_k (5 * c) 4 4 rfl]
      refine w_iload_n X dX12_record_78 rfl rfl ?_
      refine w_iastoreN X dX12_record_79 rfl rfl (by omega) ?_
      refine w_aload_n X dX12_record_80 rfl rfl ?_
      refine w_dup X dX12_record_81 rfl ?_
      refine g12_recordCount X dX12_record_82 ?_
      try simp only [gI_sI, gI_sL, gL_sI, gL_sL, false_and, and_false, and_self, if_false, if_true, reduceIte, Nat.reduceEqDiff, hc]
      refine w_iconst (v := 1) X dX12_record_85 (by decide) ?_
      refine w_iadd X dX12_record_86 ?_
      refine p12_recordCount X dX12_record_87 ?_
      refine w_aload_n X dX12_record_90 rfl rfl ?_
      refine g12_mades X dX12_record_91 ?_
      refine w_iload_n X dX12_record_94 rfl rfl ?_
      refine w_dup2 X dX12_record_95 rfl rfl ?_
      refine w_ialoadN X dX12_record_96 rfl rfl (by omega) ?_
      try simp only [gI_sI, gI_sL, gL_sI, gL_sL, false_and, and_false, and_self, if_false, if_true, reduceIte, Nat.reduceEqDiff, hc]
      refine w_iconst (v := 1) X dX12_record_97 (by decide) ?_
      refine w_iadd X dX12_record_98 ?_
      refine w_iastoreN X dX12_record_99 rfl rfl (by omega) ?_
      refine w_aload_n X dX12_record_100 rfl rfl ?_
      refine g12_mades X dX12_record_101 ?_
      refine w_iload_n X dX12_record_104 rfl rfl ?_
      refine w_ialoadN X dX12_record_105 rfl rfl (by omega) ?_
      try simp only [gI_sI, gI_sL, gL_sI, gL_sL, false_and, and_false, and_self, if_false, if_true, reduceIte, Nat.reduceEqDiff, hc]
      refine w_aload_n X dX12_record_106 rfl rfl ?_
      refine g12_limits X dX12_record_107 ?_
      refine w_iload_n X dX12_record_110 rfl rfl ?_
      refine w_ialoadN X dX12_record_111 rfl rfl (by omega) ?_
      try simp only [gI_sI, gI_sL, gL_sI, gL_sL, false_and, and_false, and_self, if_false, if_true, reduceIte, Nat.reduceEqDiff, hc]
      refine w_icmp_ne (tgt := 122) X dX12_record_112 (by decide) (fun h112 => ?_) (fun h112 => ?_)
      · refine w_vrF X dX12_record_122 ?_
        unfold rd_ rc_
        simp [e7, h61, h112, nI_1]
      · refine w_aload_n X dX12_record_115 rfl rfl ?_
        refine g12_kinds X dX12_record_116 ?_
        refine w_iload_n X dX12_record_119 rfl rfl ?_
        refine w_iconst (v := 0) X dX12_record_120 (by decide) ?_
        refine w_iastoreN X dX12_record_121 rfl rfl (by omega) ?_
        refine w_vrF X dX12_record_122 ?_
        unfold rd_ rc_
        simp [e7, h61, h112, nI_1]
    · refine w_iconst (v := 1) X dX12_record_64 (by decide) ?_
      refine w_goto (tgt := 69) X dX12_record_65 (by decide) ?_
      refine w_iastoreN X dX12_record_69 rfl rfl (by omega) ?_
      refine w_aload_n X dX12_record_70 rfl rfl ?_
      refine g12_records X dX12_record_71 ?_
      refine w_iload X dX12_record_74 rfl ?_
      refine w_iconst (v := 4) X dX12_record_76 (by decide) ?_
      refine w_iadd X dX12_record_77 ?_
      rw [nI_k (5 * c) 4 4 rfl]
      refine w_iload_n X dX12_record_78 rfl rfl ?_
      refine w_iastoreN X dX12_record_79 rfl rfl (by omega) ?_
      refine w_aload_n X dX12_record_80 rfl rfl ?_
      refine w_dup X dX12_record_81 rfl ?_
      refine g12_recordCount X dX12_record_82 ?_
      try simp only [gI_sI, gI_sL, gL_sI, gL_sL, false_and, and_false, and_self, if_false, if_true, reduceIte, Nat.reduceEqDiff, hc]
      refine w_iconst (v := 1) X dX12_record_85 (by decide) ?_
      refine w_iadd X dX12_record_86 ?_
      refine p12_recordCount X dX12_record_87 ?_
      refine w_aload_n X dX12_record_90 rfl rfl ?_
      refine g12_mades X dX12_record_91 ?_
      refine w_iload_n X dX12_record_94 rfl rfl ?_
      refine w_dup2 X dX12_record_95 rfl rfl ?_
      refine w_ialoadN X dX12_record_96 rfl rfl (by omega) ?_
      try simp only [gI_sI, gI_sL, gL_sI, gL_sL, false_and, and_false, and_self, if_false, if_true, reduceIte, Nat.reduceEqDiff, hc]
      refine w_iconst (v := 1) X dX12_record_97 (by decide) ?_
      refine w_iadd X dX12_record_98 ?_
      refine w_iastoreN X dX12_record_99 rfl rfl (by omega) ?_
      refine w_aload_n X dX12_record_100 rfl rfl ?_
      refine g12_mades X dX12_record_101 ?_
      refine w_iload_n X dX12_record_104 rfl rfl ?_
      refine w_ialoadN X dX12_record_105 rfl rfl (by omega) ?_
      try simp only [gI_sI, gI_sL, gL_sI, gL_sL, false_and, and_false, and_self, if_false, if_true, reduceIte, Nat.reduceEqDiff, hc]
      refine w_aload_n X dX12_record_106 rfl rfl ?_
      refine g12_limits X dX12_record_107 ?_
      refine w_iload_n X dX12_record_110 rfl rfl ?_
      refine w_ialoadN X dX12_record_111 rfl rfl (by omega) ?_
      try simp only [gI_sI, gI_sL, gL_sI, gL_sL, false_and, and_false, and_self, if_false, if_true, reduceIte, Nat.reduceEqDiff, hc]
      refine w_icmp_ne (tgt := 122) X dX12_record_112 (by decide) (fun h112 => ?_) (fun h112 => ?_)
      · refine w_vrF X dX12_record_122 ?_
        unfold rd_ rc_
        simp [e7, h61, h112, nI_1]
      · refine w_aload_n X dX12_record_115 rfl rfl ?_
        refine g12_kinds X dX12_record_116 ?_
        refine w_iload_n X dX12_record_119 rfl rfl ?_
        refine w_iconst (v := 0) X dX12_record_120 (by decide) ?_
        refine w_iastoreN X dX12_record_121 rfl rfl (by omega) ?_
        refine w_vrF X dX12_record_122 ?_
        unfold rd_ rc_
        simp [e7, h61, h112, nI_1]
set_option maxRecDepth 100000 in
set_option maxHeartbeats 4000000 in
theorem c12_keepOne (G : gg_) (hG : gd_ G) (d : Nat) (M : mm_) (c e : Nat) (hc : M.1 0 37 = nI c) (hc2 : c ≤ 40) (he : e ≤ 10) (j pt v : Int32) : cm_ G yX12_keepOne cX12_keepOne 7 none (d) [.ref (G.1 0), .int j, .int (nI e), .int pt, .int v] M (fV_ (ko_ M c e j pt v)) := by
  refine cm_of hG (by decide) (Nat.le_of_ble_eq_true rfl) (fun C X => ?_)
  have e37 : ∀ i, (kp_ (sI_ (sI_ M 22 (7 * c) j) 22 (7 * c + 1) (M.1 23 e)) c e i).1 0 37 = nI c := fun i => by rw [kp_I i 0 37 (by omega)]; simp [sI_, hc]
  have e24 : ∀ i k, (kp_ (sI_ (sI_ M 22 (7 * c) j) 22 (7 * c + 1) (M.1 23 e)) c e i).1 24 k = M.1 24 k := fun i k => by rw [kp_I i 24 k (by omega)]; simp [sI_]
  have lp : ∀ (u i : Nat), i + u = 3 → ¬ c = 40 → wq_ C G (qe_ C G (fV_ (ko_ M c e j pt v))) 45 [some (.ref (G.1 0)), some (.int j), some (.int (nI e)), some (.int pt), some (.int v), some (.int (nI (7 * c))), some (.int (nI i))] [] (kp_ (sI_ (sI_ M 22 (7 * c) j) 22 (7 * c + 1) (M.1 23 e)) c e i) := by
    intro u
    induction u with
    | zero =>
      intro i hu hc3
      obtain rfl : i = 3 := by omega
      refine w_iload X dX12_keepOne_45 rfl ?_
      refine w_iconst (v := 3) X dX12_keepOne_47 (by decide) ?_
      refine w_icmp_ge (tgt := 80) X dX12_keepOne_48 (by decide) (fun h48 => ?_) (fun h48 => absurd (by decide) h48)
      refine w_aload_n X dX12_keepOne_80 rfl rfl ?_
      refine g12_keptOnes X dX12_keepOne_81 ?_
      refine w_iload X dX12_keepOne_84 rfl ?_
      refine w_iconst (v := 5) X dX12_keepOne_86 (by decide) ?_
      refine w_iadd X dX12_keepOne_87 ?_
      rw [nI_k (7 * c) 5 5 rfl]
      refine w_iload_n X dX12_keepOne_88 rfl rfl ?_
      refine w_iconst (v := 1) X dX12_keepOne_89 (by decide) ?_
      refine w_isub X dX12_keepOne_90 ?_
      refine w_iastoreN X dX12_keepOne_91 rfl rfl (by omega) ?_
      refine w_aload_n X dX12_keepOne_92 rfl rfl ?_
      refine g12_keptOnes X dX12_keepOne_93 ?_
      refine w_iload X dX12_keepOne_96 rfl ?_
      refine w_bipush (v := 6) X dX12_keepOne_98 (by decide) ?_
      refine w_iadd X dX12_keepOne_100 ?_
      rw [nI_k (7 * c) 6 6 rfl]
      refine w_iload X dX12_keepOne_101 rfl ?_
      refine w_iastoreN X dX12_keepOne_103 rfl rfl (by omega) ?_
      refine w_aload_n X dX12_keepOne_104 rfl rfl ?_
      refine w_dup X dX12_keepOne_105 rfl ?_
      refine g12_keepCount X dX12_keepOne_106 ?_
      try simp only [gI_sI, gI_sL, gL_sI, gL_sL, false_and, and_false, and_self, if_false, if_true, reduceIte, Nat.reduceEqDiff, e37]
      refine w_iconst (v := 1) X dX12_keepOne_109 (by decide) ?_
      refine w_iadd X dX12_keepOne_110 ?_
      refine p12_keepCount X dX12_keepOne_111 ?_
      refine w_vrF X dX12_keepOne_114 ?_
      unfold ko_
      rw [if_neg hc3, nI_1]
    | succ u ih =>
      intro i hu hc3
      refine w_iload X dX12_keepOne_45 rfl ?_
      refine w_iconst (v := 3) X dX12_keepOne_47 (by decide) ?_
      refine w_icmp_ge (tgt := 80) X dX12_keepOne_48 (by decide) (fun h48 => absurd h48 (nI_ge (b := 3) (by omega) (by omega))) (fun h48 => ?_)
      refine w_aload_n X dX12_keepOne_51 rfl rfl ?_
      refine g12_keptOnes X dX12_keepOne_52 ?_
      refine w_iload X dX12_keepOne_55 rfl ?_
      refine w_iconst (v := 2) X dX12_keepOne_57 (by decide) ?_
      refine w_iadd X dX12_keepOne_58 ?_
      refine w_iload X dX12_keepOne_59 rfl ?_
      refine w_iadd X dX12_keepOne_61 ?_
      rw [nI_k (7 * c) 2 2 rfl, nI_add]
      refine w_aload_n X dX12_keepOne_62 rfl rfl ?_
      refine g12_runParameters X dX12_keepOne_63 ?_
      refine w_iconst (v := 3) X dX12_keepOne_66 (by decide) ?_
      refine w_iload_n X dX12_keepOne_67 rfl rfl ?_
      refine w_imul X dX12_keepOne_68 ?_
      refine w_iload X dX12_keepOne_69 rfl ?_
      refine w_iadd X dX12_keepOne_71 ?_
      rw [show (3 : Int32) = nI 3 from rfl, nI_m]
      refine w_ialoadN X dX12_keepOne_72 rfl rfl (by omega) ?_
      try simp only [gI_sI, gI_sL, gL_sI, gL_sL, false_and, and_false, and_self, if_false, if_true, reduceIte, Nat.reduceEqDiff, e24]
      refine w_iastoreN X dX12_keepOne_73 rfl rfl (by omega) ?_
      refine w_iinc (v := 1) X dX12_keepOne_74 rfl (by decide) (by decide) ?_
      refine w_goto (tgt := 45) X dX12_keepOne_77 (by decide) ?_
      rw [nI_1]
      have ee := ih (i + 1) (by omega) hc3
      simp only [kp_] at ee
      rw [show (sI_ (sI_ M 22 (7 * c) j) 22 (7 * c + 1) (M.1 23 e)).1 24 (3 * e + i) = M.1 24 (3 * e + i) by simp [sI_]] at ee
      exact ee
  refine w_aload_n X dX12_keepOne_0 rfl rfl ?_
  refine g12_keepCount X dX12_keepOne_1 ?_
  try simp only [gI_sI, gI_sL, gL_sI, gL_sL, false_and, and_false, and_self, if_false, if_true, reduceIte, Nat.reduceEqDiff, hc]
  refine w_bipush (v := 40) X dX12_keepOne_4 (by decide) ?_
  refine w_icmp_ne (tgt := 10) X dX12_keepOne_6 (by decide) (fun h6 => ?_) (fun h6 => ?_)
  · have e6 : ¬ c = 40 := fun q => h6 (by rw [q]; rfl)
    refine w_bipush (v := 7) X dX12_keepOne_10 (by decide) ?_
    refine w_aload_n X dX12_keepOne_12 rfl rfl ?_
    refine g12_keepCount X dX12_keepOne_13 ?_
    try simp only [gI_sI, gI_sL, gL_sI, gL_sL, false_and, and_false, and_self, if_false, if_true, reduceIte, Nat.reduceEqDiff, hc]
    refine w_imul X dX12_keepOne_16 ?_
    rw [show (7 : Int32) * nI c = nI (7 * c) from pk_mul 7 c]
    refine w_istore X dX12_keepOne_17 (by decide) ?_
    refine w_aload_n X dX12_keepOne_19 rfl rfl ?_
    refine g12_keptOnes X dX12_keepOne_20 ?_
    refine w_iload X dX12_keepOne_23 rfl ?_
    refine w_iload_n X dX12_keepOne_25 rfl rfl ?_
    refine w_iastoreN X dX12_keepOne_26 rfl rfl (by omega) ?_
    refine w_aload_n X dX12_keepOne_27 rfl rfl ?_
    refine g12_keptOnes X dX12_keepOne_28 ?_
    refine w_iload X dX12_keepOne_31 rfl ?_
    refine w_iconst (v := 1) X dX12_keepOne_33 (by decide) ?_
    refine w_iadd X dX12_keepOne_34 ?_
    rw [nI_k (7 * c) 1 1 rfl]
    refine w_aload_n X dX12_keepOne_35 rfl rfl ?_
    refine g12_runMethods X dX12_keepOne_36 ?_
    refine w_iload_n X dX12_keepOne_39 rfl rfl ?_
    refine w_ialoadN X dX12_keepOne_40 rfl rfl (by omega) ?_
    try simp only [gI_sI, gI_sL, gL_sI, gL_sL, false_and, and_false, and_self, if_false, if_true, reduceIte, Nat.reduceEqDiff, hc]
    refine w_iastoreN X dX12_keepOne_41 rfl rfl (by omega) ?_
    refine w_iconst (v := 0) X dX12_keepOne_42 (by decide) ?_
    refine w_istore X dX12_keepOne_43 (by decide) ?_
    exact lp 3 0 (by omega) e6
  · have e6 : c = 40 := (nI_eq (b := 40) (by omega) (by omega)).mp h6
    refine w_vrF X dX12_keepOne_9 ?_
    unfold ko_
    rw [if_pos e6]

end
