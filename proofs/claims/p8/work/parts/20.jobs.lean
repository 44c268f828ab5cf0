theorem bf_fa {M : mm_} {f w : Int32} {n k : Nat} : bf_ (fa_ M f w) n k = bf_ M n k := by
  unfold fa_
  split
  · rw [bf_sI (by omega), bf_sI (by omega)]
  · rfl
theorem tz_fa {M : mm_} {f w : Int32} {n : Nat} (h : tz_ M n) : tz_ (fa_ M f w) n := by
  unfold fa_
  split
  · exact tz_sI (tz_sI h (by omega)) (by omega)
  · exact h
theorem fa_at {M : mm_} {f w : Int32} {a i : Nat} (h : ¬ (a = 0 ∧ (i = 3 ∨ i = 4))) : (fa_ M f w).1 a i = M.1 a i := by
  unfold fa_
  split
  · rw [sI_ne _ _ _ _ (fun q => h ⟨q.1, Or.inr q.2⟩), sI_ne _ _ _ _ (fun q => h ⟨q.1, Or.inl q.2⟩)]
  · rfl
/-- behind the figures: the fault of a number that is too great or too small, then the blank that must follow -/
def sn_ (M : mm_) (n : Nat) (least : Int32) (s : Nat) (k : Nat) (v : Int32) : mm_ :=
  let N := if v < least ∨ ¬ v ≤ 99 then fa_ (sI_ M 0 5 (nI k)) 2 (nI s) else sI_ M 0 5 (nI k)
  if N.1 0 3 = 0 ∧ ¬ bf_ M n k ≤ 32 then fa_ N 1 (nI k) else N
def pj_ (M : mm_) (b : Nat) : Nat → mm_
  | 0 => M
  | j + 1 => sI_ (pj_ M b j) 17 (12 * b + j) (M.1 19 j)
theorem pj_I {M : mm_} {b : Nat} : ∀ (j : Nat) (a i : Nat), a ≠ 17 → (pj_ M b j).1 a i = M.1 a i
  | 0, a, i, h => rfl
  | j + 1, a, i, h => by rw [pj_, sI_ne _ _ _ _ (fun q => h q.1), pj_I j a i h]
def zj_ (M : mm_) (b : Nat) : Nat → mm_
  | 0 => M
  | j + 1 => sI_ (zj_ M b j) 20 (48 * b + j) 0
def nj_ (M : mm_) (b z : Nat) (kd : Int32) : mm_ := zj_ (pj_ (sI_ (sI_ (sI_ (sI_ (sI_ M 12 b kd) 15 b 0) 14 b 0) 16 b (vp_nar .boolean 0)) 18 b (nI z)) b z) b 48
def zk_ (M : mm_) : Nat → mm_
  | 0 => M
  | j + 1 => sI_ (zk_ M j) 12 j 0
def nk_ (M : mm_) : Nat → Nat
  | 0 => 0
  | j + 1 => if M.1 12 j ≤ 0 then nk_ M j else nk_ M j + 1
theorem zk_I {M : mm_} : ∀ (j : Nat) (a i : Nat), ¬ (a = 12 ∧ i < j) → (zk_ M j).1 a i = M.1 a i
  | 0, a, i, h => rfl
  | j + 1, a, i, h => by rw [zk_, sI_ne _ _ _ _ (fun q => h ⟨q.1, by omega⟩), zk_I j a i (fun q => h ⟨q.1, by omega⟩)]
set_option maxRecDepth 100000 in
set_option maxHeartbeats 4000000 in
theorem c12_smallNumber (G : gg_) (hG : gd_ G) (d : Nat) (M : mm_) (n k s : Nat) (ht : tz_ M n) (ha : M.1 0 5 = nI k) (hk : k < 536870912) (hs : s = sp_ M n k) (least : Int32) : cm_ G yX12_smallNumber cX12_smallNumber 4 (some .int) (d + 2) [.ref (G.1 0), .int least] M (fI_ (if ig_ (bf_ M n s) = 0 then 0 else (dv_ (bf_ M n) (n - s) s 0).2) (if ig_ (bf_ M n s) = 0 then fa_ (sI_ M 0 5 (nI s)) 1 (nI s) else sn_ M n least s (dv_ (bf_ M n) (n - s) s 0).1 (dv_ (bf_ M n) (n - s) s 0).2)) := by
  refine cm_of hG (by decide) (Nat.le_of_ble_eq_true rfl) (fun C X => ?_)
  have hn := ht.2
  have hq : s < 1073741824 := by rw [hs]; have := (sk_ge (bf_ M n) (n - k) k).2; unfold sp_; omega
  have lp : ∀ (u q : Nat) (v : Int32), ¬ ig_ (bf_ M n s) = 0 → u = n - q → q < 1073741824 → dv_ (bf_ M n) (n - s) s 0 = dv_ (bf_ M n) u q v → wq_ C G (qe_ C G (fI_ (if ig_ (bf_ M n s) = 0 then 0 else (dv_ (bf_ M n) (n - s) s 0).2) (if ig_ (bf_ M n s) = 0 then fa_ (sI_ M 0 5 (nI s)) 1 (nI s) else sn_ M n least s (dv_ (bf_ M n) (n - s) s 0).1 (dv_ (bf_ M n) (n - s) s 0).2))) 36 [some (.ref (G.1 0)), some (.int least), some (.int (nI s)), some (.int v)] [] (sI_ M 0 5 (nI q)) := by
    intro u
    induction u with
    | zero =>
      intro q v hg hu hq2 hr
      have er : dv_ (bf_ M n) (n - s) s 0 = (q, v) := hr
      have e47 : ig_ (bf_ M n q) = 0 := ig_bf (by omega)
      refine w_aload_n X dX12_smallNumber_36 rfl rfl ?_
      refine w_aload_n X dX12_smallNumber_37 rfl rfl ?_
      refine g12_at X dX12_smallNumber_38 ?_
      try simp only [gI_sI, gI_sL, gL_sI, gL_sL, false_and, and_false, and_self, if_false, if_true, reduceIte, Nat.reduceEqDiff]
      refine w_v1fI X dX12_smallNumber_41 k12_byteAt rfl rfl (c12_byteAt G hG _ _ (nI q) (fun z => tz_in (tz_sI ht (by omega)) (by omega) z)) (Nat.le_of_ble_eq_true rfl) ?_
      rw [ba_bf (tz_sI ht (by omega)) (by omega), bf_sI (by omega)]
      refine w_s1fI X dX12_smallNumber_44 k12_isFigure (c12_isFigure G hG _ _ _) (Nat.le_of_ble_eq_true rfl) ?_
      refine w_if_eq (tgt := 95) X dX12_smallNumber_47 (by decide) (fun h47 => ?_) (fun h47 => absurd (e47) h47)
      refine w_iload_n X dX12_smallNumber_95 rfl rfl ?_
      refine w_iload_n X dX12_smallNumber_96 rfl rfl ?_
      refine w_icmp_lt (tgt := 106) X dX12_smallNumber_97 (by decide) (fun h97 => ?_) (fun h97 => ?_)
      · refine w_aload_n X dX12_smallNumber_106 rfl rfl ?_
        refine w_iconst (v := 2) X dX12_smallNumber_107 (by decide) ?_
        refine w_iload_n X dX12_smallNumber_108 rfl rfl ?_
        refine w_v2fV X dX12_smallNumber_109 k12_fail rfl rfl (c12_fail G hG _ _ _ _) (Nat.le_of_ble_eq_true rfl) ?_
        refine w_aload_n X dX12_smallNumber_112 rfl rfl ?_
        refine w_v0fV X dX12_smallNumber_113 k12_wantBlank rfl rfl (c12_wantBlank G hG _ _ n q (tz_fa (tz_sI ht (by omega))) (by rw [fa_at (by omega)]; simp [sI_]) (by omega)) (Nat.le_of_ble_eq_true rfl) ?_
        refine w_iload_n X dX12_smallNumber_116 rfl rfl ?_
        refine w_irF X dX12_smallNumber_117 ?_ ?_
        · rw [if_neg hg, er]
        · rw [if_neg hg, er]
          simp only [sn_]
          try rw [bf_fa]
          rw [bf_sI (by omega)]
          simp [e47, h97]
      · refine w_iload_n X dX12_smallNumber_100 rfl rfl ?_
        refine w_bipush (v := 99) X dX12_smallNumber_101 (by decide) ?_
        refine w_icmp_le (tgt := 112) X dX12_smallNumber_103 (by decide) (fun h103 => ?_) (fun h103 => ?_)
        · refine w_aload_n X dX12_smallNumber_112 rfl rfl ?_
          refine w_v0fV X dX12_smallNumber_113 k12_wantBlank rfl rfl (c12_wantBlank G hG _ _ n q (tz_sI ht (by omega)) (by simp [sI_]) (by omega)) (Nat.le_of_ble_eq_true rfl) ?_
          refine w_iload_n X dX12_smallNumber_116 rfl rfl ?_
          refine w_irF X dX12_smallNumber_117 ?_ ?_
          · rw [if_neg hg, er]
          · rw [if_neg hg, er]
            simp only [sn_]
            try rw [bf_fa]
            rw [bf_sI (by omega)]
            simp [e47, h97, h103]
        · refine w_aload_n X dX12_smallNumber_106 rfl rfl ?_
          refine w_iconst (v := 2) X dX12_smallNumber_107 (by decide) ?_
          refine w_iload_n X dX12_smallNumber_108 rfl rfl ?_
          refine w_v2fV X dX12_smallNumber_109 k12_fail rfl rfl (c12_fail G hG _ _ _ _) (Nat.le_of_ble_eq_true rfl) ?_
          refine w_aload_n X dX12_smallNumber_112 rfl rfl ?_
          refine w_v0fV X dX12_smallNumber_113 k12_wantBlank rfl rfl (c12_wantBlank G hG _ _ n q (tz_fa (tz_sI ht (by omega))) (by rw [fa_at (by omega)]; simp [sI_]) (by omega)) (Nat.le_of_ble_eq_true rfl) ?_
          refine w_iload_n X dX12_smallNumber_116 rfl rfl ?_
          refine w_irF X dX12_smallNumber_117 ?_ ?_
          · rw [if_neg hg, er]
          · rw [if_neg hg, er]
            simp only [sn_]
            try rw [bf_fa]
            rw [bf_sI (by omega)]
            simp [e47, h97, h103]
    | succ u ih =>
      intro q v hg hu hq2 hr
      refine w_aload_n X dX12_smallNumber_36 rfl rfl ?_
      refine w_aload_n X dX12_smallNumber_37 rfl rfl ?_
      refine g12_at X dX12_smallNumber_38 ?_
      try simp only [gI_sI, gI_sL, gL_sI, gL_sL, false_and, and_false, and_self, if_false, if_true, reduceIte, Nat.reduceEqDiff]
      refine w_v1fI X dX12_smallNumber_41 k12_byteAt rfl rfl (c12_byteAt G hG _ _ (nI q) (fun z => tz_in (tz_sI ht (by omega)) (by omega) z)) (Nat.le_of_ble_eq_true rfl) ?_
      rw [ba_bf (tz_sI ht (by omega)) (by omega), bf_sI (by omega)]
      refine w_s1fI X dX12_smallNumber_44 k12_isFigure (c12_isFigure G hG _ _ _) (Nat.le_of_ble_eq_true rfl) ?_
      refine w_if_eq (tgt := 95) X dX12_smallNumber_47 (by decide) (fun h47 => ?_) (fun h47 => ?_)
      · have er : dv_ (bf_ M n) (n - s) s 0 = (q, v) := by rw [hr]; simp only [dv_]; rw [if_neg (by rw [h47]; decide)]
        refine w_iload_n X dX12_smallNumber_95 rfl rfl ?_
        refine w_iload_n X dX12_smallNumber_96 rfl rfl ?_
        refine w_icmp_lt (tgt := 106) X dX12_smallNumber_97 (by decide) (fun h97 => ?_) (fun h97 => ?_)
        · refine w_aload_n X dX12_smallNumber_106 rfl rfl ?_
          refine w_iconst (v := 2) X dX12_smallNumber_107 (by decide) ?_
          refine w_iload_n X dX12_smallNumber_108 rfl rfl ?_
          refine w_v2fV X dX12_smallNumber_109 k12_fail rfl rfl (c12_fail G hG _ _ _ _) (Nat.le_of_ble_eq_true rfl) ?_
          refine w_aload_n X dX12_smallNumber_112 rfl rfl ?_
          refine w_v0fV X dX12_smallNumber_113 k12_wantBlank rfl rfl (c12_wantBlank G hG _ _ n q (tz_fa (tz_sI ht (by omega))) (by rw [fa_at (by omega)]; simp [sI_]) (by omega)) (Nat.le_of_ble_eq_true rfl) ?_
          refine w_iload_n X dX12_smallNumber_116 rfl rfl ?_
          refine w_irF X dX12_smallNumber_117 ?_ ?_
          · rw [if_neg hg, er]
          · rw [if_neg hg, er]
            simp only [sn_]
            try rw [bf_fa]
            rw [bf_sI (by omega)]
            simp [h47, h97]
        · refine w_iload_n X dX12_smallNumber_100 rfl rfl ?_
          refine w_bipush (v := 99) X dX12_smallNumber_101 (by decide) ?_
          refine w_icmp_le (tgt := 112) X dX12_smallNumber_103 (by decide) (fun h103 => ?_) (fun h103 => ?_)
          · refine w_aload_n X dX12_smallNumber_112 rfl rfl ?_
            refine w_v0fV X dX12_smallNumber_113 k12_wantBlank rfl rfl (c12_wantBlank G hG _ _ n q (tz_sI ht (by omega)) (by simp [sI_]) (by omega)) (Nat.le_of_ble_eq_true rfl) ?_
            refine w_iload_n X dX12_smallNumber_116 rfl rfl ?_
            refine w_irF X dX12_smallNumber_117 ?_ ?_
            · rw [if_neg hg, er]
            · rw [if_neg hg, er]
              simp only [sn_]
              try rw [bf_fa]
              rw [bf_sI (by omega)]
              simp [h47, h97, h103]
          · refine w_aload_n X dX12_smallNumber_106 rfl rfl ?_
            refine w_iconst (v := 2) X dX12_smallNumber_107 (by decide) ?_
            refine w_iload_n X dX12_smallNumber_108 rfl rfl ?_
            refine w_v2fV X dX12_smallNumber_109 k12_fail rfl rfl (c12_fail G hG _ _ _ _) (Nat.le_of_ble_eq_true rfl) ?_
            refine w_aload_n X dX12_smallNumber_112 rfl rfl ?_
            refine w_v0fV X dX12_smallNumber_113 k12_wantBlank rfl rfl (c12_wantBlank G hG _ _ n q (tz_fa (tz_sI ht (by omega))) (by rw [fa_at (by omega)]; simp [sI_]) (by omega)) (Nat.le_of_ble_eq_true rfl) ?_
            refine w_iload_n X dX12_smallNumber_116 rfl rfl ?_
            refine w_irF X dX12_smallNumber_117 ?_ ?_
            · rw [if_neg hg, er]
            · rw [if_neg hg, er]
              simp only [sn_]
              try rw [bf_fa]
              rw [bf_sI (by omega)]
              simp [h47, h97, h103]
      · have e47 : ig_ (bf_ M n q) = 1 := (ig_01 _).resolve_left h47
        refine w_iload_n X dX12_smallNumber_50 rfl rfl ?_
        refine w_bipush (v := 10) X dX12_smallNumber_51 (by decide) ?_
        refine w_imul X dX12_smallNumber_53 ?_
        refine w_aload_n X dX12_smallNumber_54 rfl rfl ?_
        refine w_aload_n X dX12_smallNumber_55 rfl rfl ?_
        refine g12_at X dX12_smallNumber_56 ?_
        try simp only [gI_sI, gI_sL, gL_sI, gL_sL, false_and, and_false, and_self, if_false, if_true, reduceIte, Nat.reduceEqDiff]
        refine w_v1fI X dX12_smallNumber_59 k12_byteAt rfl rfl (c12_byteAt G hG _ _ (nI q) (fun z => tz_in (tz_sI ht (by omega)) (by omega) z)) (Nat.le_of_ble_eq_true rfl) ?_
        rw [ba_bf (tz_sI ht (by omega)) (by omega), bf_sI (by omega)]
        refine w_iadd X dX12_smallNumber_62 ?_
        refine w_bipush (v := 48) X dX12_smallNumber_63 (by decide) ?_
        refine w_isub X dX12_smallNumber_65 ?_
        refine w_istore_n X dX12_smallNumber_66 rfl (by decide) ?_
        refine w_iload_n X dX12_smallNumber_67 rfl rfl ?_
        refine w_sipush (v := 999) X dX12_smallNumber_68 (by decide) ?_
        refine w_icmp_le (tgt := 80) X dX12_smallNumber_71 (by decide) (fun h71 => ?_) (fun h71 => ?_)
        · refine w_iload_n X dX12_smallNumber_80 rfl rfl ?_
          refine w_istore_n X dX12_smallNumber_81 rfl (by decide) ?_
          refine w_aload_n X dX12_smallNumber_82 rfl rfl ?_
          refine w_dup X dX12_smallNumber_83 rfl ?_
          refine g12_at X dX12_smallNumber_84 ?_
          try simp only [gI_sI, gI_sL, gL_sI, gL_sL, false_and, and_false, and_self, if_false, if_true, reduceIte, Nat.reduceEqDiff]
          refine w_iconst (v := 1) X dX12_smallNumber_87 (by decide) ?_
          refine w_iadd X dX12_smallNumber_88 ?_
          refine p12_at X dX12_smallNumber_89 ?_
          refine w_goto (tgt := 36) X dX12_smallNumber_92 (by decide) ?_
          rw [sI_sI, nI_1]
          refine ih (q + 1) _ hg (by omega) (by omega) ?_
          rw [hr]
          simp only [dv_]
          rw [if_pos e47]
          simp [dw_, h71]
        · refine w_sipush (v := 999) X dX12_smallNumber_74 (by decide) ?_
          refine w_goto (tgt := 81) X dX12_smallNumber_77 (by decide) ?_
          refine w_istore_n X dX12_smallNumber_81 rfl (by decide) ?_
          refine w_aload_n X dX12_smallNumber_82 rfl rfl ?_
          refine w_dup X dX12_smallNumber_83 rfl ?_
          refine g12_at X dX12_smallNumber_84 ?_
          try simp only [gI_sI, gI_sL, gL_sI, gL_sL, false_and, and_false, and_self, if_false, if_true, reduceIte, Nat.reduceEqDiff]
          refine w_iconst (v := 1) X dX12_smallNumber_87 (by decide) ?_
          refine w_iadd X dX12_smallNumber_88 ?_
          refine p12_at X dX12_smallNumber_89 ?_
          refine w_goto (tgt := 36) X dX12_smallNumber_92 (by decide) ?_
          rw [sI_sI, nI_1]
          refine ih (q + 1) _ hg (by omega) (by omega) ?_
          rw [hr]
          simp only [dv_]
          rw [if_pos e47]
          simp [dw_, h71]
  refine w_aload_n X dX12_smallNumber_0 rfl rfl ?_
  refine w_v0fV X dX12_smallNumber_1 k12_skip rfl rfl (c12_skip G hG _ _ n k ht ha (by omega)) (Nat.le_of_ble_eq_true rfl) ?_
  rw [← hs]
  refine w_aload_n X dX12_smallNumber_4 rfl rfl ?_
  refine g12_at X dX12_smallNumber_5 ?_
  try simp only [gI_sI, gI_sL, gL_sI, gL_sL, false_and, and_false, and_self, if_false, if_true, reduceIte, Nat.reduceEqDiff]
  refine w_istore_n X dX12_smallNumber_8 rfl (by decide) ?_
  refine w_aload_n X dX12_smallNumber_9 rfl rfl ?_
  refine w_aload_n X dX12_smallNumber_10 rfl rfl ?_
  refine g12_at X dX12_smallNumber_11 ?_
  try simp only [gI_sI, gI_sL, gL_sI, gL_sL, false_and, and_false, and_self, if_false, if_true, reduceIte, Nat.reduceEqDiff]
  refine w_v1fI X dX12_smallNumber_14 k12_byteAt rfl rfl (c12_byteAt G hG _ _ (nI s) (fun z => tz_in (tz_sI ht (by omega)) (by omega) z)) (Nat.le_of_ble_eq_true rfl) ?_
  rw [ba_bf (tz_sI ht (by omega)) (by omega), bf_sI (by omega)]
  refine w_s1fI X dX12_smallNumber_17 k12_isFigure (c12_isFigure G hG _ _ _) (Nat.le_of_ble_eq_true rfl) ?_
  refine w_if_ne (tgt := 34) X dX12_smallNumber_20 (by decide) (fun h20 => ?_) (fun h20 => ?_)
  · refine w_iconst (v := 0) X dX12_smallNumber_34 (by decide) ?_
    refine w_istore_n X dX12_smallNumber_35 rfl (by decide) ?_
    exact lp (n - s) s 0 h20 rfl hq rfl
  · refine w_aload_n X dX12_smallNumber_23 rfl rfl ?_
    refine w_iconst (v := 1) X dX12_smallNumber_24 (by decide) ?_
    refine w_aload_n X dX12_smallNumber_25 rfl rfl ?_
    refine g12_at X dX12_smallNumber_26 ?_
    try simp only [gI_sI, gI_sL, gL_sI, gL_sL, false_and, and_false, and_self, if_false, if_true, reduceIte, Nat.reduceEqDiff]
    refine w_v2fV X dX12_smallNumber_29 k12_fail rfl rfl (c12_fail G hG _ _ _ _) (Nat.le_of_ble_eq_true rfl) ?_
    refine w_iconst (v := 0) X dX12_smallNumber_32 (by decide) ?_
    exact w_irF X dX12_smallNumber_33 (if_pos h20).symm (if_pos h20).symm
set_option maxRecDepth 100000 in
set_option maxHeartbeats 4000000 in
theorem c12_newJob (G : gg_) (hG : gd_ G) (d : Nat) (M : mm_) (b z : Nat) (hb : b < 8) (hz : M.1 0 33 = nI z) (hz2 : z ≤ 12) (kd : Int32) : cm_ G yX12_newJob cX12_newJob 4 (some .int) d [.ref (G.1 0), .int kd, .int (nI b)] M (fI_ (nI b) (nj_ M b z kd)) := by
  refine cm_of hG (by decide) (Nat.le_of_ble_eq_true rfl) (fun C X => ?_)
  have e33 : ∀ j, (pj_ (sI_ (sI_ (sI_ (sI_ (sI_ M 12 b kd) 15 b 0) 14 b 0) 16 b (vp_nar .boolean 0)) 18 b (nI z)) b j).1 0 33 = nI z := fun j => by rw [pj_I j 0 33 (by omega)]; simp [sI_, hz]
  have e19 : ∀ j i, (pj_ (sI_ (sI_ (sI_ (sI_ (sI_ M 12 b kd) 15 b 0) 14 b 0) 16 b (vp_nar .boolean 0)) 18 b (nI z)) b j).1 19 i = M.1 19 i := fun j i => by rw [pj_I j 19 i (by omega)]; simp [sI_]
  have e48 : ∀ j, (48 : Int32) * nI b + nI j = nI (48 * b + j) := fun j => nI_m 48 b j
  have l2 : ∀ (u j : Nat), j + u = 48 → wq_ C G (qe_ C G (fI_ (nI b) (nj_ M b z kd))) 73 [some (.ref (G.1 0)), some (.int kd), some (.int (nI b)), some (.int (nI j))] [] (zj_ (pj_ (sI_ (sI_ (sI_ (sI_ (sI_ M 12 b kd) 15 b 0) 14 b 0) 16 b (vp_nar .boolean 0)) 18 b (nI z)) b z) b j) := by
    intro u
    induction u with
    | zero =>
      intro j hu
      obtain rfl : j = 48 := by omega
      refine w_iload_n X dX12_newJob_73 rfl rfl ?_
      refine w_bipush (v := 48) X dX12_newJob_74 (by decide) ?_
      refine w_icmp_ge (tgt := 97) X dX12_newJob_76 (by decide) (fun h76 => ?_) (fun h76 => absurd (by decide) h76)
      refine w_iload_n X dX12_newJob_97 rfl rfl ?_
      exact w_irF X dX12_newJob_98 rfl rfl
    | succ u ih =>
      intro j hu
      refine w_iload_n X dX12_newJob_73 rfl rfl ?_
      refine w_bipush (v := 48) X dX12_newJob_74 (by decide) ?_
      refine w_icmp_ge (tgt := 97) X dX12_newJob_76 (by decide) (fun h76 => absurd h76 (nI_ge (b := 48) (by omega) (by omega))) (fun h76 => ?_)
      refine w_aload_n X dX12_newJob_79 rfl rfl ?_
      refine g12_counts X dX12_newJob_80 ?_
      refine w_bipush (v := 48) X dX12_newJob_83 (by decide) ?_
      refine w_iload_n X dX12_newJob_85 rfl rfl ?_
      refine w_imul X dX12_newJob_86 ?_
      refine w_iload_n X dX12_newJob_87 rfl rfl ?_
      refine w_iadd X dX12_newJob_88 ?_
      rw [e48]
      refine w_iconst (v := 0) X dX12_newJob_89 (by decide) ?_
      refine w_iastoreN X dX12_newJob_90 rfl rfl (by omega) ?_
      refine w_iinc (v := 1) X dX12_newJob_91 rfl (by decide) (by decide) ?_
      refine w_goto (tgt := 73) X dX12_newJob_94 (by decide) ?_
      rw [nI_1]
      exact ih (j + 1) (by omega)
  have l1 : ∀ (u j : Nat), j + u = z → wq_ C G (qe_ C G (fI_ (nI b) (nj_ M b z kd))) 40 [some (.ref (G.1 0)), some (.int kd), some (.int (nI b)), some (.int (nI j))] [] (pj_ (sI_ (sI_ (sI_ (sI_ (sI_ M 12 b kd) 15 b 0) 14 b 0) 16 b (vp_nar .boolean 0)) 18 b (nI z)) b j) := by
    intro u
    induction u with
    | zero =>
      intro j hu
      obtain rfl : j = z := by omega
      refine w_iload_n X dX12_newJob_40 rfl rfl ?_
      refine w_aload_n X dX12_newJob_41 rfl rfl ?_
      refine g12_newPatternSize X dX12_newJob_42 ?_
      try simp only [gI_sI, gI_sL, gL_sI, gL_sL, false_and, and_false, and_self, if_false, if_true, reduceIte, Nat.reduceEqDiff, e33]
      refine w_icmp_ge (tgt := 71) X dX12_newJob_45 (by decide) (fun h45 => ?_) (fun h45 => absurd (Int32.le_refl _) h45)
      refine w_iconst (v := 0) X dX12_newJob_71 (by decide) ?_
      refine w_istore_n X dX12_newJob_72 rfl (by decide) ?_
      exact l2 48 0 (by omega)
    | succ u ih =>
      intro j hu
      refine w_iload_n X dX12_newJob_40 rfl rfl ?_
      refine w_aload_n X dX12_newJob_41 rfl rfl ?_
      refine g12_newPatternSize X dX12_newJob_42 ?_
      try simp only [gI_sI, gI_sL, gL_sI, gL_sL, false_and, and_false, and_self, if_false, if_true, reduceIte, Nat.reduceEqDiff, e33, e19]
      refine w_icmp_ge (tgt := 71) X dX12_newJob_45 (by decide) (fun h45 => absurd h45 (nI_ge (by omega) (by omega))) (fun h45 => ?_)
      refine w_aload_n X dX12_newJob_48 rfl rfl ?_
      refine g12_patterns X dX12_newJob_49 ?_
      refine w_bipush (v := 12) X dX12_newJob_52 (by decide) ?_
      refine w_iload_n X dX12_newJob_54 rfl rfl ?_
      refine w_imul X dX12_newJob_55 ?_
      refine w_iload_n X dX12_newJob_56 rfl rfl ?_
      refine w_iadd X dX12_newJob_57 ?_
      rw [nI_12]
      refine w_aload_n X dX12_newJob_58 rfl rfl ?_
      refine g12_newPattern X dX12_newJob_59 ?_
      refine w_iload_n X dX12_newJob_62 rfl rfl ?_
      refine w_ialoadN X dX12_newJob_63 rfl rfl (by omega) ?_
      try simp only [gI_sI, gI_sL, gL_sI, gL_sL, false_and, and_false, and_self, if_false, if_true, reduceIte, Nat.reduceEqDiff, e33, e19]
      refine w_iastoreN X dX12_newJob_64 rfl rfl (by omega) ?_
      refine w_iinc (v := 1) X dX12_newJob_65 rfl (by decide) (by decide) ?_
      refine w_goto (tgt := 40) X dX12_newJob_68 (by decide) ?_
      rw [nI_1]
      have e := ih (j + 1) (by omega)
      simp only [pj_] at e
      rw [show (sI_ (sI_ (sI_ (sI_ (sI_ M 12 b kd) 15 b 0) 14 b 0) 16 b (vp_nar .boolean 0)) 18 b (nI z)).1 19 j = M.1 19 j by simp [sI_]] at e
      exact e
  refine w_aload_n X dX12_newJob_0 rfl rfl ?_
  refine g12_kinds X dX12_newJob_1 ?_
  refine w_iload_n X dX12_newJob_4 rfl rfl ?_
  refine w_iload_n X dX12_newJob_5 rfl rfl ?_
  refine w_iastoreN X dX12_newJob_6 rfl rfl (by omega) ?_
  refine w_aload_n X dX12_newJob_7 rfl rfl ?_
  refine g12_mades X dX12_newJob_8 ?_
  refine w_iload_n X dX12_newJob_11 rfl rfl ?_
  refine w_iconst (v := 0) X dX12_newJob_12 (by decide) ?_
  refine w_iastoreN X dX12_newJob_13 rfl rfl (by omega) ?_
  refine w_aload_n X dX12_newJob_14 rfl rfl ?_
  refine g12_limits X dX12_newJob_15 ?_
  refine w_iload_n X dX12_newJob_18 rfl rfl ?_
  refine w_iconst (v := 0) X dX12_newJob_19 (by decide) ?_
  refine w_iastoreN X dX12_newJob_20 rfl rfl (by omega) ?_
  refine w_aload_n X dX12_newJob_21 rfl rfl ?_
  refine g12_conditioned X dX12_newJob_22 ?_
  refine w_iload_n X dX12_newJob_25 rfl rfl ?_
  refine w_iconst (v := 0) X dX12_newJob_26 (by decide) ?_
  refine w_bastoreN X dX12_newJob_27 rfl rfl (by omega) ?_
  refine w_aload_n X dX12_newJob_28 rfl rfl ?_
  refine g12_patternSizes X dX12_newJob_29 ?_
  refine w_iload_n X dX12_newJob_32 rfl rfl ?_
  refine w_aload_n X dX12_newJob_33 rfl rfl ?_
  refine g12_newPatternSize X dX12_newJob_34 ?_
  try simp only [gI_sI, gI_sL, gL_sI, gL_sL, false_and, and_false, and_self, if_false, if_true, reduceIte, Nat.reduceEqDiff, hz]
  refine w_iastoreN X dX12_newJob_37 rfl rfl (by omega) ?_
  refine w_iconst (v := 0) X dX12_newJob_38 (by decide) ?_
  refine w_istore_n X dX12_newJob_39 rfl (by decide) ?_
  exact l1 z 0 (by omega)
