/-- frames of level L and closer, up to 6, are put together -/
def rt_ (L : Nat) : List fr_ → Term → List fr_ × Term
  | [], e => ([], e)
  | f :: r, e => if L ≤ f.1 ∧ f.1 ≤ 6 then rt_ L r (rf_ f e) else (f :: r, e)
theorem ps2_tr {M N : mm_} {n k nd op n2 k2 nd2 op2 : Nat} {W W2 : List fr_} {u u2 : Option Term} {O : mm_} (h1 : ps2_ M n k W u nd op N) (h2 : ps2_ N n2 k2 W2 u2 nd2 op2 O) : ps2_ M n2 k2 W2 u2 nd2 op2 O := ⟨h2.1, pf_tr h1.2.1 h2.2.1, h2.2.2.1.trans h1.2.2.1, h2.2.2.2.trans h1.2.2.2⟩
theorem ps2_rf {M : mm_} {n k nd op : Nat} {W : List fr_} {u : Option Term} (h : pr_ M n k W u nd op) : ps2_ M n k W u nd op M := ⟨h, pf_rf M, rfl, rfl⟩
set_option maxRecDepth 100000 in
set_option maxHeartbeats 4000000 in
theorem c12_reduceTo (G : gg_) (hG : gd_ G) (d : Nat) (M : mm_) (n k nd op L : Nat) (hL : 1 ≤ L) (hL2 : L ≤ 8) (W : List fr_) (e : Term) (h : pr_ M n k W (some e) nd op) : cm_ G yX12_reduceTo cX12_reduceTo 2 none (d + 3) [.ref (G.1 0), .int (nI L)] M (rV_ (ps2_ M n k (rt_ L W e).1 (some (rt_ L W e).2) nd op)) := by
  refine cm_of hG (by decide) (Nat.le_of_ble_eq_true rfl) (fun C X => ?_)
  have lp : ∀ (V : List fr_) (t : Term) (N : mm_), ps2_ M n k V (some t) nd op N → rt_ L W e = rt_ L V t → wq_ C G (qe_ C G (rV_ (ps2_ M n k (rt_ L W e).1 (some (rt_ L W e).2) nd op))) 0 [some (.ref (G.1 0)), some (.int (nI L))] [] N := by
    intro V
    induction V with
    | nil =>
      intro t N hN hr
      have h20 : N.1 0 20 = nI 0 := hN.1.2.2.2.1
      refine w_aload_n X dX12_reduceTo_0 rfl rfl ?_
      refine g12_waiting X dX12_reduceTo_1 ?_
      try simp only [gI_sI, gI_sL, gL_sI, gL_sL, false_and, and_false, and_self, if_false, if_true, reduceIte, Nat.reduceEqDiff, h20]
      refine w_if_le (tgt := 45) X dX12_reduceTo_4 (by decide) (fun h4 => ?_) (fun h4 => absurd (by decide) h4)
      exact w_vrR X dX12_reduceTo_45 (by rw [hr]; exact hN)
    | cons f r ih =>
      intro t N hN hr
      have h20 : N.1 0 20 = nI (r.length + 1) := by have := hN.1.2.2.2.1; simpa using this
      have hle := (pr_len hN.1).2
      simp only [List.length_cons] at hle
      have hk7 : N.1 7 r.length = nI f.1 := hN.1.2.2.2.2.1.2.2.1
      have hf8 : f.1 ≤ 8 := hN.1.2.2.2.2.1.2.1.1
      refine w_aload_n X dX12_reduceTo_0 rfl rfl ?_
      refine g12_waiting X dX12_reduceTo_1 ?_
      try simp only [gI_sI, gI_sL, gL_sI, gL_sL, false_and, and_false, and_self, if_false, if_true, reduceIte, Nat.reduceEqDiff, h20, hk7]
      refine w_if_le (tgt := 45) X dX12_reduceTo_4 (by decide) (fun h4 => absurd h4 (nI_nle (by omega) (by omega))) (fun h4 => ?_)
      refine w_aload_n X dX12_reduceTo_7 rfl rfl ?_
      refine g12_waits X dX12_reduceTo_8 ?_
      refine w_aload_n X dX12_reduceTo_11 rfl rfl ?_
      refine g12_waiting X dX12_reduceTo_12 ?_
      try simp only [gI_sI, gI_sL, gL_sI, gL_sL, false_and, and_false, and_self, if_false, if_true, reduceIte, Nat.reduceEqDiff, h20, hk7]
      refine w_iconst (v := 1) X dX12_reduceTo_15 (by decide) ?_
      refine w_isub X dX12_reduceTo_16 ?_
      rw [nI_s1]
      refine w_ialoadN X dX12_reduceTo_17 rfl rfl (by omega) ?_
      try simp only [gI_sI, gI_sL, gL_sI, gL_sL, false_and, and_false, and_self, if_false, if_true, reduceIte, Nat.reduceEqDiff, h20, hk7]
      refine w_iload_n X dX12_reduceTo_18 rfl rfl ?_
      refine w_icmp_lt (tgt := 45) X dX12_reduceTo_19 (by decide) (fun h19 => ?_) (fun h19 => ?_)
      · have e19 : f.1 < L := (nI_ltI (by omega) (by omega)).mp h19
        refine w_vrR X dX12_reduceTo_45 ?_
        rw [hr]
        simp only [rt_]
        rw [if_neg (by omega)]
        exact hN
      · have e19 : L ≤ f.1 := Nat.not_lt.mp (fun q => h19 (nI_lt q (by omega)))
        refine w_aload_n X dX12_reduceTo_22 rfl rfl ?_
        refine g12_waits X dX12_reduceTo_23 ?_
        refine w_aload_n X dX12_reduceTo_26 rfl rfl ?_
        refine g12_waiting X dX12_reduceTo_27 ?_
        try simp only [gI_sI, gI_sL, gL_sI, gL_sL, false_and, and_false, and_self, if_false, if_true, reduceIte, Nat.reduceEqDiff, h20, hk7]
        refine w_iconst (v := 1) X dX12_reduceTo_30 (by decide) ?_
        refine w_isub X dX12_reduceTo_31 ?_
        rw [nI_s1]
        refine w_ialoadN X dX12_reduceTo_32 rfl rfl (by omega) ?_
        try simp only [gI_sI, gI_sL, gL_sI, gL_sL, false_and, and_false, and_self, if_false, if_true, reduceIte, Nat.reduceEqDiff, h20, hk7]
        refine w_bipush (v := 6) X dX12_reduceTo_33 (by decide) ?_
        refine w_icmp_gt (tgt := 45) X dX12_reduceTo_35 (by decide) (fun h35 => ?_) (fun h35 => ?_)
        · have e35 : 6 < f.1 := (nI_ltI (a := 6) (by omega) (by omega)).mp h35
          refine w_vrR X dX12_reduceTo_45 ?_
          rw [hr]
          simp only [rt_]
          rw [if_neg (by omega)]
          exact hN
        · have e35 : f.1 ≤ 6 := Nat.not_lt.mp (fun q => h35 (nI_lt (a := 6) q (by omega)))
          refine w_aload_n X dX12_reduceTo_38 rfl rfl ?_
          refine w_v0rV X dX12_reduceTo_39 k12_reduce rfl rfl (c12_reduce G hG _ N n k nd op f r t hN.1 (by omega) e35) (Nat.le_of_ble_eq_true rfl) (fun N39 h39 => ?_)
          refine w_goto (tgt := 0) X dX12_reduceTo_42 (by decide) ?_
          refine ih (rf_ f t) N39 (ps2_tr hN h39) ?_
          rw [hr]
          simp only [rt_]
          rw [if_pos ⟨e19, e35⟩]
  exact lp W e M (ps2_rf h) rfl
set_option maxRecDepth 100000 in
set_option maxHeartbeats 4000000 in
theorem c12_reduceTo_0 (G : gg_) (hG : gd_ G) (d : Nat) (M : mm_) (n k nd op L : Nat) (hL : 1 ≤ L) (hL2 : L ≤ 8) (W : List fr_) (u : Option Term) (hW : W = [] ∨ ∃ f r, W = f :: r ∧ (f.1 = 0 ∨ 7 ≤ f.1)) (h : pr_ M n k W u nd op) : cm_ G yX12_reduceTo cX12_reduceTo 2 none (d + 3) [.ref (G.1 0), .int (nI L)] M (fV_ M) := by
  refine cm_of hG (by decide) (Nat.le_of_ble_eq_true rfl) (fun C X => ?_)
  rcases hW with rfl | ⟨f, r, rfl, hf⟩
  · have h20 : M.1 0 20 = nI 0 := h.2.2.2.1
    refine w_aload_n X dX12_reduceTo_0 rfl rfl ?_
    refine g12_waiting X dX12_reduceTo_1 ?_
    try simp only [gI_sI, gI_sL, gL_sI, gL_sL, false_and, and_false, and_self, if_false, if_true, reduceIte, Nat.reduceEqDiff, h20]
    refine w_if_le (tgt := 45) X dX12_reduceTo_4 (by decide) (fun h4 => ?_) (fun h4 => absurd (by decide) h4)
    exact w_vrF X dX12_reduceTo_45 rfl
  · have h20 : M.1 0 20 = nI (r.length + 1) := by have := h.2.2.2.1; simpa using this
    have hle := (pr_len h).2
    simp only [List.length_cons] at hle
    have hk7 : M.1 7 r.length = nI f.1 := h.2.2.2.2.1.2.2.1
    have hf8 : f.1 ≤ 8 := h.2.2.2.2.1.2.1.1
    refine w_aload_n X dX12_reduceTo_0 rfl rfl ?_
    refine g12_waiting X dX12_reduceTo_1 ?_
    try simp only [gI_sI, gI_sL, gL_sI, gL_sL, false_and, and_false, and_self, if_false, if_true, reduceIte, Nat.reduceEqDiff, h20, hk7]
    refine w_if_le (tgt := 45) X dX12_reduceTo_4 (by decide) (fun h4 => absurd h4 (nI_nle (by omega) (by omega))) (fun h4 => ?_)
    refine w_aload_n X dX12_reduceTo_7 rfl rfl ?_
    refine g12_waits X dX12_reduceTo_8 ?_
    refine w_aload_n X dX12_reduceTo_11 rfl rfl ?_
    refine g12_waiting X dX12_reduceTo_12 ?_
    try simp only [gI_sI, gI_sL, gL_sI, gL_sL, false_and, and_false, and_self, if_false, if_true, reduceIte, Nat.reduceEqDiff, h20, hk7]
    refine w_iconst (v := 1) X dX12_reduceTo_15 (by decide) ?_
    refine w_isub X dX12_reduceTo_16 ?_
    rw [nI_s1]
    refine w_ialoadN X dX12_reduceTo_17 rfl rfl (by omega) ?_
    try simp only [gI_sI, gI_sL, gL_sI, gL_sL, false_and, and_false, and_self, if_false, if_true, reduceIte, Nat.reduceEqDiff, h20, hk7]
    refine w_iload_n X dX12_reduceTo_18 rfl rfl ?_
    refine w_icmp_lt (tgt := 45) X dX12_reduceTo_19 (by decide) (fun h19 => ?_) (fun h19 => ?_)
    · exact w_vrF X dX12_reduceTo_45 rfl
    · have e19 : L ≤ f.1 := Nat.not_lt.mp (fun q => h19 (nI_lt q (by omega)))
      refine w_aload_n X dX12_reduceTo_22 rfl rfl ?_
      refine g12_waits X dX12_reduceTo_23 ?_
      refine w_aload_n X dX12_reduceTo_26 rfl rfl ?_
      refine g12_waiting X dX12_reduceTo_27 ?_
      try simp only [gI_sI, gI_sL, gL_sI, gL_sL, false_and, and_false, and_self, if_false, if_true, reduceIte, Nat.reduceEqDiff, h20, hk7]
      refine w_iconst (v := 1) X dX12_reduceTo_30 (by decide) ?_
      refine w_isub X dX12_reduceTo_31 ?_
      rw [nI_s1]
      refine w_ialoadN X dX12_reduceTo_32 rfl rfl (by omega) ?_
      try simp only [gI_sI, gI_sL, gL_sI, gL_sL, false_and, and_false, and_self, if_false, if_true, reduceIte, Nat.reduceEqDiff, h20, hk7]
      refine w_bipush (v := 6) X dX12_reduceTo_33 (by decide) ?_
      refine w_icmp_gt (tgt := 45) X dX12_reduceTo_35 (by decide) (fun h35 => ?_) (fun h35 => absurd (nI_lt (a := 6) (by omega) (by omega)) h35)
      exact w_vrF X dX12_reduceTo_45 rfl
set_option maxRecDepth 100000 in
set_option maxHeartbeats 4000000 in
theorem c12_reduceAll (G : gg_) (hG : gd_ G) (d : Nat) (M : mm_) (n k nd op : Nat) (W : List fr_) (e : Term) (h : pr_ M n k W (some e) nd op) : cm_ G yX12_reduceAll cX12_reduceAll 1 none (d + 4) [.ref (G.1 0)] M (rV_ (ps2_ M n k (rt_ 1 W e).1 (some (rt_ 1 W e).2) nd op)) := by
  refine cm_of hG (by decide) (Nat.le_of_ble_eq_true rfl) (fun C X => ?_)
  refine w_aload_n X dX12_reduceAll_0 rfl rfl ?_
  refine w_iconst (v := 1) X dX12_reduceAll_1 (by decide) ?_
  refine w_v1rV X dX12_reduceAll_2 k12_reduceTo rfl rfl (c12_reduceTo G hG _ M n k nd op 1 (by omega) (by omega) W e h) (Nat.le_of_ble_eq_true rfl) (fun N2 h2 => ?_)
  exact w_vrR X dX12_reduceAll_5 h2
set_option maxRecDepth 100000 in
set_option maxHeartbeats 4000000 in
theorem c12_reduceAll_0 (G : gg_) (hG : gd_ G) (d : Nat) (M : mm_) (n k nd op : Nat) (W : List fr_) (u : Option Term) (hW : W = [] ∨ ∃ f r, W = f :: r ∧ (f.1 = 0 ∨ 7 ≤ f.1)) (h : pr_ M n k W u nd op) : cm_ G yX12_reduceAll cX12_reduceAll 1 none (d + 4) [.ref (G.1 0)] M (fV_ M) := by
  refine cm_of hG (by decide) (Nat.le_of_ble_eq_true rfl) (fun C X => ?_)
  refine w_aload_n X dX12_reduceAll_0 rfl rfl ?_
  refine w_iconst (v := 1) X dX12_reduceAll_1 (by decide) ?_
  refine w_v1fV X dX12_reduceAll_2 k12_reduceTo rfl rfl (c12_reduceTo_0 G hG _ M n k nd op 1 (by omega) (by omega) W u hW h) (Nat.le_of_ble_eq_true rfl) ?_
  exact w_vrF X dX12_reduceAll_5 rfl
