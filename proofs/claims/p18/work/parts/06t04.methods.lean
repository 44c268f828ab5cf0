/-! Methods, patterns, Job, Jobs. mt_: c methods are there; kf_: a method's key -/
def mt_ (M : mm_) (c : Nat) : Prop := c ≤ 16 ∧ M.1 45 2 = nI c
def mH_ (c : Nat) (x : Int32) : Int32 := if 0 ≤ x ∧ x < nI c then 1 else 0
def kf_ (M : mm_) (c : Nat) (x : Int32) : Int64 := if 0 ≤ x ∧ x < nI c then M.2.1 46 x.toNatClampNeg else 0
def mb2_ (M : mm_) : Prop := ∀ i, i < 17 → M.2.2 47 i = some (48 + 5 * i)
def fd1_ (M : mm_) (c : Nat) (y : Int64) : Nat → Nat → Int32
  | 0, _ => -1
  | u + 1, i => if M.2.1 46 i = y then nI i else fd1_ M c y u (i + 1)
def ma_ (M : mm_) (c : Nat) (y : Int64) : mm_ := sI_ (sL_ M 46 c y) 45 2 (nI (c + 1))
theorem mH_1 {c : Nat} {x : Int32} (h : ¬ mH_ c x = 0) : 0 ≤ x ∧ x < nI c := by
  unfold mH_ at h
  by_cases z : 0 ≤ x ∧ x < nI c
  · exact z
  · rw [if_neg z] at h; exact absurd rfl h
theorem mH_0 {c : Nat} {x : Int32} (h : mH_ c x = 0) : ¬ (0 ≤ x ∧ x < nI c) := by
  intro z
  unfold mH_ at h
  rw [if_pos z] at h
  exact absurd h (by decide)
set_option maxRecDepth 100000 in
set_option maxHeartbeats 600000 in
theorem c5_has (G : gg_) (hG : gd_ G) (d : Nat) (M : mm_) (c : Nat) (hc : mt_ M c) (x : Int32) : cm_ G yX5_has cX5_has 2 (some .boolean) (d) [.ref (G.1 45), .int x] M (fI_ (mH_ c x) M) := by
  refine cm_of hG (by decide) (Nat.le_of_ble_eq_true rfl) (fun C X => ?_)
  refine w_iload_n X dX5_has_0 rfl rfl ?_
  refine w_if_lt (tgt := 16) X dX5_has_1 (by decide) (fun h1 => ?_) (fun h1 => ?_)
  · refine w_iconst (v := 0) X dX5_has_16 (by decide) ?_
    refine w_zrF X dX5_has_17 (by first | exact Or.inl rfl | exact Or.inr rfl) ?_ rfl
    unfold mH_
    exact (if_neg (fun z => absurd h1 (Int32.not_lt.mpr z.1))).symm
  · refine w_iload_n X dX5_has_4 rfl rfl ?_
    refine w_aload_n X dX5_has_5 rfl rfl ?_
    refine g5_22 X dX5_has_6 s_45 rfl ?_
    try simp only [gI_sI, gI_sL, gL_sI, gL_sL, gR_sI, gR_sL, gI_sR, gL_sR, gR_sR, false_and, and_false, and_self, if_false, if_true, reduceIte, Nat.reduceEqDiff, hc.2]
    refine w_icmp_ge (tgt := 16) X dX5_has_9 (by decide) (fun h9 => ?_) (fun h9 => ?_)
    · refine w_iconst (v := 0) X dX5_has_16 (by decide) ?_
      refine w_zrF X dX5_has_17 (by first | exact Or.inl rfl | exact Or.inr rfl) ?_ rfl
      unfold mH_
      exact (if_neg (fun z => absurd h9 (Int32.not_le.mpr z.2))).symm
    · refine w_iconst (v := 1) X dX5_has_12 (by decide) ?_
      refine w_goto (tgt := 17) X dX5_has_13 (by decide) ?_
      refine w_zrF X dX5_has_17 (by first | exact Or.inl rfl | exact Or.inr rfl) ?_ rfl
      unfold mH_
      exact (if_pos ⟨Int32.not_lt.mp h1, Int32.not_le.mp h9⟩).symm
set_option maxRecDepth 100000 in
set_option maxHeartbeats 600000 in
theorem c5_isFull (G : gg_) (hG : gd_ G) (d : Nat) (M : mm_) (c : Nat) (hc : mt_ M c) : cm_ G yX5_isFull cX5_isFull 1 (some .boolean) (d) [.ref (G.1 45)] M (fI_ (if c < 16 then 0 else 1) M) := by
  refine cm_of hG (by decide) (Nat.le_of_ble_eq_true rfl) (fun C X => ?_)
  refine w_aload_n X dX5_isFull_0 rfl rfl ?_
  refine g5_22 X dX5_isFull_1 s_45 rfl ?_
  try simp only [gI_sI, gI_sL, gL_sI, gL_sL, gR_sI, gR_sL, gI_sR, gL_sR, gR_sR, false_and, and_false, and_self, if_false, if_true, reduceIte, Nat.reduceEqDiff, hc.2]
  refine w_bipush (v := 16) X dX5_isFull_4 (by decide) ?_
  refine w_icmp_lt (tgt := 13) X dX5_isFull_6 (by decide) (fun h6 => ?_) (fun h6 => ?_)
  · refine w_iconst (v := 0) X dX5_isFull_13 (by decide) ?_
    refine w_zrF X dX5_isFull_14 (by first | exact Or.inl rfl | exact Or.inr rfl) ?_ rfl
    exact (if_pos (Nat.lt_of_not_le (fun z => absurd h6 (nI_nlt (a := c) (b := 16) z (by have := hc.1; omega))))).symm
  · refine w_iconst (v := 1) X dX5_isFull_9 (by decide) ?_
    refine w_goto (tgt := 14) X dX5_isFull_10 (by decide) ?_
    refine w_zrF X dX5_isFull_14 (by first | exact Or.inl rfl | exact Or.inr rfl) ?_ rfl
    exact (if_neg (fun z => h6 (nI_lt (a := c) (b := 16) z (by decide)))).symm
set_option maxRecDepth 100000 in
set_option maxHeartbeats 600000 in
theorem c5_size (G : gg_) (hG : gd_ G) (d : Nat) (M : mm_) (c : Nat) (hc : mt_ M c) : cm_ G yX5_size cX5_size 1 (some .int) (d) [.ref (G.1 45)] M (fI_ (nI c) M) := by
  refine cm_of hG (by decide) (Nat.le_of_ble_eq_true rfl) (fun C X => ?_)
  refine w_aload_n X dX5_size_0 rfl rfl ?_
  refine g5_22 X dX5_size_1 s_45 rfl ?_
  try simp only [gI_sI, gI_sL, gL_sI, gL_sL, gR_sI, gR_sL, gI_sR, gL_sR, gR_sR, false_and, and_false, and_self, if_false, if_true, reduceIte, Nat.reduceEqDiff, hc.2]
  exact w_irF X dX5_size_4 rfl rfl
set_option maxRecDepth 100000 in
set_option maxHeartbeats 600000 in
theorem c5_keyOf (G : gg_) (hG : gd_ G) (d : Nat) (M : mm_) (c : Nat) (hc : mt_ M c) (x : Int32) : cm_ G yX5_keyOf cX5_keyOf 2 (some .long) (d + 1) [.ref (G.1 45), .int x] M (fL_ (kf_ M c x) M) := by
  refine cm_of hG (by decide) (Nat.le_of_ble_eq_true rfl) (fun C X => ?_)
  refine w_aload_n X dX5_keyOf_0 rfl rfl ?_
  refine w_iload_n X dX5_keyOf_1 rfl rfl ?_
  refine w_v1fI X dX5_keyOf_2 k5_26 rfl s_45 (c5_has G hG _ _ c hc _) (Nat.le_of_ble_eq_true rfl) ?_
  refine w_if_eq (tgt := 17) X dX5_keyOf_5 (by decide) (fun h5 => ?_) (fun h5 => ?_)
  · refine w_lconst (v := 0) X dX5_keyOf_17 (by decide) ?_
    refine w_lrF X dX5_keyOf_18 ?_ rfl
    unfold kf_
    exact (if_neg (mH_0 h5)).symm
  · obtain ⟨j, hj, rfl⟩ := ix_ (Nat.lt_of_le_of_lt hc.1 (by decide)) (Int32.not_lt.mpr (mH_1 h5).1) (Int32.not_le.mpr (mH_1 h5).2)
    refine w_aload_n X dX5_keyOf_8 rfl rfl ?_
    refine g5_11 X dX5_keyOf_9 s_45 rfl ?_
    refine w_iload_n X dX5_keyOf_12 rfl rfl ?_
    refine w_laloadN X dX5_keyOf_13 s_46 rfl (⟨Nat.lt_of_lt_of_le hj hc.1, by decide⟩) ?_
    try simp only [gI_sI, gI_sL, gL_sI, gL_sL, gR_sI, gR_sL, gI_sR, gL_sR, gR_sR, false_and, and_false, and_self, if_false, if_true, reduceIte, Nat.reduceEqDiff, hc.2]
    refine w_goto (tgt := 18) X dX5_keyOf_14 (by decide) ?_
    refine w_lrF X dX5_keyOf_18 ?_ rfl
    unfold kf_
    rw [if_pos (mH_1 h5), nI_clamp (by have := hc.1; omega)]
set_option maxRecDepth 100000 in
set_option maxHeartbeats 600000 in
theorem c5_parametersOf (G : gg_) (hG : gd_ G) (d : Nat) (M : mm_) (c : Nat) (hc : mt_ M c) (x : Int32) : cm_ G yX5_parametersOf cX5_parametersOf 2 (some .int) (d + 2) [.ref (G.1 45), .int x] M (fI_ (poX_ (kf_ M c x)) M) := by
  refine cm_of hG (by decide) (Nat.le_of_ble_eq_true rfl) (fun C X => ?_)
  refine w_aload_n X dX5_parametersOf_0 rfl rfl ?_
  refine w_iload_n X dX5_parametersOf_1 rfl rfl ?_
  refine w_v1fL X dX5_parametersOf_2 k5_30 rfl s_45 (c5_keyOf G hG _ _ c hc _) (Nat.le_of_ble_eq_true rfl) ?_
  refine w_s1fI X dX5_parametersOf_5 k5_34 (c6_parametersOf G hG _ _ _) (Nat.le_of_ble_eq_true rfl) ?_
  exact w_irF X dX5_parametersOf_8 rfl rfl
set_option maxRecDepth 100000 in
set_option maxHeartbeats 600000 in
theorem c5_body (G : gg_) (hG : gd_ G) (d : Nat) (M : mm_) (c : Nat) (hc : mt_ M c) (hb : mb2_ M) (j : Nat) (hj : j < c) : cm_ G yX5_body cX5_body 2 (some (.object "ProbeConsole$Code")) (d + 1) [.ref (G.1 45), .int (nI j)] M (fR_ G (48 + 5 * j) M) := by
  refine cm_of hG (by decide) (Nat.le_of_ble_eq_true rfl) (fun C X => ?_)
  refine w_aload_n X dX5_body_0 rfl rfl ?_
  refine g5_17 X dX5_body_1 s_45 rfl ?_
  refine w_aload_n X dX5_body_4 rfl rfl ?_
  refine w_iload_n X dX5_body_5 rfl rfl ?_
  refine w_v1fI X dX5_body_6 k5_26 rfl s_45 (c5_has G hG _ _ c hc _) (Nat.le_of_ble_eq_true rfl) ?_
  refine w_if_eq (tgt := 16) X dX5_body_9 (by decide) (fun h9 => absurd (⟨nI_pos' (by have := hc.1; omega), nI_lt hj (by have := hc.1; omega)⟩ : 0 ≤ nI j ∧ nI j < nI c) (mH_0 h9)) (fun h9 => ?_)
  refine w_iload_n X dX5_body_12 rfl rfl ?_
  refine w_goto (tgt := 18) X dX5_body_13 (by decide) ?_
  refine w_aaload X dX5_body_18 s_47 rfl rfl (⟨by have := hc.1; omega, by decide⟩) (hb j (by have := hc.1; omega)) ?_
  exact w_areturn X dX5_body_19 ⟨rfl, rfl⟩
set_option maxRecDepth 100000 in
set_option maxHeartbeats 600000 in
theorem c5_spareBody (G : gg_) (hG : gd_ G) (d : Nat) (M : mm_) (c : Nat) (hc : mt_ M c) (hb : mb2_ M) : cm_ G yX5_spareBody cX5_spareBody 1 (some (.object "ProbeConsole$Code")) (d) [.ref (G.1 45)] M (fR_ G (48 + 5 * c) M) := by
  refine cm_of hG (by decide) (Nat.le_of_ble_eq_true rfl) (fun C X => ?_)
  refine w_aload_n X dX5_spareBody_0 rfl rfl ?_
  refine g5_17 X dX5_spareBody_1 s_45 rfl ?_
  refine w_aload_n X dX5_spareBody_4 rfl rfl ?_
  refine g5_22 X dX5_spareBody_5 s_45 rfl ?_
  try simp only [gI_sI, gI_sL, gL_sI, gL_sL, gR_sI, gR_sL, gI_sR, gL_sR, gR_sR, false_and, and_false, and_self, if_false, if_true, reduceIte, Nat.reduceEqDiff, hc.2]
  refine w_aaload X dX5_spareBody_8 s_47 rfl rfl (⟨by have := hc.1; omega, by decide⟩) (hb c (by have := hc.1; omega)) ?_
  exact w_areturn X dX5_spareBody_9 ⟨rfl, rfl⟩
set_option maxRecDepth 100000 in
set_option maxHeartbeats 600000 in
theorem c5_find (G : gg_) (hG : gd_ G) (d : Nat) (M : mm_) (c : Nat) (hc : mt_ M c) (y : Int64) : cm_ G yX5_find cX5_find 4 (some .int) (d) [.ref (G.1 45), .long y] M (fI_ (fd1_ M c y c 0) M) := by
  refine cm_of hG (by decide) (Nat.le_of_ble_eq_true rfl) (fun C X => ?_)
  have lp : ∀ (u i : Nat), i + u = c → fd1_ M c y u i = fd1_ M c y c 0 → wq_ C G (qe_ C G (fI_ (fd1_ M c y c 0) M)) 2 [some (.ref (G.1 45)), some (.long y), none, some (.int (nI i))] [] M := by
    intro u
    induction u with
    | zero =>
      intro i h1 h3
      obtain rfl : i = c := by omega
      rw [fd1_] at h3
      refine w_iload_n X dX5_find_2 rfl rfl ?_
      refine w_aload_n X dX5_find_3 rfl rfl ?_
      refine g5_22 X dX5_find_4 s_45 rfl ?_
      try simp only [gI_sI, gI_sL, gL_sI, gL_sL, gR_sI, gR_sL, gI_sR, gL_sR, gR_sR, false_and, and_false, and_self, if_false, if_true, reduceIte, Nat.reduceEqDiff, hc.2]
      refine w_icmp_ge (tgt := 29) X dX5_find_7 (by decide) (fun h7 => ?_) (fun h7 => absurd (Int32.le_refl _) h7)
      refine w_iconst (v := -1) X dX5_find_29 (by decide) ?_
      exact w_irF X dX5_find_30 h3 rfl
    | succ u ih =>
      intro i h1 h3
      have h16 := hc.1
      rw [fd1_] at h3
      refine w_iload_n X dX5_find_2 rfl rfl ?_
      refine w_aload_n X dX5_find_3 rfl rfl ?_
      refine g5_22 X dX5_find_4 s_45 rfl ?_
      try simp only [gI_sI, gI_sL, gL_sI, gL_sL, gR_sI, gR_sL, gI_sR, gL_sR, gR_sR, false_and, and_false, and_self, if_false, if_true, reduceIte, Nat.reduceEqDiff, hc.2]
      refine w_icmp_ge (tgt := 29) X dX5_find_7 (by decide) (fun h7 => absurd h7 (nI_ge (by omega) (by omega))) (fun h7 => ?_)
      refine w_aload_n X dX5_find_10 rfl rfl ?_
      refine g5_11 X dX5_find_11 s_45 rfl ?_
      refine w_iload_n X dX5_find_14 rfl rfl ?_
      refine w_laloadN X dX5_find_15 s_46 rfl (by omega) ?_
      try simp only [gI_sI, gI_sL, gL_sI, gL_sL, gR_sI, gR_sL, gI_sR, gL_sR, gR_sR, false_and, and_false, and_self, if_false, if_true, reduceIte, Nat.reduceEqDiff, hc.2]
      refine w_lload_n X dX5_find_16 rfl rfl ?_
      refine w_lcmp X dX5_find_17 ?_
      refine w_if_ne (tgt := 23) X dX5_find_18 (by decide) (fun h18 => ?_) (fun h18 => ?_)
      · rw [lc_] at h18
        rw [if_neg h18] at h3
        refine w_iinc (v := 1) X dX5_find_23 rfl (by decide) (by decide) ?_
        refine w_goto (tgt := 2) X dX5_find_26 (by decide) ?_
        rw [nI_1]
        exact ih (i + 1) (by omega) h3
      · have h18 := lc_.mp h18
        rw [if_pos h18] at h3
        refine w_iload_n X dX5_find_21 rfl rfl ?_
        exact w_irF X dX5_find_22 h3 rfl
  refine w_iconst (v := 0) X dX5_find_0 (by decide) ?_
  refine w_istore_n X dX5_find_1 rfl (by decide) ?_
  exact lp c 0 (by omega) rfl
set_option maxRecDepth 100000 in
set_option maxHeartbeats 600000 in
theorem c5_add (G : gg_) (hG : gd_ G) (d : Nat) (M : mm_) (c : Nat) (hc : mt_ M c) (hn : c < 16) (y : Int64) : cm_ G yX5_add cX5_add 3 (some .int) (d + 1) [.ref (G.1 45), .long y] M (fI_ (nI c) (ma_ M c y)) := by
  refine cm_of hG (by decide) (Nat.le_of_ble_eq_true rfl) (fun C X => ?_)
  refine w_aload_n X dX5_add_0 rfl rfl ?_
  refine w_v0fI X dX5_add_1 k5_40 rfl s_45 (c5_isFull G hG _ _ c hc) (Nat.le_of_ble_eq_true rfl) ?_
  refine w_if_eq (tgt := 9) X dX5_add_4 (by decide) (fun h4 => ?_) (fun h4 => absurd (if_pos hn) h4)
  refine w_aload_n X dX5_add_9 rfl rfl ?_
  refine g5_11 X dX5_add_10 s_45 rfl ?_
  refine w_aload_n X dX5_add_13 rfl rfl ?_
  refine g5_22 X dX5_add_14 s_45 rfl ?_
  try simp only [gI_sI, gI_sL, gL_sI, gL_sL, gR_sI, gR_sL, gI_sR, gL_sR, gR_sR, false_and, and_false, and_self, if_false, if_true, reduceIte, Nat.reduceEqDiff, hc.2]
  refine w_lload_n X dX5_add_17 rfl rfl ?_
  refine w_lastoreN X dX5_add_18 s_46 rfl (⟨hn, by decide⟩) ?_
  refine w_aload_n X dX5_add_19 rfl rfl ?_
  refine w_dup X dX5_add_20 rfl ?_
  refine g5_22 X dX5_add_21 s_45 rfl ?_
  try simp only [gI_sI, gI_sL, gL_sI, gL_sL, gR_sI, gR_sL, gI_sR, gL_sR, gR_sR, false_and, and_false, and_self, if_false, if_true, reduceIte, Nat.reduceEqDiff, hc.2]
  refine w_iconst (v := 1) X dX5_add_24 (by decide) ?_
  refine w_iadd X dX5_add_25 ?_
  refine p5_22 X dX5_add_26 s_45 rfl ?_
  refine w_aload_n X dX5_add_29 rfl rfl ?_
  refine g5_22 X dX5_add_30 s_45 rfl ?_
  try simp only [gI_sI, gI_sL, gL_sI, gL_sL, gR_sI, gR_sL, gI_sR, gL_sR, gR_sR, false_and, and_false, and_self, if_false, if_true, reduceIte, Nat.reduceEqDiff, hc.2]
  refine w_iconst (v := 1) X dX5_add_33 (by decide) ?_
  refine w_isub X dX5_add_34 ?_
  rw [nI_1, nI_pred]
  exact w_irF X dX5_add_35 rfl rfl
def btX_ (x : Int32) (p : Int32) : Int32 := (x.toUInt32 >>> (p.toUInt32 &&& Int32.toUInt32 31)).toInt32 &&& 1
def ps1_ (t : Int64) : Nat → Nat → Int32 → Int32
  | 0, _, x => x
  | u + 1, p, x => ps1_ t u (p + 1) (if btX_ x (nI p) = 1 ∧ saX_ t (nI p) = 28 then x ||| (1 <<< (nI (p + 1) &&& 31)) else x)
def psX_ (t : Int64) (x : Int32) : Int32 := ps1_ t 12 0 x
def pg1_ (t : Int64) (x c : Int32) : Nat → Nat → Int32 → Int32
  | 0, _, f => f
  | u + 1, p, f => pg1_ t x c u (p + 1) (if btX_ x (nI p) = 1 ∧ saX_ t (nI p) = 28 then f ||| (1 <<< (nI p &&& 31)) else if btX_ x (nI p) = 1 ∧ (saX_ t (nI p) = 29 ∨ saX_ t (nI p) = c) then f ||| (1 <<< (nI (p + 1) &&& 31)) else f)
def pgn_ (t : Int64) (x c : Int32) : Int32 := pg1_ t x c 12 0 0
def ft1_ (t k : Int64) : Nat → Nat → Int32 → Int32 → Int32 × Int32
  | 0, _, x, e => (x, e)
  | u + 1, i, x, e => ft1_ t k u (i + 1) (if saX_ k (nI i) = 0 then x else psX_ t (pgn_ t x (saX_ k (nI i)))) (if saX_ t (nI i) = 0 then e else nI (i + 1))
/-- does the pattern fit the name -/
def ftX_ (t k : Int64) : Int32 := if btX_ (ft1_ t k 12 0 (psX_ t 1) 0).1 (ft1_ t k 12 0 (psX_ t 1) 0).2 = 1 then 1 else 0
set_option maxRecDepth 100000 in
set_option maxHeartbeats 600000 in
theorem c6_pastStars (G : gg_) (hG : gd_ G) (d : Nat) (M : mm_) (t : Int64) (x : Int32) : cm_ G yX6_pastStars cX6_pastStars 5 (some .int) (d + 1) [.long t, .int x] M (fI_ (psX_ t x) M) := by
  refine cm_of hG (by decide) (Nat.le_of_ble_eq_true rfl) (fun C X => ?_)
  have lp : ∀ (u i : Nat) (y : Int32), i + u = 12 → ps1_ t u i y = psX_ t x → wq_ C G (qe_ C G (fI_ (psX_ t x) M)) 5 [some (.long t), none, some (.int x), some (.int y), some (.int (nI i))] [] M := by
    intro u
    induction u with
    | zero =>
      intro i y h1 h3
      obtain rfl : i = 12 := by omega
      rw [ps1_] at h3
      refine w_iload X dX6_pastStars_5 rfl ?_
      refine w_bipush (v := 12) X dX6_pastStars_7 (by decide) ?_
      refine w_icmp_ge (tgt := 48) X dX6_pastStars_9 (by decide) (fun h9 => ?_) (fun h9 => absurd (by decide) h9)
      refine w_iload_n X dX6_pastStars_48 rfl rfl ?_
      exact w_irF X dX6_pastStars_49 h3 rfl
    | succ u ih =>
      intro i y h1 h3
      rw [ps1_] at h3
      refine w_iload X dX6_pastStars_5 rfl ?_
      refine w_bipush (v := 12) X dX6_pastStars_7 (by decide) ?_
      refine w_icmp_ge (tgt := 48) X dX6_pastStars_9 (by decide) (fun h9 => absurd h9 (nI_ge (a := i) (b := 12) (by omega) (by decide))) (fun h9 => ?_)
      refine w_iload_n X dX6_pastStars_12 rfl rfl ?_
      refine w_iload X dX6_pastStars_13 rfl ?_
      refine w_iushr X dX6_pastStars_15 ?_
      refine w_iconst (v := 1) X dX6_pastStars_16 (by decide) ?_
      refine w_iand X dX6_pastStars_17 ?_
      refine w_iconst (v := 1) X dX6_pastStars_18 (by decide) ?_
      refine w_icmp_ne (tgt := 42) X dX6_pastStars_19 (by decide) (fun h19 => ?_) (fun h19 => ?_)
      · rw [if_neg (fun z => h19 z.1)] at h3
        refine w_iinc (v := 1) X dX6_pastStars_42 rfl (by decide) (by decide) ?_
        refine w_goto (tgt := 5) X dX6_pastStars_45 (by decide) ?_
        rw [nI_1]
        exact ih (i + 1) _ (by omega) h3
      · refine w_lload_n X dX6_pastStars_22 rfl rfl ?_
        refine w_iload X dX6_pastStars_23 rfl ?_
        refine w_s2fI X dX6_pastStars_25 k6_13 (c6_signAt G hG _ _ _ _) (Nat.le_of_ble_eq_true rfl) ?_
        refine w_bipush (v := 28) X dX6_pastStars_28 (by decide) ?_
        refine w_icmp_ne (tgt := 42) X dX6_pastStars_30 (by decide) (fun h30 => ?_) (fun h30 => ?_)
        · rw [if_neg (fun z => h30 z.2)] at h3
          refine w_iinc (v := 1) X dX6_pastStars_42 rfl (by decide) (by decide) ?_
          refine w_goto (tgt := 5) X dX6_pastStars_45 (by decide) ?_
          rw [nI_1]
          exact ih (i + 1) _ (by omega) h3
        · rw [if_pos ⟨h19, h30⟩] at h3
          refine w_iload_n X dX6_pastStars_33 rfl rfl ?_
          refine w_iconst (v := 1) X dX6_pastStars_34 (by decide) ?_
          refine w_iload X dX6_pastStars_35 rfl ?_
          refine w_iconst (v := 1) X dX6_pastStars_37 (by decide) ?_
          refine w_iadd X dX6_pastStars_38 ?_
          rw [nI_1]
          refine w_ishl X dX6_pastStars_39 ?_
          refine w_ior X dX6_pastStars_40 ?_
          refine w_istore_n X dX6_pastStars_41 rfl (by decide) ?_
          refine w_iinc (v := 1) X dX6_pastStars_42 rfl (by decide) (by decide) ?_
          refine w_goto (tgt := 5) X dX6_pastStars_45 (by decide) ?_
          rw [nI_1]
          exact ih (i + 1) _ (by omega) h3
  refine w_iload_n X dX6_pastStars_0 rfl rfl ?_
  refine w_istore_n X dX6_pastStars_1 rfl (by decide) ?_
  refine w_iconst (v := 0) X dX6_pastStars_2 (by decide) ?_
  refine w_istore X dX6_pastStars_3 (by decide) ?_
  exact lp 12 0 x (by omega) rfl
set_option maxRecDepth 100000 in
set_option maxHeartbeats 600000 in
theorem c6_pastSign (G : gg_) (hG : gd_ G) (d : Nat) (M : mm_) (t : Int64) (x c : Int32) : cm_ G yX6_pastSign cX6_pastSign 7 (some .int) (d + 1) [.long t, .int x, .int c] M (fI_ (pgn_ t x c) M) := by
  refine cm_of hG (by decide) (Nat.le_of_ble_eq_true rfl) (fun C X => ?_)
  have lp : ∀ (u i : Nat) (f : Int32) (o : Option Value), i + u = 12 → pg1_ t x c u i f = pgn_ t x c → wq_ C G (qe_ C G (fI_ (pgn_ t x c) M)) 6 [some (.long t), none, some (.int x), some (.int c), some (.int f), some (.int (nI i)), o] [] M := by
    intro u
    induction u with
    | zero =>
      intro i f o h1 h3
      obtain rfl : i = 12 := by omega
      rw [pg1_] at h3
      refine w_iload X dX6_pastSign_6 rfl ?_
      refine w_bipush (v := 12) X dX6_pastSign_8 (by decide) ?_
      refine w_icmp_ge (tgt := 90) X dX6_pastSign_10 (by decide) (fun h10 => ?_) (fun h10 => absurd (by decide) h10)
      refine w_iload X dX6_pastSign_90 rfl ?_
      exact w_irF X dX6_pastSign_92 h3 rfl
    | succ u ih =>
      intro i f o h1 h3
      rw [pg1_] at h3
      refine w_iload X dX6_pastSign_6 rfl ?_
      refine w_bipush (v := 12) X dX6_pastSign_8 (by decide) ?_
      refine w_icmp_ge (tgt := 90) X dX6_pastSign_10 (by decide) (fun h10 => absurd h10 (nI_ge (a := i) (b := 12) (by omega) (by decide))) (fun h10 => ?_)
      refine w_lload_n X dX6_pastSign_13 rfl rfl ?_
      refine w_iload X dX6_pastSign_14 rfl ?_
      refine w_s2fI X dX6_pastSign_16 k6_13 (c6_signAt G hG _ _ _ _) (Nat.le_of_ble_eq_true rfl) ?_
      refine w_istore X dX6_pastSign_19 (by decide) ?_
      refine w_iload_n X dX6_pastSign_21 rfl rfl ?_
      refine w_iload X dX6_pastSign_22 rfl ?_
      refine w_iushr X dX6_pastSign_24 ?_
      refine w_iconst (v := 1) X dX6_pastSign_25 (by decide) ?_
      refine w_iand X dX6_pastSign_26 ?_
      refine w_iconst (v := 1) X dX6_pastSign_27 (by decide) ?_
      refine w_icmp_ne (tgt := 50) X dX6_pastSign_28 (by decide) (fun h28 => ?_) (fun h28 => ?_)
      · rw [if_neg (fun z => h28 z.1)] at h3
        refine w_iload_n X dX6_pastSign_50 rfl rfl ?_
        refine w_iload X dX6_pastSign_51 rfl ?_
        refine w_iushr X dX6_pastSign_53 ?_
        refine w_iconst (v := 1) X dX6_pastSign_54 (by decide) ?_
        refine w_iand X dX6_pastSign_55 ?_
        refine w_iconst (v := 1) X dX6_pastSign_56 (by decide) ?_
        refine w_icmp_ne (tgt := 84) X dX6_pastSign_57 (by decide) (fun h57 => ?_) (fun h57 => ?_)
        · rw [if_neg (fun z => h57 z.1)] at h3
          refine w_iinc (v := 1) X dX6_pastSign_84 rfl (by decide) (by decide) ?_
          refine w_goto (tgt := 6) X dX6_pastSign_87 (by decide) ?_
          rw [nI_1]
          exact ih (i + 1) _ _ (by omega) h3
        · refine w_iload X dX6_pastSign_60 rfl ?_
          refine w_bipush (v := 29) X dX6_pastSign_62 (by decide) ?_
          refine w_icmp_eq (tgt := 73) X dX6_pastSign_64 (by decide) (fun h64 => ?_) (fun h64 => ?_)
          · rw [if_pos ⟨h57, Or.inl h64⟩] at h3
            refine w_iload X dX6_pastSign_73 rfl ?_
            refine w_iconst (v := 1) X dX6_pastSign_75 (by decide) ?_
            refine w_iload X dX6_pastSign_76 rfl ?_
            refine w_iconst (v := 1) X dX6_pastSign_78 (by decide) ?_
            refine w_iadd X dX6_pastSign_79 ?_
            rw [nI_1]
            refine w_ishl X dX6_pastSign_80 ?_
            refine w_ior X dX6_pastSign_81 ?_
            refine w_istore X dX6_pastSign_82 (by decide) ?_
            refine w_iinc (v := 1) X dX6_pastSign_84 rfl (by decide) (by decide) ?_
            refine w_goto (tgt := 6) X dX6_pastSign_87 (by decide) ?_
            rw [nI_1]
            exact ih (i + 1) _ _ (by omega) h3
          · refine w_iload X dX6_pastSign_67 rfl ?_
            refine w_iload_n X dX6_pastSign_69 rfl rfl ?_
            refine w_icmp_ne (tgt := 84) X dX6_pastSign_70 (by decide) (fun h70 => ?_) (fun h70 => ?_)
            · rw [if_neg (fun z => z.2.elim h64 h70)] at h3
              refine w_iinc (v := 1) X dX6_pastSign_84 rfl (by decide) (by decide) ?_
              refine w_goto (tgt := 6) X dX6_pastSign_87 (by decide) ?_
              rw [nI_1]
              exact ih (i + 1) _ _ (by omega) h3
            · rw [if_pos ⟨h57, Or.inr h70⟩] at h3
              refine w_iload X dX6_pastSign_73 rfl ?_
              refine w_iconst (v := 1) X dX6_pastSign_75 (by decide) ?_
              refine w_iload X dX6_pastSign_76 rfl ?_
              refine w_iconst (v := 1) X dX6_pastSign_78 (by decide) ?_
              refine w_iadd X dX6_pastSign_79 ?_
              rw [nI_1]
              refine w_ishl X dX6_pastSign_80 ?_
              refine w_ior X dX6_pastSign_81 ?_
              refine w_istore X dX6_pastSign_82 (by decide) ?_
              refine w_iinc (v := 1) X dX6_pastSign_84 rfl (by decide) (by decide) ?_
              refine w_goto (tgt := 6) X dX6_pastSign_87 (by decide) ?_
              rw [nI_1]
              exact ih (i + 1) _ _ (by omega) h3
      · refine w_iload X dX6_pastSign_31 rfl ?_
        refine w_bipush (v := 28) X dX6_pastSign_33 (by decide) ?_
        refine w_icmp_ne (tgt := 50) X dX6_pastSign_35 (by decide) (fun h35 => ?_) (fun h35 => ?_)
        · rw [if_neg (fun z => h35 z.2)] at h3
          refine w_iload_n X dX6_pastSign_50 rfl rfl ?_
          refine w_iload X dX6_pastSign_51 rfl ?_
          refine w_iushr X dX6_pastSign_53 ?_
          refine w_iconst (v := 1) X dX6_pastSign_54 (by decide) ?_
          refine w_iand X dX6_pastSign_55 ?_
          refine w_iconst (v := 1) X dX6_pastSign_56 (by decide) ?_
          refine w_icmp_ne (tgt := 84) X dX6_pastSign_57 (by decide) (fun h57 => ?_) (fun h57 => ?_)
          · rw [if_neg (fun z => h57 z.1)] at h3
            refine w_iinc (v := 1) X dX6_pastSign_84 rfl (by decide) (by decide) ?_
            refine w_goto (tgt := 6) X dX6_pastSign_87 (by decide) ?_
            rw [nI_1]
            exact ih (i + 1) _ _ (by omega) h3
          · refine w_iload X dX6_pastSign_60 rfl ?_
            refine w_bipush (v := 29) X dX6_pastSign_62 (by decide) ?_
            refine w_icmp_eq (tgt := 73) X dX6_pastSign_64 (by decide) (fun h64 => ?_) (fun h64 => ?_)
            · rw [if_pos ⟨h57, Or.inl h64⟩] at h3
              refine w_iload X dX6_pastSign_73 rfl ?_
              refine w_iconst (v := 1) X dX6_pastSign_75 (by decide) ?_
              refine w_iload X dX6_pastSign_76 rfl ?_
              refine w_iconst (v := 1) X dX6_pastSign_78 (by decide) ?_
              refine w_iadd X dX6_pastSign_79 ?_
              rw [nI_1]
              refine w_ishl X dX6_pastSign_80 ?_
              refine w_ior X dX6_pastSign_81 ?_
              refine w_istore X dX6_pastSign_82 (by decide) ?_
              refine w_iinc (v := 1) X dX6_pastSign_84 rfl (by decide) (by decide) ?_
              refine w_goto (tgt := 6) X dX6_pastSign_87 (by decide) ?_
              rw [nI_1]
              exact ih (i + 1) _ _ (by omega) h3
            · refine w_iload X dX6_pastSign_67 rfl ?_
              refine w_iload_n X dX6_pastSign_69 rfl rfl ?_
              refine w_icmp_ne (tgt := 84) X dX6_pastSign_70 (by decide) (fun h70 => ?_) (fun h70 => ?_)
              · rw [if_neg (fun z => z.2.elim h64 h70)] at h3
                refine w_iinc (v := 1) X dX6_pastSign_84 rfl (by decide) (by decide) ?_
                refine w_goto (tgt := 6) X dX6_pastSign_87 (by decide) ?_
                rw [nI_1]
                exact ih (i + 1) _ _ (by omega) h3
              · rw [if_pos ⟨h57, Or.inr h70⟩] at h3
                refine w_iload X dX6_pastSign_73 rfl ?_
                refine w_iconst (v := 1) X dX6_pastSign_75 (by decide) ?_
                refine w_iload X dX6_pastSign_76 rfl ?_
                refine w_iconst (v := 1) X dX6_pastSign_78 (by decide) ?_
                refine w_iadd X dX6_pastSign_79 ?_
                rw [nI_1]
                refine w_ishl X dX6_pastSign_80 ?_
                refine w_ior X dX6_pastSign_81 ?_
                refine w_istore X dX6_pastSign_82 (by decide) ?_
                refine w_iinc (v := 1) X dX6_pastSign_84 rfl (by decide) (by decide) ?_
                refine w_goto (tgt := 6) X dX6_pastSign_87 (by decide) ?_
                rw [nI_1]
                exact ih (i + 1) _ _ (by omega) h3
        · rw [if_pos ⟨h28, h35⟩] at h3
          refine w_iload X dX6_pastSign_38 rfl ?_
          refine w_iconst (v := 1) X dX6_pastSign_40 (by decide) ?_
          refine w_iload X dX6_pastSign_41 rfl ?_
          refine w_ishl X dX6_pastSign_43 ?_
          refine w_ior X dX6_pastSign_44 ?_
          refine w_istore X dX6_pastSign_45 (by decide) ?_
          refine w_goto (tgt := 84) X dX6_pastSign_47 (by decide) ?_
          refine w_iinc (v := 1) X dX6_pastSign_84 rfl (by decide) (by decide) ?_
          refine w_goto (tgt := 6) X dX6_pastSign_87 (by decide) ?_
          rw [nI_1]
          exact ih (i + 1) _ _ (by omega) h3
  refine w_iconst (v := 0) X dX6_pastSign_0 (by decide) ?_
  refine w_istore X dX6_pastSign_1 (by decide) ?_
  refine w_iconst (v := 0) X dX6_pastSign_3 (by decide) ?_
  refine w_istore X dX6_pastSign_4 (by decide) ?_
  exact lp 12 0 0 none (by omega) rfl
set_option maxRecDepth 100000 in
set_option maxHeartbeats 600000 in
theorem c6_fits (G : gg_) (hG : gd_ G) (d : Nat) (M : mm_) (t k : Int64) : cm_ G yX6_fits cX6_fits 8 (some .boolean) (d + 2) [.long t, .long k] M (fI_ (ftX_ t k) M) := by
  refine cm_of hG (by decide) (Nat.le_of_ble_eq_true rfl) (fun C X => ?_)
  have lp : ∀ (u i : Nat) (x e : Int32) (o : Option Value), i + u = 12 → ft1_ t k u i x e = ft1_ t k 12 0 (psX_ t 1) 0 → wq_ C G (qe_ C G (fI_ (ftX_ t k) M)) 13 [some (.long t), none, some (.long k), none, some (.int x), some (.int e), some (.int (nI i)), o] [] M := by
    intro u
    induction u with
    | zero =>
      intro i x e o h1 h3
      obtain rfl : i = 12 := by omega
      rw [ft1_] at h3
      refine w_iload X dX6_fits_13 rfl ?_
      refine w_bipush (v := 12) X dX6_fits_15 (by decide) ?_
      refine w_icmp_ge (tgt := 68) X dX6_fits_17 (by decide) (fun h17 => ?_) (fun h17 => absurd (by decide) h17)
      refine w_iload X dX6_fits_68 rfl ?_
      refine w_iload X dX6_fits_70 rfl ?_
      refine w_iushr X dX6_fits_72 ?_
      refine w_iconst (v := 1) X dX6_fits_73 (by decide) ?_
      refine w_iand X dX6_fits_74 ?_
      refine w_iconst (v := 1) X dX6_fits_75 (by decide) ?_
      refine w_icmp_ne (tgt := 83) X dX6_fits_76 (by decide) (fun h76 => ?_) (fun h76 => ?_)
      · refine w_iconst (v := 0) X dX6_fits_83 (by decide) ?_
        refine w_zrF X dX6_fits_84 (by first | exact Or.inl rfl | exact Or.inr rfl) ?_ rfl
        unfold ftX_
        rw [← h3]
        exact (if_neg h76).symm
      · refine w_iconst (v := 1) X dX6_fits_79 (by decide) ?_
        refine w_goto (tgt := 84) X dX6_fits_80 (by decide) ?_
        refine w_zrF X dX6_fits_84 (by first | exact Or.inl rfl | exact Or.inr rfl) ?_ rfl
        unfold ftX_
        rw [← h3]
        exact (if_pos h76).symm
    | succ u ih =>
      intro i x e o h1 h3
      rw [ft1_] at h3
      refine w_iload X dX6_fits_13 rfl ?_
      refine w_bipush (v := 12) X dX6_fits_15 (by decide) ?_
      refine w_icmp_ge (tgt := 68) X dX6_fits_17 (by decide) (fun h17 => absurd h17 (nI_ge (a := i) (b := 12) (by omega) (by decide))) (fun h17 => ?_)
      refine w_lload_n X dX6_fits_20 rfl rfl ?_
      refine w_iload X dX6_fits_21 rfl ?_
      refine w_s2fI X dX6_fits_23 k6_13 (c6_signAt G hG _ _ _ _) (Nat.le_of_ble_eq_true rfl) ?_
      refine w_istore X dX6_fits_26 (by decide) ?_
      refine w_iload X dX6_fits_28 rfl ?_
      refine w_if_eq (tgt := 47) X dX6_fits_30 (by decide) (fun h30 => ?_) (fun h30 => ?_)
      · rw [if_pos h30] at h3
        refine w_lload_n X dX6_fits_47 rfl rfl ?_
        refine w_iload X dX6_fits_48 rfl ?_
        refine w_s2fI X dX6_fits_50 k6_13 (c6_signAt G hG _ _ _ _) (Nat.le_of_ble_eq_true rfl) ?_
        refine w_if_eq (tgt := 62) X dX6_fits_53 (by decide) (fun h53 => ?_) (fun h53 => ?_)
        · rw [if_pos h53] at h3
          refine w_iinc (v := 1) X dX6_fits_62 rfl (by decide) (by decide) ?_
          refine w_goto (tgt := 13) X dX6_fits_65 (by decide) ?_
          rw [nI_1]
          exact ih (i + 1) _ _ _ (by omega) h3
        · rw [if_neg h53] at h3
          refine w_iload X dX6_fits_56 rfl ?_
          refine w_iconst (v := 1) X dX6_fits_58 (by decide) ?_
          refine w_iadd X dX6_fits_59 ?_
          rw [nI_1]
          refine w_istore X dX6_fits_60 (by decide) ?_
          refine w_iinc (v := 1) X dX6_fits_62 rfl (by decide) (by decide) ?_
          refine w_goto (tgt := 13) X dX6_fits_65 (by decide) ?_
          rw [nI_1]
          exact ih (i + 1) _ _ _ (by omega) h3
      · rw [if_neg h30] at h3
        refine w_lload_n X dX6_fits_33 rfl rfl ?_
        refine w_lload_n X dX6_fits_34 rfl rfl ?_
        refine w_iload X dX6_fits_35 rfl ?_
        refine w_iload X dX6_fits_37 rfl ?_
        refine w_s3fI X dX6_fits_39 k6_16 (c6_pastSign G hG _ _ _ _ _) (Nat.le_of_ble_eq_true rfl) ?_
        refine w_s2fI X dX6_fits_42 k6_9 (c6_pastStars G hG _ _ _ _) (Nat.le_of_ble_eq_true rfl) ?_
        refine w_istore X dX6_fits_45 (by decide) ?_
        refine w_lload_n X dX6_fits_47 rfl rfl ?_
        refine w_iload X dX6_fits_48 rfl ?_
        refine w_s2fI X dX6_fits_50 k6_13 (c6_signAt G hG _ _ _ _) (Nat.le_of_ble_eq_true rfl) ?_
        refine w_if_eq (tgt := 62) X dX6_fits_53 (by decide) (fun h53 => ?_) (fun h53 => ?_)
        · rw [if_pos h53] at h3
          refine w_iinc (v := 1) X dX6_fits_62 rfl (by decide) (by decide) ?_
          refine w_goto (tgt := 13) X dX6_fits_65 (by decide) ?_
          rw [nI_1]
          exact ih (i + 1) _ _ _ (by omega) h3
        · rw [if_neg h53] at h3
          refine w_iload X dX6_fits_56 rfl ?_
          refine w_iconst (v := 1) X dX6_fits_58 (by decide) ?_
          refine w_iadd X dX6_fits_59 ?_
          rw [nI_1]
          refine w_istore X dX6_fits_60 (by decide) ?_
          refine w_iinc (v := 1) X dX6_fits_62 rfl (by decide) (by decide) ?_
          refine w_goto (tgt := 13) X dX6_fits_65 (by decide) ?_
          rw [nI_1]
          exact ih (i + 1) _ _ _ (by omega) h3
  refine w_lload_n X dX6_fits_0 rfl rfl ?_
  refine w_iconst (v := 1) X dX6_fits_1 (by decide) ?_
  refine w_s2fI X dX6_fits_2 k6_9 (c6_pastStars G hG _ _ _ _) (Nat.le_of_ble_eq_true rfl) ?_
  refine w_istore X dX6_fits_5 (by decide) ?_
  refine w_iconst (v := 0) X dX6_fits_7 (by decide) ?_
  refine w_istore X dX6_fits_8 (by decide) ?_
  refine w_iconst (v := 0) X dX6_fits_10 (by decide) ?_
  refine w_istore X dX6_fits_11 (by decide) ?_
  exact lp 12 0 _ _ none (by omega) rfl

