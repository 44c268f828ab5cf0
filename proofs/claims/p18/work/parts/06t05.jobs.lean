/-! Job, Jobs. jq_: job i lies at 135 + 12 * J i, the spare one at 135 + 12 * S -/
def flM_ (M : mm_) (a n : Nat) (v : Int32) : mm_ := (fun x j => if x = a ∧ j < n then v else M.1 x j, M.2.1, M.2.2)
theorem flM_0 (M : mm_) (a : Nat) (v : Int32) : flM_ M a 0 v = M := by
  unfold flM_
  simp
theorem flM_s (M : mm_) (a i : Nat) (v : Int32) : sI_ (flM_ M a i v) a i v = flM_ M a (i + 1) v := by
  unfold flM_ sI_
  congr
  funext x j
  by_cases h : x = a
  · subst h
    by_cases h2 : j = i
    · subst h2; simp
    · by_cases h3 : j < i
      · simp [h2, h3, Nat.lt_succ_of_lt h3]
      · have h4 : ¬ j < i + 1 := by omega
        simp [h2, h3, h4]
  · simp [h]
def rnw_ (M : mm_) (k : Nat) : mm_ := flM_ (sI_ (sI_ (sI_ (sI_ (sI_ M k 0 0) k 5 0) k 6 99) k 7 0) k 9 0) (k + 11) 48 0
def mee_ (M : mm_) (k : Nat) (x : Int32) (y : Int64) : mm_ := if ftX_ (M.2.1 k 2) y = 0 then M else sI_ M k 9 (M.1 k 9 ||| (1 <<< (x &&& 31)))
def see_ (M : mm_) (k : Nat) (x : Int32) : Int32 := if ¬ M.1 k 0 = 0 ∧ btX_ (M.1 k 9) x = 1 then 1 else 0
def lft_ (M : mm_) (k : Nat) : Int32 := if M.1 k 0 = 1 then M.1 k 6 - M.1 k 7 else 0
def cre_ (M : mm_) (k : Nat) : mm_ := if M.1 k 7 + 1 < M.1 k 6 then sI_ M k 7 (M.1 k 7 + 1) else sI_ (sI_ M k 7 (M.1 k 7 + 1)) k 0 0
def jq_ (M : mm_) (J : Nat → Nat) (S : Nat) : Prop := (∀ i, i < 8 → J i < 9 ∧ M.2.2 134 i = some (135 + 12 * J i)) ∧ S < 9 ∧ M.2.2 133 1 = some (135 + 12 * S)
theorem jq_jd {M : mm_} {J : Nat → Nat} {S : Nat} (h : jq_ M J S) {i : Nat} (hi : i < 8) : jd_ (135 + 12 * J i) := jd_all _ (h.1 i hi).1
theorem jq_I {M : mm_} {J : Nat → Nat} {S a i : Nat} {v : Int32} (h : jq_ M J S) : jq_ (sI_ M a i v) J S := h
theorem jq_mee {M : mm_} {J : Nat → Nat} {S k : Nat} {x : Int32} {y : Int64} (h : jq_ M J S) : jq_ (mee_ M k x y) J S := by
  unfold mee_; split <;> exact h
theorem mee_mt {M : mm_} {c k : Nat} {x : Int32} {y : Int64} (hk : ¬ k = 45) (h : mt_ M c) : mt_ (mee_ M k x y) c := by
  unfold mee_; split
  · exact h
  · refine ⟨h.1, ?_⟩
    have e : ¬ 45 = k := fun z => hk z.symm
    rw [gI_sI, if_neg (fun z => e z.1)]
    exact h.2
theorem mee_L (M : mm_) (k : Nat) (x : Int32) (y : Int64) : (mee_ M k x y).2.1 = M.2.1 := by unfold mee_; split <;> rfl
def jH_ (M : mm_) (J : Nat → Nat) (j : Nat) : Int32 := if M.1 (135 + 12 * J j) 0 = 0 then 0 else 1
def fj1_ (M : mm_) (J : Nat → Nat) : Nat → Nat → Option Nat
  | 0, _ => none
  | u + 1, i => if M.1 (135 + 12 * J i) 0 = 0 then some i else fj1_ M J u (i + 1)
def me1_ (c k : Nat) : Nat → Nat → mm_ → mm_
  | 0, _, M => M
  | u + 1, m, M => me1_ c k u (m + 1) (mee_ M k (nI m) (kf_ M c (nI m)))
def bgn_ (M : mm_) (J : Nat → Nat) (S c i : Nat) : mm_ := me1_ c (135 + 12 * S) c 0 (sR_ (sR_ M 133 1 (some (135 + 12 * J i))) 134 i (some (135 + 12 * S)))
def ea1_ (J : Nat → Nat) : Nat → Nat → Int32 → mm_ → Int32 × mm_
  | 0, _, r, M => (r, M)
  | u + 1, i, r, M => ea1_ J u (i + 1) (r + (if M.1 (135 + 12 * J i) 0 = 0 then 0 else 1)) (sI_ M (135 + 12 * J i) 0 0)
def jm1_ (J : Nat → Nat) (x : Int32) (y : Int64) : Nat → Nat → mm_ → mm_
  | 0, _, M => M
  | u + 1, i, M => jm1_ J x y u (i + 1) (mee_ M (135 + 12 * J i) x y)
set_option maxRecDepth 100000 in
set_option maxHeartbeats 600000 in
theorem cJ7_fill (G : gg_) (hG : gd_ G) (d : Nat) (M : mm_) (a n : Nat) (hn : n < 100000) (ha : ds_[a]? = some (.inl (0, n, 0))) (v : Int32) : cm_ G yJ7_fill_53178 cJ7_fill_53178 4 none (d) [.ref (G.1 a), .int v] M (fV_ (flM_ M a n v)) := by
  refine cm_of hG (by decide) (Nat.le_of_ble_eq_true rfl) (fun C X => ?_)
  have lp : ∀ (u i : Nat), i + u = n → wq_ C G (qe_ C G (fV_ (flM_ M a n v))) 5 [some (.ref (G.1 a)), some (.int v), some (.int (nI i)), some (.int (nI n))] [] (flM_ M a i v) := by
    intro u
    induction u with
    | zero =>
      intro i h1
      obtain rfl : i = n := by omega
      refine w_iload_n X dJ7_fill_53178_5 rfl rfl ?_
      refine w_iload_n X dJ7_fill_53178_6 rfl rfl ?_
      refine w_icmp_ge (tgt := 20) X dJ7_fill_53178_7 (by decide) (fun h7 => ?_) (fun h7 => absurd (Int32.le_refl _) h7)
      exact w_vrF X dJ7_fill_53178_20 rfl
    | succ u ih =>
      intro i h1
      refine w_iload_n X dJ7_fill_53178_5 rfl rfl ?_
      refine w_iload_n X dJ7_fill_53178_6 rfl rfl ?_
      refine w_icmp_ge (tgt := 20) X dJ7_fill_53178_7 (by decide) (fun h7 => absurd h7 (nI_ge (by omega) (by omega))) (fun h7 => ?_)
      refine w_aload_n X dJ7_fill_53178_10 rfl rfl ?_
      refine w_iload_n X dJ7_fill_53178_11 rfl rfl ?_
      refine w_iload_n X dJ7_fill_53178_12 rfl rfl ?_
      refine w_iastoreN X dJ7_fill_53178_13 ha rfl (by omega) ?_
      refine w_iinc (v := 1) X dJ7_fill_53178_14 rfl (by decide) (by decide) ?_
      refine w_goto (tgt := 5) X dJ7_fill_53178_17 (by decide) ?_
      rw [nI_1, flM_s]
      exact ih (i + 1) (by omega)
  refine w_iconst (v := 0) X dJ7_fill_53178_0 (by decide) ?_
  refine w_istore_n X dJ7_fill_53178_1 rfl (by decide) ?_
  refine w_aload_n X dJ7_fill_53178_2 rfl rfl ?_
  refine w_alen X dJ7_fill_53178_3 ha rfl ?_
  refine w_istore_n X dJ7_fill_53178_4 rfl (by decide) ?_
  have h9 := lp n 0 (by omega)
  rw [flM_0] at h9
  exact h9
set_option maxRecDepth 100000 in
set_option maxHeartbeats 600000 in
theorem c2_renew (G : gg_) (hG : gd_ G) (d : Nat) (M : mm_) (k : Nat) (hk : jd_ k) : cm_ G yX2_renew cX2_renew 1 none (d + 1) [.ref (G.1 k)] M (fV_ (rnw_ M k)) := by
  refine cm_of hG (by decide) (Nat.le_of_ble_eq_true rfl) (fun C X => ?_)
  refine w_aload_n X dX2_renew_0 rfl rfl ?_
  refine w_iconst (v := 0) X dX2_renew_1 (by decide) ?_
  refine p2_25 X dX2_renew_2 hk.1 rfl ?_
  refine w_aload_n X dX2_renew_5 rfl rfl ?_
  refine w_iconst (v := 0) X dX2_renew_6 (by decide) ?_
  refine p2_29 X dX2_renew_7 hk.1 rfl (by first | exact Or.inl rfl | exact Or.inr rfl | assumption) ?_
  refine w_aload_n X dX2_renew_10 rfl rfl ?_
  refine w_bipush (v := 99) X dX2_renew_11 (by decide) ?_
  refine p2_33 X dX2_renew_13 hk.1 rfl ?_
  refine w_aload_n X dX2_renew_16 rfl rfl ?_
  refine w_iconst (v := 0) X dX2_renew_17 (by decide) ?_
  refine p2_36 X dX2_renew_18 hk.1 rfl ?_
  refine w_aload_n X dX2_renew_21 rfl rfl ?_
  refine w_iconst (v := 0) X dX2_renew_22 (by decide) ?_
  refine p2_39 X dX2_renew_23 hk.1 rfl ?_
  refine w_aload_n X dX2_renew_26 rfl rfl ?_
  refine g2_21 X dX2_renew_27 hk.1 rfl ?_
  refine w_iconst (v := 0) X dX2_renew_30 (by decide) ?_
  refine w_s2fV X dX2_renew_31 k2_42 (cJ7_fill G hG _ _ (k + 11) 48 (by decide) hk.2.1 0) (Nat.le_of_ble_eq_true rfl) ?_
  exact w_vrF X dX2_renew_34 rfl
set_option maxRecDepth 100000 in
set_option maxHeartbeats 600000 in
theorem c2_meet (G : gg_) (hG : gd_ G) (d : Nat) (M : mm_) (k : Nat) (hk : jd_ k) (x : Int32) (y : Int64) : cm_ G yX2_meet cX2_meet 4 none (d + 3) [.ref (G.1 k), .int x, .long y] M (fV_ (mee_ M k x y)) := by
  refine cm_of hG (by decide) (Nat.le_of_ble_eq_true rfl) (fun C X => ?_)
  refine w_aload_n X dX2_meet_0 rfl rfl ?_
  refine g2_48 X dX2_meet_1 hk.1 rfl ?_
  refine w_lload_n X dX2_meet_4 rfl rfl ?_
  refine w_s2fI X dX2_meet_5 k2_52 (c6_fits G hG _ _ _ _) (Nat.le_of_ble_eq_true rfl) ?_
  refine w_if_eq (tgt := 23) X dX2_meet_8 (by decide) (fun h8 => ?_) (fun h8 => ?_)
  · refine w_vrF X dX2_meet_23 ?_
    unfold mee_
    exact (if_pos h8).symm
  · refine w_aload_n X dX2_meet_11 rfl rfl ?_
    refine w_dup X dX2_meet_12 rfl ?_
    refine g2_39 X dX2_meet_13 hk.1 rfl ?_
    refine w_iconst (v := 1) X dX2_meet_16 (by decide) ?_
    refine w_iload_n X dX2_meet_17 rfl rfl ?_
    refine w_ishl X dX2_meet_18 ?_
    refine w_ior X dX2_meet_19 ?_
    refine p2_39 X dX2_meet_20 hk.1 rfl ?_
    refine w_vrF X dX2_meet_23 ?_
    unfold mee_
    exact (if_neg h8).symm
set_option maxRecDepth 100000 in
set_option maxHeartbeats 600000 in
theorem c2_sees (G : gg_) (hG : gd_ G) (d : Nat) (M : mm_) (k : Nat) (hk : jd_ k) (x : Int32) : cm_ G yX2_sees cX2_sees 2 (some .boolean) (d) [.ref (G.1 k), .int x] M (fI_ (see_ M k x) M) := by
  refine cm_of hG (by decide) (Nat.le_of_ble_eq_true rfl) (fun C X => ?_)
  refine w_aload_n X dX2_sees_0 rfl rfl ?_
  refine g2_25 X dX2_sees_1 hk.1 rfl ?_
  refine w_if_eq (tgt := 23) X dX2_sees_4 (by decide) (fun h4 => ?_) (fun h4 => ?_)
  · refine w_iconst (v := 0) X dX2_sees_23 (by decide) ?_
    refine w_zrF X dX2_sees_24 (by first | exact Or.inl rfl | exact Or.inr rfl) ?_ rfl
    unfold see_
    exact (if_neg (fun z => z.1 h4)).symm
  · refine w_aload_n X dX2_sees_7 rfl rfl ?_
    refine g2_39 X dX2_sees_8 hk.1 rfl ?_
    refine w_iload_n X dX2_sees_11 rfl rfl ?_
    refine w_iushr X dX2_sees_12 ?_
    refine w_iconst (v := 1) X dX2_sees_13 (by decide) ?_
    refine w_iand X dX2_sees_14 ?_
    refine w_iconst (v := 1) X dX2_sees_15 (by decide) ?_
    refine w_icmp_ne (tgt := 23) X dX2_sees_16 (by decide) (fun h16 => ?_) (fun h16 => ?_)
    · refine w_iconst (v := 0) X dX2_sees_23 (by decide) ?_
      refine w_zrF X dX2_sees_24 (by first | exact Or.inl rfl | exact Or.inr rfl) ?_ rfl
      unfold see_
      exact (if_neg (fun z => h16 z.2)).symm
    · refine w_iconst (v := 1) X dX2_sees_19 (by decide) ?_
      refine w_goto (tgt := 24) X dX2_sees_20 (by decide) ?_
      refine w_zrF X dX2_sees_24 (by first | exact Or.inl rfl | exact Or.inr rfl) ?_ rfl
      unfold see_
      exact (if_pos ⟨h4, h16⟩).symm
set_option maxRecDepth 100000 in
set_option maxHeartbeats 600000 in
theorem c2_left (G : gg_) (hG : gd_ G) (d : Nat) (M : mm_) (k : Nat) (hk : jd_ k) : cm_ G yX2_left cX2_left 1 (some .int) (d) [.ref (G.1 k)] M (fI_ (lft_ M k) M) := by
  refine cm_of hG (by decide) (Nat.le_of_ble_eq_true rfl) (fun C X => ?_)
  refine w_aload_n X dX2_left_0 rfl rfl ?_
  refine g2_25 X dX2_left_1 hk.1 rfl ?_
  refine w_iconst (v := 1) X dX2_left_4 (by decide) ?_
  refine w_icmp_ne (tgt := 20) X dX2_left_5 (by decide) (fun h5 => ?_) (fun h5 => ?_)
  · refine w_iconst (v := 0) X dX2_left_20 (by decide) ?_
    refine w_irF X dX2_left_21 ?_ rfl
    unfold lft_
    exact (if_neg h5).symm
  · refine w_aload_n X dX2_left_8 rfl rfl ?_
    refine g2_33 X dX2_left_9 hk.1 rfl ?_
    refine w_aload_n X dX2_left_12 rfl rfl ?_
    refine g2_36 X dX2_left_13 hk.1 rfl ?_
    refine w_isub X dX2_left_16 ?_
    refine w_goto (tgt := 21) X dX2_left_17 (by decide) ?_
    refine w_irF X dX2_left_21 ?_ rfl
    unfold lft_
    exact (if_pos h5).symm
set_option maxRecDepth 100000 in
set_option maxHeartbeats 600000 in
theorem c2_countRecord (G : gg_) (hG : gd_ G) (d : Nat) (M : mm_) (k : Nat) (hk : jd_ k) : cm_ G yX2_countRecord cX2_countRecord 1 none (d) [.ref (G.1 k)] M (fV_ (cre_ M k)) := by
  refine cm_of hG (by decide) (Nat.le_of_ble_eq_true rfl) (fun C X => ?_)
  refine w_aload_n X dX2_countRecord_0 rfl rfl ?_
  refine w_dup X dX2_countRecord_1 rfl ?_
  refine g2_36 X dX2_countRecord_2 hk.1 rfl ?_
  try simp only [gI_sI, gI_sL, gL_sI, gL_sL, gR_sI, gR_sL, gI_sR, gL_sR, gR_sR, false_and, and_false, and_self, if_false, if_true, reduceIte, Nat.reduceEqDiff]
  refine w_iconst (v := 1) X dX2_countRecord_5 (by decide) ?_
  refine w_iadd X dX2_countRecord_6 ?_
  refine p2_36 X dX2_countRecord_7 hk.1 rfl ?_
  refine w_aload_n X dX2_countRecord_10 rfl rfl ?_
  refine g2_36 X dX2_countRecord_11 hk.1 rfl ?_
  try simp only [gI_sI, gI_sL, gL_sI, gL_sL, gR_sI, gR_sL, gI_sR, gL_sR, gR_sR, false_and, and_false, and_self, if_false, if_true, reduceIte, Nat.reduceEqDiff]
  refine w_aload_n X dX2_countRecord_14 rfl rfl ?_
  refine g2_33 X dX2_countRecord_15 hk.1 rfl ?_
  try simp only [gI_sI, gI_sL, gL_sI, gL_sL, gR_sI, gR_sL, gI_sR, gL_sR, gR_sR, false_and, and_false, and_self, if_false, if_true, reduceIte, Nat.reduceEqDiff]
  refine w_icmp_lt (tgt := 26) X dX2_countRecord_18 (by decide) (fun h18 => ?_) (fun h18 => ?_)
  · refine w_vrF X dX2_countRecord_26 ?_
    unfold cre_
    exact (if_pos h18).symm
  · refine w_aload_n X dX2_countRecord_21 rfl rfl ?_
    refine w_iconst (v := 0) X dX2_countRecord_22 (by decide) ?_
    refine p2_25 X dX2_countRecord_23 hk.1 rfl ?_
    refine w_vrF X dX2_countRecord_26 ?_
    unfold cre_
    exact (if_neg h18).symm
set_option maxRecDepth 100000 in
set_option maxHeartbeats 600000 in
theorem c3_has (G : gg_) (hG : gd_ G) (d : Nat) (M : mm_) (J : Nat → Nat) (S : Nat) (hq : jq_ M J S) (i : Nat) (hi : i < 8) : cm_ G yX3_has cX3_has 2 (some .boolean) (d) [.ref (G.1 133), .int (nI i)] M (fI_ (jH_ M J i) M) := by
  refine cm_of hG (by decide) (Nat.le_of_ble_eq_true rfl) (fun C X => ?_)
  refine w_iload_n X dX3_has_0 rfl rfl ?_
  refine w_if_lt (tgt := 26) X dX3_has_1 (by decide) (fun h1 => absurd h1 (nI_pos (by omega))) (fun h1 => ?_)
  refine w_iload_n X dX3_has_4 rfl rfl ?_
  refine w_bipush (v := 8) X dX3_has_5 (by decide) ?_
  refine w_icmp_ge (tgt := 26) X dX3_has_7 (by decide) (fun h7 => absurd h7 (nI_ge (a := i) (b := 8) hi (by decide))) (fun h7 => ?_)
  refine w_aload_n X dX3_has_10 rfl rfl ?_
  refine g3_13 X dX3_has_11 s_133 rfl ?_
  refine w_iload_n X dX3_has_14 rfl rfl ?_
  refine w_aaload X dX3_has_15 s_134 rfl rfl (⟨hi, by decide⟩) ((hq.1 _ hi).2) ?_
  refine g3_22 X dX3_has_16 (jq_jd hq hi).1 rfl ?_
  refine w_if_eq (tgt := 26) X dX3_has_19 (by decide) (fun h19 => ?_) (fun h19 => ?_)
  · refine w_iconst (v := 0) X dX3_has_26 (by decide) ?_
    refine w_zrF X dX3_has_27 (by first | exact Or.inl rfl | exact Or.inr rfl) ?_ rfl
    unfold jH_
    exact (if_pos h19).symm
  · refine w_iconst (v := 1) X dX3_has_22 (by decide) ?_
    refine w_goto (tgt := 27) X dX3_has_23 (by decide) ?_
    refine w_zrF X dX3_has_27 (by first | exact Or.inl rfl | exact Or.inr rfl) ?_ rfl
    unfold jH_
    exact (if_neg h19).symm
set_option maxRecDepth 100000 in
set_option maxHeartbeats 600000 in
theorem c3_hasO (G : gg_) (hG : gd_ G) (d : Nat) (M : mm_) (J : Nat → Nat) (S : Nat) (hq : jq_ M J S) (x : Int32) (hx : x < 0 ∨ 8 ≤ x) : cm_ G yX3_has cX3_has 2 (some .boolean) (d) [.ref (G.1 133), .int x] M (fI_ 0 M) := by
  refine cm_of hG (by decide) (Nat.le_of_ble_eq_true rfl) (fun C X => ?_)
  refine w_iload_n X dX3_has_0 rfl rfl ?_
  refine w_if_lt (tgt := 26) X dX3_has_1 (by decide) (fun h1 => ?_) (fun h1 => ?_)
  · refine w_iconst (v := 0) X dX3_has_26 (by decide) ?_
    exact w_zrF X dX3_has_27 (by first | exact Or.inl rfl | exact Or.inr rfl) rfl rfl
  · refine w_iload_n X dX3_has_4 rfl rfl ?_
    refine w_bipush (v := 8) X dX3_has_5 (by decide) ?_
    refine w_icmp_ge (tgt := 26) X dX3_has_7 (by decide) (fun h7 => ?_) (fun h7 => ?_)
    · refine w_iconst (v := 0) X dX3_has_26 (by decide) ?_
      exact w_zrF X dX3_has_27 (by first | exact Or.inl rfl | exact Or.inr rfl) rfl rfl
    · exact absurd hx (fun z => z.elim h1 h7)
set_option maxRecDepth 100000 in
set_option maxHeartbeats 600000 in
theorem c3_at (G : gg_) (hG : gd_ G) (d : Nat) (M : mm_) (J : Nat → Nat) (S : Nat) (hq : jq_ M J S) (i : Nat) (hi : i < 8) : cm_ G yX3_at cX3_at 2 (some (.object "ProbeConsole$Job")) (d) [.ref (G.1 133), .int (nI i)] M (fR_ G (135 + 12 * J i) M) := by
  refine cm_of hG (by decide) (Nat.le_of_ble_eq_true rfl) (fun C X => ?_)
  refine w_iload_n X dX3_at_0 rfl rfl ?_
  refine w_if_lt (tgt := 19) X dX3_at_1 (by decide) (fun h1 => absurd h1 (nI_pos (by omega))) (fun h1 => ?_)
  refine w_iload_n X dX3_at_4 rfl rfl ?_
  refine w_bipush (v := 8) X dX3_at_5 (by decide) ?_
  refine w_icmp_ge (tgt := 19) X dX3_at_7 (by decide) (fun h7 => absurd h7 (nI_ge (a := i) (b := 8) hi (by decide))) (fun h7 => ?_)
  refine w_aload_n X dX3_at_10 rfl rfl ?_
  refine g3_13 X dX3_at_11 s_133 rfl ?_
  refine w_iload_n X dX3_at_14 rfl rfl ?_
  refine w_aaload X dX3_at_15 s_134 rfl rfl (⟨hi, by decide⟩) ((hq.1 _ hi).2) ?_
  refine w_goto (tgt := 23) X dX3_at_16 (by decide) ?_
  exact w_areturn X dX3_at_23 ⟨rfl, rfl⟩
set_option maxRecDepth 100000 in
set_option maxHeartbeats 600000 in
theorem c3_ended (G : gg_) (hG : gd_ G) (d : Nat) (M : mm_) (J : Nat → Nat) (S : Nat) (hq : jq_ M J S) (i : Nat) (hi : i < 8) : cm_ G yX3_ended cX3_ended 2 (some .int) (d + 1) [.ref (G.1 133), .int (nI i)] M (fI_ (if M.1 (135 + 12 * J i) 0 = 0 then -1 else nI i) (if M.1 (135 + 12 * J i) 0 = 0 then M else sI_ M (135 + 12 * J i) 0 0)) := by
  refine cm_of hG (by decide) (Nat.le_of_ble_eq_true rfl) (fun C X => ?_)
  refine w_aload_n X dX3_ended_0 rfl rfl ?_
  refine w_iload_n X dX3_ended_1 rfl rfl ?_
  refine w_v1fI X dX3_ended_2 k3_40 rfl s_133 (c3_has G hG _ _ J S hq i hi) (Nat.le_of_ble_eq_true rfl) ?_
  refine w_if_ne (tgt := 10) X dX3_ended_5 (by decide) (fun h5 => ?_) (fun h5 => ?_)
  · refine w_aload_n X dX3_ended_10 rfl rfl ?_
    refine g3_13 X dX3_ended_11 s_133 rfl ?_
    refine w_iload_n X dX3_ended_14 rfl rfl ?_
    refine w_aaload X dX3_ended_15 s_134 rfl rfl (⟨hi, by decide⟩) ((hq.1 _ hi).2) ?_
    refine w_iconst (v := 0) X dX3_ended_16 (by decide) ?_
    refine p3_22 X dX3_ended_17 (jq_jd hq hi).1 rfl ?_
    refine w_iload_n X dX3_ended_20 rfl rfl ?_
    have h5 : ¬ M.1 (135 + 12 * J i) 0 = 0 := fun z => h5 (by unfold jH_; exact if_pos z)
    rw [if_neg h5, if_neg h5]
    exact w_irF X dX3_ended_21 rfl rfl
  · refine w_iconst (v := -1) X dX3_ended_8 (by decide) ?_
    have h5 : M.1 (135 + 12 * J i) 0 = 0 := Classical.byContradiction (fun z => absurd h5 (by unfold jH_; rw [if_neg z]; decide))
    rw [if_pos h5, if_pos h5]
    exact w_irF X dX3_ended_9 rfl rfl
set_option maxRecDepth 100000 in
set_option maxHeartbeats 600000 in
theorem c3_endedO (G : gg_) (hG : gd_ G) (d : Nat) (M : mm_) (J : Nat → Nat) (S : Nat) (hq : jq_ M J S) (x : Int32) (hx : x < 0 ∨ 8 ≤ x) : cm_ G yX3_ended cX3_ended 2 (some .int) (d + 1) [.ref (G.1 133), .int x] M (fI_ (-1) M) := by
  refine cm_of hG (by decide) (Nat.le_of_ble_eq_true rfl) (fun C X => ?_)
  refine w_aload_n X dX3_ended_0 rfl rfl ?_
  refine w_iload_n X dX3_ended_1 rfl rfl ?_
  refine w_v1fI X dX3_ended_2 k3_40 rfl s_133 (c3_hasO G hG _ _ J S hq x hx) (Nat.le_of_ble_eq_true rfl) ?_
  refine w_if_ne (tgt := 10) X dX3_ended_5 (by decide) (fun h5 => absurd rfl h5) (fun h5 => ?_)
  refine w_iconst (v := -1) X dX3_ended_8 (by decide) ?_
  exact w_irF X dX3_ended_9 rfl rfl
set_option maxRecDepth 100000 in
set_option maxHeartbeats 600000 in
theorem c3_endAll (G : gg_) (hG : gd_ G) (d : Nat) (M : mm_) (J : Nat → Nat) (S : Nat) (hq : jq_ M J S) : cm_ G yX3_endAll cX3_endAll 3 (some .int) (d) [.ref (G.1 133)] M (fI_ (ea1_ J 8 0 0 M).1 (ea1_ J 8 0 0 M).2) := by
  refine cm_of hG (by decide) (Nat.le_of_ble_eq_true rfl) (fun C X => ?_)
  have lp : ∀ (u i : Nat) (r : Int32) (M0 : mm_), i + u = 8 → jq_ M0 J S → ea1_ J u i r M0 = ea1_ J 8 0 0 M → wq_ C G (qe_ C G (fI_ (ea1_ J 8 0 0 M).1 (ea1_ J 8 0 0 M).2)) 4 [some (.ref (G.1 133)), some (.int r), some (.int (nI i))] [] M0 := by
    intro u
    induction u with
    | zero =>
      intro i r M0 h1 hq h3
      obtain rfl : i = 8 := by omega
      rw [ea1_] at h3
      refine w_iload_n X dX3_endAll_4 rfl rfl ?_
      refine w_bipush (v := 8) X dX3_endAll_5 (by decide) ?_
      refine w_icmp_ge (tgt := 46) X dX3_endAll_7 (by decide) (fun h7 => ?_) (fun h7 => absurd (by decide) h7)
      refine w_iload_n X dX3_endAll_46 rfl rfl ?_
      rw [← h3]
      exact w_irF X dX3_endAll_47 rfl rfl
    | succ u ih =>
      intro i r M0 h1 hq h3
      have hi : i < 8 := by omega
      rw [ea1_] at h3
      refine w_iload_n X dX3_endAll_4 rfl rfl ?_
      refine w_bipush (v := 8) X dX3_endAll_5 (by decide) ?_
      refine w_icmp_ge (tgt := 46) X dX3_endAll_7 (by decide) (fun h7 => absurd h7 (nI_ge (a := i) (b := 8) hi (by decide))) (fun h7 => ?_)
      refine w_iload_n X dX3_endAll_10 rfl rfl ?_
      refine w_aload_n X dX3_endAll_11 rfl rfl ?_
      refine g3_13 X dX3_endAll_12 s_133 rfl ?_
      refine w_iload_n X dX3_endAll_15 rfl rfl ?_
      refine w_aaload X dX3_endAll_16 s_134 rfl rfl (⟨hi, by decide⟩) ((hq.1 _ hi).2) ?_
      refine g3_22 X dX3_endAll_17 (jq_jd hq hi).1 rfl ?_
      refine w_if_ne (tgt := 27) X dX3_endAll_20 (by decide) (fun h20 => ?_) (fun h20 => ?_)
      · rw [if_neg h20] at h3
        refine w_iconst (v := 1) X dX3_endAll_27 (by decide) ?_
        refine w_iadd X dX3_endAll_28 ?_
        refine w_istore_n X dX3_endAll_29 rfl (by decide) ?_
        refine w_aload_n X dX3_endAll_30 rfl rfl ?_
        refine g3_13 X dX3_endAll_31 s_133 rfl ?_
        refine w_iload_n X dX3_endAll_34 rfl rfl ?_
        refine w_aaload X dX3_endAll_35 s_134 rfl rfl (⟨hi, by decide⟩) ((hq.1 _ hi).2) ?_
        refine w_iconst (v := 0) X dX3_endAll_36 (by decide) ?_
        refine p3_22 X dX3_endAll_37 (jq_jd hq hi).1 rfl ?_
        refine w_iinc (v := 1) X dX3_endAll_40 rfl (by decide) (by decide) ?_
        refine w_goto (tgt := 4) X dX3_endAll_43 (by decide) ?_
        rw [nI_1]
        exact ih (i + 1) _ _ (by omega) (jq_I hq) h3
      · rw [if_pos h20] at h3
        refine w_iconst (v := 0) X dX3_endAll_23 (by decide) ?_
        refine w_goto (tgt := 28) X dX3_endAll_24 (by decide) ?_
        refine w_iadd X dX3_endAll_28 ?_
        refine w_istore_n X dX3_endAll_29 rfl (by decide) ?_
        refine w_aload_n X dX3_endAll_30 rfl rfl ?_
        refine g3_13 X dX3_endAll_31 s_133 rfl ?_
        refine w_iload_n X dX3_endAll_34 rfl rfl ?_
        refine w_aaload X dX3_endAll_35 s_134 rfl rfl (⟨hi, by decide⟩) ((hq.1 _ hi).2) ?_
        refine w_iconst (v := 0) X dX3_endAll_36 (by decide) ?_
        refine p3_22 X dX3_endAll_37 (jq_jd hq hi).1 rfl ?_
        refine w_iinc (v := 1) X dX3_endAll_40 rfl (by decide) (by decide) ?_
        refine w_goto (tgt := 4) X dX3_endAll_43 (by decide) ?_
        rw [nI_1]
        exact ih (i + 1) _ _ (by omega) (jq_I hq) h3
  refine w_iconst (v := 0) X dX3_endAll_0 (by decide) ?_
  refine w_istore_n X dX3_endAll_1 rfl (by decide) ?_
  refine w_iconst (v := 0) X dX3_endAll_2 (by decide) ?_
  refine w_istore_n X dX3_endAll_3 rfl (by decide) ?_
  exact lp 8 0 0 M (by omega) hq rfl
set_option maxRecDepth 100000 in
set_option maxHeartbeats 600000 in
theorem c3_meet (G : gg_) (hG : gd_ G) (d : Nat) (M : mm_) (J : Nat → Nat) (S : Nat) (hq : jq_ M J S) (x : Int32) (y : Int64) : cm_ G yX3_meet cX3_meet 5 none (d + 4) [.ref (G.1 133), .int x, .long y] M (fV_ (jm1_ J x y 8 0 M)) := by
  refine cm_of hG (by decide) (Nat.le_of_ble_eq_true rfl) (fun C X => ?_)
  have lp : ∀ (u i : Nat) (M0 : mm_), i + u = 8 → jq_ M0 J S → jm1_ J x y u i M0 = jm1_ J x y 8 0 M → wq_ C G (qe_ C G (fV_ (jm1_ J x y 8 0 M))) 3 [some (.ref (G.1 133)), some (.int x), some (.long y), none, some (.int (nI i))] [] M0 := by
    intro u
    induction u with
    | zero =>
      intro i M0 h1 hq h3
      obtain rfl : i = 8 := by omega
      rw [jm1_] at h3
      refine w_iload X dX3_meet_3 rfl ?_
      refine w_bipush (v := 8) X dX3_meet_5 (by decide) ?_
      refine w_icmp_ge (tgt := 28) X dX3_meet_7 (by decide) (fun h7 => ?_) (fun h7 => absurd (by decide) h7)
      exact w_vrF X dX3_meet_28 h3
    | succ u ih =>
      intro i M0 h1 hq h3
      have hi : i < 8 := by omega
      rw [jm1_] at h3
      refine w_iload X dX3_meet_3 rfl ?_
      refine w_bipush (v := 8) X dX3_meet_5 (by decide) ?_
      refine w_icmp_ge (tgt := 28) X dX3_meet_7 (by decide) (fun h7 => absurd h7 (nI_ge (a := i) (b := 8) hi (by decide))) (fun h7 => ?_)
      refine w_aload_n X dX3_meet_10 rfl rfl ?_
      refine g3_13 X dX3_meet_11 s_133 rfl ?_
      refine w_iload X dX3_meet_14 rfl ?_
      refine w_aaload X dX3_meet_16 s_134 rfl rfl (⟨hi, by decide⟩) ((hq.1 _ hi).2) ?_
      refine w_iload_n X dX3_meet_17 rfl rfl ?_
      refine w_lload_n X dX3_meet_18 rfl rfl ?_
      refine w_v2fV X dX3_meet_19 k3_36 rfl (jq_jd hq hi).1 (c2_meet G hG _ _ (135 + 12 * J i) (jq_jd hq hi) _ _) (Nat.le_of_ble_eq_true rfl) ?_
      refine w_iinc (v := 1) X dX3_meet_22 rfl (by decide) (by decide) ?_
      refine w_goto (tgt := 3) X dX3_meet_25 (by decide) ?_
      rw [nI_1]
      exact ih (i + 1) _ (by omega) (jq_mee hq) h3
  refine w_iconst (v := 0) X dX3_meet_0 (by decide) ?_
  refine w_istore X dX3_meet_1 (by decide) ?_
  exact lp 8 0 M (by omega) hq rfl
set_option maxRecDepth 100000 in
set_option maxHeartbeats 600000 in
theorem c3_begun (G : gg_) (hG : gd_ G) (d : Nat) (M : mm_) (J : Nat → Nat) (S : Nat) (hq : jq_ M J S) (c : Nat) (hc : mt_ M c) : cm_ G yX3_begun cX3_begun 5 (some .int) (d + 4) [.ref (G.1 133), .ref (G.1 45)] M (fI_ (match fj1_ M J 8 0 with | none => (-1 : Int32) | some i => nI i) (match fj1_ M J 8 0 with | none => M | some i => bgn_ M J S c i)) := by
  refine cm_of hG (by decide) (Nat.le_of_ble_eq_true rfl) (fun C X => ?_)
  have li : ∀ (B : Nat) (r : Int32) (P : mm_), jd_ B → ¬ B = 45 → ∀ (u m : Nat) (M0 : mm_), m + u = c → mt_ M0 c → me1_ c B u m M0 = P → wq_ C G (qe_ C G (fI_ r P)) 45 [some (.ref (G.1 133)), some (.ref (G.1 45)), some (.int r), some (.ref (G.1 B)), some (.int (nI m))] [] M0 := by
    intro B r P hB hB5 u
    induction u with
    | zero =>
      intro m M0 h1 hc h3
      have hm : m = c := by omega
      rw [me1_] at h3
      rw [hm]
      refine w_iload X dX3_begun_45 rfl ?_
      refine w_aload_n X dX3_begun_47 rfl rfl ?_
      refine w_v0fI X dX3_begun_48 k3_26 rfl s_45 (c5_size G hG _ _ c hc) (Nat.le_of_ble_eq_true rfl) ?_
      refine w_icmp_ge (tgt := 72) X dX3_begun_51 (by decide) (fun h51 => ?_) (fun h51 => absurd (Int32.le_refl _) h51)
      refine w_iload_n X dX3_begun_72 rfl rfl ?_
      exact w_irF X dX3_begun_73 rfl h3
    | succ u ih =>
      intro m M0 h1 hc h3
      have h16 := hc.1
      rw [me1_] at h3
      refine w_iload X dX3_begun_45 rfl ?_
      refine w_aload_n X dX3_begun_47 rfl rfl ?_
      refine w_v0fI X dX3_begun_48 k3_26 rfl s_45 (c5_size G hG _ _ c hc) (Nat.le_of_ble_eq_true rfl) ?_
      refine w_icmp_ge (tgt := 72) X dX3_begun_51 (by decide) (fun h51 => absurd h51 (nI_ge (by omega) (by omega))) (fun h51 => ?_)
      refine w_aload_n X dX3_begun_54 rfl rfl ?_
      refine w_iload X dX3_begun_55 rfl ?_
      refine w_aload_n X dX3_begun_57 rfl rfl ?_
      refine w_iload X dX3_begun_58 rfl ?_
      refine w_v1fL X dX3_begun_60 k3_32 rfl s_45 (c5_keyOf G hG _ _ c hc _) (Nat.le_of_ble_eq_true rfl) ?_
      refine w_v2fV X dX3_begun_63 k3_36 rfl hB.1 (c2_meet G hG _ _ B hB _ _) (Nat.le_of_ble_eq_true rfl) ?_
      refine w_iinc (v := 1) X dX3_begun_66 rfl (by decide) (by decide) ?_
      refine w_goto (tgt := 45) X dX3_begun_69 (by decide) ?_
      rw [nI_1]
      exact ih (m + 1) _ (by omega) (mee_mt hB5 hc) h3
  have lp : ∀ (u i : Nat), i + u = 8 → fj1_ M J u i = fj1_ M J 8 0 → wq_ C G (qe_ C G (fI_ (match fj1_ M J 8 0 with | none => (-1 : Int32) | some i => nI i) (match fj1_ M J 8 0 with | none => M | some i => bgn_ M J S c i))) 2 [some (.ref (G.1 133)), some (.ref (G.1 45)), some (.int (nI i)), none, none] [] M := by
    intro u
    induction u with
    | zero =>
      intro i h1 h3
      obtain rfl : i = 8 := by omega
      rw [fj1_] at h3
      refine w_iload_n X dX3_begun_2 rfl rfl ?_
      refine w_bipush (v := 8) X dX3_begun_3 (by decide) ?_
      refine w_icmp_ge (tgt := 80) X dX3_begun_5 (by decide) (fun h5 => ?_) (fun h5 => absurd (by decide) h5)
      refine w_iconst (v := -1) X dX3_begun_80 (by decide) ?_
      rw [← h3]
      exact w_irF X dX3_begun_81 rfl rfl
    | succ u ih =>
      intro i h1 h3
      have hi : i < 8 := by omega
      rw [fj1_] at h3
      refine w_iload_n X dX3_begun_2 rfl rfl ?_
      refine w_bipush (v := 8) X dX3_begun_3 (by decide) ?_
      refine w_icmp_ge (tgt := 80) X dX3_begun_5 (by decide) (fun h5 => absurd h5 (nI_ge (a := i) (b := 8) hi (by decide))) (fun h5 => ?_)
      refine w_aload_n X dX3_begun_8 rfl rfl ?_
      refine g3_13 X dX3_begun_9 s_133 rfl ?_
      refine w_iload_n X dX3_begun_12 rfl rfl ?_
      refine w_aaload X dX3_begun_13 s_134 rfl rfl (⟨hi, by decide⟩) ((hq.1 _ hi).2) ?_
      refine g3_22 X dX3_begun_14 (jq_jd hq hi).1 rfl ?_
      refine w_if_ne (tgt := 74) X dX3_begun_17 (by decide) (fun h17 => ?_) (fun h17 => ?_)
      · rw [if_neg h17] at h3
        refine w_iinc (v := 1) X dX3_begun_74 rfl (by decide) (by decide) ?_
        refine w_goto (tgt := 2) X dX3_begun_77 (by decide) ?_
        rw [nI_1]
        exact ih (i + 1) (by omega) h3
      · rw [if_pos h17] at h3
        rw [← h3]
        refine w_aload_n X dX3_begun_20 rfl rfl ?_
        refine r3_18 X dX3_begun_21 s_133 rfl (hq.2.2) ?_
        refine w_astore_n X dX3_begun_24 rfl (by decide) ?_
        refine w_aload_n X dX3_begun_25 rfl rfl ?_
        refine w_aload_n X dX3_begun_26 rfl rfl ?_
        refine g3_13 X dX3_begun_27 s_133 rfl ?_
        refine w_iload_n X dX3_begun_30 rfl rfl ?_
        refine w_aaload X dX3_begun_31 s_134 rfl rfl (⟨hi, by decide⟩) ((hq.1 _ hi).2) ?_
        refine p3_18 X dX3_begun_32 s_133 rfl ?_
        refine w_aload_n X dX3_begun_35 rfl rfl ?_
        refine g3_13 X dX3_begun_36 s_133 rfl ?_
        refine w_iload_n X dX3_begun_39 rfl rfl ?_
        refine w_aload_n X dX3_begun_40 rfl rfl ?_
        refine w_aastore X dX3_begun_41 s_134 rfl ((jd_all S hq.2.1).1) rfl (⟨hi, by decide⟩) ?_
        refine w_iconst (v := 0) X dX3_begun_42 (by decide) ?_
        refine w_istore X dX3_begun_43 (by decide) ?_
        exact li (135 + 12 * S) (nI i) _ (jd_all S hq.2.1) (by omega) c 0 _ (by omega) hc rfl
  refine w_iconst (v := 0) X dX3_begun_0 (by decide) ?_
  refine w_istore_n X dX3_begun_1 rfl (by decide) ?_
  exact lp 8 0 (by omega) rfl

