/-! ProbeConsole: the methods that may throw -/
def byX_ (x : Int64) (s : Int32) : Int32 := (x.toUInt64 >>> (s.toInt64.toUInt64 &&& Int64.toUInt64 63)).toInt64.toInt32 &&& 255
def apX_ (M : mm_) (x : Int64) (n : Nat) : Nat → mm_
  | 0 => M
  | j + 1 => sI_ (sI_ (apX_ M x n j) 36 (n + j) (byX_ x (8 * nI j))) 35 1 (nI (n + j + 1))
theorem ap_1 {M : mm_} {x : Int64} {n : Nat} (h : M.1 35 1 = nI n) : ∀ j, (apX_ M x n j).1 35 1 = nI (n + j)
  | 0 => h
  | j + 1 => by rw [apX_, gI_sI, if_pos ⟨rfl, rfl⟩]; rfl
theorem ap_o {M : mm_} {x : Int64} {n : Nat} : ∀ j a i, ¬ a = 36 → ¬ (a = 35 ∧ i = 1) → (apX_ M x n j).1 a i = M.1 a i
  | 0, _, _, _, _ => rfl
  | j + 1, a, i, h1, h2 => by rw [apX_, gI_sI, if_neg h2, gI_sI, if_neg (fun z => h1 z.1), ap_o j a i h1 h2]
theorem ap_2 {M : mm_} {x : Int64} {n : Nat} : ∀ j, (apX_ M x n j).2 = M.2
  | 0 => rfl
  | j + 1 => ap_2 (M := M) (x := x) (n := n) j
def FDX_ (n : Nat) (w : Int32) (x : Int64) (M : mm_) (r : Int32) (N : mm_) : Prop := ∃ k, w = nI k ∧ 1 ≤ k ∧ k ≤ 8 ∧ ((200 < n + k ∧ r = -1 ∧ N = M) ∨ (n + k ≤ 200 ∧ r = nI (n + k) ∧ N = apX_ M x n k))
theorem rH_in {M : mm_} {k z : Nat} {x : Int32} (hz : M.1 k 3 = nI z) (hz2 : z < 2147483648) (h : ¬ rH_ M k x = 0) : ∃ i, i < z ∧ x = nI i := by
  unfold rH_ at h
  by_cases g : 0 ≤ x ∧ x < M.1 k 3
  · rw [hz] at g
    exact ix_ hz2 (Int32.not_lt.mpr g.1) (Int32.not_le.mpr g.2)
  · rw [if_neg g] at h; exact absurd rfl h
theorem rC_at {M : mm_} {i j : Nat} (h1 : M.1 245 1 = 7) (hi : i < 40) (hj : j < 7) : rC_ M 245 280 (nI i) (nI j) = M.1 246 (7 * i + j) := by
  have e : nI i * M.1 245 1 + nI j = nI (7 * i + j) := by rw [h1, show (7 : Int32) = nI 7 from rfl, pk_mul, nI_add, Nat.mul_comm i 7]
  unfold rC_
  rw [e, if_pos ⟨nI_le (a := 0) (b := 7 * i + j) (by omega) (by omega), nI_lt (a := 7 * i + j) (b := 280) (by omega) (by omega)⟩, nI_clamp (by omega)]
set_option maxRecDepth 100000 in
set_option maxHeartbeats 600000 in
theorem c11_feed (G : gg_) (hG : gd_ G) (d : Nat) (M : mm_) (n : Nat) (ht : tpX_ M n) (w : Int32) (x : Int64) : cmx_ G yX11_feed cX11_feed 5 (some .int) (d + 6) [.ref (G.1 34), .int w, .long x] M (rI_ (FDX_ n w x M)) (fun E => E = "java/lang/IllegalArgumentException" ∧ (w < 1 ∨ 8 < w)) := by
  refine cmx_of hG (by decide) (Nat.le_of_ble_eq_true rfl) (fun C X Z => ?_)
  have hn200 := ht.1
  have lp : ∀ (u k j : Nat), w = nI k → 1 ≤ k → k ≤ 8 → n + k ≤ 200 → j + u = k → wq_ C G (qxX_ C G (rI_ (FDX_ n w x M)) (fun E => E = "java/lang/IllegalArgumentException" ∧ (w < 1 ∨ 8 < w)) M) 39 [some (.ref (G.1 34)), some (.int w), some (.long x), none, some (.int (nI j))] [] (apX_ M x n j) := by
    intro u
    induction u with
    | zero =>
      intro k j hw h1 h8 hn hu
      obtain rfl : j = k := by omega
      refine w_iload X dX11_feed_39 rfl ?_
      refine w_iload_n X dX11_feed_41 rfl rfl ?_
      refine w_icmp_ge (tgt := 70) X dX11_feed_42 (by decide) (fun h42 => ?_) (fun h42 => absurd (by rw [hw]; exact Int32.le_refl _) h42)
      refine w_aload_n X dX11_feed_70 rfl rfl ?_
      refine g11_10 X dX11_feed_71 s_34 rfl ?_
      refine g11_72 X dX11_feed_74 s_35 rfl ?_
      rw [ap_1 ht.2]
      exact w_irX X Z dX11_feed_77 ⟨_, rfl, j, hw, h1, h8, Or.inr ⟨hn, rfl, rfl⟩⟩
    | succ u ih =>
      intro k j hw h1 h8 hn hu
      refine w_iload X dX11_feed_39 rfl ?_
      refine w_iload_n X dX11_feed_41 rfl rfl ?_
      refine w_icmp_ge (tgt := 70) X dX11_feed_42 (by decide) (fun h42 => absurd h42 (by rw [hw]; exact nI_ge (a := j) (b := k) (by omega) (by omega))) (fun h42 => ?_)
      refine w_aload_n X dX11_feed_45 rfl rfl ?_
      refine g11_10 X dX11_feed_46 s_34 rfl ?_
      refine w_lload_n X dX11_feed_49 rfl rfl ?_
      refine w_bipush (v := 8) X dX11_feed_50 (by decide) ?_
      refine w_iload X dX11_feed_52 rfl ?_
      refine w_imul X dX11_feed_54 ?_
      refine w_lushr X dX11_feed_55 ?_
      refine w_l2i X dX11_feed_56 ?_
      refine w_sipush (v := 255) X dX11_feed_57 (by decide) ?_
      refine w_iand X dX11_feed_60 ?_
      refine w_v1fV X dX11_feed_61 k11_76 rfl s_35 (c9_append G hG _ _ (n + j) (by omega) (ap_1 ht.2 j) _) (Nat.le_of_ble_eq_true rfl) ?_
      refine w_iinc (v := 1) X dX11_feed_64 rfl (by decide) (by decide) ?_
      refine w_goto (tgt := 39) X dX11_feed_67 (by decide) ?_
      rw [nI_1]
      exact ih k (j + 1) hw h1 h8 hn (by omega)
  refine w_iload_n X dX11_feed_0 rfl rfl ?_
  refine w_iconst (v := 1) X dX11_feed_1 (by decide) ?_
  refine w_icmp_lt (tgt := 11) X dX11_feed_2 (by decide) (fun h2 => ?_) (fun h2 => ?_)
  · exact w_throwA X Z (by omega) dX11_feed_11 dX11_feed_14 dX11_feed_15 dX11_feed_18 (⟨rfl, Or.inl h2⟩)
  · refine w_iload_n X dX11_feed_5 rfl rfl ?_
    refine w_bipush (v := 8) X dX11_feed_6 (by decide) ?_
    refine w_icmp_le (tgt := 19) X dX11_feed_8 (by decide) (fun h8 => ?_) (fun h8 => ?_)
    · refine w_aload_n X dX11_feed_19 rfl rfl ?_
      refine g11_10 X dX11_feed_20 s_34 rfl ?_
      refine g11_72 X dX11_feed_23 s_35 rfl ?_
      obtain ⟨k9, hk9, ek9⟩ := ix_ (x := w) (n := 9) (by decide) (fun z => h2 (Int32.lt_trans z (by decide))) (fun z => absurd (Int32.le_trans z h8) (by decide))
      have hk1 : 1 ≤ k9 := Nat.pos_of_ne_zero (fun z => h2 (by rw [ek9, z]; decide))
      subst ek9
      rw [ht.2]
      refine w_iload_n X dX11_feed_26 rfl rfl ?_
      refine w_iadd X dX11_feed_27 ?_
      rw [nI_add]
      refine w_sipush (v := 200) X dX11_feed_28 (by decide) ?_
      refine w_icmp_le (tgt := 36) X dX11_feed_31 (by decide) (fun h31 => ?_) (fun h31 => ?_)
      · refine w_iconst (v := 0) X dX11_feed_36 (by decide) ?_
        refine w_istore X dX11_feed_37 (by decide) ?_
        exact lp k9 k9 0 rfl hk1 (by omega) ((nI_leI (a := n + k9) (b := 200) (by omega) (by decide)).mp h31) (by omega)
      · refine w_iconst (v := -1) X dX11_feed_34 (by decide) ?_
        exact w_irX X Z dX11_feed_35 ⟨_, rfl, k9, rfl, hk1, by omega, Or.inl ⟨Nat.lt_of_not_le (fun z => h31 (nI_le (a := n + k9) (b := 200) z (by decide))), rfl, rfl⟩⟩
    · exact w_throwA X Z (by omega) dX11_feed_11 dX11_feed_14 dX11_feed_15 dX11_feed_18 (⟨rfl, Or.inr (Int32.not_le.mp h8)⟩)
set_option maxRecDepth 100000 in
set_option maxHeartbeats 600000 in
theorem c11_record (G : gg_) (hG : gd_ G) (d : Nat) (M : mm_) (i w : Int32) : cmx_ G yX11_record cX11_record 3 (some .int) (d + 6) [.ref (G.1 34), .int i, .int w] M (rI_ (fun r N => N = M ∧ r = rC_ M 243 1500 i w ∧ ¬ rH_ M 243 i = 0 ∧ 0 ≤ w ∧ w < 5)) (fun E => (E = "java/lang/IndexOutOfBoundsException" ∧ rH_ M 243 i = 0) ∨ (E = "java/lang/IllegalArgumentException" ∧ ¬ rH_ M 243 i = 0 ∧ (w < 0 ∨ 5 ≤ w))) := by
  refine cmx_of hG (by decide) (Nat.le_of_ble_eq_true rfl) (fun C X Z => ?_)
  refine w_aload_n X dX11_record_0 rfl rfl ?_
  refine g11_53 X dX11_record_1 s_34 rfl ?_
  refine w_iload_n X dX11_record_4 rfl rfl ?_
  refine w_v1fI X dX11_record_5 k11_162 rfl s_243 (c8_has G hG _ _ 243 1500 rw_rec _) (Nat.le_of_ble_eq_true rfl) ?_
  refine w_if_ne (tgt := 19) X dX11_record_8 (by decide) (fun h8 => ?_) (fun h8 => ?_)
  · refine w_iload_n X dX11_record_19 rfl rfl ?_
    refine w_if_lt (tgt := 28) X dX11_record_20 (by decide) (fun h20 => ?_) (fun h20 => ?_)
    · exact w_throwA X Z (by omega) dX11_record_28 dX11_record_31 dX11_record_32 dX11_record_35 (Or.inr ⟨rfl, h8, Or.inl h20⟩)
    · refine w_iload_n X dX11_record_23 rfl rfl ?_
      refine w_iconst (v := 5) X dX11_record_24 (by decide) ?_
      refine w_icmp_lt (tgt := 36) X dX11_record_25 (by decide) (fun h25 => ?_) (fun h25 => ?_)
      · refine w_aload_n X dX11_record_36 rfl rfl ?_
        refine g11_53 X dX11_record_37 s_34 rfl ?_
        refine w_iload_n X dX11_record_40 rfl rfl ?_
        refine w_iload_n X dX11_record_41 rfl rfl ?_
        refine w_v2fI X dX11_record_42 k11_163 rfl s_243 (c8_cell G hG _ _ 243 1500 rw_rec _ _) (Nat.le_of_ble_eq_true rfl) ?_
        exact w_irX X Z dX11_record_45 ⟨_, rfl, rfl, rfl, h8, Int32.not_lt.mp h20, h25⟩
      · exact w_throwA X Z (by omega) dX11_record_28 dX11_record_31 dX11_record_32 dX11_record_35 (Or.inr ⟨rfl, h8, Or.inr (Int32.not_lt.mp h25)⟩)
  · exact w_throwI X Z (by omega) dX11_record_11 dX11_record_14 dX11_record_15 dX11_record_18 (Or.inl ⟨rfl, h8⟩)
set_option maxRecDepth 100000 in
set_option maxHeartbeats 600000 in
theorem c11_kept (G : gg_) (hG : gd_ G) (d : Nat) (M : mm_) (i w : Int32) : cmx_ G yX11_kept cX11_kept 3 (some .int) (d + 6) [.ref (G.1 34), .int i, .int w] M (rI_ (fun r N => N = M ∧ r = rC_ M 245 280 i w ∧ ¬ rH_ M 245 i = 0 ∧ 0 ≤ w ∧ w < 7)) (fun E => (E = "java/lang/IndexOutOfBoundsException" ∧ rH_ M 245 i = 0) ∨ (E = "java/lang/IllegalArgumentException" ∧ ¬ rH_ M 245 i = 0 ∧ (w < 0 ∨ 7 ≤ w))) := by
  refine cmx_of hG (by decide) (Nat.le_of_ble_eq_true rfl) (fun C X Z => ?_)
  refine w_aload_n X dX11_kept_0 rfl rfl ?_
  refine g11_57 X dX11_kept_1 s_34 rfl ?_
  refine w_iload_n X dX11_kept_4 rfl rfl ?_
  refine w_v1fI X dX11_kept_5 k11_162 rfl s_245 (c8_has G hG _ _ 245 280 rw_kept _) (Nat.le_of_ble_eq_true rfl) ?_
  refine w_if_ne (tgt := 19) X dX11_kept_8 (by decide) (fun h8 => ?_) (fun h8 => ?_)
  · refine w_iload_n X dX11_kept_19 rfl rfl ?_
    refine w_if_lt (tgt := 29) X dX11_kept_20 (by decide) (fun h20 => ?_) (fun h20 => ?_)
    · exact w_throwA X Z (by omega) dX11_kept_29 dX11_kept_32 dX11_kept_33 dX11_kept_36 (Or.inr ⟨rfl, h8, Or.inl h20⟩)
    · refine w_iload_n X dX11_kept_23 rfl rfl ?_
      refine w_bipush (v := 7) X dX11_kept_24 (by decide) ?_
      refine w_icmp_lt (tgt := 37) X dX11_kept_26 (by decide) (fun h26 => ?_) (fun h26 => ?_)
      · refine w_aload_n X dX11_kept_37 rfl rfl ?_
        refine g11_57 X dX11_kept_38 s_34 rfl ?_
        refine w_iload_n X dX11_kept_41 rfl rfl ?_
        refine w_iload_n X dX11_kept_42 rfl rfl ?_
        refine w_v2fI X dX11_kept_43 k11_163 rfl s_245 (c8_cell G hG _ _ 245 280 rw_kept _ _) (Nat.le_of_ble_eq_true rfl) ?_
        exact w_irX X Z dX11_kept_46 ⟨_, rfl, rfl, rfl, h8, Int32.not_lt.mp h20, h26⟩
      · exact w_throwA X Z (by omega) dX11_kept_29 dX11_kept_32 dX11_kept_33 dX11_kept_36 (Or.inr ⟨rfl, h8, Or.inr (Int32.not_lt.mp h26)⟩)
  · exact w_throwI X Z (by omega) dX11_kept_11 dX11_kept_14 dX11_kept_15 dX11_kept_18 (Or.inl ⟨rfl, h8⟩)
set_option maxRecDepth 100000 in
set_option maxHeartbeats 600000 in
theorem c11_job (G : gg_) (hG : gd_ G) (d : Nat) (M : mm_) (J : Nat → Nat) (S : Nat) (hq : jq_ M J S) (j w : Int32) : cmx_ G yX11_job cX11_job 3 (some .int) (d + 6) [.ref (G.1 34), .int j, .int w] M (rI_ (fun r N => N = M ∧ ∃ i, i < 8 ∧ j = nI i ∧ 0 ≤ w ∧ w ≤ 1 ∧ r = (if w = 0 then M.1 (135 + 12 * J i) 0 else lft_ M (135 + 12 * J i)))) (fun E => (E = "java/lang/IndexOutOfBoundsException" ∧ (j < 0 ∨ 8 ≤ j)) ∨ (E = "java/lang/IllegalArgumentException" ∧ ¬ (j < 0 ∨ 8 ≤ j) ∧ (w < 0 ∨ 1 < w))) := by
  refine cmx_of hG (by decide) (Nat.le_of_ble_eq_true rfl) (fun C X Z => ?_)
  refine w_iload_n X dX11_job_0 rfl rfl ?_
  refine w_if_lt (tgt := 10) X dX11_job_1 (by decide) (fun h1 => ?_) (fun h1 => ?_)
  · exact w_throwI X Z (by omega) dX11_job_10 dX11_job_13 dX11_job_14 dX11_job_17 (Or.inl ⟨rfl, Or.inl h1⟩)
  · refine w_iload_n X dX11_job_4 rfl rfl ?_
    refine w_bipush (v := 8) X dX11_job_5 (by decide) ?_
    refine w_icmp_lt (tgt := 18) X dX11_job_7 (by decide) (fun h7 => ?_) (fun h7 => ?_)
    · obtain ⟨i, hi, ei⟩ := ix_ (n := 8) (by decide) h1 (Int32.not_le.mpr h7)
      subst ei
      refine w_iload_n X dX11_job_18 rfl rfl ?_
      refine w_if_lt (tgt := 27) X dX11_job_19 (by decide) (fun h19 => ?_) (fun h19 => ?_)
      · exact w_throwA X Z (by omega) dX11_job_27 dX11_job_30 dX11_job_31 dX11_job_34 (Or.inr ⟨rfl, fun z => z.elim h1 (fun y => absurd y (Int32.not_le.mpr h7)), Or.inl h19⟩)
      · refine w_iload_n X dX11_job_22 rfl rfl ?_
        refine w_iconst (v := 1) X dX11_job_23 (by decide) ?_
        refine w_icmp_le (tgt := 35) X dX11_job_24 (by decide) (fun h24 => ?_) (fun h24 => ?_)
        · refine w_iload_n X dX11_job_35 rfl rfl ?_
          refine w_if_ne (tgt := 53) X dX11_job_36 (by decide) (fun h36 => ?_) (fun h36 => ?_)
          · refine w_aload_n X dX11_job_53 rfl rfl ?_
            refine g11_44 X dX11_job_54 s_34 rfl ?_
            refine w_iload_n X dX11_job_57 rfl rfl ?_
            refine w_v1fR X dX11_job_58 k11_167 rfl s_133 (c3_at G hG _ _ J S hq i hi) (Nat.le_of_ble_eq_true rfl) ?_
            refine w_v0fI X dX11_job_61 k11_176 rfl (jq_jd hq hi).1 (c2_left G hG _ _ _ (jq_jd hq hi)) (Nat.le_of_ble_eq_true rfl) ?_
            exact w_irX X Z dX11_job_64 ⟨_, rfl, rfl, i, hi, rfl, Int32.not_lt.mp h19, h24, (if_neg h36).symm⟩
          · refine w_aload_n X dX11_job_39 rfl rfl ?_
            refine g11_44 X dX11_job_40 s_34 rfl ?_
            refine w_iload_n X dX11_job_43 rfl rfl ?_
            refine w_v1fR X dX11_job_44 k11_167 rfl s_133 (c3_at G hG _ _ J S hq i hi) (Nat.le_of_ble_eq_true rfl) ?_
            refine g11_171 X dX11_job_47 (jq_jd hq hi).1 rfl ?_
            refine w_goto (tgt := 64) X dX11_job_50 (by decide) ?_
            exact w_irX X Z dX11_job_64 ⟨_, rfl, rfl, i, hi, rfl, Int32.not_lt.mp h19, h24, (if_pos h36).symm⟩
        · exact w_throwA X Z (by omega) dX11_job_27 dX11_job_30 dX11_job_31 dX11_job_34 (Or.inr ⟨rfl, fun z => z.elim h1 (fun y => absurd y (Int32.not_le.mpr h7)), Or.inr (Int32.not_le.mp h24)⟩)
    · exact w_throwI X Z (by omega) dX11_job_10 dX11_job_13 dX11_job_14 dX11_job_17 (Or.inl ⟨rfl, Or.inr (Int32.not_lt.mp h7)⟩)
set_option maxRecDepth 100000 in
set_option maxHeartbeats 600000 in
theorem c11_counted (G : gg_) (hG : gd_ G) (d : Nat) (M : mm_) (J : Nat → Nat) (S : Nat) (hq : jq_ M J S) (c : Nat) (hc : mt_ M c) (j m w : Int32) : cmx_ G yX11_counted cX11_counted 4 (some .int) (d + 6) [.ref (G.1 34), .int j, .int m, .int w] M (rI_ (fun _ N => N = M)) (fun E => E = "java/lang/IndexOutOfBoundsException" ∨ E = "java/lang/IllegalArgumentException") := by
  refine cmx_of hG (by decide) (Nat.le_of_ble_eq_true rfl) (fun C X Z => ?_)
  by_cases hj : 0 ≤ j ∧ j < 8
  · obtain ⟨i, hi, ei⟩ := ix_ (x := j) (n := 8) (by decide) (Int32.not_lt.mpr hj.1) (Int32.not_le.mpr hj.2)
    subst ei
    refine w_aload_n X dX11_counted_0 rfl rfl ?_
    refine g11_44 X dX11_counted_1 s_34 rfl ?_
    refine w_iload_n X dX11_counted_4 rfl rfl ?_
    refine w_v1fI X dX11_counted_5 k11_179 rfl s_133 (c3_has G hG _ _ J S hq i hi) (Nat.le_of_ble_eq_true rfl) ?_
    refine w_if_eq (tgt := 37) X dX11_counted_8 (by decide) (fun h8 => ?_) (fun h8 => ?_)
    · exact w_throwI X Z (by omega) dX11_counted_37 dX11_counted_40 dX11_counted_41 dX11_counted_44 (Or.inl rfl)
    · refine w_aload_n X dX11_counted_11 rfl rfl ?_
      refine g11_44 X dX11_counted_12 s_34 rfl ?_
      refine w_iload_n X dX11_counted_15 rfl rfl ?_
      refine w_v1fR X dX11_counted_16 k11_167 rfl s_133 (c3_at G hG _ _ J S hq i hi) (Nat.le_of_ble_eq_true rfl) ?_
      refine g11_171 X dX11_counted_19 (jq_jd hq hi).1 rfl ?_
      refine w_iconst (v := 2) X dX11_counted_22 (by decide) ?_
      refine w_icmp_ne (tgt := 37) X dX11_counted_23 (by decide) (fun h23 => ?_) (fun h23 => ?_)
      · exact w_throwI X Z (by omega) dX11_counted_37 dX11_counted_40 dX11_counted_41 dX11_counted_44 (Or.inl rfl)
      · refine w_aload_n X dX11_counted_26 rfl rfl ?_
        refine g11_37 X dX11_counted_27 s_34 rfl ?_
        refine w_iload_n X dX11_counted_30 rfl rfl ?_
        refine w_v1fI X dX11_counted_31 k11_135 rfl s_45 (c5_has G hG _ _ c hc _) (Nat.le_of_ble_eq_true rfl) ?_
        refine w_if_ne (tgt := 45) X dX11_counted_34 (by decide) (fun h34 => ?_) (fun h34 => ?_)
        · refine w_iload_n X dX11_counted_45 rfl rfl ?_
          refine w_if_lt (tgt := 54) X dX11_counted_46 (by decide) (fun h46 => ?_) (fun h46 => ?_)
          · exact w_throwA X Z (by omega) dX11_counted_54 dX11_counted_57 dX11_counted_58 dX11_counted_61 (Or.inr rfl)
          · refine w_iload_n X dX11_counted_49 rfl rfl ?_
            refine w_iconst (v := 3) X dX11_counted_50 (by decide) ?_
            refine w_icmp_lt (tgt := 62) X dX11_counted_51 (by decide) (fun h51 => ?_) (fun h51 => ?_)
            · obtain ⟨m2, hm2, em⟩ := ix_ (n := c) (by have := hc.1; omega) (Int32.not_lt.mpr (mH_1 h34).1) (Int32.not_le.mpr (mH_1 h34).2)
              obtain ⟨w2, hw2, ew⟩ := ix_ (n := 3) (by decide) h46 (Int32.not_le.mpr h51)
              refine w_aload_n X dX11_counted_62 rfl rfl ?_
              refine g11_44 X dX11_counted_63 s_34 rfl ?_
              refine w_iload_n X dX11_counted_66 rfl rfl ?_
              refine w_v1fR X dX11_counted_67 k11_167 rfl s_133 (c3_at G hG _ _ J S hq i hi) (Nat.le_of_ble_eq_true rfl) ?_
              refine g11_180 X dX11_counted_70 (jq_jd hq hi).1 rfl ?_
              refine w_iload_n X dX11_counted_73 rfl rfl ?_
              refine w_iconst (v := 3) X dX11_counted_74 (by decide) ?_
              refine w_imul X dX11_counted_75 ?_
              refine w_iload_n X dX11_counted_76 rfl rfl ?_
              refine w_iadd X dX11_counted_77 ?_
              rw [em, ew, nI_mp]
              refine w_ialoadN X dX11_counted_78 (jq_jd hq hi).2.1 rfl (⟨by have := hc.1; omega, by decide⟩) ?_
              exact w_irX X Z dX11_counted_79 ⟨_, rfl, rfl⟩
            · exact w_throwA X Z (by omega) dX11_counted_54 dX11_counted_57 dX11_counted_58 dX11_counted_61 (Or.inr rfl)
        · exact w_throwI X Z (by omega) dX11_counted_37 dX11_counted_40 dX11_counted_41 dX11_counted_44 (Or.inl rfl)
  · have hj2 : j < 0 ∨ 8 ≤ j := by
      by_cases z : j < 0
      · exact Or.inl z
      · exact Or.inr (Int32.not_lt.mp (fun y => hj ⟨Int32.not_lt.mp z, y⟩))
    refine w_aload_n X dX11_counted_0 rfl rfl ?_
    refine g11_44 X dX11_counted_1 s_34 rfl ?_
    refine w_iload_n X dX11_counted_4 rfl rfl ?_
    refine w_v1fI X dX11_counted_5 k11_179 rfl s_133 (c3_hasO G hG _ _ J S hq _ hj2) (Nat.le_of_ble_eq_true rfl) ?_
    refine w_if_eq (tgt := 37) X dX11_counted_8 (by decide) (fun h8 => ?_) (fun h8 => absurd (rfl) h8)
    exact w_throwI X Z (by omega) dX11_counted_37 dX11_counted_40 dX11_counted_41 dX11_counted_44 (Or.inl rfl)
theorem fyX_sp {M : mm_} {n a b c : Int32} : fyX_ 0 M (sp1_ M n a b c) := fyX_tr (fyX_tr (fyX_m (by omega) (by omega) (by omega)) (fyX_m (by omega) (by omega) (by omega))) (fyX_m (by omega) (by omega) (by omega))
theorem sp_10 {M : mm_} {n a b c : Int32} : (sp1_ M n a b c).1 247 10 = M.1 247 10 := by unfold sp1_; rw [gI_sI, if_neg (by omega), gI_sI, if_neg (by omega), gI_sI, if_neg (by omega)]
set_option maxRecDepth 100000 in
set_option maxHeartbeats 600000 in
theorem c11_call (G : gg_) (hG : gd_ G) (d : Nat) (M : mm_) (c : Nat) (J : Nat → Nat) (S : Nat) (hM : kmX_ c J S M) (hz : zoX_ (M.1 247 10)) (m x y w : Int32) : cmx_ G yX11_call cX11_call 5 (some .int) (d + 63) [.ref (G.1 34), .int m, .int x, .int y, .int w] M (rI_ (fun _ N => fyX_ 0 M N ∧ zoX_ (N.1 247 10))) (fun E => E = "java/lang/IndexOutOfBoundsException") := by
  refine cmx_of hG (by decide) (Nat.le_of_ble_eq_true rfl) (fun C X Z => ?_)
  refine w_aload_n X dX11_call_0 rfl rfl ?_
  refine g11_37 X dX11_call_1 s_34 rfl ?_
  refine w_iload_n X dX11_call_4 rfl rfl ?_
  refine w_v1fI X dX11_call_5 k11_135 rfl s_45 (c5_has G hG _ _ c hM.1 _) (Nat.le_of_ble_eq_true rfl) ?_
  refine w_if_ne (tgt := 19) X dX11_call_8 (by decide) (fun h8 => ?_) (fun h8 => ?_)
  · obtain ⟨m2, hm2, em⟩ := ix_ (n := c) (by have := hM.1.1; omega) (Int32.not_lt.mpr (mH_1 h8).1) (Int32.not_le.mpr (mH_1 h8).2)
    refine w_aload_n X dX11_call_19 rfl rfl ?_
    refine g11_65 X dX11_call_20 s_34 rfl ?_
    refine w_aload_n X dX11_call_23 rfl rfl ?_
    refine g11_37 X dX11_call_24 s_34 rfl ?_
    refine w_iload_n X dX11_call_27 rfl rfl ?_
    refine w_v1fI X dX11_call_28 k11_142 rfl s_45 (c5_parametersOf G hG _ _ c hM.1 _) (Nat.le_of_ble_eq_true rfl) ?_
    refine w_iload_n X dX11_call_31 rfl rfl ?_
    refine w_iload_n X dX11_call_32 rfl rfl ?_
    refine w_iload X dX11_call_33 rfl ?_
    refine w_v4fV X dX11_call_35 k11_145 rfl s_247 (c4_setParameters G hG _ _ hM.2.2.2.1 _ _ _ _) (Nat.le_of_ble_eq_true rfl) ?_
    refine w_aload_n X dX11_call_38 rfl rfl ?_
    refine g11_65 X dX11_call_39 s_34 rfl ?_
    refine w_iload_n X dX11_call_42 rfl rfl ?_
    refine w_iconst (v := 1) X dX11_call_43 (by decide) ?_
    rw [em]
    refine w_v2rI X dX11_call_44 k11_149 rfl s_247 (c4_start G hG (d + 1) _ c J S (kmX_fz fyX_sp.1 hM) m2 hm2 1 (Or.inr rfl) (by rw [sp_10]; exact hz)) (Nat.le_of_ble_eq_true rfl) (fun r44 N44 h44 => ?_)
    exact w_irX X Z dX11_call_47 ⟨_, rfl, fyX_tr fyX_sp h44.1, h44.2⟩
  · exact w_throwI X Z (by omega) dX11_call_11 dX11_call_14 dX11_call_15 dX11_call_18 (rfl)
set_option maxRecDepth 100000 in
set_option maxHeartbeats 600000 in
theorem c11_replay (G : gg_) (hG : gd_ G) (d : Nat) (M : mm_) (c : Nat) (J : Nat → Nat) (S : Nat) (hM : kmX_ c J S M) (hz : zoX_ (M.1 247 10)) (hk : kpX_ M) (i : Int32) : cmx_ G yX11_replay cX11_replay 3 (some .int) (d + 63) [.ref (G.1 34), .int i] M (rI_ (fun _ N => fyX_ 0 M N ∧ zoX_ (N.1 247 10))) (fun E => E = "java/lang/IndexOutOfBoundsException") := by
  refine cmx_of hG (by decide) (Nat.le_of_ble_eq_true rfl) (fun C X Z => ?_)
  refine w_aload_n X dX11_replay_0 rfl rfl ?_
  refine g11_57 X dX11_replay_1 s_34 rfl ?_
  refine w_iload_n X dX11_replay_4 rfl rfl ?_
  refine w_v1fI X dX11_replay_5 k11_162 rfl s_245 (c8_has G hG _ _ 245 280 rw_kept _) (Nat.le_of_ble_eq_true rfl) ?_
  refine w_if_ne (tgt := 19) X dX11_replay_8 (by decide) (fun h8 => ?_) (fun h8 => ?_)
  · obtain ⟨c2, k1, k2, k3, z, k4, k5, k6⟩ := hk
    obtain rfl : c2 = c := (nI_eq (by have := k1.1; omega) (by have := hM.1.1; omega)).mp (k1.2.symm.trans hM.1.2)
    obtain ⟨i2, hi2, ei⟩ := rH_in k5 (by omega) h8
    obtain ⟨m2, hm2, em⟩ := k6 i2 hi2
    refine w_aload_n X dX11_replay_19 rfl rfl ?_
    refine g11_57 X dX11_replay_20 s_34 rfl ?_
    refine w_iload_n X dX11_replay_23 rfl rfl ?_
    refine w_iconst (v := 1) X dX11_replay_24 (by decide) ?_
    refine w_v2fI X dX11_replay_25 k11_163 rfl s_245 (c8_cell G hG _ _ 245 280 rw_kept _ _) (Nat.le_of_ble_eq_true rfl) ?_
    rw [ei, show rC_ M 245 280 (nI i2) 1 = nI m2 from (rC_at (j := 1) k3 (by omega) (by decide)).trans em]
    refine w_istore_n X dX11_replay_28 rfl (by decide) ?_
    refine w_aload_n X dX11_replay_29 rfl rfl ?_
    refine g11_65 X dX11_replay_30 s_34 rfl ?_
    refine w_aload_n X dX11_replay_33 rfl rfl ?_
    refine g11_37 X dX11_replay_34 s_34 rfl ?_
    refine w_iload_n X dX11_replay_37 rfl rfl ?_
    refine w_v1fI X dX11_replay_38 k11_142 rfl s_45 (c5_parametersOf G hG _ _ c2 hM.1 _) (Nat.le_of_ble_eq_true rfl) ?_
    refine w_aload_n X dX11_replay_41 rfl rfl ?_
    refine g11_57 X dX11_replay_42 s_34 rfl ?_
    refine w_iload_n X dX11_replay_45 rfl rfl ?_
    refine w_iconst (v := 2) X dX11_replay_46 (by decide) ?_
    refine w_v2fI X dX11_replay_47 k11_163 rfl s_245 (c8_cell G hG _ _ 245 280 rw_kept _ _) (Nat.le_of_ble_eq_true rfl) ?_
    refine w_aload_n X dX11_replay_50 rfl rfl ?_
    refine g11_57 X dX11_replay_51 s_34 rfl ?_
    refine w_iload_n X dX11_replay_54 rfl rfl ?_
    refine w_iconst (v := 3) X dX11_replay_55 (by decide) ?_
    refine w_v2fI X dX11_replay_56 k11_163 rfl s_245 (c8_cell G hG _ _ 245 280 rw_kept _ _) (Nat.le_of_ble_eq_true rfl) ?_
    refine w_aload_n X dX11_replay_59 rfl rfl ?_
    refine g11_57 X dX11_replay_60 s_34 rfl ?_
    refine w_iload_n X dX11_replay_63 rfl rfl ?_
    refine w_iconst (v := 4) X dX11_replay_64 (by decide) ?_
    refine w_v2fI X dX11_replay_65 k11_163 rfl s_245 (c8_cell G hG _ _ 245 280 rw_kept _ _) (Nat.le_of_ble_eq_true rfl) ?_
    refine w_v4fV X dX11_replay_68 k11_145 rfl s_247 (c4_setParameters G hG _ _ hM.2.2.2.1 _ _ _ _) (Nat.le_of_ble_eq_true rfl) ?_
    refine w_aload_n X dX11_replay_71 rfl rfl ?_
    refine g11_65 X dX11_replay_72 s_34 rfl ?_
    refine w_iload_n X dX11_replay_75 rfl rfl ?_
    refine w_iconst (v := 0) X dX11_replay_76 (by decide) ?_
    refine w_v2rI X dX11_replay_77 k11_149 rfl s_247 (c4_start G hG (d + 1) _ c2 J S (kmX_fz fyX_sp.1 hM) m2 hm2 0 (Or.inl rfl) (by rw [sp_10]; exact hz)) (Nat.le_of_ble_eq_true rfl) (fun r77 N77 h77 => ?_)
    exact w_irX X Z dX11_replay_80 ⟨_, rfl, fyX_tr fyX_sp h77.1, h77.2⟩
  · exact w_throwI X Z (by omega) dX11_replay_11 dX11_replay_14 dX11_replay_15 dX11_replay_18 (rfl)
