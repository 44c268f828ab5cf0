/-! constructors of the class. k0_: a Code made at k; j0_: a Job made at k -/
def dq_ (k n : Nat) (d : dd_) : Bool := match dall_[n]? with
  | some q => decide (q.1 = k) && decide (q.2 = d)
  | none => false
theorem dq_ok {k n : Nat} {d : dd_} (h : dq_ k n d = true) : dall_[n]? = some (k, d) := by
  unfold dq_ at h
  cases hd : dall_[n]? with
  | none => rw [hd] at h; cases h
  | some q =>
    rw [hd] at h
    simp only [Bool.and_eq_true, decide_eq_true_eq] at h
    obtain ⟨a, b⟩ := q
    obtain ⟨h1, h2⟩ := h
    simp only at h1 h2
    rw [h1, h2]
def ncX_ (k n : Nat) : Prop := pi_ k < n ∧ dall_[pi_ k]? = some (k, .inr (0, [2, 2, 2, 2, 0, 0])) ∧ dall_[n]? = some (k + 1, .inl (0, 26, 0)) ∧ dall_[n + 1]? = some (k + 2, .inl (1, 26, 1)) ∧ dall_[n + 2]? = some (k + 3, .inl (0, 26, 0)) ∧ dall_[n + 3]? = some (k + 4, .inl (0, 26, 0))
def k0_ (M : mm_) (k : Nat) : mm_ := sR_ (sR_ (sR_ (sR_ M k 0 (some (k + 1))) k 1 (some (k + 2))) k 2 (some (k + 3))) k 3 (some (k + 4))
def njX_ (k n : Nat) : Prop := pi_ k < n ∧ dall_[pi_ k]? = some (k, .inr (2, [0, 0, 1, 2, 2, 0, 0, 0, 2, 0])) ∧ dall_[n]? = some (k + 1, .inr (0, [2, 2, 2, 2, 0, 0])) ∧ ncX_ (k + 1) (n + 1) ∧ dall_[n + 5]? = some (k + 6, .inr (0, [2, 2, 2, 2, 0, 0])) ∧ ncX_ (k + 6) (n + 6) ∧ dall_[n + 10]? = some (k + 11, .inl (0, 48, 0))
def j0_ (M : mm_) (k : Nat) : mm_ := sR_ (sR_ (k0_ (sR_ (k0_ M (k + 1)) k 3 (some (k + 1))) (k + 6)) k 4 (some (k + 6))) k 8 (some (k + 11))
set_option maxRecDepth 100000 in
set_option maxHeartbeats 4000000 in
theorem i9_ (G : gg_) (hg : ga_ G) (d : Nat) (M : mm_) : ctX_ G yX9_init cX9_init 1 (d + 1) 1 200 [.ref (G.1 35)] M (2) (sI_ (sR_ M 35 0 (some 36)) 35 1 0) (3) := by
  refine ct_of hg (by decide) rfl (Nat.le_of_ble_eq_true rfl) (fun C X hC => ?_)
  refine n_aload_n X dX9_init_0 rfl rfl ?_
  refine n_obj X dX9_init_1 ob9_ obI_ obC_ (Nat.le_of_ble_eq_true rfl) ?_
  refine n_aload_n X dX9_init_4 rfl rfl ?_
  refine n_sipush (v := 200) X dX9_init_5 (by decide) ?_
  refine n_newI X dX9_init_8 rfl rfl ac_int rfl (fun _ _ h => h) rfl (by decide) (by decide) (by decide) (by decide) (by decide) ?_
  refine n_putRF (j := 0) (ty := tyX9 0) X dX9_init_10 inG9 tyX9_ok nmX9 rfl (by decide) f9_9 hC rfl rfl (by decide +kernel) rfl rfl (by decide) rfl rfl ?_
  refine n_aload_n X dX9_init_13 rfl rfl ?_
  refine n_iconst (v := 0) X dX9_init_14 (by decide) ?_
  refine n_putI (j := 1) (ty := .int) X dX9_init_15 inG9 tyX9_ok nmX9 rfl (by decide) f9_13 rfl (by decide +kernel) rfl rfl (by decide) rfl rfl ?_
  exact n_vret X dX9_init_18 rfl rfl rfl rfl
set_option maxRecDepth 100000 in
set_option maxHeartbeats 4000000 in
theorem i7_ (G : gg_) (hg : ga_ G) (d : Nat) (M : mm_) : ctX_ G yX7_init cX7_init 2 (d + 1) 0 0 [.ref (G.1 37), .ref (G.1 35)] M (4) (sI_ (sI_ (sR_ M 37 0 (some 35)) 37 2 0) 37 3 (-1)) (4) := by
  refine ct_of hg (by decide) rfl (Nat.le_of_ble_eq_true rfl) (fun C X hC => ?_)
  refine n_aload_n X dX7_init_0 rfl rfl ?_
  refine n_obj X dX7_init_1 ob7_ obI_ obC_ (Nat.le_of_ble_eq_true rfl) ?_
  refine n_aload_n X dX7_init_4 rfl rfl ?_
  refine n_aload_n X dX7_init_5 rfl rfl ?_
  refine n_putRF (j := 0) (ty := tyX7 0) X dX7_init_6 inG7 tyX7_ok nmX7 rfl (by decide) f7_9 hC rfl rfl (by decide +kernel) rfl rfl (by decide) rfl rfl ?_
  refine n_aload_n X dX7_init_9 rfl rfl ?_
  refine n_iconst (v := 0) X dX7_init_10 (by decide) ?_
  refine n_putI (j := 2) (ty := .int) X dX7_init_11 inG7 tyX7_ok nmX7 rfl (by decide) f7_15 rfl (by decide +kernel) rfl rfl (by decide) rfl rfl ?_
  refine n_aload_n X dX7_init_14 rfl rfl ?_
  refine n_iconst (v := -1) X dX7_init_15 (by decide) ?_
  refine n_putI (j := 3) (ty := .int) X dX7_init_16 inG7 tyX7_ok nmX7 rfl (by decide) f7_19 rfl (by decide +kernel) rfl rfl (by decide) rfl rfl ?_
  exact n_vret X dX7_init_19 rfl rfl rfl rfl
set_option maxRecDepth 100000 in
set_option maxHeartbeats 4000000 in
theorem i0_ (G : gg_) (hg : ga_ G) (d : Nat) (M : mm_) (k n : Nat) (h : ncX_ k n) : ctX_ G yX0_init cX0_init 1 (d + 1) 4 104 [.ref (G.1 k)] M (n) (k0_ M k) (n + 4) := by
  refine ct_of hg (by decide) rfl (Nat.le_of_ble_eq_true rfl) (fun C X hC => ?_)
  refine n_aload_n X dX0_init_0 rfl rfl ?_
  refine n_obj X dX0_init_1 ob0_ obI_ obC_ (Nat.le_of_ble_eq_true rfl) ?_
  refine n_aload_n X dX0_init_4 rfl rfl ?_
  refine n_bipush (v := 26) X dX0_init_5 (by decide) ?_
  refine n_newI X dX0_init_7 h.2.2.1 rfl ac_int rfl (fun _ _ h => h) rfl (by decide) (by decide) (by decide) (by decide) (by decide) ?_
  refine n_putRF (j := 0) (ty := tyX0 0) X dX0_init_9 inG0 tyX0_ok nmX0 rfl (by decide) f0_9 hC rfl rfl (by decide +kernel) rfl h.2.1 (Nat.lt_of_lt_of_le h.1 (by omega)) rfl rfl ?_
  refine n_aload_n X dX0_init_12 rfl rfl ?_
  refine n_bipush (v := 26) X dX0_init_13 (by decide) ?_
  refine n_newL X dX0_init_15 h.2.2.2.1 rfl ac_long rfl (fun _ _ h => h) rfl (by decide) (by decide) (by decide) (by decide) (by decide) ?_
  refine n_putRF (j := 1) (ty := tyX0 1) X dX0_init_17 inG0 tyX0_ok nmX0 rfl (by decide) f0_13 hC rfl rfl (by decide +kernel) rfl h.2.1 (Nat.lt_of_lt_of_le h.1 (by omega)) rfl rfl ?_
  refine n_aload_n X dX0_init_20 rfl rfl ?_
  refine n_bipush (v := 26) X dX0_init_21 (by decide) ?_
  refine n_newI X dX0_init_23 h.2.2.2.2.1 rfl ac_int rfl (fun _ _ h => h) rfl (by decide) (by decide) (by decide) (by decide) (by decide) ?_
  refine n_putRF (j := 2) (ty := tyX0 2) X dX0_init_25 inG0 tyX0_ok nmX0 rfl (by decide) f0_17 hC rfl rfl (by decide +kernel) rfl h.2.1 (Nat.lt_of_lt_of_le h.1 (by omega)) rfl rfl ?_
  refine n_aload_n X dX0_init_28 rfl rfl ?_
  refine n_bipush (v := 26) X dX0_init_29 (by decide) ?_
  refine n_newI X dX0_init_31 h.2.2.2.2.2 rfl ac_int rfl (fun _ _ h => h) rfl (by decide) (by decide) (by decide) (by decide) (by decide) ?_
  refine n_putRF (j := 3) (ty := tyX0 3) X dX0_init_33 inG0 tyX0_ok nmX0 rfl (by decide) f0_20 hC rfl rfl (by decide +kernel) rfl h.2.1 (Nat.lt_of_lt_of_le h.1 (by omega)) rfl rfl ?_
  exact n_vret X dX0_init_36 rfl rfl rfl rfl
set_option maxRecDepth 100000 in
set_option maxHeartbeats 4000000 in
theorem i1_ (G : gg_) (hg : ga_ G) (d : Nat) (M : mm_) : ctX_ G yX1_init cX1_init 3 (d + 1) 0 0 [.ref (G.1 39), .ref (G.1 37), .ref (G.1 40)] M (11) (sR_ (sR_ M 39 0 (some 37)) 39 1 (some 40)) (11) := by
  refine ct_of hg (by decide) rfl (Nat.le_of_ble_eq_true rfl) (fun C X hC => ?_)
  refine n_aload_n X dX1_init_0 rfl rfl ?_
  refine n_obj X dX1_init_1 ob1_ obI_ obC_ (Nat.le_of_ble_eq_true rfl) ?_
  refine n_aload_n X dX1_init_4 rfl rfl ?_
  refine n_aload_n X dX1_init_5 rfl rfl ?_
  refine n_putRF (j := 0) (ty := tyX1 0) X dX1_init_6 inG1 tyX1_ok nmX1 rfl (by decide) f1_7 hC rfl rfl (by decide +kernel) rfl rfl (by decide) rfl rfl ?_
  refine n_aload_n X dX1_init_9 rfl rfl ?_
  refine n_aload_n X dX1_init_10 rfl rfl ?_
  refine n_putR (j := 1) (ty := tyX1 1) X dX1_init_11 inG1 tyX1_ok nmX1 rfl (by decide) f1_13 rfl (by decide +kernel) rfl rfl (by decide) rfl rfl ?_
  exact n_vret X dX1_init_14 rfl rfl rfl rfl
set_option maxRecDepth 100000 in
set_option maxHeartbeats 4000000 in
theorem i10_ (G : gg_) (hg : ga_ G) (d : Nat) (M : mm_) : ctX_ G yX10_init cX10_init 2 (d + 2) 6 117 [.ref (G.1 38), .ref (G.1 37)] M (5) (sR_ (sR_ (sR_ (k0_ (sR_ M 38 1 (some 37)) 40) 39 0 (some 37)) 39 1 (some 40)) 38 2 (some 39)) (11) := by
  refine ct_of hg (by decide) rfl (Nat.le_of_ble_eq_true rfl) (fun C X hC => ?_)
  refine n_aload_n X dX10_init_0 rfl rfl ?_
  refine n_obj X dX10_init_1 ob10_ obI_ obC_ (Nat.le_of_ble_eq_true rfl) ?_
  refine n_aload_n X dX10_init_4 rfl rfl ?_
  refine n_aload_n X dX10_init_5 rfl rfl ?_
  refine n_putRF (j := 1) (ty := tyX10 1) X dX10_init_6 inG10 tyX10_ok nmX10 rfl (by decide) f10_7 hC rfl rfl (by decide +kernel) rfl rfl (by decide) rfl rfl ?_
  refine n_aload_n X dX10_init_9 rfl rfl ?_
  refine n_new X dX10_init_10 rfl inG1 tyX1_ok cl10_13 ins1_ in1_ rfl (by decide +kernel) (by decide) (by decide) (by decide) ?_
  refine n_dup X dX10_init_13 rfl ?_
  refine n_aload_n X dX10_init_14 rfl rfl ?_
  refine n_new X dX10_init_15 rfl inG0 tyX0_ok cl10_15 ins0_ in0_ rfl (by decide +kernel) (by decide) (by decide) (by decide) ?_
  refine n_dup X dX10_init_18 rfl ?_
  refine n_ctor [] X dX10_init_19 k10_17 (i0_ G hg _ _ 40 7 ⟨by decide, rfl, rfl, rfl, rfl, rfl⟩) (Nat.le_of_ble_eq_true rfl) (by decide) (by decide) ?_
  refine n_ctor [.ref (G.1 37), .ref (G.1 40)] X dX10_init_22 k10_18 (i1_ G hg _ _) (Nat.le_of_ble_eq_true rfl) (by decide) (by decide) ?_
  refine n_putRF (j := 2) (ty := tyX10 2) X dX10_init_25 inG10 tyX10_ok nmX10 rfl (by decide) f10_21 hC rfl rfl (by decide +kernel) rfl rfl (by decide) rfl rfl ?_
  exact n_vret X dX10_init_28 rfl rfl rfl rfl
set_option maxRecDepth 100000 in
set_option maxHeartbeats 4000000 in
theorem i8X_ (G : gg_) (hg : ga_ G) (d : Nat) (M : mm_) (k n m w c : Nat) (hm0 : pi_ k < n) (h0 : dall_[pi_ k]? = some (k, .inr (7, [0, 0, 2, 0]))) (h1 : dall_[n]? = some (k + 1, .inl (0, c, 0))) (hc : c = m * w) (hb9 : c < 100000) : ctX_ G yX8_init cX8_init 3 (d + 1) 1 c [.ref (G.1 k), .int (nI m), .int (nI w)] M (n) (sR_ (sI_ (sI_ M k 0 (nI m)) k 1 (nI w)) k 2 (some (k + 1))) (n + 1) := by
  refine ct_of hg (by decide) rfl (Nat.le_of_ble_eq_true rfl) (fun C X hC => ?_)
  refine n_aload_n X dX8_init_0 rfl rfl ?_
  refine n_obj X dX8_init_1 ob8_ obI_ obC_ (Nat.le_of_ble_eq_true rfl) ?_
  refine n_aload_n X dX8_init_4 rfl rfl ?_
  refine n_iload_n X dX8_init_5 rfl rfl ?_
  refine n_putIF (j := 0) (ty := .int) X dX8_init_6 inG8 tyX8_ok nmX8 rfl (by decide) f8_7 hC rfl rfl (by decide +kernel) rfl h0 hm0 rfl rfl ?_
  refine n_aload_n X dX8_init_9 rfl rfl ?_
  refine n_iload_n X dX8_init_10 rfl rfl ?_
  refine n_putIF (j := 1) (ty := .int) X dX8_init_11 inG8 tyX8_ok nmX8 rfl (by decide) f8_13 hC rfl rfl (by decide +kernel) rfl h0 hm0 rfl rfl ?_
  refine n_aload_n X dX8_init_14 rfl rfl ?_
  refine n_iload_n X dX8_init_15 rfl rfl ?_
  refine n_iload_n X dX8_init_16 rfl rfl ?_
  refine n_imul X dX8_init_17 ?_
  rw [pk_mul, ← hc]
  refine n_newI X dX8_init_18 h1 rfl ac_int rfl (fun _ _ h => h) rfl (nI_pos (by omega)) (nI_clamp (by omega)) (by show c * 4 ≤ 536870912; omega) (by decide) (by omega) ?_
  refine n_putRF (j := 2) (ty := tyX8 2) X dX8_init_20 inG8 tyX8_ok nmX8 rfl (by decide) f8_16 hC rfl rfl (by decide +kernel) rfl h0 (by omega) rfl rfl ?_
  exact n_vret X dX8_init_23 rfl (by omega) rfl rfl
set_option maxRecDepth 100000 in
set_option maxHeartbeats 4000000 in
theorem i2_ (G : gg_) (hg : ga_ G) (d : Nat) (M : mm_) (k n : Nat) (h : njX_ k n) : ctX_ G yX2_init cX2_init 1 (d + 2) 11 268 [.ref (G.1 k)] M (n) (j0_ M k) (n + 11) := by
  refine ct_of hg (by decide) rfl (Nat.le_of_ble_eq_true rfl) (fun C X hC => ?_)
  refine n_aload_n X dX2_init_0 rfl rfl ?_
  refine n_obj X dX2_init_1 ob2_ obI_ obC_ (Nat.le_of_ble_eq_true rfl) ?_
  refine n_aload_n X dX2_init_4 rfl rfl ?_
  refine n_new X dX2_init_5 h.2.2.1 inG0 tyX0_ok cl2_7 ins0_ in0_ rfl (by decide +kernel) (by decide) (by decide) (by decide) ?_
  refine n_dup X dX2_init_8 rfl ?_
  refine n_ctor [] X dX2_init_9 k2_9 (i0_ G hg _ _ (k + 1) (n + 1) h.2.2.2.1) (Nat.le_of_ble_eq_true rfl) (by decide) (by decide) ?_
  refine n_putRF (j := 3) (ty := tyX2 3) X dX2_init_12 inG2 tyX2_ok nmX2 rfl (by decide) f2_10 hC rfl rfl (by decide +kernel) rfl h.2.1 (by have := h.1; omega) rfl rfl ?_
  refine n_aload_n X dX2_init_15 rfl rfl ?_
  refine n_new X dX2_init_16 h.2.2.2.2.1 inG0 tyX0_ok cl2_7 ins0_ in0_ rfl (by decide +kernel) (by decide) (by decide) (by decide) ?_
  refine n_dup X dX2_init_19 rfl ?_
  refine n_ctor [] X dX2_init_20 k2_9 (i0_ G hg _ _ (k + 6) (n + 6) h.2.2.2.2.2.1) (Nat.le_of_ble_eq_true rfl) (by decide) (by decide) ?_
  refine n_putRF (j := 4) (ty := tyX2 4) X dX2_init_23 inG2 tyX2_ok nmX2 rfl (by decide) f2_16 hC rfl rfl (by decide +kernel) rfl h.2.1 (by have := h.1; omega) rfl rfl ?_
  refine n_aload_n X dX2_init_26 rfl rfl ?_
  refine n_bipush (v := 48) X dX2_init_27 (by decide) ?_
  refine n_newI X dX2_init_29 h.2.2.2.2.2.2 rfl ac_int rfl (fun _ _ h => h) rfl (by decide) (by decide) (by decide) (by decide) (by decide) ?_
  refine n_putRF (j := 8) (ty := tyX2 8) X dX2_init_31 inG2 tyX2_ok nmX2 rfl (by decide) f2_21 hC rfl rfl (by decide +kernel) rfl h.2.1 (by have := h.1; omega) rfl rfl ?_
  exact n_vret X dX2_init_34 rfl rfl rfl rfl
def mb_ (M : mm_) : Nat → mm_
  | 0 => M
  | i + 1 => sR_ (k0_ (mb_ M i) (48 + 5 * i)) 47 i (some (48 + 5 * i))
theorem mb_45 (M : mm_) : ∀ i, (mb_ M i).2.2 45 1 = M.2.2 45 1
  | 0 => rfl
  | i + 1 => by
    rw [mb_, ← mb_45 M i]
    simp only [k0_, gR_sR]
    have h1 : ¬ 45 = 48 + 5 * i := by omega
    simp [h1]
theorem nc_body_0 : ∀ i, i < 17 → pi_ (48 + 5 * i) < 14 + 5 * i + 1 := by decide +kernel
theorem nc_body_1 : ∀ i, i < 17 → dall_[pi_ (48 + 5 * i)]? = some (48 + 5 * i, .inr (0, [2, 2, 2, 2, 0, 0])) := fun i h => dq_ok ((by decide +kernel : ∀ i, i < 17 → dq_ (48 + 5 * i) (pi_ (48 + 5 * i)) (.inr (0, [2, 2, 2, 2, 0, 0])) = true) i h)
theorem nc_body_2 : ∀ i, i < 17 → dall_[14 + 5 * i + 1]? = some (48 + 5 * i + 1, .inl (0, 26, 0)) := fun i h => dq_ok ((by decide +kernel : ∀ i, i < 17 → dq_ (48 + 5 * i + 1) (14 + 5 * i + 1) (.inl (0, 26, 0)) = true) i h)
theorem nc_body_3 : ∀ i, i < 17 → dall_[14 + 5 * i + 1 + 1]? = some (48 + 5 * i + 2, .inl (1, 26, 1)) := fun i h => dq_ok ((by decide +kernel : ∀ i, i < 17 → dq_ (48 + 5 * i + 2) (14 + 5 * i + 1 + 1) (.inl (1, 26, 1)) = true) i h)
theorem nc_body_4 : ∀ i, i < 17 → dall_[14 + 5 * i + 1 + 2]? = some (48 + 5 * i + 3, .inl (0, 26, 0)) := fun i h => dq_ok ((by decide +kernel : ∀ i, i < 17 → dq_ (48 + 5 * i + 3) (14 + 5 * i + 1 + 2) (.inl (0, 26, 0)) = true) i h)
theorem nc_body_5 : ∀ i, i < 17 → dall_[14 + 5 * i + 1 + 3]? = some (48 + 5 * i + 4, .inl (0, 26, 0)) := fun i h => dq_ok ((by decide +kernel : ∀ i, i < 17 → dq_ (48 + 5 * i + 4) (14 + 5 * i + 1 + 3) (.inl (0, 26, 0)) = true) i h)
theorem nc_body : ∀ i, i < 17 → ncX_ (48 + 5 * i) (14 + 5 * i + 1) := fun i h => ⟨nc_body_0 i h, nc_body_1 i h, nc_body_2 i h, nc_body_3 i h, nc_body_4 i h, nc_body_5 i h⟩
theorem nb_b0 : ∀ i, i < 17 → dall_[14 + 5 * i]? = some (48 + 5 * i, .inr (0, [2, 2, 2, 2, 0, 0])) := fun i h => dq_ok ((by decide +kernel : ∀ i, i < 17 → dq_ (48 + 5 * i) (14 + 5 * i) (.inr (0, [2, 2, 2, 2, 0, 0])) = true) i h)
theorem nb_b1 : ∀ i, i < 17 → pi_ (48 + 5 * i) = 14 + 5 * i := by decide +kernel
theorem nb_body : ∀ i, i < 17 → dall_[14 + 5 * i]? = some (48 + 5 * i, .inr (0, [2, 2, 2, 2, 0, 0])) ∧ pi_ (48 + 5 * i) = 14 + 5 * i := fun i h => ⟨nb_b0 i h, nb_b1 i h⟩
set_option maxRecDepth 100000 in
set_option maxHeartbeats 4000000 in
theorem i5_ (G : gg_) (hg : ga_ G) (d : Nat) (M : mm_) : ctX_ G yX5_init cX5_init 2 (d + 2) 87 1903 [.ref (G.1 45)] M 12 (mb_ (sR_ (sR_ M 45 0 (some 46)) 45 1 (some 47)) 17) 99 := by
  refine ct_of hg (by decide) rfl (Nat.le_of_ble_eq_true rfl) (fun C X hC => ?_)
  have lp : ∀ u i : Nat, i ≤ 17 → 17 - i ≤ u → wn_ (ca_ C (2 + 5 * i) (33 + 110 * i)) G (qc_ C G (mb_ (sR_ (sR_ M 45 0 (some 46)) 45 1 (some 47)) 17) 99 87 1903) 23 [some (.ref (G.1 45)), some (.int (nI i))] [] (mb_ (sR_ (sR_ M 45 0 (some 46)) 45 1 (some 47)) i) (14 + 5 * i) := by
    have hb : (sR_ (sR_ M 45 0 (some 46)) 45 1 (some 47)).2.2 45 1 = some 47 := by simp [gR_sR]
    intro u
    induction u with
    | zero =>
      intro i h1 h2
      obtain rfl : i = 17 := by omega
      refine n_iload_n X dX5_init_23 rfl rfl ?_
      refine n_bipush (v := 16) X dX5_init_24 (by decide) ?_
      refine n_icmp_gt (tgt := 48) X dX5_init_26 (by decide) (fun h26 => ?_) (fun h26 => absurd (by decide : (16 : Int32) < nI 17) h26)
      exact n_vret X dX5_init_48 rfl rfl rfl rfl
    | succ u ih =>
      intro i h1 h2
      by_cases hi : i = 17
      · subst hi
        refine n_iload_n X dX5_init_23 rfl rfl ?_
        refine n_bipush (v := 16) X dX5_init_24 (by decide) ?_
        refine n_icmp_gt (tgt := 48) X dX5_init_26 (by decide) (fun h26 => ?_) (fun h26 => absurd (by decide : (16 : Int32) < nI 17) h26)
        exact n_vret X dX5_init_48 rfl rfl rfl rfl
      refine n_iload_n X dX5_init_23 rfl rfl ?_
      refine n_bipush (v := 16) X dX5_init_24 (by decide) ?_
      refine n_icmp_gt (tgt := 48) X dX5_init_26 (by decide) (fun h26 => absurd h26 (nI_nlt (a := 16) (b := i) (by omega) (by decide))) (fun h26 => ?_)
      refine n_aload_n X dX5_init_29 rfl rfl ?_
      refine n_getR X dX5_init_30 inG5 rfl (by decide) f5_17 rfl rfl (Nat.lt_of_lt_of_le (by decide : pi_ 45 < 14) (by omega)) ((mb_45 _ i).trans hb) ?_
      refine n_iload_n X dX5_init_33 rfl rfl ?_
      refine n_new X dX5_init_34 (nb_body i (by omega)).1 inG0 tyX0_ok cl5_15 ins0_ in0_ rfl (by decide +kernel) (by decide) (by omega) (by omega) ?_
      refine n_dup X dX5_init_37 rfl ?_
      refine n_ctor [] X dX5_init_38 k5_21 (i0_ G hg _ _ (48 + 5 * i) (14 + 5 * i + 1) (nc_body i (by omega))) (Nat.le_of_ble_eq_true rfl) (by omega) (by omega) ?_
      refine n_aast X dX5_init_41 rfl rfl (Nat.lt_of_lt_of_le (by decide : pi_ 47 < 14) (by omega)) (by rw [(nb_body i (by omega)).2]; exact (nb_body i (by omega)).1) (by rw [(nb_body i (by omega)).2]; omega) rfl (vp_in_nI (by omega) (by decide)) ?_
      rw [nI_clamp (by omega)]
      refine n_iinc (v := 1) X dX5_init_42 rfl (by decide) (by decide) ?_
      refine n_goto (tgt := 23) X dX5_init_45 (by decide) ?_
      rw [nI_1]
      have h9 := ih (i + 1) (by omega) (by omega)
      rw [show 2 + 5 * (i + 1) = 2 + 5 * i + 1 + 4 by omega, show 33 + 110 * (i + 1) = 33 + 110 * i + 6 + 104 by omega, show 14 + 5 * (i + 1) = 14 + 5 * i + 1 + 4 by omega] at h9
      exact h9
  refine n_aload_n X dX5_init_0 rfl rfl ?_
  refine n_obj X dX5_init_1 ob5_ obI_ obC_ (Nat.le_of_ble_eq_true rfl) ?_
  refine n_aload_n X dX5_init_4 rfl rfl ?_
  refine n_bipush (v := 16) X dX5_init_5 (by decide) ?_
  refine n_newL X dX5_init_7 rfl rfl ac_long rfl (fun _ _ h => h) rfl (by decide) (by decide) (by decide) (by decide) (by decide) ?_
  refine n_putRF (j := 0) (ty := tyX5 0) X dX5_init_9 inG5 tyX5_ok nmX5 rfl (by decide) f5_11 hC rfl rfl (by decide +kernel) rfl rfl (by decide) rfl rfl ?_
  refine n_aload_n X dX5_init_12 rfl rfl ?_
  refine n_bipush (v := 17) X dX5_init_13 (by decide) ?_
  refine n_newR X dX5_init_15 rfl cl5_15 (fun _ h => h.1) rfl (by decide) (by decide) (by decide) (by decide) (by decide) ?_
  refine n_putRF (j := 1) (ty := tyX5 1) X dX5_init_18 inG5 tyX5_ok nmX5 rfl (by decide) f5_17 hC rfl rfl (by decide +kernel) rfl rfl (by decide) rfl rfl ?_
  refine n_iconst (v := 0) X dX5_init_21 (by decide) ?_
  refine n_istore_n X dX5_init_22 rfl (by decide) ?_
  exact lp 17 0 (by omega) (by omega)
def jb_ (M : mm_) : Nat → mm_
  | 0 => M
  | i + 1 => sR_ (j0_ (jb_ M i) (135 + 12 * i)) 134 i (some (135 + 12 * i))
theorem jb_133 (M : mm_) : ∀ i, (jb_ M i).2.2 133 0 = M.2.2 133 0
  | 0 => rfl
  | i + 1 => by
    rw [jb_, ← jb_133 M i]
    simp only [j0_, k0_, gR_sR]
    have h1 : ¬ 133 = 135 + 12 * i := by omega
    have h2 : ¬ 133 = 135 + 12 * i + 1 := by omega
    have h3 : ¬ 133 = 135 + 12 * i + 6 := by omega
    simp [h1, h2, h3]
theorem nj_e_0 : ∀ i, i < 9 → pi_ (135 + 12 * i + 1) < 101 + 12 * i + 1 + 1 := by decide +kernel
theorem nj_e_1 : ∀ i, i < 9 → dall_[pi_ (135 + 12 * i + 1)]? = some (135 + 12 * i + 1, .inr (0, [2, 2, 2, 2, 0, 0])) := fun i h => dq_ok ((by decide +kernel : ∀ i, i < 9 → dq_ (135 + 12 * i + 1) (pi_ (135 + 12 * i + 1)) (.inr (0, [2, 2, 2, 2, 0, 0])) = true) i h)
theorem nj_e_2 : ∀ i, i < 9 → dall_[101 + 12 * i + 1 + 1]? = some (135 + 12 * i + 1 + 1, .inl (0, 26, 0)) := fun i h => dq_ok ((by decide +kernel : ∀ i, i < 9 → dq_ (135 + 12 * i + 1 + 1) (101 + 12 * i + 1 + 1) (.inl (0, 26, 0)) = true) i h)
theorem nj_e_3 : ∀ i, i < 9 → dall_[101 + 12 * i + 1 + 1 + 1]? = some (135 + 12 * i + 1 + 2, .inl (1, 26, 1)) := fun i h => dq_ok ((by decide +kernel : ∀ i, i < 9 → dq_ (135 + 12 * i + 1 + 2) (101 + 12 * i + 1 + 1 + 1) (.inl (1, 26, 1)) = true) i h)
theorem nj_e_4 : ∀ i, i < 9 → dall_[101 + 12 * i + 1 + 1 + 2]? = some (135 + 12 * i + 1 + 3, .inl (0, 26, 0)) := fun i h => dq_ok ((by decide +kernel : ∀ i, i < 9 → dq_ (135 + 12 * i + 1 + 3) (101 + 12 * i + 1 + 1 + 2) (.inl (0, 26, 0)) = true) i h)
theorem nj_e_5 : ∀ i, i < 9 → dall_[101 + 12 * i + 1 + 1 + 3]? = some (135 + 12 * i + 1 + 4, .inl (0, 26, 0)) := fun i h => dq_ok ((by decide +kernel : ∀ i, i < 9 → dq_ (135 + 12 * i + 1 + 4) (101 + 12 * i + 1 + 1 + 3) (.inl (0, 26, 0)) = true) i h)
theorem nj_e : ∀ i, i < 9 → ncX_ (135 + 12 * i + 1) (101 + 12 * i + 1 + 1) := fun i h => ⟨nj_e_0 i h, nj_e_1 i h, nj_e_2 i h, nj_e_3 i h, nj_e_4 i h, nj_e_5 i h⟩
theorem nj_c_0 : ∀ i, i < 9 → pi_ (135 + 12 * i + 6) < 101 + 12 * i + 1 + 6 := by decide +kernel
theorem nj_c_1 : ∀ i, i < 9 → dall_[pi_ (135 + 12 * i + 6)]? = some (135 + 12 * i + 6, .inr (0, [2, 2, 2, 2, 0, 0])) := fun i h => dq_ok ((by decide +kernel : ∀ i, i < 9 → dq_ (135 + 12 * i + 6) (pi_ (135 + 12 * i + 6)) (.inr (0, [2, 2, 2, 2, 0, 0])) = true) i h)
theorem nj_c_2 : ∀ i, i < 9 → dall_[101 + 12 * i + 1 + 6]? = some (135 + 12 * i + 6 + 1, .inl (0, 26, 0)) := fun i h => dq_ok ((by decide +kernel : ∀ i, i < 9 → dq_ (135 + 12 * i + 6 + 1) (101 + 12 * i + 1 + 6) (.inl (0, 26, 0)) = true) i h)
theorem nj_c_3 : ∀ i, i < 9 → dall_[101 + 12 * i + 1 + 6 + 1]? = some (135 + 12 * i + 6 + 2, .inl (1, 26, 1)) := fun i h => dq_ok ((by decide +kernel : ∀ i, i < 9 → dq_ (135 + 12 * i + 6 + 2) (101 + 12 * i + 1 + 6 + 1) (.inl (1, 26, 1)) = true) i h)
theorem nj_c_4 : ∀ i, i < 9 → dall_[101 + 12 * i + 1 + 6 + 2]? = some (135 + 12 * i + 6 + 3, .inl (0, 26, 0)) := fun i h => dq_ok ((by decide +kernel : ∀ i, i < 9 → dq_ (135 + 12 * i + 6 + 3) (101 + 12 * i + 1 + 6 + 2) (.inl (0, 26, 0)) = true) i h)
theorem nj_c_5 : ∀ i, i < 9 → dall_[101 + 12 * i + 1 + 6 + 3]? = some (135 + 12 * i + 6 + 4, .inl (0, 26, 0)) := fun i h => dq_ok ((by decide +kernel : ∀ i, i < 9 → dq_ (135 + 12 * i + 6 + 4) (101 + 12 * i + 1 + 6 + 3) (.inl (0, 26, 0)) = true) i h)
theorem nj_c : ∀ i, i < 9 → ncX_ (135 + 12 * i + 6) (101 + 12 * i + 1 + 6) := fun i h => ⟨nj_c_0 i h, nj_c_1 i h, nj_c_2 i h, nj_c_3 i h, nj_c_4 i h, nj_c_5 i h⟩
theorem nj_0 : ∀ i, i < 9 → pi_ (135 + 12 * i) < 101 + 12 * i + 1 := by decide +kernel
theorem nj_1 : ∀ i, i < 9 → dall_[pi_ (135 + 12 * i)]? = some (135 + 12 * i, .inr (2, [0, 0, 1, 2, 2, 0, 0, 0, 2, 0])) := fun i h => dq_ok ((by decide +kernel : ∀ i, i < 9 → dq_ (135 + 12 * i) (pi_ (135 + 12 * i)) (.inr (2, [0, 0, 1, 2, 2, 0, 0, 0, 2, 0])) = true) i h)
theorem nj_2 : ∀ i, i < 9 → dall_[101 + 12 * i + 1]? = some (135 + 12 * i + 1, .inr (0, [2, 2, 2, 2, 0, 0])) := fun i h => dq_ok ((by decide +kernel : ∀ i, i < 9 → dq_ (135 + 12 * i + 1) (101 + 12 * i + 1) (.inr (0, [2, 2, 2, 2, 0, 0])) = true) i h)
theorem nj_3 : ∀ i, i < 9 → dall_[101 + 12 * i + 1 + 5]? = some (135 + 12 * i + 6, .inr (0, [2, 2, 2, 2, 0, 0])) := fun i h => dq_ok ((by decide +kernel : ∀ i, i < 9 → dq_ (135 + 12 * i + 6) (101 + 12 * i + 1 + 5) (.inr (0, [2, 2, 2, 2, 0, 0])) = true) i h)
theorem nj_4 : ∀ i, i < 9 → dall_[101 + 12 * i + 1 + 10]? = some (135 + 12 * i + 11, .inl (0, 48, 0)) := fun i h => dq_ok ((by decide +kernel : ∀ i, i < 9 → dq_ (135 + 12 * i + 11) (101 + 12 * i + 1 + 10) (.inl (0, 48, 0)) = true) i h)
theorem nj_body : ∀ i, i < 9 → njX_ (135 + 12 * i) (101 + 12 * i + 1) := fun i h => ⟨nj_0 i h, nj_1 i h, nj_2 i h, nj_e i h, nj_3 i h, nj_c i h, nj_4 i h⟩
theorem nk_b0 : ∀ i, i < 9 → dall_[101 + 12 * i]? = some (135 + 12 * i, .inr (2, [0, 0, 1, 2, 2, 0, 0, 0, 2, 0])) := fun i h => dq_ok ((by decide +kernel : ∀ i, i < 9 → dq_ (135 + 12 * i) (101 + 12 * i) (.inr (2, [0, 0, 1, 2, 2, 0, 0, 0, 2, 0])) = true) i h)
theorem nk_b1 : ∀ i, i < 9 → pi_ (135 + 12 * i) = 101 + 12 * i := by decide +kernel
theorem nk_body : ∀ i, i < 9 → dall_[101 + 12 * i]? = some (135 + 12 * i, .inr (2, [0, 0, 1, 2, 2, 0, 0, 0, 2, 0])) ∧ pi_ (135 + 12 * i) = 101 + 12 * i := fun i h => ⟨nk_b0 i h, nk_b1 i h⟩
def jz_ (M : mm_) : mm_ := sR_ (j0_ (jb_ (sR_ M 133 0 (some 134)) 8) 231) 133 1 (some 231)
set_option maxRecDepth 100000 in
set_option maxHeartbeats 4000000 in
theorem i3_ (G : gg_) (hg : ga_ G) (d : Nat) (M : mm_) : ctX_ G yX3_init cX3_init 2 (d + 3) 109 2510 [.ref (G.1 133)] M 100 (jz_ M) 209 := by
  refine ct_of hg (by decide) rfl (Nat.le_of_ble_eq_true rfl) (fun C X hC => ?_)
  have lp : ∀ u i : Nat, i ≤ 8 → 8 - i ≤ u → wn_ (ca_ C (1 + 12 * i) (8 + 278 * i)) G (qc_ C G (jz_ M) 209 109 2510) 15 [some (.ref (G.1 133)), some (.int (nI i))] [] (jb_ (sR_ M 133 0 (some 134)) i) (101 + 12 * i) := by
    have hb : (sR_ M 133 0 (some 134)).2.2 133 0 = some 134 := by simp [gR_sR]
    intro u
    induction u with
    | zero =>
      intro i h1 h2
      obtain rfl : i = 8 := by omega
      refine n_iload_n X dX3_init_15 rfl rfl ?_
      refine n_bipush (v := 8) X dX3_init_16 (by decide) ?_
      refine n_icmp_ge (tgt := 40) X dX3_init_18 (by decide) (fun h18 => ?_) (fun h18 => absurd (by decide : (8 : Int32) ≤ nI 8) h18)
      refine n_aload_n X dX3_init_40 rfl rfl ?_
      refine n_new X dX3_init_41 (nk_body 8 (by omega)).1 inG2 tyX2_ok cl3_11 ins2_ in2_ rfl (by decide +kernel) (by decide) (by decide) (by decide) ?_
      refine n_dup X dX3_init_44 rfl ?_
      refine n_ctor [] X dX3_init_45 k3_17 (i2_ G hg _ _ 231 198 (nj_body 8 (by omega))) (Nat.le_of_ble_eq_true rfl) (by decide) (by decide) ?_
      refine n_putR (j := 1) (ty := tyX3 1) X dX3_init_48 inG3 tyX3_ok nmX3 rfl (by decide) f3_18 rfl (by decide +kernel) rfl rfl (by decide) rfl rfl ?_
      exact n_vret X dX3_init_51 rfl rfl rfl rfl
    | succ u ih =>
      intro i h1 h2
      by_cases hi : i = 8
      · subst hi
        refine n_iload_n X dX3_init_15 rfl rfl ?_
        refine n_bipush (v := 8) X dX3_init_16 (by decide) ?_
        refine n_icmp_ge (tgt := 40) X dX3_init_18 (by decide) (fun h18 => ?_) (fun h18 => absurd (by decide : (8 : Int32) ≤ nI 8) h18)
        refine n_aload_n X dX3_init_40 rfl rfl ?_
        refine n_new X dX3_init_41 (nk_body 8 (by omega)).1 inG2 tyX2_ok cl3_11 ins2_ in2_ rfl (by decide +kernel) (by decide) (by decide) (by decide) ?_
        refine n_dup X dX3_init_44 rfl ?_
        refine n_ctor [] X dX3_init_45 k3_17 (i2_ G hg _ _ 231 198 (nj_body 8 (by omega))) (Nat.le_of_ble_eq_true rfl) (by decide) (by decide) ?_
        refine n_putR (j := 1) (ty := tyX3 1) X dX3_init_48 inG3 tyX3_ok nmX3 rfl (by decide) f3_18 rfl (by decide +kernel) rfl rfl (by decide) rfl rfl ?_
        exact n_vret X dX3_init_51 rfl rfl rfl rfl
      refine n_iload_n X dX3_init_15 rfl rfl ?_
      refine n_bipush (v := 8) X dX3_init_16 (by decide) ?_
      refine n_icmp_ge (tgt := 40) X dX3_init_18 (by decide) (fun h18 => absurd h18 (nI_ge (a := i) (b := 8) (by omega) (by decide))) (fun h18 => ?_)
      refine n_aload_n X dX3_init_21 rfl rfl ?_
      refine n_getR X dX3_init_22 inG3 rfl (by decide) f3_13 rfl rfl (Nat.lt_of_lt_of_le (by decide : pi_ 133 < 101) (by omega)) ((jb_133 _ i).trans hb) ?_
      refine n_iload_n X dX3_init_25 rfl rfl ?_
      refine n_new X dX3_init_26 (nk_body i (by omega)).1 inG2 tyX2_ok cl3_11 ins2_ in2_ rfl (by decide +kernel) (by decide) (by omega) (by omega) ?_
      refine n_dup X dX3_init_29 rfl ?_
      refine n_ctor [] X dX3_init_30 k3_17 (i2_ G hg _ _ (135 + 12 * i) (101 + 12 * i + 1) (nj_body i (by omega))) (Nat.le_of_ble_eq_true rfl) (by omega) (by omega) ?_
      refine n_aast X dX3_init_33 rfl rfl (Nat.lt_of_lt_of_le (by decide : pi_ 134 < 101) (by omega)) (by rw [(nk_body i (by omega)).2]; exact (nk_body i (by omega)).1) (by rw [(nk_body i (by omega)).2]; omega) rfl (vp_in_nI (by omega) (by decide)) ?_
      rw [nI_clamp (by omega)]
      refine n_iinc (v := 1) X dX3_init_34 rfl (by decide) (by decide) ?_
      refine n_goto (tgt := 15) X dX3_init_37 (by decide) ?_
      rw [nI_1]
      have h9 := ih (i + 1) (by omega) (by omega)
      rw [show 1 + 12 * (i + 1) = 1 + 12 * i + 1 + 11 by omega, show 8 + 278 * (i + 1) = 8 + 278 * i + 10 + 268 by omega, show 101 + 12 * (i + 1) = 101 + 12 * i + 1 + 11 by omega] at h9
      exact h9
  refine n_aload_n X dX3_init_0 rfl rfl ?_
  refine n_obj X dX3_init_1 ob3_ obI_ obC_ (Nat.le_of_ble_eq_true rfl) ?_
  refine n_aload_n X dX3_init_4 rfl rfl ?_
  refine n_bipush (v := 8) X dX3_init_5 (by decide) ?_
  refine n_newR X dX3_init_7 rfl cl3_11 (fun _ h => h.2.1) rfl (by decide) (by decide) (by decide) (by decide) (by decide) ?_
  refine n_putRF (j := 0) (ty := tyX3 0) X dX3_init_10 inG3 tyX3_ok nmX3 rfl (by decide) f3_13 hC rfl rfl (by decide +kernel) rfl rfl (by decide) rfl rfl ?_
  refine n_iconst (v := 0) X dX3_init_13 (by decide) ?_
  refine n_istore_n X dX3_init_14 rfl (by decide) ?_
  exact lp 8 0 (by omega) (by omega)

