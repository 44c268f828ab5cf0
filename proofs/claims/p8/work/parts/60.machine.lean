/-! Machine: its small methods (247 the Machine, 261 its stack, field 8 how high it is) -/
def puX_ (M : mm_) (h : Nat) (v : Int32) : mm_ := if h < 220 then sI_ (sI_ M 261 h v) 247 8 (nI (h + 1)) else M
def ppX_ (M : mm_) (h : Nat) : Int32 × mm_ := if h = 0 then (0, M) else (M.1 261 (h - 1), sI_ M 247 8 (nI (h - 1)))
def flX_ (M : mm_) (v : Int32) : mm_ := sI_ (sI_ M 247 10 1) 247 11 v
set_option maxRecDepth 100000 in
set_option maxHeartbeats 600000 in
theorem c4_push (G : gg_) (hG : gd_ G) (d : Nat) (M : mm_) (h : Nat) (hh : M.1 247 8 = nI h) (h2 : h ≤ 220) (v : Int32) : cm_ G yX4_push cX4_push 2 none (d) [.ref (G.1 247), .int v] M (fV_ (puX_ M h v)) := by
  refine cm_of hG (by decide) (Nat.le_of_ble_eq_true rfl) (fun C X => ?_)
  refine w_aload_n X dX4_push_0 rfl rfl ?_
  refine g4_48 X dX4_push_1 s_247 rfl ?_
  refine w_aload_n X dX4_push_4 rfl rfl ?_
  refine g4_33 X dX4_push_5 s_247 rfl ?_
  refine w_alen X dX4_push_8 s_261 rfl ?_
  rw [hh]
  refine w_icmp_ge (tgt := 32) X dX4_push_9 (by decide) (fun h9 => ?_) (fun h9 => ?_)
  · refine w_vrF X dX4_push_32 ?_
    unfold puX_
    rw [if_neg (fun z => absurd h9 (nI_ge (a := h) (b := 220) z (by decide)))]
  · have hlt : h < 220 := Nat.lt_of_not_le (fun z => h9 (nI_le (a := 220) (b := h) z (by omega)))
    refine w_aload_n X dX4_push_12 rfl rfl ?_
    refine g4_33 X dX4_push_13 s_247 rfl ?_
    refine w_aload_n X dX4_push_16 rfl rfl ?_
    refine g4_48 X dX4_push_17 s_247 rfl ?_
    refine w_iload_n X dX4_push_20 rfl rfl ?_
    rw [hh]
    refine w_iastoreN X dX4_push_21 s_261 rfl (⟨hlt, by decide⟩) ?_
    refine w_aload_n X dX4_push_22 rfl rfl ?_
    refine w_dup X dX4_push_23 rfl ?_
    refine g4_48 X dX4_push_24 s_247 rfl ?_
    refine w_iconst (v := 1) X dX4_push_27 (by decide) ?_
    refine w_iadd X dX4_push_28 ?_
    rw [show (sI_ M 261 h v).1 247 8 = nI h from hh, nI_1]
    refine p4_48 X dX4_push_29 s_247 rfl ?_
    refine w_vrF X dX4_push_32 ?_
    unfold puX_
    rw [if_pos hlt]
set_option maxRecDepth 100000 in
set_option maxHeartbeats 600000 in
theorem c4_pop (G : gg_) (hG : gd_ G) (d : Nat) (M : mm_) (h : Nat) (hh : M.1 247 8 = nI h) (h2 : h ≤ 220) : cm_ G yX4_pop cX4_pop 1 (some .int) (d) [.ref (G.1 247)] M (fI_ (ppX_ M h).1 (ppX_ M h).2) := by
  refine cm_of hG (by decide) (Nat.le_of_ble_eq_true rfl) (fun C X => ?_)
  refine w_aload_n X dX4_pop_0 rfl rfl ?_
  refine g4_48 X dX4_pop_1 s_247 rfl ?_
  rw [hh]
  refine w_if_gt (tgt := 9) X dX4_pop_4 (by decide) (fun h4 => ?_) (fun h4 => ?_)
  · have h0 : 0 < h := by
      rcases Nat.eq_zero_or_pos h with z | z
      · rw [z] at h4; exact absurd h4 (by decide)
      · exact z
    refine w_aload_n X dX4_pop_9 rfl rfl ?_
    refine w_dup X dX4_pop_10 rfl ?_
    refine g4_48 X dX4_pop_11 s_247 rfl ?_
    refine w_iconst (v := 1) X dX4_pop_14 (by decide) ?_
    refine w_isub X dX4_pop_15 ?_
    rw [hh, nI_p h h0]
    refine p4_48 X dX4_pop_16 s_247 rfl ?_
    refine w_aload_n X dX4_pop_19 rfl rfl ?_
    refine g4_33 X dX4_pop_20 s_247 rfl ?_
    refine w_aload_n X dX4_pop_23 rfl rfl ?_
    refine g4_48 X dX4_pop_24 s_247 rfl ?_
    rw [show (sI_ M 247 8 (nI (h - 1))).1 247 8 = nI (h - 1) from rfl]
    refine w_ialoadN X dX4_pop_27 s_261 rfl (⟨by omega, by decide⟩) ?_
    refine w_irF X dX4_pop_28 ?_ ?_ <;> unfold ppX_ <;> rw [if_neg (by omega)] <;> rfl
  · have h0 : h = 0 := by
      rcases Nat.eq_zero_or_pos h with z | z
      · exact z
      · exact absurd (nI_lt (a := 0) (b := h) z (by omega)) h4
    refine w_iconst (v := 0) X dX4_pop_7 (by decide) ?_
    refine w_irF X dX4_pop_8 ?_ ?_ <;> unfold ppX_ <;> rw [if_pos h0]
set_option maxRecDepth 100000 in
set_option maxHeartbeats 600000 in
theorem c4_fail (G : gg_) (hG : gd_ G) (d : Nat) (M : mm_) (v : Int32) : cm_ G yX4_fail cX4_fail 2 none (d) [.ref (G.1 247), .int v] M (fV_ (flX_ M v)) := by
  refine cm_of hG (by decide) (Nat.le_of_ble_eq_true rfl) (fun C X => ?_)
  refine w_aload_n X dX4_fail_0 rfl rfl ?_
  refine w_iconst (v := 1) X dX4_fail_1 (by decide) ?_
  refine p4_58 X dX4_fail_2 s_247 rfl (by first | exact Or.inl rfl | exact Or.inr rfl | assumption) ?_
  refine w_aload_n X dX4_fail_5 rfl rfl ?_
  refine w_iload_n X dX4_fail_6 rfl rfl ?_
  refine p4_88 X dX4_fail_7 s_247 rfl ?_
  exact w_vrF X dX4_fail_10 rfl
