/-! Machine: setParameters -/
def sp1_ (M : mm_) (n a b c : Int32) : mm_ := sI_ (sI_ (sI_ M 250 0 (if 0 < n then a else 0)) 250 1 (if 1 < n then b else 0)) 250 2 (if 2 < n then c else 0)
def vq_ (M : mm_) : Prop := ∀ i, i < 12 → M.2.2 248 i = some (249 + i)
set_option maxRecDepth 100000 in
set_option maxHeartbeats 600000 in
theorem c4_setParameters (G : gg_) (hG : gd_ G) (d : Nat) (M : mm_) (hv : vq_ M) (n a b c : Int32) : cm_ G yX4_setParameters cX4_setParameters 6 none (d) [.ref (G.1 247), .int n, .int a, .int b, .int c] M (fV_ (sp1_ M n a b c)) := by
  refine cm_of hG (by decide) (Nat.le_of_ble_eq_true rfl) (fun C X => ?_)
  refine w_aload_n X dX4_setParameters_0 rfl rfl ?_
  refine g4_28 X dX4_setParameters_1 s_247 rfl ?_
  refine w_iconst (v := 1) X dX4_setParameters_4 (by decide) ?_
  refine w_aaload X dX4_setParameters_5 s_248 rfl rfl (by decide) (hv 1 (by decide)) ?_
  refine w_astore X dX4_setParameters_6 (by decide) ?_
  refine w_aload X dX4_setParameters_8 rfl ?_
  refine w_iconst (v := 0) X dX4_setParameters_10 (by decide) ?_
  refine w_iload_n X dX4_setParameters_11 rfl rfl ?_
  refine w_if_le (tgt := 19) X dX4_setParameters_12 (by decide) (fun h12 => ?_) (fun h12 => ?_)
  · refine w_iconst (v := 0) X dX4_setParameters_19 (by decide) ?_
    refine w_iastoreN X dX4_setParameters_20 (vr_row 1 (by decide)) rfl (by decide) ?_
    refine w_aload X dX4_setParameters_21 rfl ?_
    refine w_iconst (v := 1) X dX4_setParameters_23 (by decide) ?_
    refine w_iload_n X dX4_setParameters_24 rfl rfl ?_
    refine w_iconst (v := 1) X dX4_setParameters_25 (by decide) ?_
    refine w_icmp_le (tgt := 33) X dX4_setParameters_26 (by decide) (fun h26 => ?_) (fun h26 => ?_)
    · refine w_iconst (v := 0) X dX4_setParameters_33 (by decide) ?_
      refine w_iastoreN X dX4_setParameters_34 (vr_row 1 (by decide)) rfl (by decide) ?_
      refine w_aload X dX4_setParameters_35 rfl ?_
      refine w_iconst (v := 2) X dX4_setParameters_37 (by decide) ?_
      refine w_iload_n X dX4_setParameters_38 rfl rfl ?_
      refine w_iconst (v := 2) X dX4_setParameters_39 (by decide) ?_
      refine w_icmp_le (tgt := 48) X dX4_setParameters_40 (by decide) (fun h40 => ?_) (fun h40 => ?_)
      · refine w_iconst (v := 0) X dX4_setParameters_48 (by decide) ?_
        refine w_iastoreN X dX4_setParameters_49 (vr_row 1 (by decide)) rfl (by decide) ?_
        refine w_vrF X dX4_setParameters_50 ?_
        unfold sp1_
        rw [if_neg (Int32.not_lt.mpr h12), if_neg (Int32.not_lt.mpr h26), if_neg (Int32.not_lt.mpr h40)]
      · refine w_iload X dX4_setParameters_43 rfl ?_
        refine w_goto (tgt := 49) X dX4_setParameters_45 (by decide) ?_
        refine w_iastoreN X dX4_setParameters_49 (vr_row 1 (by decide)) rfl (by decide) ?_
        refine w_vrF X dX4_setParameters_50 ?_
        unfold sp1_
        rw [if_neg (Int32.not_lt.mpr h12), if_neg (Int32.not_lt.mpr h26), if_pos (Int32.not_le.mp h40)]
    · refine w_iload_n X dX4_setParameters_29 rfl rfl ?_
      refine w_goto (tgt := 34) X dX4_setParameters_30 (by decide) ?_
      refine w_iastoreN X dX4_setParameters_34 (vr_row 1 (by decide)) rfl (by decide) ?_
      refine w_aload X dX4_setParameters_35 rfl ?_
      refine w_iconst (v := 2) X dX4_setParameters_37 (by decide) ?_
      refine w_iload_n X dX4_setParameters_38 rfl rfl ?_
      refine w_iconst (v := 2) X dX4_setParameters_39 (by decide) ?_
      refine w_icmp_le (tgt := 48) X dX4_setParameters_40 (by decide) (fun h40 => ?_) (fun h40 => ?_)
      · refine w_iconst (v := 0) X dX4_setParameters_48 (by decide) ?_
        refine w_iastoreN X dX4_setParameters_49 (vr_row 1 (by decide)) rfl (by decide) ?_
        refine w_vrF X dX4_setParameters_50 ?_
        unfold sp1_
        rw [if_neg (Int32.not_lt.mpr h12), if_pos (Int32.not_le.mp h26), if_neg (Int32.not_lt.mpr h40)]
      · refine w_iload X dX4_setParameters_43 rfl ?_
        refine w_goto (tgt := 49) X dX4_setParameters_45 (by decide) ?_
        refine w_iastoreN X dX4_setParameters_49 (vr_row 1 (by decide)) rfl (by decide) ?_
        refine w_vrF X dX4_setParameters_50 ?_
        unfold sp1_
        rw [if_neg (Int32.not_lt.mpr h12), if_pos (Int32.not_le.mp h26), if_pos (Int32.not_le.mp h40)]
  · refine w_iload_n X dX4_setParameters_15 rfl rfl ?_
    refine w_goto (tgt := 20) X dX4_setParameters_16 (by decide) ?_
    refine w_iastoreN X dX4_setParameters_20 (vr_row 1 (by decide)) rfl (by decide) ?_
    refine w_aload X dX4_setParameters_21 rfl ?_
    refine w_iconst (v := 1) X dX4_setParameters_23 (by decide) ?_
    refine w_iload_n X dX4_setParameters_24 rfl rfl ?_
    refine w_iconst (v := 1) X dX4_setParameters_25 (by decide) ?_
    refine w_icmp_le (tgt := 33) X dX4_setParameters_26 (by decide) (fun h26 => ?_) (fun h26 => ?_)
    · refine w_iconst (v := 0) X dX4_setParameters_33 (by decide) ?_
      refine w_iastoreN X dX4_setParameters_34 (vr_row 1 (by decide)) rfl (by decide) ?_
      refine w_aload X dX4_setParameters_35 rfl ?_
      refine w_iconst (v := 2) X dX4_setParameters_37 (by decide) ?_
      refine w_iload_n X dX4_setParameters_38 rfl rfl ?_
      refine w_iconst (v := 2) X dX4_setParameters_39 (by decide) ?_
      refine w_icmp_le (tgt := 48) X dX4_setParameters_40 (by decide) (fun h40 => ?_) (fun h40 => ?_)
      · refine w_iconst (v := 0) X dX4_setParameters_48 (by decide) ?_
        refine w_iastoreN X dX4_setParameters_49 (vr_row 1 (by decide)) rfl (by decide) ?_
        refine w_vrF X dX4_setParameters_50 ?_
        unfold sp1_
        rw [if_pos (Int32.not_le.mp h12), if_neg (Int32.not_lt.mpr h26), if_neg (Int32.not_lt.mpr h40)]
      · refine w_iload X dX4_setParameters_43 rfl ?_
        refine w_goto (tgt := 49) X dX4_setParameters_45 (by decide) ?_
        refine w_iastoreN X dX4_setParameters_49 (vr_row 1 (by decide)) rfl (by decide) ?_
        refine w_vrF X dX4_setParameters_50 ?_
        unfold sp1_
        rw [if_pos (Int32.not_le.mp h12), if_neg (Int32.not_lt.mpr h26), if_pos (Int32.not_le.mp h40)]
    · refine w_iload_n X dX4_setParameters_29 rfl rfl ?_
      refine w_goto (tgt := 34) X dX4_setParameters_30 (by decide) ?_
      refine w_iastoreN X dX4_setParameters_34 (vr_row 1 (by decide)) rfl (by decide) ?_
      refine w_aload X dX4_setParameters_35 rfl ?_
      refine w_iconst (v := 2) X dX4_setParameters_37 (by decide) ?_
      refine w_iload_n X dX4_setParameters_38 rfl rfl ?_
      refine w_iconst (v := 2) X dX4_setParameters_39 (by decide) ?_
      refine w_icmp_le (tgt := 48) X dX4_setParameters_40 (by decide) (fun h40 => ?_) (fun h40 => ?_)
      · refine w_iconst (v := 0) X dX4_setParameters_48 (by decide) ?_
        refine w_iastoreN X dX4_setParameters_49 (vr_row 1 (by decide)) rfl (by decide) ?_
        refine w_vrF X dX4_setParameters_50 ?_
        unfold sp1_
        rw [if_pos (Int32.not_le.mp h12), if_pos (Int32.not_le.mp h26), if_neg (Int32.not_lt.mpr h40)]
      · refine w_iload X dX4_setParameters_43 rfl ?_
        refine w_goto (tgt := 49) X dX4_setParameters_45 (by decide) ?_
        refine w_iastoreN X dX4_setParameters_49 (vr_row 1 (by decide)) rfl (by decide) ?_
        refine w_vrF X dX4_setParameters_50 ?_
        unfold sp1_
        rw [if_pos (Int32.not_le.mp h12), if_pos (Int32.not_le.mp h26), if_pos (Int32.not_le.mp h40)]
