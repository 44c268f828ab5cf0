/-! Machine: invoke and start, exactly -/
def CP_ (G : gg_) (d r m p : Nat) (N : mm_) (Q : mm_ → Prop) : Prop := cm_ G yX4_probe cX4_probe 6 none (d + 5) [.ref (G.1 247), .int (nI m), .int (nI p), .ref (G.1 (249 + r))] N (rV_ Q)
def CRn_ (G : gg_) (d r k : Nat) (N : mm_) (Q : Int32 → mm_ → Prop) : Prop := cm_ G yX4_run cX4_run 7 (some .int) (d + 5) [.ref (G.1 247), .ref (G.1 k), .ref (G.1 (249 + r))] N (rI_ Q)
/-- behind the body: v what it returned or threw -/
def IVB_ (G : gg_) (d r m : Nat) (Q : Int32 → mm_ → Prop) (v : Int32) (N : mm_) : Prop := zoX_ (N.1 247 10) ∧
  (N.1 247 10 = 0 → ∃ QP : mm_ → Prop, CP_ G d r m 1 (sI_ N (249 + r) 3 v) QP ∧ ∀ N4, QP N4 → Q v (sI_ N4 247 10 0)) ∧
  (¬ N.1 247 10 = 0 → ∃ QP : mm_ → Prop, CP_ G d r m 2 (sI_ N (249 + r) 4 v) QP ∧ ∀ N4, QP N4 → Q v (sI_ N4 247 10 1))
/-- as an invocation begins -/
def IVA_ (M : mm_) (r : Nat) : mm_ := sI_ (sI_ (sI_ (sI_ M 247 1 (M.1 247 1 + 1)) (249 + r) 3 0) (249 + r) 4 0) (249 + r) 5 (nI r)
set_option maxRecDepth 100000 in
set_option maxHeartbeats 600000 in
theorem c4_invokeTE (G : gg_) (hG : gd_ G) (d : Nat) (M : mm_) (m : Nat) : cm_ G yX4_invoke cX4_invoke 6 (some .int) (d) [.ref (G.1 247), .int (nI m), .int (nI 11)] M (fI_ (-2) (sI_ M 247 10 1)) := by
  refine cm_of hG (by decide) (Nat.le_of_ble_eq_true rfl) (fun C X => ?_)
  refine w_iload_n X dX4_invoke_0 rfl rfl ?_
  refine w_bipush (v := 10) X dX4_invoke_1 (by decide) ?_
  refine w_icmp_le (tgt := 14) X dX4_invoke_3 (by decide) (fun h3 => absurd h3 (by decide)) (fun h3 => ?_)
  refine w_aload_n X dX4_invoke_6 rfl rfl ?_
  refine w_iconst (v := 1) X dX4_invoke_7 (by decide) ?_
  refine p4_58 X dX4_invoke_8 s_247 rfl (by first | exact Or.inl rfl | exact Or.inr rfl | assumption) ?_
  refine w_bipush (v := -2) X dX4_invoke_11 (by decide) ?_
  exact w_irF X dX4_invoke_13 rfl rfl
set_option maxRecDepth 100000 in
set_option maxHeartbeats 600000 in
theorem c4_invokeE (G : gg_) (hG : gd_ G) (d c r : Nat) (hr1 : 1 ≤ r) (hr : r ≤ 10) (M : mm_) (hc : mt_ M c) (hb : mb2_ M) (hV : vq_ M) (m : Nat) (hm : m < c) (Q : Int32 → mm_ → Prop) (h1 : 1000 ≤ M.1 247 1 → Q (-3) (sI_ (sI_ M 247 10 1) 247 12 1)) (h2 : ¬ 1000 ≤ M.1 247 1 → ∃ QP : mm_ → Prop, CP_ G d r m 0 (IVA_ M r) QP ∧ ∀ N, QP N → mt_ N c ∧ mb2_ N ∧ ∃ QR : Int32 → mm_ → Prop, CRn_ G d r (48 + 5 * m) N QR ∧ ∀ v N2, QR v N2 → IVB_ G d r m Q v N2) : cm_ G yX4_invoke cX4_invoke 6 (some .int) (d + 6) [.ref (G.1 247), .int (nI m), .int (nI r)] M (rI_ Q) := by
  refine cm_of hG (by decide) (Nat.le_of_ble_eq_true rfl) (fun C X => ?_)
  refine w_iload_n X dX4_invoke_0 rfl rfl ?_
  refine w_bipush (v := 10) X dX4_invoke_1 (by decide) ?_
  refine w_icmp_le (tgt := 14) X dX4_invoke_3 (by decide) (fun h3 => ?_) (fun h3 => absurd (nI_le (a := r) (b := 10) hr (by decide)) h3)
  refine w_aload_n X dX4_invoke_14 rfl rfl ?_
  refine g4_41 X dX4_invoke_15 s_247 rfl ?_
  refine w_sipush (v := 1000) X dX4_invoke_18 (by decide) ?_
  refine w_icmp_lt (tgt := 37) X dX4_invoke_21 (by decide) (fun h21 => ?_) (fun h21 => ?_)
  · obtain ⟨QP, hP1, hP2⟩ := h2 (fun z => absurd h21 (Int32.not_lt.mpr z))
    refine w_aload_n X dX4_invoke_37 rfl rfl ?_
    refine w_dup X dX4_invoke_38 rfl ?_
    refine g4_41 X dX4_invoke_39 s_247 rfl ?_
    refine w_iconst (v := 1) X dX4_invoke_42 (by decide) ?_
    refine w_iadd X dX4_invoke_43 ?_
    refine p4_41 X dX4_invoke_44 s_247 rfl ?_
    refine w_aload_n X dX4_invoke_47 rfl rfl ?_
    refine g4_28 X dX4_invoke_48 s_247 rfl ?_
    refine w_iload_n X dX4_invoke_51 rfl rfl ?_
    refine w_aaload X dX4_invoke_52 s_248 rfl rfl (⟨by omega, by decide⟩) (hV r (by omega)) ?_
    refine w_astore_n X dX4_invoke_53 rfl (by decide) ?_
    refine w_aload_n X dX4_invoke_54 rfl rfl ?_
    refine w_iconst (v := 3) X dX4_invoke_55 (by decide) ?_
    refine w_iconst (v := 0) X dX4_invoke_56 (by decide) ?_
    refine w_iastoreN X dX4_invoke_57 (vr_row r (by omega)) rfl (⟨by decide, by decide⟩) ?_
    refine w_aload_n X dX4_invoke_58 rfl rfl ?_
    refine w_iconst (v := 4) X dX4_invoke_59 (by decide) ?_
    refine w_iconst (v := 0) X dX4_invoke_60 (by decide) ?_
    refine w_iastoreN X dX4_invoke_61 (vr_row r (by omega)) rfl (⟨by decide, by decide⟩) ?_
    refine w_aload_n X dX4_invoke_62 rfl rfl ?_
    refine w_iconst (v := 5) X dX4_invoke_63 (by decide) ?_
    refine w_iload_n X dX4_invoke_64 rfl rfl ?_
    refine w_iastoreN X dX4_invoke_65 (vr_row r (by omega)) rfl (⟨by decide, by decide⟩) ?_
    refine w_aload_n X dX4_invoke_66 rfl rfl ?_
    refine w_iload_n X dX4_invoke_67 rfl rfl ?_
    refine w_iconst (v := 0) X dX4_invoke_68 (by decide) ?_
    refine w_aload_n X dX4_invoke_69 rfl rfl ?_
    refine w_v3rV X dX4_invoke_70 k4_63 rfl s_247 (hP1) (Nat.le_of_ble_eq_true rfl) (fun N70 h70 => ?_)
    obtain ⟨hcN, hbN, QR, hR1, hR2⟩ := hP2 _ h70
    refine w_aload_n X dX4_invoke_73 rfl rfl ?_
    refine w_aload_n X dX4_invoke_74 rfl rfl ?_
    refine g4_9 X dX4_invoke_75 s_247 rfl ?_
    refine w_iload_n X dX4_invoke_78 rfl rfl ?_
    refine w_v1fR X dX4_invoke_79 k4_67 rfl s_45 (c5_body G hG _ _ c hcN hbN m hm) (Nat.le_of_ble_eq_true rfl) ?_
    refine w_aload_n X dX4_invoke_82 rfl rfl ?_
    refine w_v2rI X dX4_invoke_83 k4_73 rfl s_247 (hR1) (Nat.le_of_ble_eq_true rfl) (fun r83 N83 h83 => ?_)
    refine w_istore X dX4_invoke_86 (by decide) ?_
    obtain ⟨hB1, hB2, hB3⟩ := hR2 _ _ h83
    refine w_aload_n X dX4_invoke_88 rfl rfl ?_
    refine g4_58 X dX4_invoke_89 s_247 rfl ?_
    refine w_istore X dX4_invoke_92 (by decide) ?_
    refine w_aload_n X dX4_invoke_94 rfl rfl ?_
    refine w_iload X dX4_invoke_95 rfl ?_
    refine w_if_eq (tgt := 104) X dX4_invoke_97 (by decide) (fun h97 => ?_) (fun h97 => ?_)
    · refine w_iconst (v := 3) X dX4_invoke_104 (by decide) ?_
      refine w_iload X dX4_invoke_105 rfl ?_
      refine w_iastoreN X dX4_invoke_107 (vr_row r (by omega)) rfl (⟨by decide, by decide⟩) ?_
      obtain ⟨QP2, hP5, hP6⟩ := hB2 h97
      refine w_aload_n X dX4_invoke_108 rfl rfl ?_
      refine w_iload_n X dX4_invoke_109 rfl rfl ?_
      refine w_iload X dX4_invoke_110 rfl ?_
      refine w_if_eq (tgt := 119) X dX4_invoke_112 (by decide) (fun h112 => ?_) (fun h112 => absurd (h97) h112)
      refine w_iconst (v := 1) X dX4_invoke_119 (by decide) ?_
      refine w_aload_n X dX4_invoke_120 rfl rfl ?_
      refine w_v3rV X dX4_invoke_121 k4_63 rfl s_247 (hP5) (Nat.le_of_ble_eq_true rfl) (fun N121 h121 => ?_)
      refine w_aload_n X dX4_invoke_124 rfl rfl ?_
      refine w_iload X dX4_invoke_125 rfl ?_
      refine p4_58 X dX4_invoke_127 s_247 rfl (hB1) ?_
      refine w_iload X dX4_invoke_130 rfl ?_
      have z3 := hP6 _ h121
      rw [h97]
      exact w_irR X dX4_invoke_132 z3
    · refine w_iconst (v := 4) X dX4_invoke_100 (by decide) ?_
      refine w_goto (tgt := 105) X dX4_invoke_101 (by decide) ?_
      refine w_iload X dX4_invoke_105 rfl ?_
      refine w_iastoreN X dX4_invoke_107 (vr_row r (by omega)) rfl (⟨by decide, by decide⟩) ?_
      obtain ⟨QP2, hP5, hP6⟩ := hB3 h97
      have hz1 := hB1.resolve_left h97
      refine w_aload_n X dX4_invoke_108 rfl rfl ?_
      refine w_iload_n X dX4_invoke_109 rfl rfl ?_
      refine w_iload X dX4_invoke_110 rfl ?_
      refine w_if_eq (tgt := 119) X dX4_invoke_112 (by decide) (fun h112 => absurd h112 h97) (fun h112 => ?_)
      refine w_iconst (v := 2) X dX4_invoke_115 (by decide) ?_
      refine w_goto (tgt := 120) X dX4_invoke_116 (by decide) ?_
      refine w_aload_n X dX4_invoke_120 rfl rfl ?_
      refine w_v3rV X dX4_invoke_121 k4_63 rfl s_247 (hP5) (Nat.le_of_ble_eq_true rfl) (fun N121 h121 => ?_)
      refine w_aload_n X dX4_invoke_124 rfl rfl ?_
      refine w_iload X dX4_invoke_125 rfl ?_
      refine p4_58 X dX4_invoke_127 s_247 rfl (hB1) ?_
      refine w_iload X dX4_invoke_130 rfl ?_
      have z3 := hP6 _ h121
      rw [hz1]
      exact w_irR X dX4_invoke_132 z3
  · refine w_aload_n X dX4_invoke_24 rfl rfl ?_
    refine w_iconst (v := 1) X dX4_invoke_25 (by decide) ?_
    refine p4_58 X dX4_invoke_26 s_247 rfl (by first | exact Or.inl rfl | exact Or.inr rfl | assumption) ?_
    refine w_aload_n X dX4_invoke_29 rfl rfl ?_
    refine w_iconst (v := 1) X dX4_invoke_30 (by decide) ?_
    refine p4_45 X dX4_invoke_31 s_247 rfl (by first | exact Or.inl rfl | exact Or.inr rfl | assumption) ?_
    refine w_bipush (v := -3) X dX4_invoke_34 (by decide) ?_
    exact w_irR X dX4_invoke_36 (h1 (Int32.not_lt.mp h21))
set_option maxRecDepth 100000 in
set_option maxHeartbeats 600000 in
theorem c4_startE (G : gg_) (hG : gd_ G) (d : Nat) (M : mm_) (m : Nat) (z : Int32) (hz : zoX_ z) (QI : Int32 → mm_ → Prop) (h1 : cm_ G yX4_invoke cX4_invoke 6 (some .int) (d + 6) [.ref (G.1 247), .int (nI m), .int (nI 1)] (sI_ (sI_ (sI_ (sI_ M 247 9 z) 247 1 0) 247 12 0) 247 8 0) (rI_ QI)) : cm_ G yX4_start cX4_start 3 (some .int) (d + 7) [.ref (G.1 247), .int (nI m), .int z] M (rI_ (fun q N => ∃ v N0, QI v N0 ∧ N = sI_ N0 247 0 v ∧ q = if N0.1 247 10 = 0 then 0 else 1)) := by
  refine cm_of hG (by decide) (Nat.le_of_ble_eq_true rfl) (fun C X => ?_)
  refine w_aload_n X dX4_start_0 rfl rfl ?_
  refine w_iload_n X dX4_start_1 rfl rfl ?_
  refine p4_37 X dX4_start_2 s_247 rfl (hz) ?_
  refine w_aload_n X dX4_start_5 rfl rfl ?_
  refine w_iconst (v := 0) X dX4_start_6 (by decide) ?_
  refine p4_41 X dX4_start_7 s_247 rfl ?_
  refine w_aload_n X dX4_start_10 rfl rfl ?_
  refine w_iconst (v := 0) X dX4_start_11 (by decide) ?_
  refine p4_45 X dX4_start_12 s_247 rfl (by first | exact Or.inl rfl | exact Or.inr rfl | assumption) ?_
  refine w_aload_n X dX4_start_15 rfl rfl ?_
  refine w_iconst (v := 0) X dX4_start_16 (by decide) ?_
  refine p4_48 X dX4_start_17 s_247 rfl ?_
  refine w_aload_n X dX4_start_20 rfl rfl ?_
  refine w_aload_n X dX4_start_21 rfl rfl ?_
  refine w_iload_n X dX4_start_22 rfl rfl ?_
  refine w_iconst (v := 1) X dX4_start_23 (by decide) ?_
  refine w_v2rI X dX4_start_24 k4_51 rfl s_247 (h1) (Nat.le_of_ble_eq_true rfl) (fun r24 N24 h24 => ?_)
  refine p4_55 X dX4_start_27 s_247 rfl ?_
  refine w_aload_n X dX4_start_30 rfl rfl ?_
  refine g4_58 X dX4_start_31 s_247 rfl ?_
  rw [gI_sI, if_neg (by omega)]
  refine w_if_eq (tgt := 41) X dX4_start_34 (by decide) (fun h34 => ?_) (fun h34 => ?_)
  · refine w_iconst (v := 0) X dX4_start_41 (by decide) ?_
    exact w_irR X dX4_start_42 ⟨_, _, h24, rfl, by rw [if_pos h34]⟩
  · refine w_iconst (v := 1) X dX4_start_37 (by decide) ?_
    refine w_goto (tgt := 42) X dX4_start_38 (by decide) ?_
    exact w_irR X dX4_start_42 ⟨_, _, h24, rfl, by rw [if_neg h34]⟩
