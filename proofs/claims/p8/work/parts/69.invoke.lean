/-! Machine: invoke, start -/
set_option maxRecDepth 100000 in
set_option maxHeartbeats 600000 in
theorem c4_invokeT (G : gg_) (hG : gd_ G) (d : Nat) (M : mm_) (m : Nat) (b : Nat) (hh : M.1 247 8 = nI b) : cm_ G yX4_invoke cX4_invoke 6 (some .int) (d) [.ref (G.1 247), .int (nI m), .int (nI 11)] M (rI_ (INX_ 11 b M)) := by
  refine cm_of hG (by decide) (Nat.le_of_ble_eq_true rfl) (fun C X => ?_)
  refine w_iload_n X dX4_invoke_0 rfl rfl ?_
  refine w_bipush (v := 10) X dX4_invoke_1 (by decide) ?_
  refine w_icmp_le (tgt := 14) X dX4_invoke_3 (by decide) (fun h3 => absurd h3 (by decide)) (fun h3 => ?_)
  refine w_aload_n X dX4_invoke_6 rfl rfl ?_
  refine w_iconst (v := 1) X dX4_invoke_7 (by decide) ?_
  refine p4_58 X dX4_invoke_8 s_247 rfl (by first | exact Or.inl rfl | exact Or.inr rfl | assumption) ?_
  refine w_bipush (v := -2) X dX4_invoke_11 (by decide) ?_
  exact w_irR X dX4_invoke_13 ⟨fyX_m (by omega) (by omega) (by omega), by rw [gI_sI, if_neg (by omega)]; exact hh, Or.inr (by rw [gI_sI, if_pos ⟨rfl, rfl⟩])⟩
set_option maxRecDepth 100000 in
set_option maxHeartbeats 600000 in
theorem c4_invoke (G : gg_) (hG : gd_ G) (e c : Nat) (J : Nat → Nat) (S r w : Nat) (hI : IVX_ G c J S (r + 1) w) (hr1 : 1 ≤ r) (hr : r ≤ 10) (M : mm_) (hM : kmX_ c J S M) (m : Nat) (hm : m < c) (b : Nat) (hh : M.1 247 8 = nI b) (hb : b ≤ 20 * (r - 1)) (hz : zoX_ (M.1 247 10)) : cm_ G yX4_invoke cX4_invoke 6 (some .int) (e + w + 6) [.ref (G.1 247), .int (nI m), .int (nI r)] M (rI_ (INX_ r b M)) := by
  refine cm_of hG (by decide) (Nat.le_of_ble_eq_true rfl) (fun C X => ?_)
  refine w_iload_n X dX4_invoke_0 rfl rfl ?_
  refine w_bipush (v := 10) X dX4_invoke_1 (by decide) ?_
  refine w_icmp_le (tgt := 14) X dX4_invoke_3 (by decide) (fun h3 => ?_) (fun h3 => absurd (nI_le (a := r) (b := 10) hr (by decide)) h3)
  refine w_aload_n X dX4_invoke_14 rfl rfl ?_
  refine g4_41 X dX4_invoke_15 s_247 rfl ?_
  refine w_sipush (v := 1000) X dX4_invoke_18 (by decide) ?_
  refine w_icmp_lt (tgt := 37) X dX4_invoke_21 (by decide) (fun h21 => ?_) (fun h21 => ?_)
  · refine w_aload_n X dX4_invoke_37 rfl rfl ?_
    refine w_dup X dX4_invoke_38 rfl ?_
    refine g4_41 X dX4_invoke_39 s_247 rfl ?_
    refine w_iconst (v := 1) X dX4_invoke_42 (by decide) ?_
    refine w_iadd X dX4_invoke_43 ?_
    refine p4_41 X dX4_invoke_44 s_247 rfl ?_
    refine w_aload_n X dX4_invoke_47 rfl rfl ?_
    refine g4_28 X dX4_invoke_48 s_247 rfl ?_
    refine w_iload_n X dX4_invoke_51 rfl rfl ?_
    refine w_aaload X dX4_invoke_52 s_248 rfl rfl (⟨by omega, by decide⟩) (hM.2.2.2.1 r (by omega)) ?_
    refine w_astore_n X dX4_invoke_53 rfl (by decide) ?_
    refine w_aload_n X dX4_invoke_54 rfl rfl ?_
    refine w_iconst (v := 3) X dX4_invoke_55 (by decide) ?_
    refine w_iconst (v := 0) X dX4_invoke_56 (by decide) ?_
    refine w_iastoreN X dX4_invoke_57 (vr_row r (by omega)) rfl (⟨by decide, by decide⟩) ?_
    refine w_aload_n X dX4_invoke_58 rfl rfl ?_
    refine w_iconst (v := 4) X dX4_invoke_59 (by decide) ?_
    refine w_iconst (v := 0) X dX4_invoke_60 (by decide) ?_
    refine w_iastoreN X dX4_invoke_61 (vr_row r (by omega)) rfl (⟨by decide, by decide⟩) ?_
    refine w_aload_n X dX4_invoke_62 rfl rfl ?_
    refine w_iconst (v := 5) X dX4_invoke_63 (by decide) ?_
    refine w_iload_n X dX4_invoke_64 rfl rfl ?_
    refine w_iastoreN X dX4_invoke_65 (vr_row r (by omega)) rfl (⟨by decide, by decide⟩) ?_
    have hA5 : (sI_ (sI_ (sI_ (sI_ M 247 1 (M.1 247 1 + 1)) (249 + r) 3 0) (249 + r) 4 0) (249 + r) 5 (nI r)).1 (249 + r) 5 = nI r := by rw [gI_sI, if_pos ⟨rfl, rfl⟩]
    have hAF : fyX_ (r - 1) M (sI_ (sI_ (sI_ (sI_ M 247 1 (M.1 247 1 + 1)) (249 + r) 3 0) (249 + r) 4 0) (249 + r) 5 (nI r)) := fyX_tr (fyX_tr (fyX_tr (fyX_m (by omega) (by omega) (by omega)) (fyX_m (by omega) (by omega) (by omega))) (fyX_m (by omega) (by omega) (by omega))) (fyX_m (by omega) (by omega) (by omega))
    have hA8 : (sI_ (sI_ (sI_ (sI_ M 247 1 (M.1 247 1 + 1)) (249 + r) 3 0) (249 + r) 4 0) (249 + r) 5 (nI r)).1 247 8 = nI b := by rw [gI_sI, if_neg (by omega), gI_sI, if_neg (by omega), gI_sI, if_neg (by omega), gI_sI, if_neg (by omega)]; exact hh
    have hAz : zoX_ ((sI_ (sI_ (sI_ (sI_ M 247 1 (M.1 247 1 + 1)) (249 + r) 3 0) (249 + r) 4 0) (249 + r) 5 (nI r)).1 247 10) := by rw [gI_sI, if_neg (by omega), gI_sI, if_neg (by omega), gI_sI, if_neg (by omega), gI_sI, if_neg (by omega)]; exact hz
    generalize sI_ (sI_ (sI_ (sI_ M 247 1 (M.1 247 1 + 1)) (249 + r) 3 0) (249 + r) 4 0) (249 + r) 5 (nI r) = A at hA5 hAF hA8 hAz ⊢
    have hKA := kmX_fz hAF.1 hM
    have hc16 := hM.1.1
    refine w_aload_n X dX4_invoke_66 rfl rfl ?_
    refine w_iload_n X dX4_invoke_67 rfl rfl ?_
    refine w_iconst (v := 0) X dX4_invoke_68 (by decide) ?_
    refine w_aload_n X dX4_invoke_69 rfl rfl ?_
    refine w_v3rV X dX4_invoke_70 k4_63 rfl s_247 (c4_probe G hG e c J S r w hI hr1 hr _ hKA m hm 0 (by decide) b hb hA8 hAz hA5) (Nat.le_of_ble_eq_true rfl) (fun N70 h70 => ?_)
    have hKB := kmX_fz h70.1.1 hKA
    obtain ⟨L9, H9, ok9⟩ := hKB.2.2.2.2.1 m hm
    have hB5 : N70.1 (249 + r) 5 = nI r := by rw [h70.1.2 r (by omega)]; exact hA5
    have hrun := c4_run G hG (e + 2) c J S r w hI hr1 hr _ hKB _ (cd_body m (by omega)) (kcX_b (by omega)) L9 H9 ok9 b hb h70.2.1 hB5
    rw [show e + 2 + w + 3 = e + w + 5 by omega] at hrun
    refine w_aload_n X dX4_invoke_73 rfl rfl ?_
    refine w_aload_n X dX4_invoke_74 rfl rfl ?_
    refine g4_9 X dX4_invoke_75 s_247 rfl ?_
    refine w_iload_n X dX4_invoke_78 rfl rfl ?_
    refine w_v1fR X dX4_invoke_79 k4_67 rfl s_45 (c5_body G hG _ _ c hKB.1 hKB.2.1 m hm) (Nat.le_of_ble_eq_true rfl) ?_
    refine w_aload_n X dX4_invoke_82 rfl rfl ?_
    refine w_v2rI X dX4_invoke_83 k4_73 rfl s_247 (hrun) (Nat.le_of_ble_eq_true rfl) (fun r83 N83 h83 => ?_)
    refine w_istore X dX4_invoke_86 (by decide) ?_
    refine w_aload_n X dX4_invoke_88 rfl rfl ?_
    refine g4_58 X dX4_invoke_89 s_247 rfl ?_
    refine w_istore X dX4_invoke_92 (by decide) ?_
    have hz83 := h83.2.2
    have hC5 : N83.1 (249 + r) 5 = nI r := by rw [h83.1.2 r (by omega)]; exact hB5
    have hFC : fyX_ (r - 1) M N83 := fyX_tr hAF (fyX_le (fyX_tr h70.1 h83.1) (by omega))
    refine w_aload_n X dX4_invoke_94 rfl rfl ?_
    refine w_iload X dX4_invoke_95 rfl ?_
    refine w_if_eq (tgt := 104) X dX4_invoke_97 (by decide) (fun h97 => ?_) (fun h97 => ?_)
    · refine w_iconst (v := 3) X dX4_invoke_104 (by decide) ?_
      refine w_iload X dX4_invoke_105 rfl ?_
      refine w_iastoreN X dX4_invoke_107 (vr_row r (by omega)) rfl (⟨by decide, by decide⟩) ?_
      have hD5 : (sI_ N83 (249 + r) 3 r83).1 (249 + r) 5 = nI r := by rw [gI_sI, if_neg (by omega)]; exact hC5
      have hD8 : (sI_ N83 (249 + r) 3 r83).1 247 8 = nI b := by rw [gI_sI, if_neg (by omega)]; exact h83.2.1
      have hDz : zoX_ ((sI_ N83 (249 + r) 3 r83).1 247 10) := by rw [gI_sI, if_neg (by omega)]; exact hz83
      have hDF : fyX_ (r - 1) M (sI_ N83 (249 + r) 3 r83) := fyX_tr hFC (fyX_m (by omega) (by omega) (by omega))
      generalize sI_ N83 (249 + r) 3 r83 = D at hD5 hD8 hDz hDF ⊢
      have hKD := kmX_fz hDF.1 hM
      refine w_aload_n X dX4_invoke_108 rfl rfl ?_
      refine w_iload_n X dX4_invoke_109 rfl rfl ?_
      refine w_iload X dX4_invoke_110 rfl ?_
      refine w_if_eq (tgt := 119) X dX4_invoke_112 (by decide) (fun h112 => ?_) (fun h112 => absurd (h97) h112)
      refine w_iconst (v := 1) X dX4_invoke_119 (by decide) ?_
      refine w_aload_n X dX4_invoke_120 rfl rfl ?_
      refine w_v3rV X dX4_invoke_121 k4_63 rfl s_247 (c4_probe G hG e c J S r w hI hr1 hr _ hKD m hm 1 (by decide) b hb hD8 hDz hD5) (Nat.le_of_ble_eq_true rfl) (fun N121 h121 => ?_)
      refine w_aload_n X dX4_invoke_124 rfl rfl ?_
      refine w_iload X dX4_invoke_125 rfl ?_
      refine p4_58 X dX4_invoke_127 s_247 rfl (hz83) ?_
      refine w_iload X dX4_invoke_130 rfl ?_
      refine w_irR X dX4_invoke_132 ⟨fyX_tr hDF (fyX_tr (fyX_le h121.1 (by omega)) (fyX_m (by omega) (by omega) (by omega))), ?_, ?_⟩
      · rw [gI_sI, if_neg (by omega)]; exact h121.2.1
      · rw [gI_sI, if_pos ⟨rfl, rfl⟩]; exact hz83
    · refine w_iconst (v := 4) X dX4_invoke_100 (by decide) ?_
      refine w_goto (tgt := 105) X dX4_invoke_101 (by decide) ?_
      refine w_iload X dX4_invoke_105 rfl ?_
      refine w_iastoreN X dX4_invoke_107 (vr_row r (by omega)) rfl (⟨by decide, by decide⟩) ?_
      have hD5 : (sI_ N83 (249 + r) 4 r83).1 (249 + r) 5 = nI r := by rw [gI_sI, if_neg (by omega)]; exact hC5
      have hD8 : (sI_ N83 (249 + r) 4 r83).1 247 8 = nI b := by rw [gI_sI, if_neg (by omega)]; exact h83.2.1
      have hDz : zoX_ ((sI_ N83 (249 + r) 4 r83).1 247 10) := by rw [gI_sI, if_neg (by omega)]; exact hz83
      have hDF : fyX_ (r - 1) M (sI_ N83 (249 + r) 4 r83) := fyX_tr hFC (fyX_m (by omega) (by omega) (by omega))
      generalize sI_ N83 (249 + r) 4 r83 = D at hD5 hD8 hDz hDF ⊢
      have hKD := kmX_fz hDF.1 hM
      refine w_aload_n X dX4_invoke_108 rfl rfl ?_
      refine w_iload_n X dX4_invoke_109 rfl rfl ?_
      refine w_iload X dX4_invoke_110 rfl ?_
      refine w_if_eq (tgt := 119) X dX4_invoke_112 (by decide) (fun h112 => absurd h112 h97) (fun h112 => ?_)
      refine w_iconst (v := 2) X dX4_invoke_115 (by decide) ?_
      refine w_goto (tgt := 120) X dX4_invoke_116 (by decide) ?_
      refine w_aload_n X dX4_invoke_120 rfl rfl ?_
      refine w_v3rV X dX4_invoke_121 k4_63 rfl s_247 (c4_probe G hG e c J S r w hI hr1 hr _ hKD m hm 2 (by decide) b hb hD8 hDz hD5) (Nat.le_of_ble_eq_true rfl) (fun N121 h121 => ?_)
      refine w_aload_n X dX4_invoke_124 rfl rfl ?_
      refine w_iload X dX4_invoke_125 rfl ?_
      refine p4_58 X dX4_invoke_127 s_247 rfl (hz83) ?_
      refine w_iload X dX4_invoke_130 rfl ?_
      refine w_irR X dX4_invoke_132 ⟨fyX_tr hDF (fyX_tr (fyX_le h121.1 (by omega)) (fyX_m (by omega) (by omega) (by omega))), ?_, ?_⟩
      · rw [gI_sI, if_neg (by omega)]; exact h121.2.1
      · rw [gI_sI, if_pos ⟨rfl, rfl⟩]; exact hz83
  · refine w_aload_n X dX4_invoke_24 rfl rfl ?_
    refine w_iconst (v := 1) X dX4_invoke_25 (by decide) ?_
    refine p4_58 X dX4_invoke_26 s_247 rfl (by first | exact Or.inl rfl | exact Or.inr rfl | assumption) ?_
    refine w_aload_n X dX4_invoke_29 rfl rfl ?_
    refine w_iconst (v := 1) X dX4_invoke_30 (by decide) ?_
    refine p4_45 X dX4_invoke_31 s_247 rfl (by first | exact Or.inl rfl | exact Or.inr rfl | assumption) ?_
    refine w_bipush (v := -3) X dX4_invoke_34 (by decide) ?_
    refine w_irR X dX4_invoke_36 ⟨fyX_tr (fyX_m (by omega) (by omega) (by omega)) (fyX_m (by omega) (by omega) (by omega)), ?_, ?_⟩
    · rw [gI_sI, if_neg (by omega), gI_sI, if_neg (by omega)]; exact hh
    · rw [gI_sI, if_neg (by omega), gI_sI, if_pos ⟨rfl, rfl⟩]; exact Or.inr rfl
theorem IVX_all (G : gg_) (hG : gd_ G) (c : Nat) (J : Nat → Nat) (S : Nat) : ∀ u r, r + u = 11 → 1 ≤ r → IVX_ G c J S r (6 * u) := by
  intro u
  induction u with
  | zero =>
    intro r h1 h2 e M m h a1 a2 a3 a4 a5
    obtain rfl : r = 11 := by omega
    exact c4_invokeT G hG _ M m h a3
  | succ u ih =>
    intro r h1 h2 e M m h a1 a2 a3 a4 a5
    rw [show e + 6 * (u + 1) = e + 6 * u + 6 by omega]
    exact c4_invoke G hG e c J S r (6 * u) (ih (r + 1) (by omega) (by omega)) h2 (by omega) M a1 m a2 h a3 a4 a5
set_option maxRecDepth 100000 in
set_option maxHeartbeats 600000 in
theorem c4_start (G : gg_) (hG : gd_ G) (e : Nat) (M : mm_) (c : Nat) (J : Nat → Nat) (S : Nat) (hM : kmX_ c J S M) (m : Nat) (hm : m < c) (z : Int32) (hz : zoX_ z) (hz2 : zoX_ (M.1 247 10)) : cm_ G yX4_start cX4_start 3 (some .int) (e + 61) [.ref (G.1 247), .int (nI m), .int z] M (rI_ (fun _ N => fyX_ 0 M N ∧ zoX_ (N.1 247 10))) := by
  refine cm_of hG (by decide) (Nat.le_of_ble_eq_true rfl) (fun C X => ?_)
  refine w_aload_n X dX4_start_0 rfl rfl ?_
  refine w_iload_n X dX4_start_1 rfl rfl ?_
  refine p4_37 X dX4_start_2 s_247 rfl (hz) ?_
  refine w_aload_n X dX4_start_5 rfl rfl ?_
  refine w_iconst (v := 0) X dX4_start_6 (by decide) ?_
  refine p4_41 X dX4_start_7 s_247 rfl ?_
  refine w_aload_n X dX4_start_10 rfl rfl ?_
  refine w_iconst (v := 0) X dX4_start_11 (by decide) ?_
  refine p4_45 X dX4_start_12 s_247 rfl (by first | exact Or.inl rfl | exact Or.inr rfl | assumption) ?_
  refine w_aload_n X dX4_start_15 rfl rfl ?_
  refine w_iconst (v := 0) X dX4_start_16 (by decide) ?_
  refine p4_48 X dX4_start_17 s_247 rfl ?_
  have hF : fyX_ 0 M (sI_ (sI_ (sI_ (sI_ M 247 9 z) 247 1 0) 247 12 0) 247 8 0) := fyX_tr (fyX_tr (fyX_tr (fyX_m (by omega) (by omega) (by omega)) (fyX_m (by omega) (by omega) (by omega))) (fyX_m (by omega) (by omega) (by omega))) (fyX_m (by omega) (by omega) (by omega))
  have h8 : (sI_ (sI_ (sI_ (sI_ M 247 9 z) 247 1 0) 247 12 0) 247 8 0).1 247 8 = nI 0 := by rw [gI_sI, if_pos ⟨rfl, rfl⟩]; rfl
  have h10 : zoX_ ((sI_ (sI_ (sI_ (sI_ M 247 9 z) 247 1 0) 247 12 0) 247 8 0).1 247 10) := by rw [gI_sI, if_neg (by omega), gI_sI, if_neg (by omega), gI_sI, if_neg (by omega), gI_sI, if_neg (by omega)]; exact hz2
  generalize sI_ (sI_ (sI_ (sI_ M 247 9 z) 247 1 0) 247 12 0) 247 8 0 = A at hF h8 h10 ⊢
  refine w_aload_n X dX4_start_20 rfl rfl ?_
  refine w_aload_n X dX4_start_21 rfl rfl ?_
  refine w_iload_n X dX4_start_22 rfl rfl ?_
  refine w_iconst (v := 1) X dX4_start_23 (by decide) ?_
  refine w_v2rI X dX4_start_24 k4_51 rfl s_247 (IVX_all G hG c J S 10 1 (by decide) (by decide) e A m 0 (kmX_fz hF.1 hM) hm h8 (by omega) h10) (Nat.le_of_ble_eq_true rfl) (fun r24 N24 h24 => ?_)
  refine p4_55 X dX4_start_27 s_247 rfl ?_
  refine w_aload_n X dX4_start_30 rfl rfl ?_
  refine g4_58 X dX4_start_31 s_247 rfl ?_
  refine w_if_eq (tgt := 41) X dX4_start_34 (by decide) (fun h34 => ?_) (fun h34 => ?_)
  · refine w_iconst (v := 0) X dX4_start_41 (by decide) ?_
    exact w_irR X dX4_start_42 ⟨fyX_tr hF (fyX_tr h24.1 (fyX_m (by omega) (by omega) (by omega))), by rw [gI_sI, if_neg (by omega)]; exact h24.2.2⟩
  · refine w_iconst (v := 1) X dX4_start_37 (by decide) ?_
    refine w_goto (tgt := 42) X dX4_start_38 (by decide) ?_
    exact w_irR X dX4_start_42 ⟨fyX_tr hF (fyX_tr h24.1 (fyX_m (by omega) (by omega) (by omega))), by rw [gI_sI, if_neg (by omega)]; exact h24.2.2⟩
