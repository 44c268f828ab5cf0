/-! Machine: watch, probe -/
theorem PBX_e {r b : Nat} {M N : mm_} (h : PBX_ r b M N) : N.1 247 8 = nI b := h.2.1
theorem kcX_b {i : Nat} (h : i < 17) : kcX_ (48 + 5 * i) := by unfold kcX_; omega
theorem kcX_e {i : Nat} (h : i < 9) : kcX_ (135 + 12 * i + 1) := by unfold kcX_; omega
theorem kcX_c {i : Nat} (h : i < 9) : kcX_ (135 + 12 * i + 6) := by unfold kcX_; omega
theorem see_1 {M : mm_} {k : Nat} {x : Int32} (h : ¬ see_ M k x = 0) : ¬ M.1 k 0 = 0 := fun z => h (if_neg (fun y => y.1 z))
set_option maxRecDepth 100000 in
set_option maxHeartbeats 600000 in
theorem c4_watch (G : gg_) (hG : gd_ G) (e c : Nat) (J : Nat → Nat) (S r w : Nat) (hI : IVX_ G c J S (r + 1) w) (hr1 : 1 ≤ r) (hr : r ≤ 10) (M : mm_) (hM : kmX_ c J S M) (j : Nat) (hj : j < 8) (hok : okX_ (135 + 12 * J j + 1) M ∧ (¬ M.1 (135 + 12 * J j) 5 = 0 → okX_ (135 + 12 * J j + 6) M)) (m : Int32) (b : Nat) (hb : b ≤ 20 * (r - 1)) (hh : M.1 247 8 = nI b) (hd5 : M.1 (249 + r) 5 = nI r) : cm_ G yX4_watch cX4_watch 6 none (e + w + 4) [.ref (G.1 247), .int (nI j), .int m, .ref (G.1 (249 + r))] M (rV_ (fun N => PBX_ r b M N)) := by
  refine cm_of hG (by decide) (Nat.le_of_ble_eq_true rfl) (fun C X => ?_)
  have hJ := (hM.2.2.1.1 j hj).1
  have t80 : ∀ (v : Int32) (N : mm_), PBX_ r b M N → wq_ C G (qe_ C G (rV_ (fun N => PBX_ r b M N))) 80 [some (.ref (G.1 247)), some (.int (nI j)), some (.int m), some (.ref (G.1 (249 + r))), some (.ref (G.1 (135 + 12 * J j))), some (.int v)] [] N := by
    intro v N hP
    refine w_aload X dX4_watch_80 rfl ?_
    refine w_v0fV X dX4_watch_82 k4_178 rfl (jd_all _ hJ).1 (c2_countRecord G hG _ _ _ (jd_all _ hJ)) (Nat.le_of_ble_eq_true rfl) ?_
    refine w_aload_n X dX4_watch_85 rfl rfl ?_
    refine g4_19 X dX4_watch_86 s_247 rfl ?_
    refine w_v0fI X dX4_watch_89 k4_181 rfl s_243 (c8_isFull G hG _ _ 243 1500 rw_rec) (Nat.le_of_ble_eq_true rfl) ?_
    refine w_if_eq (tgt := 96) X dX4_watch_92 (by decide) (fun h92 => ?_) (fun h92 => ?_)
    · refine w_aload_n X dX4_watch_96 rfl rfl ?_
      refine g4_19 X dX4_watch_97 s_247 rfl ?_
      refine w_iconst (v := 0) X dX4_watch_100 (by decide) ?_
      refine w_iload_n X dX4_watch_101 rfl rfl ?_
      refine w_v2fV X dX4_watch_102 k4_187 rfl s_243 (c8_put G hG _ _ 243 1500 rw_rec _ _) (Nat.le_of_ble_eq_true rfl) ?_
      refine w_aload_n X dX4_watch_105 rfl rfl ?_
      refine g4_19 X dX4_watch_106 s_247 rfl ?_
      refine w_iconst (v := 1) X dX4_watch_109 (by decide) ?_
      refine w_iload_n X dX4_watch_110 rfl rfl ?_
      refine w_v2fV X dX4_watch_111 k4_187 rfl s_243 (c8_put G hG _ _ 243 1500 rw_rec _ _) (Nat.le_of_ble_eq_true rfl) ?_
      refine w_aload_n X dX4_watch_114 rfl rfl ?_
      refine g4_19 X dX4_watch_115 s_247 rfl ?_
      refine w_iconst (v := 2) X dX4_watch_118 (by decide) ?_
      refine w_iload X dX4_watch_119 rfl ?_
      refine w_v2fV X dX4_watch_121 k4_187 rfl s_243 (c8_put G hG _ _ 243 1500 rw_rec _ _) (Nat.le_of_ble_eq_true rfl) ?_
      refine w_aload_n X dX4_watch_124 rfl rfl ?_
      refine g4_19 X dX4_watch_125 s_247 rfl ?_
      refine w_iconst (v := 3) X dX4_watch_128 (by decide) ?_
      refine w_aload_n X dX4_watch_129 rfl rfl ?_
      refine g4_58 X dX4_watch_130 s_247 rfl ?_
      refine w_if_eq (tgt := 140) X dX4_watch_133 (by decide) (fun h133 => ?_) (fun h133 => ?_)
      · refine w_iconst (v := 0) X dX4_watch_140 (by decide) ?_
        refine w_v2fV X dX4_watch_141 k4_187 rfl s_243 (c8_put G hG _ _ 243 1500 rw_rec _ _) (Nat.le_of_ble_eq_true rfl) ?_
        refine w_aload_n X dX4_watch_144 rfl rfl ?_
        refine g4_19 X dX4_watch_145 s_247 rfl ?_
        refine w_iconst (v := 4) X dX4_watch_148 (by decide) ?_
        refine w_aload_n X dX4_watch_149 rfl rfl ?_
        refine w_iconst (v := 5) X dX4_watch_150 (by decide) ?_
        refine w_ialoadN X dX4_watch_151 (vr_row r (by omega)) rfl (⟨by decide, by decide⟩) ?_
        refine w_v2fV X dX4_watch_152 k4_187 rfl s_243 (c8_put G hG _ _ 243 1500 rw_rec _ _) (Nat.le_of_ble_eq_true rfl) ?_
        refine w_aload_n X dX4_watch_155 rfl rfl ?_
        refine g4_19 X dX4_watch_156 s_247 rfl ?_
        refine w_v0fV X dX4_watch_159 k4_191 rfl s_243 (c8_endRow G hG _ _ 243 1500 rw_rec) (Nat.le_of_ble_eq_true rfl) ?_
        refine w_vrR X dX4_watch_162 ⟨fyX_tr hP.1 (fyX_tr (fyX_cre hJ) (fyX_tr (fyX_tr (fyX_tr (fyX_tr (fyX_tr fyX_rP fyX_rP) fyX_rP) fyX_rP) fyX_rP) fyX_rE)), ?_, ?_⟩
        · rw [rE_o (by decide), rP_o (by decide), rP_o (by decide), rP_o (by decide), rP_o (by decide), rP_o (by decide), cre_m hJ (by decide)]; exact hP.2.1
        · rw [rE_o (by decide), rP_o (by decide), rP_o (by decide), rP_o (by decide), rP_o (by decide), rP_o (by decide), cre_m hJ (by decide)]; exact hP.2.2
      · refine w_iconst (v := 1) X dX4_watch_136 (by decide) ?_
        refine w_goto (tgt := 141) X dX4_watch_137 (by decide) ?_
        refine w_v2fV X dX4_watch_141 k4_187 rfl s_243 (c8_put G hG _ _ 243 1500 rw_rec _ _) (Nat.le_of_ble_eq_true rfl) ?_
        refine w_aload_n X dX4_watch_144 rfl rfl ?_
        refine g4_19 X dX4_watch_145 s_247 rfl ?_
        refine w_iconst (v := 4) X dX4_watch_148 (by decide) ?_
        refine w_aload_n X dX4_watch_149 rfl rfl ?_
        refine w_iconst (v := 5) X dX4_watch_150 (by decide) ?_
        refine w_ialoadN X dX4_watch_151 (vr_row r (by omega)) rfl (⟨by decide, by decide⟩) ?_
        refine w_v2fV X dX4_watch_152 k4_187 rfl s_243 (c8_put G hG _ _ 243 1500 rw_rec _ _) (Nat.le_of_ble_eq_true rfl) ?_
        refine w_aload_n X dX4_watch_155 rfl rfl ?_
        refine g4_19 X dX4_watch_156 s_247 rfl ?_
        refine w_v0fV X dX4_watch_159 k4_191 rfl s_243 (c8_endRow G hG _ _ 243 1500 rw_rec) (Nat.le_of_ble_eq_true rfl) ?_
        refine w_vrR X dX4_watch_162 ⟨fyX_tr hP.1 (fyX_tr (fyX_cre hJ) (fyX_tr (fyX_tr (fyX_tr (fyX_tr (fyX_tr fyX_rP fyX_rP) fyX_rP) fyX_rP) fyX_rP) fyX_rE)), ?_, ?_⟩
        · rw [rE_o (by decide), rP_o (by decide), rP_o (by decide), rP_o (by decide), rP_o (by decide), rP_o (by decide), cre_m hJ (by decide)]; exact hP.2.1
        · rw [rE_o (by decide), rP_o (by decide), rP_o (by decide), rP_o (by decide), rP_o (by decide), rP_o (by decide), cre_m hJ (by decide)]; exact hP.2.2
    · exact w_vrR X dX4_watch_95 ⟨fyX_tr hP.1 (fyX_cre hJ), by rw [cre_m hJ (by decide)]; exact hP.2.1, by rw [cre_m hJ (by decide)]; exact hP.2.2⟩
  have t48 : ∀ (v : Int32) (N : mm_), PBX_ r b M N → wq_ C G (qe_ C G (rV_ (fun N => PBX_ r b M N))) 48 [some (.ref (G.1 247)), some (.int (nI j)), some (.int m), some (.ref (G.1 (249 + r))), some (.ref (G.1 (135 + 12 * J j))), some (.int v)] [] N := by
    intro v N hP
    obtain ⟨L9, H9, ok9⟩ := okX_fz (kcX_e hJ) hP.1.1 hok.1
    refine w_iload X dX4_watch_48 rfl ?_
    refine w_if_ne (tgt := 61) X dX4_watch_50 (by decide) (fun h50 => ?_) (fun h50 => ?_)
    · refine w_aload_n X dX4_watch_61 rfl rfl ?_
      refine g4_58 X dX4_watch_62 s_247 rfl ?_
      refine w_if_ne (tgt := 80) X dX4_watch_65 (by decide) (fun h65 => ?_) (fun h65 => ?_)
      · exact t80 _ _ hP
      · refine w_aload_n X dX4_watch_68 rfl rfl ?_
        refine w_aload X dX4_watch_69 rfl ?_
        refine g4_175 X dX4_watch_71 (jd_all _ hJ).1 rfl ?_
        refine w_aload_n X dX4_watch_74 rfl rfl ?_
        refine w_v2rI X dX4_watch_75 k4_73 rfl s_247 (c4_run G hG e c J S r w hI hr1 hr N (kmX_fz hP.1.1 hM) _ (jd_all _ hJ).2.2.1 (kcX_e hJ) L9 H9 ok9 b hb hP.2.1 (by rw [hP.1.2 r (by omega)]; exact hd5)) (Nat.le_of_ble_eq_true rfl) (fun r75 N75 h75 => ?_)
        refine w_istore X dX4_watch_78 (by decide) ?_
        exact t80 _ _ (PBX_tr hP.1 h75)
    · refine w_aload_n X dX4_watch_53 rfl rfl ?_
      refine g4_58 X dX4_watch_54 s_247 rfl ?_
      refine w_if_ne (tgt := 61) X dX4_watch_57 (by decide) (fun h57 => ?_) (fun h57 => ?_)
      · refine w_aload_n X dX4_watch_61 rfl rfl ?_
        refine g4_58 X dX4_watch_62 s_247 rfl ?_
        refine w_if_ne (tgt := 80) X dX4_watch_65 (by decide) (fun h65 => ?_) (fun h65 => ?_)
        · exact t80 _ _ hP
        · refine w_aload_n X dX4_watch_68 rfl rfl ?_
          refine w_aload X dX4_watch_69 rfl ?_
          refine g4_175 X dX4_watch_71 (jd_all _ hJ).1 rfl ?_
          refine w_aload_n X dX4_watch_74 rfl rfl ?_
          refine w_v2rI X dX4_watch_75 k4_73 rfl s_247 (c4_run G hG e c J S r w hI hr1 hr N (kmX_fz hP.1.1 hM) _ (jd_all _ hJ).2.2.1 (kcX_e hJ) L9 H9 ok9 b hb hP.2.1 (by rw [hP.1.2 r (by omega)]; exact hd5)) (Nat.le_of_ble_eq_true rfl) (fun r75 N75 h75 => ?_)
          refine w_istore X dX4_watch_78 (by decide) ?_
          exact t80 _ _ (PBX_tr hP.1 h75)
      · exact w_vrR X dX4_watch_60 hP
  refine w_aload_n X dX4_watch_0 rfl rfl ?_
  refine g4_15 X dX4_watch_1 s_247 rfl ?_
  refine w_iload_n X dX4_watch_4 rfl rfl ?_
  refine w_v1fR X dX4_watch_5 k4_141 rfl s_133 (c3_at G hG _ _ J S hM.2.2.1 j hj) (Nat.le_of_ble_eq_true rfl) ?_
  refine w_astore X dX4_watch_8 (by decide) ?_
  refine w_aload_n X dX4_watch_10 rfl rfl ?_
  refine w_bipush (v := 6) X dX4_watch_11 (by decide) ?_
  refine w_aload X dX4_watch_13 rfl ?_
  refine g4_165 X dX4_watch_15 (jd_all _ hJ).1 rfl ?_
  refine w_iastoreN X dX4_watch_18 (vr_row r (by omega)) rfl (⟨by decide, by decide⟩) ?_
  refine w_aload_n X dX4_watch_19 rfl rfl ?_
  refine w_iconst (v := 0) X dX4_watch_20 (by decide) ?_
  refine p4_58 X dX4_watch_21 s_247 rfl (by first | exact Or.inl rfl | exact Or.inr rfl | assumption) ?_
  have hP0 : PBX_ r b M (sI_ (sI_ M (249 + r) 6 (M.1 (135 + 12 * J j) 7)) 247 10 0) := ⟨fyX_tr (fyX_m (by omega) (by omega) (by omega)) (fyX_m (by omega) (by omega) (by omega)), by rw [gI_sI, if_neg (by omega), gI_sI, if_neg (by omega)]; exact hh, Or.inl (by rw [gI_sI, if_pos ⟨rfl, rfl⟩])⟩
  refine w_aload X dX4_watch_24 rfl ?_
  refine g4_168 X dX4_watch_26 (jd_all _ hJ).1 rfl ?_
  rw [gI_sI, if_neg (by omega), gI_sI, if_neg (by omega)]
  refine w_if_eq (tgt := 45) X dX4_watch_29 (by decide) (fun h29 => ?_) (fun h29 => ?_)
  · refine w_iconst (v := 1) X dX4_watch_45 (by decide) ?_
    refine w_istore X dX4_watch_46 (by decide) ?_
    exact t48 _ _ hP0
  · obtain ⟨L9, H9, ok9⟩ := okX_fz (kcX_c hJ) hP0.1.1 (hok.2 h29)
    refine w_aload_n X dX4_watch_32 rfl rfl ?_
    refine w_aload X dX4_watch_33 rfl ?_
    refine g4_171 X dX4_watch_35 (jd_all _ hJ).1 rfl ?_
    refine w_aload_n X dX4_watch_38 rfl rfl ?_
    refine w_v2rI X dX4_watch_39 k4_73 rfl s_247 (c4_run G hG e c J S r w hI hr1 hr _ (kmX_fz hP0.1.1 hM) _ (jd_all _ hJ).2.2.2 (kcX_c hJ) L9 H9 ok9 b hb hP0.2.1 (by rw [hP0.1.2 r (by omega)]; exact hd5)) (Nat.le_of_ble_eq_true rfl) (fun r39 N39 h39 => ?_)
    refine w_goto (tgt := 46) X dX4_watch_42 (by decide) ?_
    refine w_istore X dX4_watch_46 (by decide) ?_
    exact t48 _ _ (PBX_tr hP0.1 h39)
theorem nI_mp (m p : Nat) : nI m * 3 + nI p = nI (m * 3 + p) := by rw [show (3 : Int32) = nI 3 from rfl, pk_mul, nI_add]
set_option maxRecDepth 100000 in
set_option maxHeartbeats 600000 in
theorem c4_probe (G : gg_) (hG : gd_ G) (e c : Nat) (J : Nat → Nat) (S r w : Nat) (hI : IVX_ G c J S (r + 1) w) (hr1 : 1 ≤ r) (hr : r ≤ 10) (M : mm_) (hM : kmX_ c J S M) (m : Nat) (hm : m < c) (p : Nat) (hp : p ≤ 2) (b : Nat) (hb : b ≤ 20 * (r - 1)) (hh : M.1 247 8 = nI b) (hz : zoX_ (M.1 247 10)) (hd5 : M.1 (249 + r) 5 = nI r) : cm_ G yX4_probe cX4_probe 6 none (e + w + 5) [.ref (G.1 247), .int (nI m), .int (nI p), .ref (G.1 (249 + r))] M (rV_ (fun N => PBX_ r b M N)) := by
  refine cm_of hG (by decide) (Nat.le_of_ble_eq_true rfl) (fun C X => ?_)
  have lp : ∀ (u i : Nat) (N : mm_) (x : Option Value), i + u = 8 → PBX_ r b M N → wq_ C G (qe_ C G (rV_ (fun N => PBX_ r b M N))) 11 [some (.ref (G.1 247)), some (.int (nI m)), some (.int (nI p)), some (.ref (G.1 (249 + r))), some (.int (nI i)), x] [] N := by
    intro u
    induction u with
    | zero =>
      intro i N x hi hP
      refine w_iload X dX4_probe_11 rfl ?_
      refine w_bipush (v := 8) X dX4_probe_13 (by decide) ?_
      refine w_icmp_ge (tgt := 112) X dX4_probe_15 (by decide) (fun h15 => ?_) (fun h15 => absurd (nI_le (a := 8) (b := i) (by omega) (by omega)) h15)
      exact w_vrR X dX4_probe_112 hP
    | succ u ih =>
      intro i N x hi hP
      have hi8 : i < 8 := by omega
      have hJ := (hM.2.2.1.1 i hi8).1
      have hN := kmX_fz hP.1.1 hM
      have hc16 := hM.1.1
      refine w_iload X dX4_probe_11 rfl ?_
      refine w_bipush (v := 8) X dX4_probe_13 (by decide) ?_
      refine w_icmp_ge (tgt := 112) X dX4_probe_15 (by decide) (fun h15 => absurd h15 (nI_ge (a := i) (b := 8) (by omega) (by decide))) (fun h15 => ?_)
      refine w_aload_n X dX4_probe_18 rfl rfl ?_
      refine g4_15 X dX4_probe_19 s_247 rfl ?_
      refine w_iload X dX4_probe_22 rfl ?_
      refine w_v1fR X dX4_probe_24 k4_141 rfl s_133 (c3_at G hG _ _ J S hN.2.2.1 i hi8) (Nat.le_of_ble_eq_true rfl) ?_
      refine w_astore X dX4_probe_27 (by decide) ?_
      refine w_aload X dX4_probe_29 rfl ?_
      refine w_iload_n X dX4_probe_31 rfl rfl ?_
      refine w_v1fI X dX4_probe_32 k4_145 rfl (jd_all _ hJ).1 (c2_sees G hG _ _ _ (jd_all _ hJ) _) (Nat.le_of_ble_eq_true rfl) ?_
      refine w_if_ne (tgt := 41) X dX4_probe_35 (by decide) (fun h35 => ?_) (fun h35 => ?_)
      · refine w_aload X dX4_probe_41 rfl ?_
        refine g4_149 X dX4_probe_43 (jd_all _ hJ).1 rfl ?_
        refine w_iconst (v := 2) X dX4_probe_46 (by decide) ?_
        refine w_icmp_ne (tgt := 68) X dX4_probe_47 (by decide) (fun h47 => ?_) (fun h47 => ?_)
        · refine w_aload X dX4_probe_68 rfl ?_
          refine g4_149 X dX4_probe_70 (jd_all _ hJ).1 rfl ?_
          refine w_iconst (v := 3) X dX4_probe_73 (by decide) ?_
          refine w_icmp_ne (tgt := 89) X dX4_probe_74 (by decide) (fun h74 => ?_) (fun h74 => ?_)
          · refine w_aload X dX4_probe_89 rfl ?_
            refine g4_159 X dX4_probe_91 (jd_all _ hJ).1 rfl ?_
            refine w_iload_n X dX4_probe_94 rfl rfl ?_
            refine w_icmp_ne (tgt := 106) X dX4_probe_95 (by decide) (fun h95 => ?_) (fun h95 => ?_)
            · refine w_iinc (v := 1) X dX4_probe_106 rfl (by decide) (by decide) ?_
              refine w_goto (tgt := 11) X dX4_probe_109 (by decide) ?_
              rw [nI_1]
              exact ih (i + 1) _ _ (by omega) hP
            · refine w_aload_n X dX4_probe_98 rfl rfl ?_
              refine w_iload X dX4_probe_99 rfl ?_
              refine w_iload_n X dX4_probe_101 rfl rfl ?_
              refine w_aload_n X dX4_probe_102 rfl rfl ?_
              refine w_v3rV X dX4_probe_103 k4_162 rfl s_247 (c4_watch G hG e c J S r w hI hr1 hr N hN i hi8 (hN.2.2.2.2.2 i hi8 (see_1 h35) h47 h74) _ b hb hP.2.1 (by rw [hP.1.2 r (by omega)]; exact hd5)) (Nat.le_of_ble_eq_true rfl) (fun N103 h103 => ?_)
              refine w_iinc (v := 1) X dX4_probe_106 rfl (by decide) (by decide) ?_
              refine w_goto (tgt := 11) X dX4_probe_109 (by decide) ?_
              rw [nI_1]
              exact ih (i + 1) _ _ (by omega) (PBX_tr hP.1 h103)
          · refine w_aload_n X dX4_probe_77 rfl rfl ?_
            refine w_iload X dX4_probe_78 rfl ?_
            refine w_iload_n X dX4_probe_80 rfl rfl ?_
            refine w_iload_n X dX4_probe_81 rfl rfl ?_
            refine w_aload_n X dX4_probe_82 rfl rfl ?_
            refine w_v4fV X dX4_probe_83 k4_155 rfl s_247 (c4_keep G hG _ _ r (by omega) _ _ _) (Nat.le_of_ble_eq_true rfl) ?_
            refine w_goto (tgt := 106) X dX4_probe_86 (by decide) ?_
            refine w_iinc (v := 1) X dX4_probe_106 rfl (by decide) (by decide) ?_
            refine w_goto (tgt := 11) X dX4_probe_109 (by decide) ?_
            rw [nI_1]
            exact ih (i + 1) _ _ (by omega) ⟨fyX_tr hP.1 (fyX_ke hN.1 hm), by rw [keX_o (by omega) (by omega)]; exact hP.2.1, by rw [keX_o (by omega) (by omega)]; exact hP.2.2⟩
        · refine w_aload X dX4_probe_50 rfl ?_
          refine g4_152 X dX4_probe_52 (jd_all _ hJ).1 rfl ?_
          refine w_iload_n X dX4_probe_55 rfl rfl ?_
          refine w_iconst (v := 3) X dX4_probe_56 (by decide) ?_
          refine w_imul X dX4_probe_57 ?_
          refine w_iload_n X dX4_probe_58 rfl rfl ?_
          refine w_iadd X dX4_probe_59 ?_
          refine w_dup2 X dX4_probe_60 rfl rfl ?_
          rw [nI_mp]
          refine w_ialoadN X dX4_probe_61 (jd_all _ hJ).2.1 rfl (⟨by omega, by decide⟩) ?_
          refine w_iconst (v := 1) X dX4_probe_62 (by decide) ?_
          refine w_iadd X dX4_probe_63 ?_
          try rw [nI_mp]
          refine w_iastoreN X dX4_probe_64 (jd_all _ hJ).2.1 rfl (⟨by omega, by decide⟩) ?_
          refine w_goto (tgt := 106) X dX4_probe_65 (by decide) ?_
          refine w_iinc (v := 1) X dX4_probe_106 rfl (by decide) (by decide) ?_
          refine w_goto (tgt := 11) X dX4_probe_109 (by decide) ?_
          rw [nI_1]
          exact ih (i + 1) _ _ (by omega) ⟨fyX_tr hP.1 (fyX_11 hJ), by rw [gI_sI, if_neg (by omega)]; exact hP.2.1, by rw [gI_sI, if_neg (by omega)]; exact hP.2.2⟩
      · refine w_goto (tgt := 106) X dX4_probe_38 (by decide) ?_
        refine w_iinc (v := 1) X dX4_probe_106 rfl (by decide) (by decide) ?_
        refine w_goto (tgt := 11) X dX4_probe_109 (by decide) ?_
        rw [nI_1]
        exact ih (i + 1) _ _ (by omega) hP
  refine w_aload_n X dX4_probe_0 rfl rfl ?_
  refine g4_37 X dX4_probe_1 s_247 rfl ?_
  refine w_if_ne (tgt := 8) X dX4_probe_4 (by decide) (fun h4 => ?_) (fun h4 => ?_)
  · refine w_iconst (v := 0) X dX4_probe_8 (by decide) ?_
    refine w_istore X dX4_probe_9 (by decide) ?_
    exact lp 8 0 M _ (by omega) ⟨fyX_rf, hh, hz⟩
  · exact w_vrR X dX4_probe_7 ⟨fyX_rf, hh, hz⟩
