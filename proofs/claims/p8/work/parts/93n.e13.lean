/-! Machine: watch and probe, exactly -/
/-- a record more: job K of number j, method m, value v -/
def reX_ (N : mm_) (K r : Nat) (j m v : Int32) : mm_ := if rF_ (cre_ N K) 243 = 0 then rE_ (rP_ (rP_ (rP_ (rP_ (rP_ (cre_ N K) 243 1500 0 j) 243 1500 1 m) 243 1500 2 v) 243 1500 3 (if N.1 247 10 = 0 then 0 else 1)) 243 1500 4 (N.1 (249 + r) 5)) 243 else cre_ N K
/-- behind the condition: the value v -/
def WGX_ (G : gg_) (d r K : Nat) (j m : Int32) (Q : mm_ → Prop) (v : Int32) (N : mm_) : Prop :=
  (v = 0 → N.1 247 10 = 0 → Q N) ∧ (¬ N.1 247 10 = 0 → Q (reX_ N K r j m v)) ∧
  (¬ v = 0 → N.1 247 10 = 0 → ∃ QE : Int32 → mm_ → Prop, cm_ G yX4_run cX4_run 7 (some .int) (d + 3) [.ref (G.1 247), .ref (G.1 (K + 1)), .ref (G.1 (249 + r))] N (rI_ QE) ∧ ∀ v2 N2, QE v2 N2 → Q (reX_ N2 K r j m v2))
set_option maxRecDepth 100000 in
set_option maxHeartbeats 600000 in
theorem c4_watchE (G : gg_) (hG : gd_ G) (d r : Nat) (hr : r ≤ 10) (M : mm_) (J : Nat → Nat) (S : Nat) (hq : jq_ M J S) (j : Nat) (hj : j < 8) (m : Int32) (Q : mm_ → Prop) (h1 : M.1 (135 + 12 * J j) 5 = 0 → WGX_ G d r (135 + 12 * J j) (nI j) m Q 1 (sI_ (sI_ M (249 + r) 6 (M.1 (135 + 12 * J j) 7)) 247 10 0)) (h2 : ¬ M.1 (135 + 12 * J j) 5 = 0 → ∃ QC : Int32 → mm_ → Prop, cm_ G yX4_run cX4_run 7 (some .int) (d + 3) [.ref (G.1 247), .ref (G.1 ((135 + 12 * J j) + 6)), .ref (G.1 (249 + r))] (sI_ (sI_ M (249 + r) 6 (M.1 (135 + 12 * J j) 7)) 247 10 0) (rI_ QC) ∧ ∀ v N, QC v N → WGX_ G d r (135 + 12 * J j) (nI j) m Q v N) : cm_ G yX4_watch cX4_watch 6 none (d + 4) [.ref (G.1 247), .int (nI j), .int m, .ref (G.1 (249 + r))] M (rV_ Q) := by
  refine cm_of hG (by decide) (Nat.le_of_ble_eq_true rfl) (fun C X => ?_)
  have hJ := (hq.1 j hj).1
  have t80 : ∀ (v : Int32) (N : mm_), Q (reX_ N (135 + 12 * J j) r (nI j) m v) → wq_ C G (qe_ C G (rV_ Q)) 80 [some (.ref (G.1 247)), some (.int (nI j)), some (.int m), some (.ref (G.1 (249 + r))), some (.ref (G.1 (135 + 12 * J j))), some (.int v)] [] N := by
    intro v N hQ
    refine w_aload X dX4_watch_80 rfl ?_
    refine w_v0fV X dX4_watch_82 k4_178 rfl (jd_all _ hJ).1 (c2_countRecord G hG _ _ _ (jd_all _ hJ)) (Nat.le_of_ble_eq_true rfl) ?_
    refine w_aload_n X dX4_watch_85 rfl rfl ?_
    refine g4_19 X dX4_watch_86 s_247 rfl ?_
    refine w_v0fI X dX4_watch_89 k4_181 rfl s_243 (c8_isFull G hG _ _ 243 1500 rw_rec) (Nat.le_of_ble_eq_true rfl) ?_
    refine w_if_eq (tgt := 96) X dX4_watch_92 (by decide) (fun h92 => ?_) (fun h92 => ?_)
    · refine w_aload_n X dX4_watch_96 rfl rfl ?_
      refine g4_19 X dX4_watch_97 s_247 rfl ?_
      refine w_iconst (v := 0) X dX4_watch_100 (by decide) ?_
      refine w_iload_n X dX4_watch_101 rfl rfl ?_
      refine w_v2fV X dX4_watch_102 k4_187 rfl s_243 (c8_put G hG _ _ 243 1500 rw_rec _ _) (Nat.le_of_ble_eq_true rfl) ?_
      refine w_aload_n X dX4_watch_105 rfl rfl ?_
      refine g4_19 X dX4_watch_106 s_247 rfl ?_
      refine w_iconst (v := 1) X dX4_watch_109 (by decide) ?_
      refine w_iload_n X dX4_watch_110 rfl rfl ?_
      refine w_v2fV X dX4_watch_111 k4_187 rfl s_243 (c8_put G hG _ _ 243 1500 rw_rec _ _) (Nat.le_of_ble_eq_true rfl) ?_
      refine w_aload_n X dX4_watch_114 rfl rfl ?_
      refine g4_19 X dX4_watch_115 s_247 rfl ?_
      refine w_iconst (v := 2) X dX4_watch_118 (by decide) ?_
      refine w_iload X dX4_watch_119 rfl ?_
      refine w_v2fV X dX4_watch_121 k4_187 rfl s_243 (c8_put G hG _ _ 243 1500 rw_rec _ _) (Nat.le_of_ble_eq_true rfl) ?_
      refine w_aload_n X dX4_watch_124 rfl rfl ?_
      refine g4_19 X dX4_watch_125 s_247 rfl ?_
      refine w_iconst (v := 3) X dX4_watch_128 (by decide) ?_
      refine w_aload_n X dX4_watch_129 rfl rfl ?_
      refine g4_58 X dX4_watch_130 s_247 rfl ?_
      rw [rP_o (by decide), rP_o (by decide), rP_o (by decide), cre_m hJ (by decide)]
      refine w_if_eq (tgt := 140) X dX4_watch_133 (by decide) (fun h133 => ?_) (fun h133 => ?_)
      · refine w_iconst (v := 0) X dX4_watch_140 (by decide) ?_
        refine w_v2fV X dX4_watch_141 k4_187 rfl s_243 (c8_put G hG _ _ 243 1500 rw_rec _ _) (Nat.le_of_ble_eq_true rfl) ?_
        refine w_aload_n X dX4_watch_144 rfl rfl ?_
        refine g4_19 X dX4_watch_145 s_247 rfl ?_
        refine w_iconst (v := 4) X dX4_watch_148 (by decide) ?_
        refine w_aload_n X dX4_watch_149 rfl rfl ?_
        refine w_iconst (v := 5) X dX4_watch_150 (by decide) ?_
        refine w_ialoadN X dX4_watch_151 (vr_row r (by omega)) rfl (⟨by decide, by decide⟩) ?_
        rw [rP_o (by omega), rP_o (by omega), rP_o (by omega), rP_o (by omega), cre_m hJ (by omega)]
        refine w_v2fV X dX4_watch_152 k4_187 rfl s_243 (c8_put G hG _ _ 243 1500 rw_rec _ _) (Nat.le_of_ble_eq_true rfl) ?_
        refine w_aload_n X dX4_watch_155 rfl rfl ?_
        refine g4_19 X dX4_watch_156 s_247 rfl ?_
        refine w_v0fV X dX4_watch_159 k4_191 rfl s_243 (c8_endRow G hG _ _ 243 1500 rw_rec) (Nat.le_of_ble_eq_true rfl) ?_
        refine w_vrR X dX4_watch_162 ?_
        unfold reX_ at hQ
        rw [if_pos h92, if_pos h133] at hQ
        exact hQ
      · refine w_iconst (v := 1) X dX4_watch_136 (by decide) ?_
        refine w_goto (tgt := 141) X dX4_watch_137 (by decide) ?_
        refine w_v2fV X dX4_watch_141 k4_187 rfl s_243 (c8_put G hG _ _ 243 1500 rw_rec _ _) (Nat.le_of_ble_eq_true rfl) ?_
        refine w_aload_n X dX4_watch_144 rfl rfl ?_
        refine g4_19 X dX4_watch_145 s_247 rfl ?_
        refine w_iconst (v := 4) X dX4_watch_148 (by decide) ?_
        refine w_aload_n X dX4_watch_149 rfl rfl ?_
        refine w_iconst (v := 5) X dX4_watch_150 (by decide) ?_
        refine w_ialoadN X dX4_watch_151 (vr_row r (by omega)) rfl (⟨by decide, by decide⟩) ?_
        rw [rP_o (by omega), rP_o (by omega), rP_o (by omega), rP_o (by omega), cre_m hJ (by omega)]
        refine w_v2fV X dX4_watch_152 k4_187 rfl s_243 (c8_put G hG _ _ 243 1500 rw_rec _ _) (Nat.le_of_ble_eq_true rfl) ?_
        refine w_aload_n X dX4_watch_155 rfl rfl ?_
        refine g4_19 X dX4_watch_156 s_247 rfl ?_
        refine w_v0fV X dX4_watch_159 k4_191 rfl s_243 (c8_endRow G hG _ _ 243 1500 rw_rec) (Nat.le_of_ble_eq_true rfl) ?_
        refine w_vrR X dX4_watch_162 ?_
        unfold reX_ at hQ
        rw [if_pos h92, if_neg h133] at hQ
        exact hQ
    · refine w_vrR X dX4_watch_95 ?_
      unfold reX_ at hQ
      rw [if_neg h92] at hQ
      exact hQ
  have t48 : ∀ (v : Int32) (N : mm_), WGX_ G d r (135 + 12 * J j) (nI j) m Q v N → wq_ C G (qe_ C G (rV_ Q)) 48 [some (.ref (G.1 247)), some (.int (nI j)), some (.int m), some (.ref (G.1 (249 + r))), some (.ref (G.1 (135 + 12 * J j))), some (.int v)] [] N := by
    intro v N hW
    refine w_iload X dX4_watch_48 rfl ?_
    refine w_if_ne (tgt := 61) X dX4_watch_50 (by decide) (fun h50 => ?_) (fun h50 => ?_)
    · refine w_aload_n X dX4_watch_61 rfl rfl ?_
      refine g4_58 X dX4_watch_62 s_247 rfl ?_
      refine w_if_ne (tgt := 80) X dX4_watch_65 (by decide) (fun h65 => ?_) (fun h65 => ?_)
      · exact t80 _ _ (hW.2.1 h65)
      · obtain ⟨QE, hE1, hE2⟩ := hW.2.2 h50 h65
        refine w_aload_n X dX4_watch_68 rfl rfl ?_
        refine w_aload X dX4_watch_69 rfl ?_
        refine g4_175 X dX4_watch_71 (jd_all _ hJ).1 rfl ?_
        refine w_aload_n X dX4_watch_74 rfl rfl ?_
        refine w_v2rI X dX4_watch_75 k4_73 rfl s_247 (hE1) (Nat.le_of_ble_eq_true rfl) (fun r75 N75 h75 => ?_)
        refine w_istore X dX4_watch_78 (by decide) ?_
        exact t80 _ _ (hE2 _ _ h75)
    · refine w_aload_n X dX4_watch_53 rfl rfl ?_
      refine g4_58 X dX4_watch_54 s_247 rfl ?_
      refine w_if_ne (tgt := 61) X dX4_watch_57 (by decide) (fun h57 => ?_) (fun h57 => ?_)
      · refine w_aload_n X dX4_watch_61 rfl rfl ?_
        refine g4_58 X dX4_watch_62 s_247 rfl ?_
        refine w_if_ne (tgt := 80) X dX4_watch_65 (by decide) (fun h65 => ?_) (fun h65 => absurd h65 h57)
        exact t80 _ _ (hW.2.1 h65)
      · exact w_vrR X dX4_watch_60 (hW.1 h50 h57)
  refine w_aload_n X dX4_watch_0 rfl rfl ?_
  refine g4_15 X dX4_watch_1 s_247 rfl ?_
  refine w_iload_n X dX4_watch_4 rfl rfl ?_
  refine w_v1fR X dX4_watch_5 k4_141 rfl s_133 (c3_at G hG _ _ J S hq j hj) (Nat.le_of_ble_eq_true rfl) ?_
  refine w_astore X dX4_watch_8 (by decide) ?_
  refine w_aload_n X dX4_watch_10 rfl rfl ?_
  refine w_bipush (v := 6) X dX4_watch_11 (by decide) ?_
  refine w_aload X dX4_watch_13 rfl ?_
  refine g4_165 X dX4_watch_15 (jd_all _ hJ).1 rfl ?_
  refine w_iastoreN X dX4_watch_18 (vr_row r (by omega)) rfl (⟨by decide, by decide⟩) ?_
  refine w_aload_n X dX4_watch_19 rfl rfl ?_
  refine w_iconst (v := 0) X dX4_watch_20 (by decide) ?_
  refine p4_58 X dX4_watch_21 s_247 rfl (by first | exact Or.inl rfl | exact Or.inr rfl | assumption) ?_
  refine w_aload X dX4_watch_24 rfl ?_
  refine g4_168 X dX4_watch_26 (jd_all _ hJ).1 rfl ?_
  rw [gI_sI, if_neg (by omega), gI_sI, if_neg (by omega)]
  refine w_if_eq (tgt := 45) X dX4_watch_29 (by decide) (fun h29 => ?_) (fun h29 => ?_)
  · refine w_iconst (v := 1) X dX4_watch_45 (by decide) ?_
    refine w_istore X dX4_watch_46 (by decide) ?_
    exact t48 _ _ (h1 h29)
  · obtain ⟨QC, hC1, hC2⟩ := h2 h29
    refine w_aload_n X dX4_watch_32 rfl rfl ?_
    refine w_aload X dX4_watch_33 rfl ?_
    refine g4_171 X dX4_watch_35 (jd_all _ hJ).1 rfl ?_
    refine w_aload_n X dX4_watch_38 rfl rfl ?_
    refine w_v2rI X dX4_watch_39 k4_73 rfl s_247 (hC1) (Nat.le_of_ble_eq_true rfl) (fun r39 N39 h39 => ?_)
    refine w_goto (tgt := 46) X dX4_watch_42 (by decide) ?_
    refine w_istore X dX4_watch_46 (by decide) ?_
    exact t48 _ _ (hC2 _ _ h39)
/-- probes from job i on -/
def PWX_ (G : gg_) (d : Nat) (J : Nat → Nat) (S r m p : Nat) (Q : mm_ → Prop) : Nat → Nat → mm_ → Prop
  | 0, _, N => Q N
  | u + 1, i, N => jq_ N J S ∧ (see_ N (135 + 12 * J i) (nI m) = 0 → PWX_ G d J S r m p Q u (i + 1) N) ∧ (¬ see_ N (135 + 12 * J i) (nI m) = 0 →
    (N.1 (135 + 12 * J i) 0 = 2 → PWX_ G d J S r m p Q u (i + 1) (sI_ N (135 + 12 * J i + 11) (m * 3 + p) (N.1 (135 + 12 * J i + 11) (m * 3 + p) + 1))) ∧
    (¬ N.1 (135 + 12 * J i) 0 = 2 → N.1 (135 + 12 * J i) 0 = 3 → PWX_ G d J S r m p Q u (i + 1) (keX_ N (249 + r) (nI i) (nI m) (nI p))) ∧
    (¬ N.1 (135 + 12 * J i) 0 = 2 → ¬ N.1 (135 + 12 * J i) 0 = 3 → (¬ N.1 (135 + 12 * J i) 1 = nI p → PWX_ G d J S r m p Q u (i + 1) N) ∧
      (N.1 (135 + 12 * J i) 1 = nI p → ∃ QW : mm_ → Prop, cm_ G yX4_watch cX4_watch 6 none (d + 4) [.ref (G.1 247), .int (nI i), .int (nI m), .ref (G.1 (249 + r))] N (rV_ QW) ∧ ∀ N2, QW N2 → PWX_ G d J S r m p Q u (i + 1) N2)))
set_option maxRecDepth 100000 in
set_option maxHeartbeats 600000 in
theorem c4_probeE (G : gg_) (hG : gd_ G) (d r : Nat) (hr : r ≤ 10) (M : mm_) (J : Nat → Nat) (S : Nat) (m : Nat) (hm : m < 16) (p : Nat) (hp : p ≤ 2) (Q : mm_ → Prop) (h1 : M.1 247 9 = 0 → Q M) (h2 : ¬ M.1 247 9 = 0 → PWX_ G d J S r m p Q 8 0 M) : cm_ G yX4_probe cX4_probe 6 none (d + 5) [.ref (G.1 247), .int (nI m), .int (nI p), .ref (G.1 (249 + r))] M (rV_ Q) := by
  refine cm_of hG (by decide) (Nat.le_of_ble_eq_true rfl) (fun C X => ?_)
  have lp : ∀ (u i : Nat) (N : mm_) (x : Option Value), i + u = 8 → PWX_ G d J S r m p Q u i N → wq_ C G (qe_ C G (rV_ Q)) 11 [some (.ref (G.1 247)), some (.int (nI m)), some (.int (nI p)), some (.ref (G.1 (249 + r))), some (.int (nI i)), x] [] N := by
    intro u
    induction u with
    | zero =>
      intro i N x hi hP
      refine w_iload X dX4_probe_11 rfl ?_
      refine w_bipush (v := 8) X dX4_probe_13 (by decide) ?_
      refine w_icmp_ge (tgt := 112) X dX4_probe_15 (by decide) (fun h15 => ?_) (fun h15 => absurd (nI_le (a := 8) (b := i) (by omega) (by omega)) h15)
      exact w_vrR X dX4_probe_112 hP
    | succ u ih =>
      intro i N x hi hP
      have hi8 : i < 8 := by omega
      obtain ⟨hqN, hP1, hP2⟩ := hP
      have hJ := (hqN.1 i hi8).1
      refine w_iload X dX4_probe_11 rfl ?_
      refine w_bipush (v := 8) X dX4_probe_13 (by decide) ?_
      refine w_icmp_ge (tgt := 112) X dX4_probe_15 (by decide) (fun h15 => absurd h15 (nI_ge (a := i) (b := 8) (by omega) (by decide))) (fun h15 => ?_)
      refine w_aload_n X dX4_probe_18 rfl rfl ?_
      refine g4_15 X dX4_probe_19 s_247 rfl ?_
      refine w_iload X dX4_probe_22 rfl ?_
      refine w_v1fR X dX4_probe_24 k4_141 rfl s_133 (c3_at G hG _ _ J S hqN i hi8) (Nat.le_of_ble_eq_true rfl) ?_
      refine w_astore X dX4_probe_27 (by decide) ?_
      refine w_aload X dX4_probe_29 rfl ?_
      refine w_iload_n X dX4_probe_31 rfl rfl ?_
      refine w_v1fI X dX4_probe_32 k4_145 rfl (jd_all _ hJ).1 (c2_sees G hG _ _ _ (jd_all _ hJ) _) (Nat.le_of_ble_eq_true rfl) ?_
      refine w_if_ne (tgt := 41) X dX4_probe_35 (by decide) (fun h35 => ?_) (fun h35 => ?_)
      · refine w_aload X dX4_probe_41 rfl ?_
        refine g4_149 X dX4_probe_43 (jd_all _ hJ).1 rfl ?_
        refine w_iconst (v := 2) X dX4_probe_46 (by decide) ?_
        refine w_icmp_ne (tgt := 68) X dX4_probe_47 (by decide) (fun h47 => ?_) (fun h47 => ?_)
        · refine w_aload X dX4_probe_68 rfl ?_
          refine g4_149 X dX4_probe_70 (jd_all _ hJ).1 rfl ?_
          refine w_iconst (v := 3) X dX4_probe_73 (by decide) ?_
          refine w_icmp_ne (tgt := 89) X dX4_probe_74 (by decide) (fun h74 => ?_) (fun h74 => ?_)
          · refine w_aload X dX4_probe_89 rfl ?_
            refine g4_159 X dX4_probe_91 (jd_all _ hJ).1 rfl ?_
            refine w_iload_n X dX4_probe_94 rfl rfl ?_
            refine w_icmp_ne (tgt := 106) X dX4_probe_95 (by decide) (fun h95 => ?_) (fun h95 => ?_)
            · refine w_iinc (v := 1) X dX4_probe_106 rfl (by decide) (by decide) ?_
              refine w_goto (tgt := 11) X dX4_probe_109 (by decide) ?_
              rw [nI_1]
              exact ih (i + 1) _ _ (by omega) (((hP2 h35).2.2 h47 h74).1 h95)
            · obtain ⟨QW, hw1, hw2⟩ := ((hP2 h35).2.2 h47 h74).2 h95
              refine w_aload_n X dX4_probe_98 rfl rfl ?_
              refine w_iload X dX4_probe_99 rfl ?_
              refine w_iload_n X dX4_probe_101 rfl rfl ?_
              refine w_aload_n X dX4_probe_102 rfl rfl ?_
              refine w_v3rV X dX4_probe_103 k4_162 rfl s_247 (hw1) (Nat.le_of_ble_eq_true rfl) (fun N103 h103 => ?_)
              refine w_iinc (v := 1) X dX4_probe_106 rfl (by decide) (by decide) ?_
              refine w_goto (tgt := 11) X dX4_probe_109 (by decide) ?_
              rw [nI_1]
              exact ih (i + 1) _ _ (by omega) (hw2 _ h103)
          · refine w_aload_n X dX4_probe_77 rfl rfl ?_
            refine w_iload X dX4_probe_78 rfl ?_
            refine w_iload_n X dX4_probe_80 rfl rfl ?_
            refine w_iload_n X dX4_probe_81 rfl rfl ?_
            refine w_aload_n X dX4_probe_82 rfl rfl ?_
            refine w_v4fV X dX4_probe_83 k4_155 rfl s_247 (c4_keep G hG _ _ r (by omega) _ _ _) (Nat.le_of_ble_eq_true rfl) ?_
            refine w_goto (tgt := 106) X dX4_probe_86 (by decide) ?_
            refine w_iinc (v := 1) X dX4_probe_106 rfl (by decide) (by decide) ?_
            refine w_goto (tgt := 11) X dX4_probe_109 (by decide) ?_
            rw [nI_1]
            exact ih (i + 1) _ _ (by omega) ((hP2 h35).2.1 h47 h74)
        · refine w_aload X dX4_probe_50 rfl ?_
          refine g4_152 X dX4_probe_52 (jd_all _ hJ).1 rfl ?_
          refine w_iload_n X dX4_probe_55 rfl rfl ?_
          refine w_iconst (v := 3) X dX4_probe_56 (by decide) ?_
          refine w_imul X dX4_probe_57 ?_
          refine w_iload_n X dX4_probe_58 rfl rfl ?_
          refine w_iadd X dX4_probe_59 ?_
          refine w_dup2 X dX4_probe_60 rfl rfl ?_
          rw [nI_mp]
          refine w_ialoadN X dX4_probe_61 (jd_all _ hJ).2.1 rfl (⟨by omega, by decide⟩) ?_
          refine w_iconst (v := 1) X dX4_probe_62 (by decide) ?_
          refine w_iadd X dX4_probe_63 ?_
          try rw [nI_mp]
          refine w_iastoreN X dX4_probe_64 (jd_all _ hJ).2.1 rfl (⟨by omega, by decide⟩) ?_
          refine w_goto (tgt := 106) X dX4_probe_65 (by decide) ?_
          refine w_iinc (v := 1) X dX4_probe_106 rfl (by decide) (by decide) ?_
          refine w_goto (tgt := 11) X dX4_probe_109 (by decide) ?_
          rw [nI_1]
          exact ih (i + 1) _ _ (by omega) ((hP2 h35).1 h47)
      · refine w_goto (tgt := 106) X dX4_probe_38 (by decide) ?_
        refine w_iinc (v := 1) X dX4_probe_106 rfl (by decide) (by decide) ?_
        refine w_goto (tgt := 11) X dX4_probe_109 (by decide) ?_
        rw [nI_1]
        exact ih (i + 1) _ _ (by omega) (hP1 h35)
  refine w_aload_n X dX4_probe_0 rfl rfl ?_
  refine g4_37 X dX4_probe_1 s_247 rfl ?_
  refine w_if_ne (tgt := 8) X dX4_probe_4 (by decide) (fun h4 => ?_) (fun h4 => ?_)
  · refine w_iconst (v := 0) X dX4_probe_8 (by decide) ?_
    refine w_istore X dX4_probe_9 (by decide) ?_
    exact lp 8 0 M _ (by omega) (h2 h4)
  · exact w_vrR X dX4_probe_7 (h1 h4)
