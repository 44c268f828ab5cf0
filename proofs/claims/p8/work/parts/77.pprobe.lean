/-! the reference: probe -/
set_option maxRecDepth 100000 in
set_option maxHeartbeats 4000000 in
theorem c12_probe (G : gg_) (hG : gd_ G) (d : Nat) (M : mm_) (hk : ckR_ M) (hjb : jbR_ M) (c : Nat) (hc : M.1 0 9 = nI c) (hc16 : c ≤ 16) (q : Nat) (hq : q ≤ 10) (m : Nat) (hm : m < c) (h23 : M.1 23 q = nI m) (pt : Nat) (hpt : pt ≤ 2) (v : Int32) : cm_ G yX12_probe cX12_probe 6 none (d + 3) [.ref (G.1 0), .int (nI q), .int (nI pt), .int v] M (rV_ (fbR_ M)) := by
  refine cm_of hG (by decide) (Nat.le_of_ble_eq_true rfl) (fun C X => ?_)
  have lp : ∀ (u j : Nat) (N : mm_) (x : Option Value), j + u = 8 → fbR_ M N → wq_ C G (qe_ C G (rV_ (fbR_ M))) 3 [some (.ref (G.1 0)), some (.int (nI q)), some (.int (nI pt)), some (.int v), some (.int (nI j)), x] [] N := by
    intro u
    induction u with
    | zero =>
      intro j N x hu hF
      refine w_iload X dX12_probe_3 rfl ?_
      refine w_bipush (v := 8) X dX12_probe_5 (by decide) ?_
      refine w_icmp_ge (tgt := 215) X dX12_probe_7 (by decide) (fun h7 => ?_) (fun h7 => absurd (nI_le (a := 8) (b := j) (by omega) (by omega)) h7)
      exact w_vrR X dX12_probe_215 hF
    | succ u ih =>
      intro j N x hu hF
      have hj : j < 8 := by omega
      have t209 : ∀ (A : mm_) (y : Option Value), fbR_ M A → wq_ C G (qe_ C G (rV_ (fbR_ M))) 209 [some (.ref (G.1 0)), some (.int (nI q)), some (.int (nI pt)), some (.int v), some (.int (nI j)), y] [] A := by
        intro A y hA
        refine w_iinc (v := 1) X dX12_probe_209 rfl (by decide) (by decide) ?_
        refine w_goto (tgt := 3) X dX12_probe_212 (by decide) ?_
        rw [nI_1]
        exact ih (j + 1) A _ (by omega) hA
      have t114 : ∀ (A : mm_) (y : Option Value), fbR_ M A → wq_ C G (qe_ C G (rV_ (fbR_ M))) 114 [some (.ref (G.1 0)), some (.int (nI q)), some (.int (nI pt)), some (.int v), some (.int (nI j)), y] [] A := by
        intro A y hA
        have hjA := jbR_fb hA hjb j hj
        have hkA := hA.2.2.2 hk
        have h23A : A.1 23 q = nI m := by rw [fb_at hA (by omega)]; exact h23
        have h9A : A.1 0 9 = nI c := by rw [fb_at hA (by omega)]; exact hc
        refine w_aload_n X dX12_probe_114 rfl rfl ?_
        refine g12_kinds X dX12_probe_115 ?_
        refine w_iload X dX12_probe_118 rfl ?_
        refine w_ialoadN X dX12_probe_120 rfl rfl (⟨by omega, by decide⟩) ?_
        refine w_iconst (v := 1) X dX12_probe_121 (by decide) ?_
        refine w_icmp_ne (tgt := 146) X dX12_probe_122 (by decide) (fun h122 => ?_) (fun h122 => ?_)
        · refine w_aload_n X dX12_probe_146 rfl rfl ?_
          refine g12_kinds X dX12_probe_147 ?_
          refine w_iload X dX12_probe_150 rfl ?_
          refine w_ialoadN X dX12_probe_152 rfl rfl (⟨by omega, by decide⟩) ?_
          refine w_iconst (v := 2) X dX12_probe_153 (by decide) ?_
          refine w_icmp_ne (tgt := 185) X dX12_probe_154 (by decide) (fun h154 => ?_) (fun h154 => ?_)
          · refine w_aload_n X dX12_probe_185 rfl rfl ?_
            refine g12_kinds X dX12_probe_186 ?_
            refine w_iload X dX12_probe_189 rfl ?_
            refine w_ialoadN X dX12_probe_191 rfl rfl (⟨by omega, by decide⟩) ?_
            refine w_iconst (v := 3) X dX12_probe_192 (by decide) ?_
            refine w_icmp_ne (tgt := 209) X dX12_probe_193 (by decide) (fun h193 => ?_) (fun h193 => ?_)
            · exact t209 _ _ hA
            · obtain ⟨-, c2, z, b1, b2, hz2, hz, b5⟩ := hkA
              refine w_iload_n X dX12_probe_196 rfl rfl ?_
              refine w_if_le (tgt := 209) X dX12_probe_197 (by decide) (fun h197 => ?_) (fun h197 => ?_)
              · exact t209 _ _ hA
              · refine w_aload_n X dX12_probe_200 rfl rfl ?_
                refine w_iload X dX12_probe_201 rfl ?_
                refine w_iload_n X dX12_probe_203 rfl rfl ?_
                refine w_iload_n X dX12_probe_204 rfl rfl ?_
                refine w_iload_n X dX12_probe_205 rfl rfl ?_
                refine w_v4fV X dX12_probe_206 k12_keepOne rfl rfl (c12_keepOne G hG _ _ z q hz hz2 hq _ _ _) (Nat.le_of_ble_eq_true rfl) ?_
                exact t209 _ _ (fbR_tr hA (fbR_ko hz hz2 h23A (fun c9 e9 e8 => by obtain rfl : c9 = c := (nI_eq (by omega) (by omega)).mp (e9.symm.trans h9A); exact hm)))
          · refine w_aload_n X dX12_probe_157 rfl rfl ?_
            refine g12_counts X dX12_probe_158 ?_
            refine w_bipush (v := 48) X dX12_probe_161 (by decide) ?_
            refine w_iload X dX12_probe_163 rfl ?_
            refine w_imul X dX12_probe_165 ?_
            refine w_iconst (v := 3) X dX12_probe_166 (by decide) ?_
            refine w_aload_n X dX12_probe_167 rfl rfl ?_
            refine g12_runMethods X dX12_probe_168 ?_
            refine w_iload_n X dX12_probe_171 rfl rfl ?_
            refine w_ialoadN X dX12_probe_172 rfl rfl (⟨by omega, by decide⟩) ?_
            rw [h23A]
            refine w_imul X dX12_probe_173 ?_
            refine w_iadd X dX12_probe_174 ?_
            refine w_iload_n X dX12_probe_175 rfl rfl ?_
            refine w_iadd X dX12_probe_176 ?_
            rw [nI_m3]
            refine w_dup2 X dX12_probe_177 rfl rfl ?_
            refine w_ialoadN X dX12_probe_178 rfl rfl (⟨by omega, by decide⟩) ?_
            refine w_iconst (v := 1) X dX12_probe_179 (by decide) ?_
            refine w_iadd X dX12_probe_180 ?_
            refine w_iastoreN X dX12_probe_181 rfl rfl (⟨by omega, by decide⟩) ?_
            refine w_goto (tgt := 209) X dX12_probe_182 (by decide) ?_
            exact t209 _ _ (fbR_tr hA (fbR_I (by omega)))
        · refine w_aload_n X dX12_probe_125 rfl rfl ?_
          refine g12_points X dX12_probe_126 ?_
          refine w_iload X dX12_probe_129 rfl ?_
          refine w_ialoadN X dX12_probe_131 rfl rfl (⟨by omega, by decide⟩) ?_
          refine w_iload_n X dX12_probe_132 rfl rfl ?_
          refine w_icmp_ne (tgt := 146) X dX12_probe_133 (by decide) (fun h133 => ?_) (fun h133 => ?_)
          · refine w_aload_n X dX12_probe_146 rfl rfl ?_
            refine g12_kinds X dX12_probe_147 ?_
            refine w_iload X dX12_probe_150 rfl ?_
            refine w_ialoadN X dX12_probe_152 rfl rfl (⟨by omega, by decide⟩) ?_
            refine w_iconst (v := 2) X dX12_probe_153 (by decide) ?_
            refine w_icmp_ne (tgt := 185) X dX12_probe_154 (by decide) (fun h154 => ?_) (fun h154 => ?_)
            · refine w_aload_n X dX12_probe_185 rfl rfl ?_
              refine g12_kinds X dX12_probe_186 ?_
              refine w_iload X dX12_probe_189 rfl ?_
              refine w_ialoadN X dX12_probe_191 rfl rfl (⟨by omega, by decide⟩) ?_
              refine w_iconst (v := 3) X dX12_probe_192 (by decide) ?_
              refine w_icmp_ne (tgt := 209) X dX12_probe_193 (by decide) (fun h193 => ?_) (fun h193 => ?_)
              · exact t209 _ _ hA
              · obtain ⟨-, c2, z, b1, b2, hz2, hz, b5⟩ := hkA
                refine w_iload_n X dX12_probe_196 rfl rfl ?_
                refine w_if_le (tgt := 209) X dX12_probe_197 (by decide) (fun h197 => ?_) (fun h197 => ?_)
                · exact t209 _ _ hA
                · refine w_aload_n X dX12_probe_200 rfl rfl ?_
                  refine w_iload X dX12_probe_201 rfl ?_
                  refine w_iload_n X dX12_probe_203 rfl rfl ?_
                  refine w_iload_n X dX12_probe_204 rfl rfl ?_
                  refine w_iload_n X dX12_probe_205 rfl rfl ?_
                  refine w_v4fV X dX12_probe_206 k12_keepOne rfl rfl (c12_keepOne G hG _ _ z q hz hz2 hq _ _ _) (Nat.le_of_ble_eq_true rfl) ?_
                  exact t209 _ _ (fbR_tr hA (fbR_ko hz hz2 h23A (fun c9 e9 e8 => by obtain rfl : c9 = c := (nI_eq (by omega) (by omega)).mp (e9.symm.trans h9A); exact hm)))
            · refine w_aload_n X dX12_probe_157 rfl rfl ?_
              refine g12_counts X dX12_probe_158 ?_
              refine w_bipush (v := 48) X dX12_probe_161 (by decide) ?_
              refine w_iload X dX12_probe_163 rfl ?_
              refine w_imul X dX12_probe_165 ?_
              refine w_iconst (v := 3) X dX12_probe_166 (by decide) ?_
              refine w_aload_n X dX12_probe_167 rfl rfl ?_
              refine g12_runMethods X dX12_probe_168 ?_
              refine w_iload_n X dX12_probe_171 rfl rfl ?_
              refine w_ialoadN X dX12_probe_172 rfl rfl (⟨by omega, by decide⟩) ?_
              rw [h23A]
              refine w_imul X dX12_probe_173 ?_
              refine w_iadd X dX12_probe_174 ?_
              refine w_iload_n X dX12_probe_175 rfl rfl ?_
              refine w_iadd X dX12_probe_176 ?_
              rw [nI_m3]
              refine w_dup2 X dX12_probe_177 rfl rfl ?_
              refine w_ialoadN X dX12_probe_178 rfl rfl (⟨by omega, by decide⟩) ?_
              refine w_iconst (v := 1) X dX12_probe_179 (by decide) ?_
              refine w_iadd X dX12_probe_180 ?_
              refine w_iastoreN X dX12_probe_181 rfl rfl (⟨by omega, by decide⟩) ?_
              refine w_goto (tgt := 209) X dX12_probe_182 (by decide) ?_
              exact t209 _ _ (fbR_tr hA (fbR_I (by omega)))
          · refine w_aload_n X dX12_probe_136 rfl rfl ?_
            refine w_iload X dX12_probe_137 rfl ?_
            refine w_iload_n X dX12_probe_139 rfl rfl ?_
            refine w_v2rV X dX12_probe_140 k12_watchOne rfl rfl (c12_watchOne G hG _ _ hkA j hj (hjA.2 h122).1 (hjA.2 h122).2 q hq) (Nat.le_of_ble_eq_true rfl) (fun N140 h140 => ?_)
            refine w_goto (tgt := 209) X dX12_probe_143 (by decide) ?_
            exact t209 _ _ (fbR_tr hA h140)
      obtain ⟨⟨z, hz2, hz⟩, -⟩ := jbR_fb hF hjb j hj
      have h23N : N.1 23 q = nI m := by rw [fb_at hF (by omega)]; exact h23
      have i30 : ∀ {A : mm_} {i : Nat} {w : Int32}, fbR_ M A → fbR_ M (sI_ A 30 i w) := fun h => fbR_tr h (fbR_I (by omega))
      refine w_iload X dX12_probe_3 rfl ?_
      refine w_bipush (v := 8) X dX12_probe_5 (by decide) ?_
      refine w_icmp_ge (tgt := 215) X dX12_probe_7 (by decide) (fun h7 => absurd h7 (nI_ge (a := j) (b := 8) (by omega) (by decide))) (fun h7 => ?_)
      refine w_aload_n X dX12_probe_10 rfl rfl ?_
      refine g12_quiet X dX12_probe_11 ?_
      refine w_if_ne (tgt := 215) X dX12_probe_14 (by decide) (fun h14 => ?_) (fun h14 => ?_)
      · exact w_vrR X dX12_probe_215 hF
      · refine w_aload_n X dX12_probe_17 rfl rfl ?_
        refine g12_kinds X dX12_probe_18 ?_
        refine w_iload X dX12_probe_21 rfl ?_
        refine w_ialoadN X dX12_probe_23 rfl rfl (⟨by omega, by decide⟩) ?_
        refine w_if_le (tgt := 209) X dX12_probe_24 (by decide) (fun h24 => ?_) (fun h24 => ?_)
        · exact t209 _ _ hF
        · refine w_aload_n X dX12_probe_27 rfl rfl ?_
          refine w_iload X dX12_probe_28 rfl ?_
          refine w_aload_n X dX12_probe_30 rfl rfl ?_
          refine g12_runMethods X dX12_probe_31 ?_
          refine w_iload_n X dX12_probe_34 rfl rfl ?_
          refine w_ialoadN X dX12_probe_35 rfl rfl (⟨by omega, by decide⟩) ?_
          rw [h23N]
          refine w_v2fI X dX12_probe_36 k12_fits rfl rfl (c12_fits G hG _ _ j z m hj hz hz2 (by omega)) (Nat.le_of_ble_eq_true rfl) ?_
          refine w_if_eq (tgt := 209) X dX12_probe_39 (by decide) (fun h39 => ?_) (fun h39 => ?_)
          · exact t209 _ _ hF
          · refine w_iconst (v := 0) X dX12_probe_42 (by decide) ?_
            refine w_istore X dX12_probe_43 (by decide) ?_
            refine w_iload X dX12_probe_45 rfl ?_
            refine w_iconst (v := 3) X dX12_probe_47 (by decide) ?_
            refine w_icmp_ge (tgt := 75) X dX12_probe_48 (by decide) (fun h48 => absurd h48 (by decide)) (fun h48 => ?_)
            refine w_aload_n X dX12_probe_51 rfl rfl ?_
            refine g12_seen X dX12_probe_52 ?_
            refine w_iload X dX12_probe_55 rfl ?_
            refine w_aload_n X dX12_probe_57 rfl rfl ?_
            refine g12_runParameters X dX12_probe_58 ?_
            refine w_iconst (v := 3) X dX12_probe_61 (by decide) ?_
            refine w_iload_n X dX12_probe_62 rfl rfl ?_
            refine w_imul X dX12_probe_63 ?_
            refine w_iload X dX12_probe_64 rfl ?_
            refine w_iadd X dX12_probe_66 ?_
            rw [show (3 : Int32) * nI q + 0 = nI (3 * q + 0) from nI_m 3 q 0]
            refine w_ialoadN X dX12_probe_67 rfl rfl (⟨by omega, by decide⟩) ?_
            refine w_iastoreN X dX12_probe_68 rfl rfl (⟨by decide, by decide⟩) ?_
            refine w_iinc (v := 1) X dX12_probe_69 rfl (by decide) (by decide) ?_
            refine w_goto (tgt := 45) X dX12_probe_72 (by decide) ?_
            refine w_iload X dX12_probe_45 rfl ?_
            refine w_iconst (v := 3) X dX12_probe_47 (by decide) ?_
            refine w_icmp_ge (tgt := 75) X dX12_probe_48 (by decide) (fun h48 => absurd h48 (by decide)) (fun h48 => ?_)
            refine w_aload_n X dX12_probe_51 rfl rfl ?_
            refine g12_seen X dX12_probe_52 ?_
            refine w_iload X dX12_probe_55 rfl ?_
            refine w_aload_n X dX12_probe_57 rfl rfl ?_
            refine g12_runParameters X dX12_probe_58 ?_
            refine w_iconst (v := 3) X dX12_probe_61 (by decide) ?_
            refine w_iload_n X dX12_probe_62 rfl rfl ?_
            refine w_imul X dX12_probe_63 ?_
            refine w_iload X dX12_probe_64 rfl ?_
            refine w_iadd X dX12_probe_66 ?_
            rw [show (0 : Int32) + 1 = nI 1 from rfl]
            rw [show (3 : Int32) * nI q + nI 1 = nI (3 * q + 1) from nI_m 3 q 1]
            refine w_ialoadN X dX12_probe_67 rfl rfl (⟨by omega, by decide⟩) ?_
            refine w_iastoreN X dX12_probe_68 rfl rfl (⟨by decide, by decide⟩) ?_
            refine w_iinc (v := 1) X dX12_probe_69 rfl (by decide) (by decide) ?_
            refine w_goto (tgt := 45) X dX12_probe_72 (by decide) ?_
            refine w_iload X dX12_probe_45 rfl ?_
            refine w_iconst (v := 3) X dX12_probe_47 (by decide) ?_
            refine w_icmp_ge (tgt := 75) X dX12_probe_48 (by decide) (fun h48 => absurd h48 (by decide)) (fun h48 => ?_)
            refine w_aload_n X dX12_probe_51 rfl rfl ?_
            refine g12_seen X dX12_probe_52 ?_
            refine w_iload X dX12_probe_55 rfl ?_
            refine w_aload_n X dX12_probe_57 rfl rfl ?_
            refine g12_runParameters X dX12_probe_58 ?_
            refine w_iconst (v := 3) X dX12_probe_61 (by decide) ?_
            refine w_iload_n X dX12_probe_62 rfl rfl ?_
            refine w_imul X dX12_probe_63 ?_
            refine w_iload X dX12_probe_64 rfl ?_
            refine w_iadd X dX12_probe_66 ?_
            rw [show nI 1 + 1 = nI 2 from rfl]
            rw [show (3 : Int32) * nI q + nI 2 = nI (3 * q + 2) from nI_m 3 q 2]
            refine w_ialoadN X dX12_probe_67 rfl rfl (⟨by omega, by decide⟩) ?_
            refine w_iastoreN X dX12_probe_68 rfl rfl (⟨by decide, by decide⟩) ?_
            refine w_iinc (v := 1) X dX12_probe_69 rfl (by decide) (by decide) ?_
            refine w_goto (tgt := 45) X dX12_probe_72 (by decide) ?_
            refine w_iload X dX12_probe_45 rfl ?_
            refine w_iconst (v := 3) X dX12_probe_47 (by decide) ?_
            refine w_icmp_ge (tgt := 75) X dX12_probe_48 (by decide) (fun h48 => ?_) (fun h48 => absurd ((by decide)) h48)
            refine w_aload_n X dX12_probe_75 rfl rfl ?_
            refine g12_seen X dX12_probe_76 ?_
            refine w_iconst (v := 3) X dX12_probe_79 (by decide) ?_
            refine w_iload_n X dX12_probe_80 rfl rfl ?_
            refine w_iconst (v := 1) X dX12_probe_81 (by decide) ?_
            refine w_icmp_ne (tgt := 89) X dX12_probe_82 (by decide) (fun h82 => ?_) (fun h82 => ?_)
            · refine w_iconst (v := 0) X dX12_probe_89 (by decide) ?_
              refine w_iastoreN X dX12_probe_90 rfl rfl (⟨by decide, by decide⟩) ?_
              refine w_aload_n X dX12_probe_91 rfl rfl ?_
              refine g12_seen X dX12_probe_92 ?_
              refine w_iconst (v := 4) X dX12_probe_95 (by decide) ?_
              refine w_iload_n X dX12_probe_96 rfl rfl ?_
              refine w_iconst (v := 2) X dX12_probe_97 (by decide) ?_
              refine w_icmp_ne (tgt := 105) X dX12_probe_98 (by decide) (fun h98 => ?_) (fun h98 => ?_)
              · refine w_iconst (v := 0) X dX12_probe_105 (by decide) ?_
                refine w_iastoreN X dX12_probe_106 rfl rfl (⟨by decide, by decide⟩) ?_
                refine w_aload_n X dX12_probe_107 rfl rfl ?_
                refine g12_seen X dX12_probe_108 ?_
                refine w_iconst (v := 5) X dX12_probe_111 (by decide) ?_
                refine w_iload_n X dX12_probe_112 rfl rfl ?_
                refine w_iastoreN X dX12_probe_113 rfl rfl (⟨by decide, by decide⟩) ?_
                exact t114 _ _ (i30 (i30 (i30 (i30 (i30 (i30 hF))))))
              · refine w_iload_n X dX12_probe_101 rfl rfl ?_
                refine w_goto (tgt := 106) X dX12_probe_102 (by decide) ?_
                refine w_iastoreN X dX12_probe_106 rfl rfl (⟨by decide, by decide⟩) ?_
                refine w_aload_n X dX12_probe_107 rfl rfl ?_
                refine g12_seen X dX12_probe_108 ?_
                refine w_iconst (v := 5) X dX12_probe_111 (by decide) ?_
                refine w_iload_n X dX12_probe_112 rfl rfl ?_
                refine w_iastoreN X dX12_probe_113 rfl rfl (⟨by decide, by decide⟩) ?_
                exact t114 _ _ (i30 (i30 (i30 (i30 (i30 (i30 hF))))))
            · refine w_iload_n X dX12_probe_85 rfl rfl ?_
              refine w_goto (tgt := 90) X dX12_probe_86 (by decide) ?_
              refine w_iastoreN X dX12_probe_90 rfl rfl (⟨by decide, by decide⟩) ?_
              refine w_aload_n X dX12_probe_91 rfl rfl ?_
              refine g12_seen X dX12_probe_92 ?_
              refine w_iconst (v := 4) X dX12_probe_95 (by decide) ?_
              refine w_iload_n X dX12_probe_96 rfl rfl ?_
              refine w_iconst (v := 2) X dX12_probe_97 (by decide) ?_
              refine w_icmp_ne (tgt := 105) X dX12_probe_98 (by decide) (fun h98 => ?_) (fun h98 => ?_)
              · refine w_iconst (v := 0) X dX12_probe_105 (by decide) ?_
                refine w_iastoreN X dX12_probe_106 rfl rfl (⟨by decide, by decide⟩) ?_
                refine w_aload_n X dX12_probe_107 rfl rfl ?_
                refine g12_seen X dX12_probe_108 ?_
                refine w_iconst (v := 5) X dX12_probe_111 (by decide) ?_
                refine w_iload_n X dX12_probe_112 rfl rfl ?_
                refine w_iastoreN X dX12_probe_113 rfl rfl (⟨by decide, by decide⟩) ?_
                exact t114 _ _ (i30 (i30 (i30 (i30 (i30 (i30 hF))))))
              · refine w_iload_n X dX12_probe_101 rfl rfl ?_
                refine w_goto (tgt := 106) X dX12_probe_102 (by decide) ?_
                refine w_iastoreN X dX12_probe_106 rfl rfl (⟨by decide, by decide⟩) ?_
                refine w_aload_n X dX12_probe_107 rfl rfl ?_
                refine g12_seen X dX12_probe_108 ?_
                refine w_iconst (v := 5) X dX12_probe_111 (by decide) ?_
                refine w_iload_n X dX12_probe_112 rfl rfl ?_
                refine w_iastoreN X dX12_probe_113 rfl rfl (⟨by decide, by decide⟩) ?_
                exact t114 _ _ (i30 (i30 (i30 (i30 (i30 (i30 hF))))))
  refine w_iconst (v := 0) X dX12_probe_0 (by decide) ?_
  refine w_istore X dX12_probe_1 (by decide) ?_
  exact lp 8 0 M _ (by omega) fbR_rf
