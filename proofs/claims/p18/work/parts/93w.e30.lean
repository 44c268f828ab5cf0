section
/-! the reference: probeExpression, exactly -/
/-- a throw with o tries open -/
def THE_ (n : Nat) (Q : mm_ → Prop) (W : Nat → Nat → Nat → mm_ → Prop) (o : Nat) (N : mm_) : Prop := (o = 0 → Q (sI_ N 0 59 1)) ∧ (0 < o → ∃ h p, N.1 33 (o - 1) = nI h ∧ N.1 32 (o - 1) = nI p ∧ p ≤ n ∧ h < 60 ∧ W h (o - 1) p N)
/-- from place p on, h values on the stack, o tries open -/
def WPE_ (t n : Nat) (Q : mm_ → Prop) : Nat → Nat → Nat → Nat → mm_ → Prop
  | 0, _, _, _, _ => False
  | u + 1, h, o, p, N => N.1 4 t = nI n ∧ h < 60 ∧ o < 30 ∧ (n ≤ p → Q (sI_ N 0 58 (N.1 31 0))) ∧ (p < n → ∀ (x : Int32) (v : Int64), N.1 2 (64 * t + p) = x → N.2.1 3 (64 * t + p) = v →
    (x = 0 → WPE_ t n Q u (h + 1) o (p + 1) (sI_ N 31 h v.toInt32)) ∧
    (x = 1 → ∃ j, j < 7 ∧ v.toInt32 = nI j ∧ WPE_ t n Q u (h + 1) o (p + 1) (sI_ N 31 h (N.1 30 j))) ∧
    (x = 3 → 1 ≤ h ∧ WPE_ t n Q u h o (p + 1) (sI_ N 31 (h - 1) (-(N.1 31 (h - 1))))) ∧
    (x = 4 → 1 ≤ h ∧ THE_ n Q (WPE_ t n Q u) o (sI_ N 0 58 (N.1 31 (h - 1)))) ∧
    (x = 5 → 1 ≤ h ∧ ∃ w, v.toInt32 = nI w ∧ p + 1 + w ≤ n ∧ (N.1 31 (h - 1) = 0 → WPE_ t n Q u (h - 1) o (p + 1 + w) N) ∧ (¬ N.1 31 (h - 1) = 0 → WPE_ t n Q u (h - 1) o (p + 1) N)) ∧
    (x = 6 → ∃ w, v.toInt32 = nI w ∧ p + 1 + w ≤ n ∧ WPE_ t n Q u h o (p + 1 + w) N) ∧
    (x = 7 → ∃ w, v.toInt32 = nI w ∧ p + 1 + w ≤ n ∧ WPE_ t n Q u h (o + 1) (p + 1) (sI_ (sI_ N 32 o (nI (p + 1 + w))) 33 o (nI h))) ∧
    (x = 8 → 1 ≤ o ∧ ∃ w, v.toInt32 = nI w ∧ p + 1 + w ≤ n ∧ WPE_ t n Q u h (o - 1) (p + 1 + w) N) ∧
    (x = 2 → 2 ≤ h ∧ ((v.toInt32 = 47 ∨ v.toInt32 = 37) ∧ N.1 31 (h - 1) = 0 → THE_ n Q (WPE_ t n Q u) o (sI_ N 0 58 (-1))) ∧ (¬ ((v.toInt32 = 47 ∨ v.toInt32 = 37) ∧ N.1 31 (h - 1) = 0) → WPE_ t n Q u (h - 1) o (p + 1) (sI_ N 31 (h - 1 - 1) (rs_ v.toInt32 (N.1 31 (h - 1 - 1)) (N.1 31 (h - 1)))))) ∧
    (x = 0 ∨ x = 1 ∨ x = 2 ∨ x = 3 ∨ x = 4 ∨ x = 5 ∨ x = 6 ∨ x = 7 ∨ x = 8))
set_option maxRecDepth 100000 in
set_option maxHeartbeats 4000000 in
theorem c12_probeExpressionE (G : gg_) (hG : gd_ G) (d : Nat) (M : mm_) (t n : Nat) (ht : t < 32) (hn : n ≤ 40) (Q : mm_ → Prop) (u : Nat) (hW : WPE_ t n Q u 0 0 0 (sI_ M 0 59 0)) : cm_ G yX12_probeExpression cX12_probeExpression 9 none (d + 1) [.ref (G.1 0), .int (nI t)] M (rV_ Q) := by
  refine cm_of hG (by decide) (Nat.le_of_ble_eq_true rfl) (fun C X => ?_)
  have lp : ∀ (u h o p : Nat) (N : mm_) (x6 x7 x8 : Option Value), p ≤ n → WPE_ t n Q u h o p N → wq_ C G (qe_ C G (rV_ Q)) 18 [some (.ref (G.1 0)), some (.int (nI t)), some (.int (nI (64 * t))), some (.int (nI h)), some (.int (nI o)), some (.int (nI p)), x6, x7, x8] [] N := by
    intro u
    induction u with
    | zero => intro h o p N x6 x7 x8 hp hW; exact absurd hW id
    | succ u ih =>
      intro h o p N x6 x7 x8 hpn hW
      obtain ⟨k1, hh, ho, hE, hS⟩ := hW
      have t312 : ∀ (h2 o2 q : Nat) (N2 : mm_) (y6 y7 : Option Value), q ≤ n → WPE_ t n Q u h2 o2 q N2 → wq_ C G (qe_ C G (rV_ Q)) 312 [some (.ref (G.1 0)), some (.int (nI t)), some (.int (nI (64 * t))), some (.int (nI h2)), some (.int (nI o2)), some (.int (nI q)), y6, y7, some (.int 0)] [] N2 := by
        intro h2 o2 q N2 y6 y7 hq hW2
        refine w_iload X dX12_probeExpression_312 rfl ?_
        refine w_if_eq (tgt := 348) X dX12_probeExpression_314 (by decide) (fun h314 => ?_) (fun h314 => absurd (rfl) h314)
        refine w_goto (tgt := 18) X dX12_probeExpression_348 (by decide) ?_
        exact ih h2 o2 q N2 _ _ _ hq hW2
      have t312t : ∀ (N2 : mm_) (y3 y5 y6 y7 : Option Value), THE_ n Q (WPE_ t n Q u) o N2 → wq_ C G (qe_ C G (rV_ Q)) 312 [some (.ref (G.1 0)), some (.int (nI t)), some (.int (nI (64 * t))), y3, some (.int (nI o)), y5, y6, y7, some (.int 1)] [] N2 := by
        intro N2 y3 y5 y6 y7 hT
        by_cases e : o = 0
        · subst e
          refine w_iload X dX12_probeExpression_312 rfl ?_
          refine w_if_eq (tgt := 348) X dX12_probeExpression_314 (by decide) (fun h314 => absurd h314 (by decide)) (fun h314 => ?_)
          refine w_iload X dX12_probeExpression_317 rfl ?_
          refine w_if_ne (tgt := 328) X dX12_probeExpression_319 (by decide) (fun h319 => absurd rfl h319) (fun h319 => ?_)
          refine w_aload_n X dX12_probeExpression_322 rfl rfl ?_
          refine w_iconst (v := 1) X dX12_probeExpression_323 (by decide) ?_
          refine p12_probeThrew X dX12_probeExpression_324 (by first | exact Or.inl rfl | exact Or.inr rfl | assumption) ?_
          exact w_vrR X dX12_probeExpression_327 (hT.1 rfl)
        · obtain ⟨h2, p2, c2, c1, hp2, hh2, hW2⟩ := hT.2 (by omega)
          refine w_iload X dX12_probeExpression_312 rfl ?_
          refine w_if_eq (tgt := 348) X dX12_probeExpression_314 (by decide) (fun h314 => absurd h314 (by decide)) (fun h314 => ?_)
          refine w_iload X dX12_probeExpression_317 rfl ?_
          refine w_if_ne (tgt := 328) X dX12_probeExpression_319 (by decide) (fun h319 => ?_) (fun h319 => absurd ((nI_z (n := o) (by omega)).mp h319) e)
          refine w_iinc (v := -1) X dX12_probeExpression_328 rfl (by decide) (by decide) ?_
          rw [nI_mn _ (by omega)]
          refine w_aload_n X dX12_probeExpression_331 rfl rfl ?_
          refine g12_probeHeights X dX12_probeExpression_332 ?_
          refine w_iload X dX12_probeExpression_335 rfl ?_
          refine w_ialoadN X dX12_probeExpression_337 rfl rfl (⟨by omega, by decide⟩) ?_
          rw [c2]
          refine w_istore_n X dX12_probeExpression_338 rfl (by decide) ?_
          refine w_aload_n X dX12_probeExpression_339 rfl rfl ?_
          refine g12_probeTries X dX12_probeExpression_340 ?_
          refine w_iload X dX12_probeExpression_343 rfl ?_
          refine w_ialoadN X dX12_probeExpression_345 rfl rfl (⟨by omega, by decide⟩) ?_
          rw [c1]
          refine w_istore X dX12_probeExpression_346 (by decide) ?_
          refine w_goto (tgt := 18) X dX12_probeExpression_348 (by decide) ?_
          exact ih h2 (o - 1) p2 N2 _ _ _ hp2 hW2
      refine w_iload X dX12_probeExpression_18 rfl ?_
      refine w_aload_n X dX12_probeExpression_20 rfl rfl ?_
      refine g12_lengths X dX12_probeExpression_21 ?_
      refine w_iload_n X dX12_probeExpression_24 rfl rfl ?_
      refine w_ialoadN X dX12_probeExpression_25 rfl rfl (⟨by omega, by decide⟩) ?_
      rw [k1]
      refine w_icmp_ge (tgt := 351) X dX12_probeExpression_26 (by decide) (fun h26 => ?_) (fun h26 => ?_)
      · refine w_aload_n X dX12_probeExpression_351 rfl rfl ?_
        refine w_aload_n X dX12_probeExpression_352 rfl rfl ?_
        refine g12_probeStack X dX12_probeExpression_353 ?_
        refine w_iconst (v := 0) X dX12_probeExpression_356 (by decide) ?_
        refine w_ialoadN X dX12_probeExpression_357 rfl rfl (⟨by decide, by decide⟩) ?_
        refine p12_probeValue X dX12_probeExpression_358 ?_
        exact w_vrR X dX12_probeExpression_361 (hE (Nat.le_of_not_lt (fun z => absurd h26 (nI_ge (a := p) (b := n) z (by omega)))))
      · have hp : p < n := Nat.lt_of_not_le (fun z => h26 (nI_le (a := n) (b := p) z (by omega)))
        obtain ⟨x, ho2⟩ : ∃ x, N.1 2 (64 * t + p) = x := ⟨_, rfl⟩
        obtain ⟨v, hv⟩ : ∃ v, N.2.1 3 (64 * t + p) = v := ⟨_, rfl⟩
        have hs := hS hp x v ho2 hv
        refine w_aload_n X dX12_probeExpression_29 rfl rfl ?_
        refine g12_steps X dX12_probeExpression_30 ?_
        refine w_iload_n X dX12_probeExpression_33 rfl rfl ?_
        refine w_iload X dX12_probeExpression_34 rfl ?_
        refine w_iadd X dX12_probeExpression_36 ?_
        rw [nI_add]
        refine w_ialoadN X dX12_probeExpression_37 rfl rfl (⟨by omega, by decide⟩) ?_
        rw [ho2]
        refine w_istore X dX12_probeExpression_38 (by decide) ?_
        refine w_aload_n X dX12_probeExpression_40 rfl rfl ?_
        refine g12_values X dX12_probeExpression_41 ?_
        refine w_iload_n X dX12_probeExpression_44 rfl rfl ?_
        refine w_iload X dX12_probeExpression_45 rfl ?_
        refine w_iadd X dX12_probeExpression_47 ?_
        rw [nI_add]
        refine w_laloadN X dX12_probeExpression_48 rfl rfl (⟨by omega, by decide⟩) ?_
        rw [hv]
        refine w_l2i X dX12_probeExpression_49 ?_
        refine w_istore X dX12_probeExpression_50 (by decide) ?_
        refine w_iinc (v := 1) X dX12_probeExpression_52 rfl (by decide) (by decide) ?_
        rw [nI_1]
        refine w_iconst (v := 0) X dX12_probeExpression_55 (by decide) ?_
        refine w_istore X dX12_probeExpression_56 (by decide) ?_
        refine w_iload X dX12_probeExpression_58 rfl ?_
        refine w_if_ne (tgt := 77) X dX12_probeExpression_60 (by decide) (fun h60 => ?_) (fun h60 => ?_)
        · refine w_iload X dX12_probeExpression_77 rfl ?_
          refine w_iconst (v := 1) X dX12_probeExpression_79 (by decide) ?_
          refine w_icmp_ne (tgt := 102) X dX12_probeExpression_80 (by decide) (fun h80 => ?_) (fun h80 => ?_)
          · refine w_iload X dX12_probeExpression_102 rfl ?_
            refine w_iconst (v := 3) X dX12_probeExpression_104 (by decide) ?_
            refine w_icmp_ne (tgt := 128) X dX12_probeExpression_105 (by decide) (fun h105 => ?_) (fun h105 => ?_)
            · refine w_iload X dX12_probeExpression_128 rfl ?_
              refine w_iconst (v := 4) X dX12_probeExpression_130 (by decide) ?_
              refine w_icmp_ne (tgt := 152) X dX12_probeExpression_131 (by decide) (fun h131 => ?_) (fun h131 => ?_)
              · refine w_iload X dX12_probeExpression_152 rfl ?_
                refine w_iconst (v := 5) X dX12_probeExpression_154 (by decide) ?_
                refine w_icmp_ne (tgt := 185) X dX12_probeExpression_155 (by decide) (fun h155 => ?_) (fun h155 => ?_)
                · refine w_iload X dX12_probeExpression_185 rfl ?_
                  refine w_bipush (v := 6) X dX12_probeExpression_187 (by decide) ?_
                  refine w_icmp_ne (tgt := 202) X dX12_probeExpression_189 (by decide) (fun h189 => ?_) (fun h189 => ?_)
                  · refine w_iload X dX12_probeExpression_202 rfl ?_
                    refine w_bipush (v := 7) X dX12_probeExpression_204 (by decide) ?_
                    refine w_icmp_ne (tgt := 235) X dX12_probeExpression_206 (by decide) (fun h206 => ?_) (fun h206 => ?_)
                    · refine w_iload X dX12_probeExpression_235 rfl ?_
                      refine w_bipush (v := 8) X dX12_probeExpression_237 (by decide) ?_
                      refine w_icmp_ne (tgt := 255) X dX12_probeExpression_239 (by decide) (fun h239 => ?_) (fun h239 => ?_)
                      · have o2 : x = 2 := by
                          have al := hs.2.2.2.2.2.2.2.2.2
                          simp [h60, h80, h105, h131, h155, h189, h206, h239] at al
                          exact al
                        obtain ⟨g1, g2, g3⟩ := hs.2.2.2.2.2.2.2.2.1 o2
                        refine w_iload X dX12_probeExpression_255 rfl ?_
                        refine w_aload_n X dX12_probeExpression_257 rfl rfl ?_
                        refine g12_probeStack X dX12_probeExpression_258 ?_
                        refine w_iload_n X dX12_probeExpression_261 rfl rfl ?_
                        refine w_iconst (v := 1) X dX12_probeExpression_262 (by decide) ?_
                        refine w_isub X dX12_probeExpression_263 ?_
                        rw [nI_p _ (by omega)]
                        refine w_ialoadN X dX12_probeExpression_264 rfl rfl (⟨by omega, by decide⟩) ?_
                        refine w_s2fI X dX12_probeExpression_265 k12_isOver (c12_isOver G hG _ _ _ _) (Nat.le_of_ble_eq_true rfl) ?_
                        refine w_if_eq (tgt := 282) X dX12_probeExpression_268 (by decide) (fun h268 => ?_) (fun h268 => ?_)
                        · have hno : ¬ ((v.toInt32 = 47 ∨ v.toInt32 = 37) ∧ N.1 31 (h - 1) = 0) := fun y => absurd h268 (by rw [if_pos y]; decide)
                          refine w_iinc (v := -1) X dX12_probeExpression_282 rfl (by decide) (by decide) ?_
                          rw [nI_mn _ (by omega)]
                          refine w_aload_n X dX12_probeExpression_285 rfl rfl ?_
                          refine g12_probeStack X dX12_probeExpression_286 ?_
                          refine w_iload_n X dX12_probeExpression_289 rfl rfl ?_
                          refine w_iconst (v := 1) X dX12_probeExpression_290 (by decide) ?_
                          refine w_isub X dX12_probeExpression_291 ?_
                          rw [nI_p _ (by omega)]
                          refine w_iload X dX12_probeExpression_292 rfl ?_
                          refine w_aload_n X dX12_probeExpression_294 rfl rfl ?_
                          refine g12_probeStack X dX12_probeExpression_295 ?_
                          refine w_iload_n X dX12_probeExpression_298 rfl rfl ?_
                          refine w_iconst (v := 1) X dX12_probeExpression_299 (by decide) ?_
                          refine w_isub X dX12_probeExpression_300 ?_
                          rw [nI_p _ (by omega)]
                          refine w_ialoadN X dX12_probeExpression_301 rfl rfl (⟨by omega, by decide⟩) ?_
                          refine w_aload_n X dX12_probeExpression_302 rfl rfl ?_
                          refine g12_probeStack X dX12_probeExpression_303 ?_
                          refine w_iload_n X dX12_probeExpression_306 rfl rfl ?_
                          refine w_ialoadN X dX12_probeExpression_307 rfl rfl (⟨by omega, by decide⟩) ?_
                          refine w_s3fI X dX12_probeExpression_308 k12_result (c12_result G hG _ _ _ _ _ (fun hh2 y => hno ⟨hh2, y⟩)) (Nat.le_of_ble_eq_true rfl) ?_
                          refine w_iastoreN X dX12_probeExpression_311 rfl rfl (⟨by omega, by decide⟩) ?_
                          exact t312 (h - 1) o (p + 1) _ _ _ (by omega) (g3 hno)
                        · refine w_iconst (v := 1) X dX12_probeExpression_271 (by decide) ?_
                          refine w_istore X dX12_probeExpression_272 (by decide) ?_
                          refine w_aload_n X dX12_probeExpression_274 rfl rfl ?_
                          refine w_iconst (v := -1) X dX12_probeExpression_275 (by decide) ?_
                          refine p12_probeValue X dX12_probeExpression_276 ?_
                          refine w_goto (tgt := 312) X dX12_probeExpression_279 (by decide) ?_
                          exact t312t _ _ _ _ _ (g2 (by by_cases y : (v.toInt32 = 47 ∨ v.toInt32 = 37) ∧ N.1 31 (h - 1) = 0; exact y; exact absurd (if_neg y) h268))
                      · obtain ⟨g0, t2, hx, g1, g⟩ := hs.2.2.2.2.2.2.2.1 h239
                        refine w_iinc (v := -1) X dX12_probeExpression_242 rfl (by decide) (by decide) ?_
                        rw [nI_mn _ g0]
                        refine w_iload X dX12_probeExpression_245 rfl ?_
                        refine w_iload X dX12_probeExpression_247 rfl ?_
                        refine w_iadd X dX12_probeExpression_249 ?_
                        refine w_istore X dX12_probeExpression_250 (by decide) ?_
                        refine w_goto (tgt := 312) X dX12_probeExpression_252 (by decide) ?_
                        rw [hx, nI_add]
                        exact t312 h (o - 1) (p + 1 + t2) _ _ _ g1 g
                    · obtain ⟨t2, hx, g1, g⟩ := hs.2.2.2.2.2.2.1 h206
                      refine w_aload_n X dX12_probeExpression_209 rfl rfl ?_
                      refine g12_probeTries X dX12_probeExpression_210 ?_
                      refine w_iload X dX12_probeExpression_213 rfl ?_
                      refine w_iload X dX12_probeExpression_215 rfl ?_
                      refine w_iload X dX12_probeExpression_217 rfl ?_
                      refine w_iadd X dX12_probeExpression_219 ?_
                      rw [hx, nI_add]
                      refine w_iastoreN X dX12_probeExpression_220 rfl rfl (⟨by omega, by decide⟩) ?_
                      refine w_aload_n X dX12_probeExpression_221 rfl rfl ?_
                      refine g12_probeHeights X dX12_probeExpression_222 ?_
                      refine w_iload X dX12_probeExpression_225 rfl ?_
                      refine w_iload_n X dX12_probeExpression_227 rfl rfl ?_
                      refine w_iastoreN X dX12_probeExpression_228 rfl rfl (⟨by omega, by decide⟩) ?_
                      refine w_iinc (v := 1) X dX12_probeExpression_229 rfl (by decide) (by decide) ?_
                      refine w_goto (tgt := 312) X dX12_probeExpression_232 (by decide) ?_
                      rw [nI_1]
                      exact t312 h (o + 1) (p + 1) _ _ _ (by omega) g
                  · obtain ⟨t2, hx, g1, g⟩ := hs.2.2.2.2.2.1 h189
                    refine w_iload X dX12_probeExpression_192 rfl ?_
                    refine w_iload X dX12_probeExpression_194 rfl ?_
                    refine w_iadd X dX12_probeExpression_196 ?_
                    refine w_istore X dX12_probeExpression_197 (by decide) ?_
                    refine w_goto (tgt := 312) X dX12_probeExpression_199 (by decide) ?_
                    rw [hx, nI_add]
                    exact t312 h o (p + 1 + t2) _ _ _ g1 g
                · obtain ⟨g0, t2, hx, g1, g2, g3⟩ := hs.2.2.2.2.1 h155
                  refine w_iinc (v := -1) X dX12_probeExpression_158 rfl (by decide) (by decide) ?_
                  rw [nI_mn _ g0]
                  refine w_aload_n X dX12_probeExpression_161 rfl rfl ?_
                  refine g12_probeStack X dX12_probeExpression_162 ?_
                  refine w_iload_n X dX12_probeExpression_165 rfl rfl ?_
                  refine w_ialoadN X dX12_probeExpression_166 rfl rfl (⟨by omega, by decide⟩) ?_
                  refine w_if_ne (tgt := 178) X dX12_probeExpression_167 (by decide) (fun h167 => ?_) (fun h167 => ?_)
                  · refine w_iload X dX12_probeExpression_178 rfl ?_
                    refine w_istore X dX12_probeExpression_180 (by decide) ?_
                    refine w_goto (tgt := 312) X dX12_probeExpression_182 (by decide) ?_
                    exact t312 (h - 1) o (p + 1) _ _ _ (by omega) (g3 h167)
                  · refine w_iload X dX12_probeExpression_170 rfl ?_
                    refine w_iload X dX12_probeExpression_172 rfl ?_
                    refine w_iadd X dX12_probeExpression_174 ?_
                    refine w_goto (tgt := 180) X dX12_probeExpression_175 (by decide) ?_
                    refine w_istore X dX12_probeExpression_180 (by decide) ?_
                    refine w_goto (tgt := 312) X dX12_probeExpression_182 (by decide) ?_
                    rw [hx, nI_add]
                    exact t312 (h - 1) o (p + 1 + t2) _ _ _ g1 (g2 h167)
              · obtain ⟨g1, g⟩ := hs.2.2.2.1 h131
                refine w_iconst (v := 1) X dX12_probeExpression_134 (by decide) ?_
                refine w_istore X dX12_probeExpression_135 (by decide) ?_
                refine w_aload_n X dX12_probeExpression_137 rfl rfl ?_
                refine w_aload_n X dX12_probeExpression_138 rfl rfl ?_
                refine g12_probeStack X dX12_probeExpression_139 ?_
                refine w_iload_n X dX12_probeExpression_142 rfl rfl ?_
                refine w_iconst (v := 1) X dX12_probeExpression_143 (by decide) ?_
                refine w_isub X dX12_probeExpression_144 ?_
                rw [nI_p _ g1]
                refine w_ialoadN X dX12_probeExpression_145 rfl rfl (⟨by omega, by decide⟩) ?_
                refine p12_probeValue X dX12_probeExpression_146 ?_
                refine w_goto (tgt := 312) X dX12_probeExpression_149 (by decide) ?_
                exact t312t _ _ _ _ _ g
            · obtain ⟨g1, g⟩ := hs.2.2.1 h105
              refine w_aload_n X dX12_probeExpression_108 rfl rfl ?_
              refine g12_probeStack X dX12_probeExpression_109 ?_
              refine w_iload_n X dX12_probeExpression_112 rfl rfl ?_
              refine w_iconst (v := 1) X dX12_probeExpression_113 (by decide) ?_
              refine w_isub X dX12_probeExpression_114 ?_
              rw [nI_p _ g1]
              refine w_aload_n X dX12_probeExpression_115 rfl rfl ?_
              refine g12_probeStack X dX12_probeExpression_116 ?_
              refine w_iload_n X dX12_probeExpression_119 rfl rfl ?_
              refine w_iconst (v := 1) X dX12_probeExpression_120 (by decide) ?_
              refine w_isub X dX12_probeExpression_121 ?_
              rw [nI_p _ g1]
              refine w_ialoadN X dX12_probeExpression_122 rfl rfl (⟨by omega, by decide⟩) ?_
              refine w_ineg X dX12_probeExpression_123 ?_
              refine w_iastoreN X dX12_probeExpression_124 rfl rfl (⟨by omega, by decide⟩) ?_
              refine w_goto (tgt := 312) X dX12_probeExpression_125 (by decide) ?_
              exact t312 h o (p + 1) _ _ _ (by omega) g
          · obtain ⟨j, hj, hx, g⟩ := hs.2.1 h80
            refine w_aload_n X dX12_probeExpression_83 rfl rfl ?_
            refine g12_probeStack X dX12_probeExpression_84 ?_
            refine w_iload_n X dX12_probeExpression_87 rfl rfl ?_
            refine w_aload_n X dX12_probeExpression_88 rfl rfl ?_
            refine g12_seen X dX12_probeExpression_89 ?_
            refine w_iload X dX12_probeExpression_92 rfl ?_
            rw [hx]
            refine w_ialoadN X dX12_probeExpression_94 rfl rfl (⟨by omega, by decide⟩) ?_
            refine w_iastoreN X dX12_probeExpression_95 rfl rfl (⟨by omega, by decide⟩) ?_
            refine w_iinc (v := 1) X dX12_probeExpression_96 rfl (by decide) (by decide) ?_
            refine w_goto (tgt := 312) X dX12_probeExpression_99 (by decide) ?_
            rw [nI_1]
            exact t312 (h + 1) o (p + 1) _ _ _ (by omega) g
        · refine w_aload_n X dX12_probeExpression_63 rfl rfl ?_
          refine g12_probeStack X dX12_probeExpression_64 ?_
          refine w_iload_n X dX12_probeExpression_67 rfl rfl ?_
          refine w_iload X dX12_probeExpression_68 rfl ?_
          refine w_iastoreN X dX12_probeExpression_70 rfl rfl (⟨by omega, by decide⟩) ?_
          refine w_iinc (v := 1) X dX12_probeExpression_71 rfl (by decide) (by decide) ?_
          refine w_goto (tgt := 312) X dX12_probeExpression_74 (by decide) ?_
          rw [nI_1]
          exact t312 (h + 1) o (p + 1) _ _ _ (by omega) (hs.1 h60)
  refine w_iload_n X dX12_probeExpression_0 rfl rfl ?_
  refine w_s1fI X dX12_probeExpression_1 k12_rowOf (c12_rowOf G hG _ _ _) (Nat.le_of_ble_eq_true rfl) ?_
  rw [show (64 : Int32) * nI t = nI (64 * t) from pk_mul 64 t]
  refine w_istore_n X dX12_probeExpression_4 rfl (by decide) ?_
  refine w_iconst (v := 0) X dX12_probeExpression_5 (by decide) ?_
  refine w_istore_n X dX12_probeExpression_6 rfl (by decide) ?_
  refine w_iconst (v := 0) X dX12_probeExpression_7 (by decide) ?_
  refine w_istore X dX12_probeExpression_8 (by decide) ?_
  refine w_iconst (v := 0) X dX12_probeExpression_10 (by decide) ?_
  refine w_istore X dX12_probeExpression_11 (by decide) ?_
  refine w_aload_n X dX12_probeExpression_13 rfl rfl ?_
  refine w_iconst (v := 0) X dX12_probeExpression_14 (by decide) ?_
  refine p12_probeThrew X dX12_probeExpression_15 (by first | exact Or.inl rfl | exact Or.inr rfl | assumption) ?_
  exact lp u 0 0 0 (sI_ M 0 59 0) none none none (by omega) hW
/-- behind the condition -/
def WGR_ (G : gg_) (d j q : Nat) (Q : mm_ → Prop) (N : mm_) : Prop := ∃ QE : mm_ → Prop, cm_ G yX12_probeExpression cX12_probeExpression 9 none (d + 1) [.ref (G.1 0), .int (nI (16 + 2 * j))] N (rV_ QE) ∧ ∀ N2, QE N2 → ∃ c, c ≤ 300 ∧ N2.1 0 35 = nI c ∧ Q (rd_ N2 c j (N2.1 23 q) (nI q))
set_option maxRecDepth 100000 in
set_option maxHeartbeats 4000000 in
theorem c12_watchOneE (G : gg_) (hG : gd_ G) (d : Nat) (M : mm_) (j : Nat) (hj : j < 8) (q : Nat) (hq : q ≤ 10) (Q : mm_ → Prop) (hn : M.1 16 j = 0 → WGR_ G d j q Q (sI_ M 30 6 (M.1 15 j))) (hc : ¬ M.1 16 j = 0 → ∃ QC : mm_ → Prop, cm_ G yX12_probeExpression cX12_probeExpression 9 none (d + 1) [.ref (G.1 0), .int (nI (17 + 2 * j))] (sI_ M 30 6 (M.1 15 j)) (rV_ QC) ∧ ∀ N, QC N → (¬ N.1 0 59 = 0 → ∃ c, c ≤ 300 ∧ N.1 0 35 = nI c ∧ Q (rd_ N c j (N.1 23 q) (nI q))) ∧ (N.1 0 59 = 0 → N.1 0 58 = 0 → Q N) ∧ (N.1 0 59 = 0 → ¬ N.1 0 58 = 0 → WGR_ G d j q Q N)) : cm_ G yX12_watchOne cX12_watchOne 3 none (d + 2) [.ref (G.1 0), .int (nI j), .int (nI q)] M (rV_ Q) := by
  refine cm_of hG (by decide) (Nat.le_of_ble_eq_true rfl) (fun C X => ?_)
  refine w_aload_n X dX12_watchOne_0 rfl rfl ?_
  refine g12_seen X dX12_watchOne_1 ?_
  refine w_bipush (v := 6) X dX12_watchOne_4 (by decide) ?_
  refine w_aload_n X dX12_watchOne_6 rfl rfl ?_
  refine g12_mades X dX12_watchOne_7 ?_
  refine w_iload_n X dX12_watchOne_10 rfl rfl ?_
  refine w_ialoadN X dX12_watchOne_11 rfl rfl (⟨by omega, by decide⟩) ?_
  refine w_iastoreN X dX12_watchOne_12 rfl rfl (⟨by decide, by decide⟩) ?_
  refine w_aload_n X dX12_watchOne_13 rfl rfl ?_
  refine g12_conditioned X dX12_watchOne_14 ?_
  refine w_iload_n X dX12_watchOne_17 rfl rfl ?_
  refine w_baloadN X dX12_watchOne_18 rfl rfl (⟨by omega, by decide⟩) ?_
  rw [gI_sI, if_neg (by omega)]
  refine w_if_eq (tgt := 60) X dX12_watchOne_19 (by decide) (fun h19 => ?_) (fun h19 => ?_)
  · obtain ⟨QE, hE1, hE2⟩ := hn h19
    refine w_aload_n X dX12_watchOne_60 rfl rfl ?_
    refine w_bipush (v := 16) X dX12_watchOne_61 (by decide) ?_
    refine w_iconst (v := 2) X dX12_watchOne_63 (by decide) ?_
    refine w_iload_n X dX12_watchOne_64 rfl rfl ?_
    refine w_imul X dX12_watchOne_65 ?_
    refine w_iadd X dX12_watchOne_66 ?_
    rw [nI_16]
    refine w_v1rV X dX12_watchOne_67 k12_probeExpression rfl rfl (hE1) (Nat.le_of_ble_eq_true rfl) (fun N67 h67 => ?_)
    obtain ⟨c9, hc10, hc9, hR3⟩ := hE2 _ h67
    refine w_aload_n X dX12_watchOne_70 rfl rfl ?_
    refine w_iload_n X dX12_watchOne_71 rfl rfl ?_
    refine w_aload_n X dX12_watchOne_72 rfl rfl ?_
    refine g12_runMethods X dX12_watchOne_73 ?_
    refine w_iload_n X dX12_watchOne_76 rfl rfl ?_
    refine w_ialoadN X dX12_watchOne_77 rfl rfl (⟨by omega, by decide⟩) ?_
    refine w_iload_n X dX12_watchOne_78 rfl rfl ?_
    refine w_v3fV X dX12_watchOne_79 k12_record rfl rfl (c12_record G hG _ _ c9 _ hc9 hc10 hj _ _) (Nat.le_of_ble_eq_true rfl) ?_
    exact w_vrR X dX12_watchOne_82 hR3
  · obtain ⟨QC, hC1, hC2⟩ := hc h19
    refine w_aload_n X dX12_watchOne_22 rfl rfl ?_
    refine w_bipush (v := 17) X dX12_watchOne_23 (by decide) ?_
    refine w_iconst (v := 2) X dX12_watchOne_25 (by decide) ?_
    refine w_iload_n X dX12_watchOne_26 rfl rfl ?_
    refine w_imul X dX12_watchOne_27 ?_
    refine w_iadd X dX12_watchOne_28 ?_
    rw [nI_17]
    refine w_v1rV X dX12_watchOne_29 k12_probeExpression rfl rfl (hC1) (Nat.le_of_ble_eq_true rfl) (fun N29 h29 => ?_)
    obtain ⟨hK1, hK2, hK3⟩ := hC2 _ h29
    refine w_aload_n X dX12_watchOne_32 rfl rfl ?_
    refine g12_probeThrew X dX12_watchOne_33 ?_
    refine w_if_eq (tgt := 52) X dX12_watchOne_36 (by decide) (fun h36 => ?_) (fun h36 => ?_)
    · refine w_aload_n X dX12_watchOne_52 rfl rfl ?_
      refine g12_probeValue X dX12_watchOne_53 ?_
      refine w_if_ne (tgt := 60) X dX12_watchOne_56 (by decide) (fun h56 => ?_) (fun h56 => ?_)
      · obtain ⟨QE, hE1, hE2⟩ := hK3 h36 h56
        refine w_aload_n X dX12_watchOne_60 rfl rfl ?_
        refine w_bipush (v := 16) X dX12_watchOne_61 (by decide) ?_
        refine w_iconst (v := 2) X dX12_watchOne_63 (by decide) ?_
        refine w_iload_n X dX12_watchOne_64 rfl rfl ?_
        refine w_imul X dX12_watchOne_65 ?_
        refine w_iadd X dX12_watchOne_66 ?_
        rw [nI_16]
        refine w_v1rV X dX12_watchOne_67 k12_probeExpression rfl rfl (hE1) (Nat.le_of_ble_eq_true rfl) (fun N67 h67 => ?_)
        obtain ⟨c9, hc10, hc9, hR3⟩ := hE2 _ h67
        refine w_aload_n X dX12_watchOne_70 rfl rfl ?_
        refine w_iload_n X dX12_watchOne_71 rfl rfl ?_
        refine w_aload_n X dX12_watchOne_72 rfl rfl ?_
        refine g12_runMethods X dX12_watchOne_73 ?_
        refine w_iload_n X dX12_watchOne_76 rfl rfl ?_
        refine w_ialoadN X dX12_watchOne_77 rfl rfl (⟨by omega, by decide⟩) ?_
        refine w_iload_n X dX12_watchOne_78 rfl rfl ?_
        refine w_v3fV X dX12_watchOne_79 k12_record rfl rfl (c12_record G hG _ _ c9 _ hc9 hc10 hj _ _) (Nat.le_of_ble_eq_true rfl) ?_
        exact w_vrR X dX12_watchOne_82 hR3
      · exact w_vrR X dX12_watchOne_59 (hK2 h36 h56)
    · obtain ⟨c9, hc10, hc9, hR3⟩ := hK1 h36
      refine w_aload_n X dX12_watchOne_39 rfl rfl ?_
      refine w_iload_n X dX12_watchOne_40 rfl rfl ?_
      refine w_aload_n X dX12_watchOne_41 rfl rfl ?_
      refine g12_runMethods X dX12_watchOne_42 ?_
      refine w_iload_n X dX12_watchOne_45 rfl rfl ?_
      refine w_ialoadN X dX12_watchOne_46 rfl rfl (⟨by omega, by decide⟩) ?_
      refine w_iload_n X dX12_watchOne_47 rfl rfl ?_
      refine w_v3fV X dX12_watchOne_48 k12_record rfl rfl (c12_record G hG _ _ c9 _ hc9 hc10 hj _ _) (Nat.le_of_ble_eq_true rfl) ?_
      exact w_vrR X dX12_watchOne_51 hR3

end
section
/-! the reference: probe, exactly -/
/-- what a probe sees of the invocation at depth q -/
def seR_ (N : mm_) (q pt : Nat) (v : Int32) : mm_ := sI_ (sI_ (sI_ (sI_ (sI_ (sI_ N 30 0 (N.1 24 (3 * q + 0))) 30 1 (N.1 24 (3 * q + 1))) 30 2 (N.1 24 (3 * q + 2))) 30 3 (if nI pt = 1 then v else 0)) 30 4 (if nI pt = 2 then v else 0)) 30 5 (nI q)
def PWR_ (G : gg_) (d q pt : Nat) (v : Int32) (Q : mm_ → Prop) : Nat → Nat → mm_ → Prop
  | 0, _, N => Q N
  | u + 1, j, N => (¬ N.1 0 42 = 0 → Q N) ∧ (N.1 0 42 = 0 → (N.1 12 j ≤ 0 → PWR_ G d q pt v Q u (j + 1) N) ∧ (¬ N.1 12 j ≤ 0 → ∃ z m, z ≤ 12 ∧ N.1 18 j = nI z ∧ m < 16 ∧ N.1 23 q = nI m ∧
    (ft_ (pa_ N j) z (N.2.1 5 m) = 0 → PWR_ G d q pt v Q u (j + 1) N) ∧
    (¬ ft_ (pa_ N j) z (N.2.1 5 m) = 0 → ∀ A, A = seR_ N q pt v → A.1 23 q = nI m ∧
      (A.1 12 j = 1 → A.1 13 j = nI pt → ∃ QW : mm_ → Prop, cm_ G yX12_watchOne cX12_watchOne 3 none (d + 2) [.ref (G.1 0), .int (nI j), .int (nI q)] A (rV_ QW) ∧ ∀ N2, QW N2 → PWR_ G d q pt v Q u (j + 1) N2) ∧
      (A.1 12 j = 2 → PWR_ G d q pt v Q u (j + 1) (sI_ A 20 (48 * j + 3 * m + pt) (A.1 20 (48 * j + 3 * m + pt) + 1))) ∧
      (A.1 12 j = 3 → 0 < pt → ∃ c, c ≤ 40 ∧ A.1 0 37 = nI c ∧ PWR_ G d q pt v Q u (j + 1) (ko_ A c q (nI j) (nI pt) v)) ∧
      (A.1 12 j = 1 → ¬ A.1 13 j = nI pt → PWR_ G d q pt v Q u (j + 1) A) ∧ (A.1 12 j = 3 → pt = 0 → PWR_ G d q pt v Q u (j + 1) A) ∧ (A.1 12 j = 1 ∨ A.1 12 j = 2 ∨ A.1 12 j = 3))))
set_option maxRecDepth 100000 in
set_option maxHeartbeats 4000000 in
theorem c12_probeE (G : gg_) (hG : gd_ G) (d : Nat) (M : mm_) (q : Nat) (hq : q ≤ 10) (pt : Nat) (hpt : pt ≤ 2) (v : Int32) (Q : mm_ → Prop) (hW : PWR_ G d q pt v Q 8 0 M) : cm_ G yX12_probe cX12_probe 6 none (d + 3) [.ref (G.1 0), .int (nI q), .int (nI pt), .int v] M (rV_ Q) := by
  refine cm_of hG (by decide) (Nat.le_of_ble_eq_true rfl) (fun C X => ?_)
  have lp : ∀ (u j : Nat) (N : mm_) (x : Option Value), j + u = 8 → PWR_ G d q pt v Q u j N → wq_ C G (qe_ C G (rV_ Q)) 3 [some (.ref (G.1 0)), some (.int (nI q)), some (.int (nI pt)), some (.int v), some (.int (nI j)), x] [] N := by
    intro u
    induction u with
    | zero =>
      intro j N x hu hP
      refine w_iload X dX12_probe_3 rfl ?_
      refine w_bipush (v := 8) X dX12_probe_5 (by decide) ?_
      refine w_icmp_ge (tgt := 215) X dX12_probe_7 (by decide) (fun h7 => ?_) (fun h7 => absurd (nI_le (a := 8) (b := j) (by omega) (by omega)) h7)
      exact w_vrR X dX12_probe_215 hP
    | succ u ih =>
      intro j N x hu hP
      have hj : j < 8 := by omega
      obtain ⟨hP1, hP2⟩ := hP
      have t209 : ∀ (A : mm_) (y : Option Value), PWR_ G d q pt v Q u (j + 1) A → wq_ C G (qe_ C G (rV_ Q)) 209 [some (.ref (G.1 0)), some (.int (nI q)), some (.int (nI pt)), some (.int v), some (.int (nI j)), y] [] A := by
        intro A y hA
        refine w_iinc (v := 1) X dX12_probe_209 rfl (by decide) (by decide) ?_
        refine w_goto (tgt := 3) X dX12_probe_212 (by decide) ?_
        rw [nI_1]
        exact ih (j + 1) A _ (by omega) hA
      have t114 : ∀ (A : mm_) (y : Option Value), (∀ m, A.1 23 q = nI m → m < 16 → (A.1 12 j = 1 → A.1 13 j = nI pt → ∃ QW : mm_ → Prop, cm_ G yX12_watchOne cX12_watchOne 3 none (d + 2) [.ref (G.1 0), .int (nI j), .int (nI q)] A (rV_ QW) ∧ ∀ N2, QW N2 → PWR_ G d q pt v Q u (j + 1) N2) → (A.1 12 j = 2 → PWR_ G d q pt v Q u (j + 1) (sI_ A 20 (48 * j + 3 * m + pt) (A.1 20 (48 * j + 3 * m + pt) + 1))) → (A.1 12 j = 3 → 0 < pt → ∃ c, c ≤ 40 ∧ A.1 0 37 = nI c ∧ PWR_ G d q pt v Q u (j + 1) (ko_ A c q (nI j) (nI pt) v)) → (A.1 12 j = 1 → ¬ A.1 13 j = nI pt → PWR_ G d q pt v Q u (j + 1) A) → (A.1 12 j = 3 → pt = 0 → PWR_ G d q pt v Q u (j + 1) A) → (A.1 12 j = 1 ∨ A.1 12 j = 2 ∨ A.1 12 j = 3) → wq_ C G (qe_ C G (rV_ Q)) 114 [some (.ref (G.1 0)), some (.int (nI q)), some (.int (nI pt)), some (.int v), some (.int (nI j)), y] [] A) := by
        intro A y m h23A hm16 k1 k2 k3 k4 k5 k6
        refine w_aload_n X dX12_probe_114 rfl rfl ?_
        refine g12_kinds X dX12_probe_115 ?_
        refine w_iload X dX12_probe_118 rfl ?_
        refine w_ialoadN X dX12_probe_120 rfl rfl (⟨by omega, by decide⟩) ?_
        refine w_iconst (v := 1) X dX12_probe_121 (by decide) ?_
        refine w_icmp_ne (tgt := 146) X dX12_probe_122 (by decide) (fun h122 => ?_) (fun h122 => ?_)
        · refine w_aload_n X dX12_probe_146 rfl rfl ?_
          refine g12_kinds X dX12_probe_147 ?_
          refine w_iload X dX12_probe_150 rfl ?_
          refine w_ialoadN X dX12_probe_152 rfl rfl (⟨by omega, by decide⟩) ?_
          refine w_iconst (v := 2) X dX12_probe_153 (by decide) ?_
          refine w_icmp_ne (tgt := 185) X dX12_probe_154 (by decide) (fun h154 => ?_) (fun h154 => ?_)
          · refine w_aload_n X dX12_probe_185 rfl rfl ?_
            refine g12_kinds X dX12_probe_186 ?_
            refine w_iload X dX12_probe_189 rfl ?_
            refine w_ialoadN X dX12_probe_191 rfl rfl (⟨by omega, by decide⟩) ?_
            refine w_iconst (v := 3) X dX12_probe_192 (by decide) ?_
            refine w_icmp_ne (tgt := 209) X dX12_probe_193 (by decide) (fun h193 => ?_) (fun h193 => ?_)
            · rcases k6 with y | y | y
              · exact absurd y h122
              · exact absurd y h154
              · exact absurd y h193
            · refine w_iload_n X dX12_probe_196 rfl rfl ?_
              refine w_if_le (tgt := 209) X dX12_probe_197 (by decide) (fun h197 => ?_) (fun h197 => ?_)
              · exact t209 _ _ (k5 h193 (Nat.eq_zero_of_le_zero (Nat.le_of_not_lt (fun y => absurd h197 (nI_ge (a := 0) (b := pt) y (by omega))))))
              · obtain ⟨z, hz2, hz, hz3⟩ := k3 h193 (Nat.lt_of_not_le (fun y => h197 (nI_le (a := pt) (b := 0) y (by omega))))
                refine w_aload_n X dX12_probe_200 rfl rfl ?_
                refine w_iload X dX12_probe_201 rfl ?_
                refine w_iload_n X dX12_probe_203 rfl rfl ?_
                refine w_iload_n X dX12_probe_204 rfl rfl ?_
                refine w_iload_n X dX12_probe_205 rfl rfl ?_
                refine w_v4fV X dX12_probe_206 k12_keepOne rfl rfl (c12_keepOne G hG _ _ z q hz hz2 hq _ _ _) (Nat.le_of_ble_eq_true rfl) ?_
                exact t209 _ _ hz3
          · refine w_aload_n X dX12_probe_157 rfl rfl ?_
            refine g12_counts X dX12_probe_158 ?_
            refine w_bipush (v := 48) X dX12_probe_161 (by decide) ?_
            refine w_iload X dX12_probe_163 rfl ?_
            refine w_imul X dX12_probe_165 ?_
            refine w_iconst (v := 3) X dX12_probe_166 (by decide) ?_
            refine w_aload_n X dX12_probe_167 rfl rfl ?_
            refine g12_runMethods X dX12_probe_168 ?_
            refine w_iload_n X dX12_probe_171 rfl rfl ?_
            refine w_ialoadN X dX12_probe_172 rfl rfl (⟨by omega, by decide⟩) ?_
            rw [h23A]
            refine w_imul X dX12_probe_173 ?_
            refine w_iadd X dX12_probe_174 ?_
            refine w_iload_n X dX12_probe_175 rfl rfl ?_
            refine w_iadd X dX12_probe_176 ?_
            rw [nI_m3]
            refine w_dup2 X dX12_probe_177 rfl rfl ?_
            refine w_ialoadN X dX12_probe_178 rfl rfl (⟨by omega, by decide⟩) ?_
            refine w_iconst (v := 1) X dX12_probe_179 (by decide) ?_
            refine w_iadd X dX12_probe_180 ?_
            refine w_iastoreN X dX12_probe_181 rfl rfl (⟨by omega, by decide⟩) ?_
            refine w_goto (tgt := 209) X dX12_probe_182 (by decide) ?_
            exact t209 _ _ (k2 h154)
        · refine w_aload_n X dX12_probe_125 rfl rfl ?_
          refine g12_points X dX12_probe_126 ?_
          refine w_iload X dX12_probe_129 rfl ?_
          refine w_ialoadN X dX12_probe_131 rfl rfl (⟨by omega, by decide⟩) ?_
          refine w_iload_n X dX12_probe_132 rfl rfl ?_
          refine w_icmp_ne (tgt := 146) X dX12_probe_133 (by decide) (fun h133 => ?_) (fun h133 => ?_)
          · refine w_aload_n X dX12_probe_146 rfl rfl ?_
            refine g12_kinds X dX12_probe_147 ?_
            refine w_iload X dX12_probe_150 rfl ?_
            refine w_ialoadN X dX12_probe_152 rfl rfl (⟨by omega, by decide⟩) ?_
            refine w_iconst (v := 2) X dX12_probe_153 (by decide) ?_
            refine w_icmp_ne (tgt := 185) X dX12_probe_154 (by decide) (fun h154 => ?_) (fun h154 => ?_)
            · refine w_aload_n X dX12_probe_185 rfl rfl ?_
              refine g12_kinds X dX12_probe_186 ?_
              refine w_iload X dX12_probe_189 rfl ?_
              refine w_ialoadN X dX12_probe_191 rfl rfl (⟨by omega, by decide⟩) ?_
              refine w_iconst (v := 3) X dX12_probe_192 (by decide) ?_
              refine w_icmp_ne (tgt := 209) X dX12_probe_193 (by decide) (fun h193 => ?_) (fun h193 => ?_)
              · exact t209 _ _ (k4 h122 h133)
              · refine w_iload_n X dX12_probe_196 rfl rfl ?_
                refine w_if_le (tgt := 209) X dX12_probe_197 (by decide) (fun h197 => ?_) (fun h197 => ?_)
                · exact absurd (h122.symm.trans h193) (by decide)
                · obtain ⟨z, hz2, hz, hz3⟩ := k3 h193 (Nat.lt_of_not_le (fun y => h197 (nI_le (a := pt) (b := 0) y (by omega))))
                  refine w_aload_n X dX12_probe_200 rfl rfl ?_
                  refine w_iload X dX12_probe_201 rfl ?_
                  refine w_iload_n X dX12_probe_203 rfl rfl ?_
                  refine w_iload_n X dX12_probe_204 rfl rfl ?_
                  refine w_iload_n X dX12_probe_205 rfl rfl ?_
                  refine w_v4fV X dX12_probe_206 k12_keepOne rfl rfl (c12_keepOne G hG _ _ z q hz hz2 hq _ _ _) (Nat.le_of_ble_eq_true rfl) ?_
                  exact absurd (h122.symm.trans h193) (by decide)
            · refine w_aload_n X dX12_probe_157 rfl rfl ?_
              refine g12_counts X dX12_probe_158 ?_
              refine w_bipush (v := 48) X dX12_probe_161 (by decide) ?_
              refine w_iload X dX12_probe_163 rfl ?_
              refine w_imul X dX12_probe_165 ?_
              refine w_iconst (v := 3) X dX12_probe_166 (by decide) ?_
              refine w_aload_n X dX12_probe_167 rfl rfl ?_
              refine g12_runMethods X dX12_probe_168 ?_
              refine w_iload_n X dX12_probe_171 rfl rfl ?_
              refine w_ialoadN X dX12_probe_172 rfl rfl (⟨by omega, by decide⟩) ?_
              rw [h23A]
              refine w_imul X dX12_probe_173 ?_
              refine w_iadd X dX12_probe_174 ?_
              refine w_iload_n X dX12_probe_175 rfl rfl ?_
              refine w_iadd X dX12_probe_176 ?_
              rw [nI_m3]
              refine w_dup2 X dX12_probe_177 rfl rfl ?_
              refine w_ialoadN X dX12_probe_178 rfl rfl (⟨by omega, by decide⟩) ?_
              refine w_iconst (v := 1) X dX12_probe_179 (by decide) ?_
              refine w_iadd X dX12_probe_180 ?_
              refine w_iastoreN X dX12_probe_181 rfl rfl (⟨by omega, by decide⟩) ?_
              refine w_goto (tgt := 209) X dX12_probe_182 (by decide) ?_
              exact absurd (h122.symm.trans h154) (by decide)
          · obtain ⟨QW, hW1, hW2⟩ := k1 h122 h133
            refine w_aload_n X dX12_probe_136 rfl rfl ?_
            refine w_iload X dX12_probe_137 rfl ?_
            refine w_iload_n X dX12_probe_139 rfl rfl ?_
            refine w_v2rV X dX12_probe_140 k12_watchOne rfl rfl (hW1) (Nat.le_of_ble_eq_true rfl) (fun N140 h140 => ?_)
            refine w_goto (tgt := 209) X dX12_probe_143 (by decide) ?_
            exact t209 _ _ (hW2 _ h140)
      refine w_iload X dX12_probe_3 rfl ?_
      refine w_bipush (v := 8) X dX12_probe_5 (by decide) ?_
      refine w_icmp_ge (tgt := 215) X dX12_probe_7 (by decide) (fun h7 => absurd h7 (nI_ge (a := j) (b := 8) (by omega) (by decide))) (fun h7 => ?_)
      refine w_aload_n X dX12_probe_10 rfl rfl ?_
      refine g12_quiet X dX12_probe_11 ?_
      refine w_if_ne (tgt := 215) X dX12_probe_14 (by decide) (fun h14 => ?_) (fun h14 => ?_)
      · exact w_vrR X dX12_probe_215 (hP1 h14)
      · refine w_aload_n X dX12_probe_17 rfl rfl ?_
        refine g12_kinds X dX12_probe_18 ?_
        refine w_iload X dX12_probe_21 rfl ?_
        refine w_ialoadN X dX12_probe_23 rfl rfl (⟨by omega, by decide⟩) ?_
        refine w_if_le (tgt := 209) X dX12_probe_24 (by decide) (fun h24 => ?_) (fun h24 => ?_)
        · exact t209 _ _ ((hP2 h14).1 h24)
        · obtain ⟨z, m, hz2, hz, hm, h23N, hf1, hf2⟩ := (hP2 h14).2 h24
          refine w_aload_n X dX12_probe_27 rfl rfl ?_
          refine w_iload X dX12_probe_28 rfl ?_
          refine w_aload_n X dX12_probe_30 rfl rfl ?_
          refine g12_runMethods X dX12_probe_31 ?_
          refine w_iload_n X dX12_probe_34 rfl rfl ?_
          refine w_ialoadN X dX12_probe_35 rfl rfl (⟨by omega, by decide⟩) ?_
          rw [h23N]
          refine w_v2fI X dX12_probe_36 k12_fits rfl rfl (c12_fits G hG _ _ j z m hj hz hz2 hm) (Nat.le_of_ble_eq_true rfl) ?_
          refine w_if_eq (tgt := 209) X dX12_probe_39 (by decide) (fun h39 => ?_) (fun h39 => ?_)
          · exact t209 _ _ (hf1 h39)
          · refine w_iconst (v := 0) X dX12_probe_42 (by decide) ?_
            refine w_istore X dX12_probe_43 (by decide) ?_
            refine w_iload X dX12_probe_45 rfl ?_
            refine w_iconst (v := 3) X dX12_probe_47 (by decide) ?_
            refine w_icmp_ge (tgt := 75) X dX12_probe_48 (by decide) (fun h48 => absurd h48 (by decide)) (fun h48 => ?_)
            refine w_aload_n X dX12_probe_51 rfl rfl ?_
            refine g12_seen X dX12_probe_52 ?_
            refine w_iload X dX12_probe_55 rfl ?_
            refine w_aload_n X dX12_probe_57 rfl rfl ?_
            refine g12_runParameters X dX12_probe_58 ?_
            refine w_iconst (v := 3) X dX12_probe_61 (by decide) ?_
            refine w_iload_n X dX12_probe_62 rfl rfl ?_
            refine w_imul X dX12_probe_63 ?_
            refine w_iload X dX12_probe_64 rfl ?_
            refine w_iadd X dX12_probe_66 ?_
            rw [show (3 : Int32) * nI q + 0 = nI (3 * q + 0) from nI_m 3 q 0]
            refine w_ialoadN X dX12_probe_67 rfl rfl (⟨by omega, by decide⟩) ?_
            refine w_iastoreN X dX12_probe_68 rfl rfl (⟨by decide, by decide⟩) ?_
            refine w_iinc (v := 1) X dX12_probe_69 rfl (by decide) (by decide) ?_
            refine w_goto (tgt := 45) X dX12_probe_72 (by decide) ?_
            refine w_iload X dX12_probe_45 rfl ?_
            refine w_iconst (v := 3) X dX12_probe_47 (by decide) ?_
            refine w_icmp_ge (tgt := 75) X dX12_probe_48 (by decide) (fun h48 => absurd h48 (by decide)) (fun h48 => ?_)
            refine w_aload_n X dX12_probe_51 rfl rfl ?_
            refine g12_seen X dX12_probe_52 ?_
            refine w_iload X dX12_probe_55 rfl ?_
            refine w_aload_n X dX12_probe_57 rfl rfl ?_
            refine g12_runParameters X dX12_probe_58 ?_
            refine w_iconst (v := 3) X dX12_probe_61 (by decide) ?_
            refine w_iload_n X dX12_probe_62 rfl rfl ?_
            refine w_imul X dX12_probe_63 ?_
            refine w_iload X dX12_probe_64 rfl ?_
            refine w_iadd X dX12_probe_66 ?_
            rw [show (0 : Int32) + 1 = nI 1 from rfl]
            rw [show (3 : Int32) * nI q + nI 1 = nI (3 * q + 1) from nI_m 3 q 1]
            refine w_ialoadN X dX12_probe_67 rfl rfl (⟨by omega, by decide⟩) ?_
            rw [gI_sI, if_neg (by omega)]
            refine w_iastoreN X dX12_probe_68 rfl rfl (⟨by decide, by decide⟩) ?_
            refine w_iinc (v := 1) X dX12_probe_69 rfl (by decide) (by decide) ?_
            refine w_goto (tgt := 45) X dX12_probe_72 (by decide) ?_
            refine w_iload X dX12_probe_45 rfl ?_
            refine w_iconst (v := 3) X dX12_probe_47 (by decide) ?_
            refine w_icmp_ge (tgt := 75) X dX12_probe_48 (by decide) (fun h48 => absurd h48 (by decide)) (fun h48 => ?_)
            refine w_aload_n X dX12_probe_51 rfl rfl ?_
            refine g12_seen X dX12_probe_52 ?_
            refine w_iload X dX12_probe_55 rfl ?_
            refine w_aload_n X dX12_probe_57 rfl rfl ?_
            refine g12_runParameters X dX12_probe_58 ?_
            refine w_iconst (v := 3) X dX12_probe_61 (by decide) ?_
            refine w_iload_n X dX12_probe_62 rfl rfl ?_
            refine w_imul X dX12_probe_63 ?_
            refine w_iload X dX12_probe_64 rfl ?_
            refine w_iadd X dX12_probe_66 ?_
            rw [show nI 1 + 1 = nI 2 from rfl]
            rw [show (3 : Int32) * nI q + nI 2 = nI (3 * q + 2) from nI_m 3 q 2]
            refine w_ialoadN X dX12_probe_67 rfl rfl (⟨by omega, by decide⟩) ?_
            rw [gI_sI, if_neg (by omega), gI_sI, if_neg (by omega)]
            refine w_iastoreN X dX12_probe_68 rfl rfl (⟨by decide, by decide⟩) ?_
            refine w_iinc (v := 1) X dX12_probe_69 rfl (by decide) (by decide) ?_
            refine w_goto (tgt := 45) X dX12_probe_72 (by decide) ?_
            refine w_iload X dX12_probe_45 rfl ?_
            refine w_iconst (v := 3) X dX12_probe_47 (by decide) ?_
            refine w_icmp_ge (tgt := 75) X dX12_probe_48 (by decide) (fun h48 => ?_) (fun h48 => absurd ((by decide)) h48)
            refine w_aload_n X dX12_probe_75 rfl rfl ?_
            refine g12_seen X dX12_probe_76 ?_
            refine w_iconst (v := 3) X dX12_probe_79 (by decide) ?_
            refine w_iload_n X dX12_probe_80 rfl rfl ?_
            refine w_iconst (v := 1) X dX12_probe_81 (by decide) ?_
            refine w_icmp_ne (tgt := 89) X dX12_probe_82 (by decide) (fun h82 => ?_) (fun h82 => ?_)
            · refine w_iconst (v := 0) X dX12_probe_89 (by decide) ?_
              refine w_iastoreN X dX12_probe_90 rfl rfl (⟨by decide, by decide⟩) ?_
              refine w_aload_n X dX12_probe_91 rfl rfl ?_
              refine g12_seen X dX12_probe_92 ?_
              refine w_iconst (v := 4) X dX12_probe_95 (by decide) ?_
              refine w_iload_n X dX12_probe_96 rfl rfl ?_
              refine w_iconst (v := 2) X dX12_probe_97 (by decide) ?_
              refine w_icmp_ne (tgt := 105) X dX12_probe_98 (by decide) (fun h98 => ?_) (fun h98 => ?_)
              · refine w_iconst (v := 0) X dX12_probe_105 (by decide) ?_
                refine w_iastoreN X dX12_probe_106 rfl rfl (⟨by decide, by decide⟩) ?_
                refine w_aload_n X dX12_probe_107 rfl rfl ?_
                refine g12_seen X dX12_probe_108 ?_
                refine w_iconst (v := 5) X dX12_probe_111 (by decide) ?_
                refine w_iload_n X dX12_probe_112 rfl rfl ?_
                refine w_iastoreN X dX12_probe_113 rfl rfl (⟨by decide, by decide⟩) ?_
                have e : seR_ N q pt v = _ := rfl
                obtain ⟨c0, c1, c2, c3, c4, c5, c6⟩ := hf2 h39 _ rfl
                have z := fun y => t114 (seR_ N q pt v) y m c0 hm c1 c2 c3 c4 c5 c6
                unfold seR_ at z
                rw [if_neg h82, if_neg h98] at z
                exact z _
              · refine w_iload_n X dX12_probe_101 rfl rfl ?_
                refine w_goto (tgt := 106) X dX12_probe_102 (by decide) ?_
                refine w_iastoreN X dX12_probe_106 rfl rfl (⟨by decide, by decide⟩) ?_
                refine w_aload_n X dX12_probe_107 rfl rfl ?_
                refine g12_seen X dX12_probe_108 ?_
                refine w_iconst (v := 5) X dX12_probe_111 (by decide) ?_
                refine w_iload_n X dX12_probe_112 rfl rfl ?_
                refine w_iastoreN X dX12_probe_113 rfl rfl (⟨by decide, by decide⟩) ?_
                have e : seR_ N q pt v = _ := rfl
                obtain ⟨c0, c1, c2, c3, c4, c5, c6⟩ := hf2 h39 _ rfl
                have z := fun y => t114 (seR_ N q pt v) y m c0 hm c1 c2 c3 c4 c5 c6
                unfold seR_ at z
                rw [if_neg h82, if_pos h98] at z
                exact z _
            · refine w_iload_n X dX12_probe_85 rfl rfl ?_
              refine w_goto (tgt := 90) X dX12_probe_86 (by decide) ?_
              refine w_iastoreN X dX12_probe_90 rfl rfl (⟨by decide, by decide⟩) ?_
              refine w_aload_n X dX12_probe_91 rfl rfl ?_
              refine g12_seen X dX12_probe_92 ?_
              refine w_iconst (v := 4) X dX12_probe_95 (by decide) ?_
              refine w_iload_n X dX12_probe_96 rfl rfl ?_
              refine w_iconst (v := 2) X dX12_probe_97 (by decide) ?_
              refine w_icmp_ne (tgt := 105) X dX12_probe_98 (by decide) (fun h98 => ?_) (fun h98 => ?_)
              · refine w_iconst (v := 0) X dX12_probe_105 (by decide) ?_
                refine w_iastoreN X dX12_probe_106 rfl rfl (⟨by decide, by decide⟩) ?_
                refine w_aload_n X dX12_probe_107 rfl rfl ?_
                refine g12_seen X dX12_probe_108 ?_
                refine w_iconst (v := 5) X dX12_probe_111 (by decide) ?_
                refine w_iload_n X dX12_probe_112 rfl rfl ?_
                refine w_iastoreN X dX12_probe_113 rfl rfl (⟨by decide, by decide⟩) ?_
                have e : seR_ N q pt v = _ := rfl
                obtain ⟨c0, c1, c2, c3, c4, c5, c6⟩ := hf2 h39 _ rfl
                have z := fun y => t114 (seR_ N q pt v) y m c0 hm c1 c2 c3 c4 c5 c6
                unfold seR_ at z
                rw [if_pos h82, if_neg h98] at z
                exact z _
              · refine w_iload_n X dX12_probe_101 rfl rfl ?_
                refine w_goto (tgt := 106) X dX12_probe_102 (by decide) ?_
                refine w_iastoreN X dX12_probe_106 rfl rfl (⟨by decide, by decide⟩) ?_
                refine w_aload_n X dX12_probe_107 rfl rfl ?_
                refine g12_seen X dX12_probe_108 ?_
                refine w_iconst (v := 5) X dX12_probe_111 (by decide) ?_
                refine w_iload_n X dX12_probe_112 rfl rfl ?_
                refine w_iastoreN X dX12_probe_113 rfl rfl (⟨by decide, by decide⟩) ?_
                have e : seR_ N q pt v = _ := rfl
                obtain ⟨c0, c1, c2, c3, c4, c5, c6⟩ := hf2 h39 _ rfl
                have z := fun y => t114 (seR_ N q pt v) y m c0 hm c1 c2 c3 c4 c5 c6
                unfold seR_ at z
                rw [if_pos h82, if_pos h98] at z
                exact z _
  refine w_iconst (v := 0) X dX12_probe_0 (by decide) ?_
  refine w_istore X dX12_probe_1 (by decide) ?_
  exact lp 8 0 M _ (by omega) hW

end
