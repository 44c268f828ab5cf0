/-! the reference: probeExpression -/
def okR_ (V t n : Nat) (F : Nat → Nat × List Nat) (M : mm_) : Prop := M.1 4 t = nI n ∧ n ≤ 40 ∧ F 0 = (0, []) ∧ F n = (1, []) ∧ (∀ j, j ≤ n → (F j).1 ≤ 20 ∧ (F j).2.length ≤ 20 ∧ ∀ S x, (F j).2 = S ++ [x] → j < x ∧ x ≤ n ∧ (F x).2 = S) ∧ ∀ i, i < n → stR_ V n F i (M.1 2 (64 * t + i)) (M.2.1 3 (64 * t + i))
def okT_ (V t : Nat) (M : mm_) : Prop := ∃ (n : Nat) (F : Nat → Nat × List Nat), okR_ V t n F M
theorem okT_sd {S : Bool} {V t : Nat} {M : mm_} {e : Term} (hSV : S = true → V = 3) (hV : V ≤ 7) (w : wfR_ S V true e) (hn : nt_ e ≤ 20) (h : sd_ M t e) : okT_ V t M := by
  obtain ⟨F, f1, f2, f3, f4⟩ := (wfR_code hSV hV true e w 0 0 []).1 rfl
  rw [Nat.zero_add] at f2 f3 f4
  have hl := tc_le e
  refine ⟨(tc_ e).length, F, h.1, by omega, f1, f2, fun j hj => ?_, fun i hi => ?_⟩
  · obtain ⟨g1, ex, g2, g3, g4⟩ := f3 j (Nat.zero_le _) hj
    rw [List.nil_append] at g2
    refine ⟨by omega, by rw [g2]; omega, fun S x hx => ?_⟩
    obtain ⟨a1, a2, a3⟩ := g4 S x (g2.symm.trans hx)
    exact ⟨a1, a2, by rw [a3, List.nil_append]⟩
  · obtain ⟨h1, h2⟩ := h.2 i _ (List.getElem?_eq_getElem hi)
    rw [h1, h2]
    have := f4 i _ (List.getElem?_eq_getElem hi)
    rw [Nat.zero_add] at this
    exact this
theorem okT_fr {V t : Nat} {M N : mm_} (h4 : ∀ i, N.1 4 i = M.1 4 i) (h2 : ∀ i, N.1 2 i = M.1 2 i) (h3 : ∀ i, N.2.1 3 i = M.2.1 3 i) (h : okT_ V t M) : okT_ V t N := by
  obtain ⟨n, F, a1, a2, a3, a4, a5, a6⟩ := h
  exact ⟨n, F, by rw [h4]; exact a1, a2, a3, a4, a5, fun i hi => by rw [h2, h3]; exact a6 i hi⟩
def fpE_ (M N : mm_) : Prop := N.2 = M.2 ∧ ∀ a i, a ≠ 31 → a ≠ 32 → a ≠ 33 → ¬ (a = 0 ∧ (i = 58 ∨ i = 59)) → N.1 a i = M.1 a i
theorem fpE_rf {M : mm_} : fpE_ M M := ⟨rfl, fun _ _ _ _ _ _ => rfl⟩
theorem fpE_I {M N : mm_} {a i : Nat} {v : Int32} (h : fpE_ M N) (ha : a = 31 ∨ a = 32 ∨ a = 33 ∨ (a = 0 ∧ (i = 58 ∨ i = 59))) : fpE_ M (sI_ N a i v) := ⟨h.1, fun b j h1 h2 h3 h4 => by rw [gI_sI, if_neg (by omega)]; exact h.2 b j h1 h2 h3 h4⟩
def trR_ (F : Nat → Nat × List Nat) (p : Nat) (N : mm_) : Prop := ∀ k x, (F p).2[k]? = some x → N.1 32 k = nI x ∧ N.1 33 k = nI (F x).1
theorem trR_I {F : Nat → Nat × List Nat} {p a i : Nat} {N : mm_} {v : Int32} (h : trR_ F p N) (ha : a ≠ 32 ∧ a ≠ 33) : trR_ F p (sI_ N a i v) := fun k x hx => by
  rw [gI_sI, if_neg (by omega), gI_sI, if_neg (by omega)]; exact h k x hx
theorem trR_q {F : Nat → Nat × List Nat} {p q : Nat} {N : mm_} (h : trR_ F p N) (e : (F q).2 = (F p).2) : trR_ F q N := fun k x hx => h k x (by rw [← e]; exact hx)
theorem nI_mn (n : Nat) (h : 0 < n) : nI n + -1 = nI (n - 1) := by rw [← nI_p n h, Int32.sub_eq_add_neg]
set_option maxRecDepth 100000 in
set_option maxHeartbeats 4000000 in
theorem c12_probeExpression (G : gg_) (hG : gd_ G) (d : Nat) (M : mm_) (t : Nat) (ht : t < 32) (hk : okT_ 7 t M) : cm_ G yX12_probeExpression cX12_probeExpression 9 none (d + 1) [.ref (G.1 0), .int (nI t)] M (rV_ (fpE_ M)) := by
  obtain ⟨n, F, k1, k2, k3, k4, k5, k6⟩ := hk
  refine cm_of hG (by decide) (Nat.le_of_ble_eq_true rfl) (fun C X => ?_)
  have lp : ∀ (u p : Nat) (N : mm_) (x6 x7 x8 : Option Value), n ≤ p + u → p ≤ n → fpE_ M N → trR_ F p N → wq_ C G (qe_ C G (rV_ (fpE_ M))) 18 [some (.ref (G.1 0)), some (.int (nI t)), some (.int (nI (64 * t))), some (.int (nI (F p).1)), some (.int (nI (F p).2.length)), some (.int (nI p)), x6, x7, x8] [] N := by
    intro u
    induction u with
    | zero =>
      intro p N x6 x7 x8 hu hpn hF hT
      refine w_iload X dX12_probeExpression_18 rfl ?_
      refine w_aload_n X dX12_probeExpression_20 rfl rfl ?_
      refine g12_lengths X dX12_probeExpression_21 ?_
      refine w_iload_n X dX12_probeExpression_24 rfl rfl ?_
      refine w_ialoadN X dX12_probeExpression_25 rfl rfl (⟨by omega, by decide⟩) ?_
      rw [hF.2 4 _ (by decide) (by decide) (by decide) (by omega), k1]
      refine w_icmp_ge (tgt := 351) X dX12_probeExpression_26 (by decide) (fun h26 => ?_) (fun h26 => absurd (nI_le (a := n) (b := p) (by omega) (by omega)) h26)
      refine w_aload_n X dX12_probeExpression_351 rfl rfl ?_
      refine w_aload_n X dX12_probeExpression_352 rfl rfl ?_
      refine g12_probeStack X dX12_probeExpression_353 ?_
      refine w_iconst (v := 0) X dX12_probeExpression_356 (by decide) ?_
      refine w_ialoadN X dX12_probeExpression_357 rfl rfl (⟨by decide, by decide⟩) ?_
      refine p12_probeValue X dX12_probeExpression_358 ?_
      refine w_vrR X dX12_probeExpression_361 (fpE_I hF (Or.inr (Or.inr (Or.inr ⟨rfl, Or.inl rfl⟩))))
    | succ u ih =>
      intro p N x6 x7 x8 hu hpn hF hT
      obtain ⟨g20, gl, gh⟩ := k5 p hpn
      have t312 : ∀ (q : Nat) (N2 : mm_) (y6 y7 : Option Value), p < q → q ≤ n → fpE_ M N2 → trR_ F q N2 → wq_ C G (qe_ C G (rV_ (fpE_ M))) 312 [some (.ref (G.1 0)), some (.int (nI t)), some (.int (nI (64 * t))), some (.int (nI (F q).1)), some (.int (nI (F q).2.length)), some (.int (nI q)), y6, y7, some (.int 0)] [] N2 := by
        intro q N2 y6 y7 hpq hq hF2 hT2
        refine w_iload X dX12_probeExpression_312 rfl ?_
        refine w_if_eq (tgt := 348) X dX12_probeExpression_314 (by decide) (fun h314 => ?_) (fun h314 => absurd (rfl) h314)
        refine w_goto (tgt := 18) X dX12_probeExpression_348 (by decide) ?_
        exact ih q N2 _ _ _ (by omega) hq hF2 hT2
      have t312t : ∀ (N2 : mm_) (y3 y5 y6 y7 : Option Value), fpE_ M N2 → trR_ F p N2 → wq_ C G (qe_ C G (rV_ (fpE_ M))) 312 [some (.ref (G.1 0)), some (.int (nI t)), some (.int (nI (64 * t))), y3, some (.int (nI (F p).2.length)), y5, y6, y7, some (.int 1)] [] N2 := by
        intro N2 y3 y5 y6 y7 hF2 hT2
        rcases List.eq_nil_or_concat (F p).2 with e | ⟨S, x, e⟩
        · rw [e]
          refine w_iload X dX12_probeExpression_312 rfl ?_
          refine w_if_eq (tgt := 348) X dX12_probeExpression_314 (by decide) (fun h314 => absurd h314 (by decide)) (fun h314 => ?_)
          refine w_iload X dX12_probeExpression_317 rfl ?_
          refine w_if_ne (tgt := 328) X dX12_probeExpression_319 (by decide) (fun h319 => absurd rfl h319) (fun h319 => ?_)
          refine w_aload_n X dX12_probeExpression_322 rfl rfl ?_
          refine w_iconst (v := 1) X dX12_probeExpression_323 (by decide) ?_
          refine p12_probeThrew X dX12_probeExpression_324 (by first | exact Or.inl rfl | exact Or.inr rfl | assumption) ?_
          refine w_vrR X dX12_probeExpression_327 (fpE_I hF2 (Or.inr (Or.inr (Or.inr ⟨rfl, Or.inr rfl⟩))))
        · rw [List.concat_eq_append] at e
          obtain ⟨b1, b2, b3⟩ := gh S x e
          have hl : (F p).2.length = S.length + 1 := by rw [e]; simp
          obtain ⟨c1, c2⟩ := hT2 S.length x (by rw [e]; simp)
          rw [hl]
          have hT3 : trR_ F x N2 := fun k y hy => hT2 k y (by rw [b3] at hy; rw [e, List.getElem?_append_left (List.getElem?_eq_some_iff.mp hy).1]; exact hy)
          refine w_iload X dX12_probeExpression_312 rfl ?_
          refine w_if_eq (tgt := 348) X dX12_probeExpression_314 (by decide) (fun h314 => absurd h314 (by decide)) (fun h314 => ?_)
          refine w_iload X dX12_probeExpression_317 rfl ?_
          refine w_if_ne (tgt := 328) X dX12_probeExpression_319 (by decide) (fun h319 => ?_) (fun h319 => absurd ((nI_z (n := S.length + 1) (by omega)).mp h319) (by omega))
          refine w_iinc (v := -1) X dX12_probeExpression_328 rfl (by decide) (by decide) ?_
          rw [nI_mn _ (by omega), Nat.add_sub_cancel]
          refine w_aload_n X dX12_probeExpression_331 rfl rfl ?_
          refine g12_probeHeights X dX12_probeExpression_332 ?_
          refine w_iload X dX12_probeExpression_335 rfl ?_
          refine w_ialoadN X dX12_probeExpression_337 rfl rfl (⟨by omega, by decide⟩) ?_
          rw [c2]
          refine w_istore_n X dX12_probeExpression_338 rfl (by decide) ?_
          refine w_aload_n X dX12_probeExpression_339 rfl rfl ?_
          refine g12_probeTries X dX12_probeExpression_340 ?_
          refine w_iload X dX12_probeExpression_343 rfl ?_
          refine w_ialoadN X dX12_probeExpression_345 rfl rfl (⟨by omega, by decide⟩) ?_
          rw [c1]
          refine w_istore X dX12_probeExpression_346 (by decide) ?_
          refine w_goto (tgt := 18) X dX12_probeExpression_348 (by decide) ?_
          have z := ih x N2 y6 y7 (some (.int 1)) (by omega) b2 hF2 hT3
          rw [b3] at z
          exact z
      refine w_iload X dX12_probeExpression_18 rfl ?_
      refine w_aload_n X dX12_probeExpression_20 rfl rfl ?_
      refine g12_lengths X dX12_probeExpression_21 ?_
      refine w_iload_n X dX12_probeExpression_24 rfl rfl ?_
      refine w_ialoadN X dX12_probeExpression_25 rfl rfl (⟨by omega, by decide⟩) ?_
      rw [hF.2 4 _ (by decide) (by decide) (by decide) (by omega), k1]
      refine w_icmp_ge (tgt := 351) X dX12_probeExpression_26 (by decide) (fun h26 => ?_) (fun h26 => ?_)
      · refine w_aload_n X dX12_probeExpression_351 rfl rfl ?_
        refine w_aload_n X dX12_probeExpression_352 rfl rfl ?_
        refine g12_probeStack X dX12_probeExpression_353 ?_
        refine w_iconst (v := 0) X dX12_probeExpression_356 (by decide) ?_
        refine w_ialoadN X dX12_probeExpression_357 rfl rfl (⟨by decide, by decide⟩) ?_
        refine p12_probeValue X dX12_probeExpression_358 ?_
        refine w_vrR X dX12_probeExpression_361 (fpE_I hF (Or.inr (Or.inr (Or.inr ⟨rfl, Or.inl rfl⟩))))
      · have hp : p < n := Nat.lt_of_not_le (fun z => h26 (nI_le (a := n) (b := p) z (by omega)))
        obtain ⟨o, ho⟩ : ∃ o, M.1 2 (64 * t + p) = o := ⟨_, rfl⟩
        obtain ⟨v, hv⟩ : ∃ v, M.2.1 3 (64 * t + p) = v := ⟨_, rfl⟩
        have hs := k6 p hp
        rw [ho, hv] at hs
        refine w_aload_n X dX12_probeExpression_29 rfl rfl ?_
        refine g12_steps X dX12_probeExpression_30 ?_
        refine w_iload_n X dX12_probeExpression_33 rfl rfl ?_
        refine w_iload X dX12_probeExpression_34 rfl ?_
        refine w_iadd X dX12_probeExpression_36 ?_
        rw [nI_add]
        refine w_ialoadN X dX12_probeExpression_37 rfl rfl (⟨by omega, by decide⟩) ?_
        rw [hF.2 2 _ (by decide) (by decide) (by decide) (by omega), ho]
        refine w_istore X dX12_probeExpression_38 (by decide) ?_
        refine w_aload_n X dX12_probeExpression_40 rfl rfl ?_
        refine g12_values X dX12_probeExpression_41 ?_
        refine w_iload_n X dX12_probeExpression_44 rfl rfl ?_
        refine w_iload X dX12_probeExpression_45 rfl ?_
        refine w_iadd X dX12_probeExpression_47 ?_
        rw [nI_add]
        refine w_laloadN X dX12_probeExpression_48 rfl rfl (⟨by omega, by decide⟩) ?_
        rw [hF.1, hv]
        refine w_l2i X dX12_probeExpression_49 ?_
        refine w_istore X dX12_probeExpression_50 (by decide) ?_
        refine w_iinc (v := 1) X dX12_probeExpression_52 rfl (by decide) (by decide) ?_
        rw [nI_1]
        refine w_iconst (v := 0) X dX12_probeExpression_55 (by decide) ?_
        refine w_istore X dX12_probeExpression_56 (by decide) ?_
        refine w_iload X dX12_probeExpression_58 rfl ?_
        refine w_if_ne (tgt := 77) X dX12_probeExpression_60 (by decide) (fun h60 => ?_) (fun h60 => ?_)
        · refine w_iload X dX12_probeExpression_77 rfl ?_
          refine w_iconst (v := 1) X dX12_probeExpression_79 (by decide) ?_
          refine w_icmp_ne (tgt := 102) X dX12_probeExpression_80 (by decide) (fun h80 => ?_) (fun h80 => ?_)
          · refine w_iload X dX12_probeExpression_102 rfl ?_
            refine w_iconst (v := 3) X dX12_probeExpression_104 (by decide) ?_
            refine w_icmp_ne (tgt := 128) X dX12_probeExpression_105 (by decide) (fun h105 => ?_) (fun h105 => ?_)
            · refine w_iload X dX12_probeExpression_128 rfl ?_
              refine w_iconst (v := 4) X dX12_probeExpression_130 (by decide) ?_
              refine w_icmp_ne (tgt := 152) X dX12_probeExpression_131 (by decide) (fun h131 => ?_) (fun h131 => ?_)
              · refine w_iload X dX12_probeExpression_152 rfl ?_
                refine w_iconst (v := 5) X dX12_probeExpression_154 (by decide) ?_
                refine w_icmp_ne (tgt := 185) X dX12_probeExpression_155 (by decide) (fun h155 => ?_) (fun h155 => ?_)
                · refine w_iload X dX12_probeExpression_185 rfl ?_
                  refine w_bipush (v := 6) X dX12_probeExpression_187 (by decide) ?_
                  refine w_icmp_ne (tgt := 202) X dX12_probeExpression_189 (by decide) (fun h189 => ?_) (fun h189 => ?_)
                  · refine w_iload X dX12_probeExpression_202 rfl ?_
                    refine w_bipush (v := 7) X dX12_probeExpression_204 (by decide) ?_
                    refine w_icmp_ne (tgt := 235) X dX12_probeExpression_206 (by decide) (fun h206 => ?_) (fun h206 => ?_)
                    · refine w_iload X dX12_probeExpression_235 rfl ?_
                      refine w_bipush (v := 8) X dX12_probeExpression_237 (by decide) ?_
                      refine w_icmp_ne (tgt := 255) X dX12_probeExpression_239 (by decide) (fun h239 => ?_) (fun h239 => ?_)
                      · have o2 : o = 2 := by
                          have al := hs.2.2.2.2.2.2.2.2.2.2
                          simp [h60, h80, h105, h131, h155, h189, h206, h239] at al
                          exact al
                        obtain ⟨g1, g2⟩ := hs.2.2.2.2.2.2.2.2.2.1 o2
                        refine w_iload X dX12_probeExpression_255 rfl ?_
                        refine w_aload_n X dX12_probeExpression_257 rfl rfl ?_
                        refine g12_probeStack X dX12_probeExpression_258 ?_
                        refine w_iload_n X dX12_probeExpression_261 rfl rfl ?_
                        refine w_iconst (v := 1) X dX12_probeExpression_262 (by decide) ?_
                        refine w_isub X dX12_probeExpression_263 ?_
                        rw [nI_p _ (by omega)]
                        refine w_ialoadN X dX12_probeExpression_264 rfl rfl (⟨by omega, by decide⟩) ?_
                        refine w_s2fI X dX12_probeExpression_265 k12_isOver (c12_isOver G hG _ _ _ _) (Nat.le_of_ble_eq_true rfl) ?_
                        refine w_if_eq (tgt := 282) X dX12_probeExpression_268 (by decide) (fun h268 => ?_) (fun h268 => ?_)
                        · refine w_iinc (v := -1) X dX12_probeExpression_282 rfl (by decide) (by decide) ?_
                          rw [nI_mn _ (by omega)]
                          refine w_aload_n X dX12_probeExpression_285 rfl rfl ?_
                          refine g12_probeStack X dX12_probeExpression_286 ?_
                          refine w_iload_n X dX12_probeExpression_289 rfl rfl ?_
                          refine w_iconst (v := 1) X dX12_probeExpression_290 (by decide) ?_
                          refine w_isub X dX12_probeExpression_291 ?_
                          rw [nI_p _ (by omega)]
                          refine w_iload X dX12_probeExpression_292 rfl ?_
                          refine w_aload_n X dX12_probeExpression_294 rfl rfl ?_
                          refine g12_probeStack X dX12_probeExpression_295 ?_
                          refine w_iload_n X dX12_probeExpression_298 rfl rfl ?_
                          refine w_iconst (v := 1) X dX12_probeExpression_299 (by decide) ?_
                          refine w_isub X dX12_probeExpression_300 ?_
                          rw [nI_p _ (by omega)]
                          refine w_ialoadN X dX12_probeExpression_301 rfl rfl (⟨by omega, by decide⟩) ?_
                          refine w_aload_n X dX12_probeExpression_302 rfl rfl ?_
                          refine g12_probeStack X dX12_probeExpression_303 ?_
                          refine w_iload_n X dX12_probeExpression_306 rfl rfl ?_
                          refine w_ialoadN X dX12_probeExpression_307 rfl rfl (⟨by omega, by decide⟩) ?_
                          refine w_s3fI X dX12_probeExpression_308 k12_result (c12_result G hG _ _ _ _ _ (fun hh y => absurd h268 (by rw [if_pos ⟨hh, y⟩]; decide))) (Nat.le_of_ble_eq_true rfl) ?_
                          refine w_iastoreN X dX12_probeExpression_311 rfl rfl (⟨by omega, by decide⟩) ?_
                          have z := fun N2 => t312 (p + 1) N2 (some (.int o)) (some (.int v.toInt32)) (by omega) (by omega)
                          rw [g2] at z
                          exact z _ (fpE_I hF (Or.inl rfl)) (trR_q (trR_I hT ⟨by decide, by decide⟩) (by rw [g2]))
                        · refine w_iconst (v := 1) X dX12_probeExpression_271 (by decide) ?_
                          refine w_istore X dX12_probeExpression_272 (by decide) ?_
                          refine w_aload_n X dX12_probeExpression_274 rfl rfl ?_
                          refine w_iconst (v := -1) X dX12_probeExpression_275 (by decide) ?_
                          refine p12_probeValue X dX12_probeExpression_276 ?_
                          refine w_goto (tgt := 312) X dX12_probeExpression_279 (by decide) ?_
                          exact t312t _ _ _ _ _ (fpE_I hF (Or.inr (Or.inr (Or.inr ⟨rfl, Or.inl rfl⟩)))) (trR_I hT ⟨by decide, by decide⟩)
                      · obtain ⟨t2, x, S, hx, g1, g2, g3⟩ := hs.2.2.2.2.2.2.2.1 h239
                        refine w_iinc (v := -1) X dX12_probeExpression_242 rfl (by decide) (by decide) ?_
                        refine w_iload X dX12_probeExpression_245 rfl ?_
                        refine w_iload X dX12_probeExpression_247 rfl ?_
                        refine w_iadd X dX12_probeExpression_249 ?_
                        refine w_istore X dX12_probeExpression_250 (by decide) ?_
                        refine w_goto (tgt := 312) X dX12_probeExpression_252 (by decide) ?_
                        have hl : (F p).2.length = S.length + 1 := by rw [g2]; simp
                        rw [hl, nI_mn _ (by omega), Nat.add_sub_cancel, hx, nI_add]
                        have z := t312 (p + 1 + t2) _ (some (.int o)) (some (.int (nI t2))) (by omega) g1 hF (fun k y hy => hT k y (by rw [g3] at hy; rw [g2, List.getElem?_append_left (List.getElem?_eq_some_iff.mp hy).1]; exact hy))
                        rw [g3] at z
                        exact z
                    · obtain ⟨t2, hx, g1, g2, g3⟩ := hs.2.2.2.2.2.2.1 h206
                      refine w_aload_n X dX12_probeExpression_209 rfl rfl ?_
                      refine g12_probeTries X dX12_probeExpression_210 ?_
                      refine w_iload X dX12_probeExpression_213 rfl ?_
                      refine w_iload X dX12_probeExpression_215 rfl ?_
                      refine w_iload X dX12_probeExpression_217 rfl ?_
                      refine w_iadd X dX12_probeExpression_219 ?_
                      rw [hx, nI_add]
                      refine w_iastoreN X dX12_probeExpression_220 rfl rfl (⟨by omega, by decide⟩) ?_
                      refine w_aload_n X dX12_probeExpression_221 rfl rfl ?_
                      refine g12_probeHeights X dX12_probeExpression_222 ?_
                      refine w_iload X dX12_probeExpression_225 rfl ?_
                      refine w_iload_n X dX12_probeExpression_227 rfl rfl ?_
                      refine w_iastoreN X dX12_probeExpression_228 rfl rfl (⟨by omega, by decide⟩) ?_
                      refine w_iinc (v := 1) X dX12_probeExpression_229 rfl (by decide) (by decide) ?_
                      refine w_goto (tgt := 312) X dX12_probeExpression_232 (by decide) ?_
                      have z := t312 (p + 1) (sI_ (sI_ N 32 (F p).2.length (nI (p + 1 + t2))) 33 (F p).2.length (nI (F p).1)) (some (.int o)) (some (.int (nI t2))) (by omega) (by omega) (fpE_I (fpE_I hF (Or.inr (Or.inl rfl))) (Or.inr (Or.inr (Or.inl rfl)))) ?_
                      · rw [g2] at z
                        rw [nI_1]
                        simp only [List.length_append, List.length_cons, List.length_nil] at z
                        exact z
                      · intro k x hkx
                        rw [g2] at hkx
                        by_cases hk : k < (F p).2.length
                        · rw [List.getElem?_append_left hk] at hkx
                          rw [gI_sI, if_neg (by omega), gI_sI, if_neg (by omega), gI_sI, if_neg (by omega), gI_sI, if_neg (by omega)]
                          exact hT k x hkx
                        · rw [List.getElem?_append_right (by omega)] at hkx
                          have hk2 : k - (F p).2.length < 1 := (List.getElem?_eq_some_iff.mp hkx).1
                          obtain rfl : k = (F p).2.length := by omega
                          rw [Nat.sub_self] at hkx
                          cases hkx
                          rw [gI_sI, if_neg (by omega), gI_sI, if_pos ⟨rfl, rfl⟩, gI_sI, if_pos ⟨rfl, rfl⟩, g3]
                          exact ⟨rfl, rfl⟩
                  · obtain ⟨t2, hx, g1, g2⟩ := hs.2.2.2.2.2.1 h189
                    refine w_iload X dX12_probeExpression_192 rfl ?_
                    refine w_iload X dX12_probeExpression_194 rfl ?_
                    refine w_iadd X dX12_probeExpression_196 ?_
                    refine w_istore X dX12_probeExpression_197 (by decide) ?_
                    refine w_goto (tgt := 312) X dX12_probeExpression_199 (by decide) ?_
                    rw [hx, nI_add]
                    have z := t312 (p + 1 + t2) _ (some (.int o)) (some (.int (nI t2))) (by omega) g1 hF (trR_q hT (by rw [g2]))
                    rw [g2] at z
                    exact z
                · obtain ⟨t2, hx, g1, g2, g3, g4⟩ := hs.2.2.2.2.1 h155
                  refine w_iinc (v := -1) X dX12_probeExpression_158 rfl (by decide) (by decide) ?_
                  rw [nI_mn _ g2]
                  refine w_aload_n X dX12_probeExpression_161 rfl rfl ?_
                  refine g12_probeStack X dX12_probeExpression_162 ?_
                  refine w_iload_n X dX12_probeExpression_165 rfl rfl ?_
                  refine w_ialoadN X dX12_probeExpression_166 rfl rfl (⟨by omega, by decide⟩) ?_
                  refine w_if_ne (tgt := 178) X dX12_probeExpression_167 (by decide) (fun h167 => ?_) (fun h167 => ?_)
                  · refine w_iload X dX12_probeExpression_178 rfl ?_
                    refine w_istore X dX12_probeExpression_180 (by decide) ?_
                    refine w_goto (tgt := 312) X dX12_probeExpression_182 (by decide) ?_
                    have z := t312 (p + 1) _ (some (.int o)) (some (.int v.toInt32)) (by omega) (by omega) hF (trR_q hT (by rw [g3]))
                    rw [g3] at z
                    exact z
                  · refine w_iload X dX12_probeExpression_170 rfl ?_
                    refine w_iload X dX12_probeExpression_172 rfl ?_
                    refine w_iadd X dX12_probeExpression_174 ?_
                    refine w_goto (tgt := 180) X dX12_probeExpression_175 (by decide) ?_
                    refine w_istore X dX12_probeExpression_180 (by decide) ?_
                    refine w_goto (tgt := 312) X dX12_probeExpression_182 (by decide) ?_
                    rw [hx, nI_add]
                    have z := t312 (p + 1 + t2) _ (some (.int o)) (some (.int (nI t2))) (by omega) g1 hF (trR_q hT (by rw [g4, g3]))
                    rw [g4, g3] at z
                    exact z
              · have g1 := hs.2.2.2.1 h131
                refine w_iconst (v := 1) X dX12_probeExpression_134 (by decide) ?_
                refine w_istore X dX12_probeExpression_135 (by decide) ?_
                refine w_aload_n X dX12_probeExpression_137 rfl rfl ?_
                refine w_aload_n X dX12_probeExpression_138 rfl rfl ?_
                refine g12_probeStack X dX12_probeExpression_139 ?_
                refine w_iload_n X dX12_probeExpression_142 rfl rfl ?_
                refine w_iconst (v := 1) X dX12_probeExpression_143 (by decide) ?_
                refine w_isub X dX12_probeExpression_144 ?_
                rw [nI_p _ g1]
                refine w_ialoadN X dX12_probeExpression_145 rfl rfl (⟨by omega, by decide⟩) ?_
                refine p12_probeValue X dX12_probeExpression_146 ?_
                refine w_goto (tgt := 312) X dX12_probeExpression_149 (by decide) ?_
                exact t312t _ _ _ _ _ (fpE_I hF (Or.inr (Or.inr (Or.inr ⟨rfl, Or.inl rfl⟩)))) (trR_I hT ⟨by decide, by decide⟩)
            · obtain ⟨g, g1⟩ := hs.2.2.1 h105
              refine w_aload_n X dX12_probeExpression_108 rfl rfl ?_
              refine g12_probeStack X dX12_probeExpression_109 ?_
              refine w_iload_n X dX12_probeExpression_112 rfl rfl ?_
              refine w_iconst (v := 1) X dX12_probeExpression_113 (by decide) ?_
              refine w_isub X dX12_probeExpression_114 ?_
              rw [nI_p _ g1]
              refine w_aload_n X dX12_probeExpression_115 rfl rfl ?_
              refine g12_probeStack X dX12_probeExpression_116 ?_
              refine w_iload_n X dX12_probeExpression_119 rfl rfl ?_
              refine w_iconst (v := 1) X dX12_probeExpression_120 (by decide) ?_
              refine w_isub X dX12_probeExpression_121 ?_
              rw [nI_p _ g1]
              refine w_ialoadN X dX12_probeExpression_122 rfl rfl (⟨by omega, by decide⟩) ?_
              refine w_ineg X dX12_probeExpression_123 ?_
              refine w_iastoreN X dX12_probeExpression_124 rfl rfl (⟨by omega, by decide⟩) ?_
              refine w_goto (tgt := 312) X dX12_probeExpression_125 (by decide) ?_
              have z := fun N2 => t312 (p + 1) N2 (some (.int o)) (some (.int v.toInt32)) (by omega) (by omega)
              rw [g] at z
              exact z _ (fpE_I hF (Or.inl rfl)) (trR_q (trR_I hT ⟨by decide, by decide⟩) (by rw [g]))
          · obtain ⟨g, j, hj, hx⟩ := hs.2.1 h80
            refine w_aload_n X dX12_probeExpression_83 rfl rfl ?_
            refine g12_probeStack X dX12_probeExpression_84 ?_
            refine w_iload_n X dX12_probeExpression_87 rfl rfl ?_
            refine w_aload_n X dX12_probeExpression_88 rfl rfl ?_
            refine g12_seen X dX12_probeExpression_89 ?_
            refine w_iload X dX12_probeExpression_92 rfl ?_
            rw [hx]
            refine w_ialoadN X dX12_probeExpression_94 rfl rfl (⟨by omega, by decide⟩) ?_
            refine w_iastoreN X dX12_probeExpression_95 rfl rfl (⟨by omega, by decide⟩) ?_
            refine w_iinc (v := 1) X dX12_probeExpression_96 rfl (by decide) (by decide) ?_
            refine w_goto (tgt := 312) X dX12_probeExpression_99 (by decide) ?_
            have z := fun N2 => t312 (p + 1) N2 (some (.int o)) (some (.int (nI j))) (by omega) (by omega)
            rw [g] at z
            rw [nI_1]
            exact z _ (fpE_I hF (Or.inl rfl)) (trR_q (trR_I hT ⟨by decide, by decide⟩) (by rw [g]))
        · refine w_aload_n X dX12_probeExpression_63 rfl rfl ?_
          refine g12_probeStack X dX12_probeExpression_64 ?_
          refine w_iload_n X dX12_probeExpression_67 rfl rfl ?_
          refine w_iload X dX12_probeExpression_68 rfl ?_
          refine w_iastoreN X dX12_probeExpression_70 rfl rfl (⟨by omega, by decide⟩) ?_
          refine w_iinc (v := 1) X dX12_probeExpression_71 rfl (by decide) (by decide) ?_
          refine w_goto (tgt := 312) X dX12_probeExpression_74 (by decide) ?_
          have e := hs.1 h60
          have z := fun N2 => t312 (p + 1) N2 (some (.int o)) (some (.int v.toInt32)) (by omega) (by omega)
          rw [e] at z
          rw [nI_1]
          exact z _ (fpE_I hF (Or.inl rfl)) (trR_q (trR_I hT ⟨by decide, by decide⟩) (by rw [e]))
  refine w_iload_n X dX12_probeExpression_0 rfl rfl ?_
  refine w_s1fI X dX12_probeExpression_1 k12_rowOf (c12_rowOf G hG _ _ _) (Nat.le_of_ble_eq_true rfl) ?_
  rw [show (64 : Int32) * nI t = nI (64 * t) from pk_mul 64 t]
  refine w_istore_n X dX12_probeExpression_4 rfl (by decide) ?_
  refine w_iconst (v := 0) X dX12_probeExpression_5 (by decide) ?_
  refine w_istore_n X dX12_probeExpression_6 rfl (by decide) ?_
  refine w_iconst (v := 0) X dX12_probeExpression_7 (by decide) ?_
  refine w_istore X dX12_probeExpression_8 (by decide) ?_
  refine w_iconst (v := 0) X dX12_probeExpression_10 (by decide) ?_
  refine w_istore X dX12_probeExpression_11 (by decide) ?_
  refine w_aload_n X dX12_probeExpression_13 rfl rfl ?_
  refine w_iconst (v := 0) X dX12_probeExpression_14 (by decide) ?_
  refine p12_probeThrew X dX12_probeExpression_15 (by first | exact Or.inl rfl | exact Or.inr rfl | assumption) ?_
  have z := lp n 0 (sI_ M 0 59 0) none none none (by omega) (by omega) (fpE_I fpE_rf (Or.inr (Or.inr (Or.inr ⟨rfl, Or.inr rfl⟩)))) (fun k x hx => by rw [k3] at hx; cases hx)
  rw [k3] at z
  exact z
