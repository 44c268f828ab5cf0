section
/-! the reference's machine: step, play, exactly -/
def OV_ (v y : Int32) : Prop := (v = 47 ∨ v = 37) ∧ y = 0
def SRW_ (G : gg_) (d : Nat) (Q : mm_ → Prop) (c D h T m p n : Nat) (M : mm_) : Prop := M.1 0 39 = nI (D + 1) ∧ D ≤ 9 ∧ M.1 23 (D + 1) = nI m ∧ m < 16 ∧ M.1 25 (D + 1) = nI p ∧ M.1 4 m = nI n ∧ n ≤ 40 ∧ p ≤ n ∧ M.1 0 47 = nI h ∧ h < 400 ∧ M.1 0 51 = nI T ∧ T < 240 ∧
  (p = n → ∃ h2, LVW_ G (d + 1) Q D h2 M) ∧
  (p < n → ∀ (x : Int32) (v : Int64), M.1 2 (64 * m + p) = x → M.2.1 3 (64 * m + p) = v → ∀ A, A = sI_ M 25 (D + 1) (nI (p + 1)) →
    (x = 0 → Q (ps_ A h v.toInt32)) ∧
    (x = 1 → ∃ j, j < 3 ∧ v.toInt32 = nI j ∧ Q (ps_ A h (A.1 24 (3 * (D + 1) + j)))) ∧
    (x = 3 → 1 ≤ h ∧ Q (sI_ A 26 (h - 1) (-(A.1 26 (h - 1))))) ∧
    (x = 4 → 1 ≤ h ∧ TUW_ G (d + 1) (A.1 26 (h - 1)) Q (D + 1) (sI_ A 0 47 (nI (h - 1)))) ∧
    (x = 5 → 1 ≤ h ∧ ∃ w, v.toInt32 = nI w ∧ (A.1 26 (h - 1) = 0 → Q (sI_ (sI_ A 0 47 (nI (h - 1))) 25 (D + 1) (nI (p + 1 + w)))) ∧ (¬ A.1 26 (h - 1) = 0 → Q (sI_ (sI_ A 0 47 (nI (h - 1))) 25 (D + 1) (nI (p + 1))))) ∧
    (x = 6 → ∃ w, v.toInt32 = nI w ∧ Q (sI_ A 25 (D + 1) (nI (p + 1 + w)))) ∧
    (x = 7 → ∃ w, v.toInt32 = nI w ∧ Q (sI_ (sI_ (sI_ (sI_ A 27 T (nI (p + 1 + w))) 28 T (nI h)) 29 T (nI (D + 1))) 0 51 (nI (T + 1)))) ∧
    (x = 8 → 1 ≤ T ∧ ∃ w, v.toInt32 = nI w ∧ Q (sI_ (sI_ A 0 51 (nI (T - 1))) 25 (D + 1) (nI (p + 1 + w)))) ∧
    (x = 9 → ∃ j k h2, j ≤ 3 ∧ (v &&& 3).toInt32 = nI j ∧ h = h2 + j ∧ IVW_ G d Q c (D + 1) h2 k j (v >>> ((2 : Int32).toInt64 &&& 63)) (sI_ A 0 47 (nI h2))) ∧
    (x = 2 → 2 ≤ h ∧ (OV_ v.toInt32 (A.1 26 (h - 1)) → TUW_ G (d + 1) (-1) Q (D + 1) (sI_ A 0 47 (nI (h - 2)))) ∧ (¬ OV_ v.toInt32 (A.1 26 (h - 1)) → Q (sI_ (sI_ A 0 47 (nI (h - 1))) 26 (h - 1 - 1) (rs_ v.toInt32 (A.1 26 (h - 1 - 1)) (A.1 26 (h - 1)))))) ∧
    (x = 0 ∨ x = 1 ∨ x = 2 ∨ x = 3 ∨ x = 4 ∨ x = 5 ∨ x = 6 ∨ x = 7 ∨ x = 8 ∨ x = 9))
set_option maxRecDepth 100000 in
set_option maxHeartbeats 4000000 in
theorem c12_stepE (G : gg_) (hG : gd_ G) (d : Nat) (M : mm_) (Q : mm_ → Prop) (c D h T m p n : Nat) (hQ : SRW_ G d Q c D h T m p n M) : cm_ G yX12_step cX12_step 7 none (d + 6) [.ref (G.1 0)] M (rV_ Q) := by
  refine cm_of hG (by decide) (Nat.le_of_ble_eq_true rfl) (fun C X => ?_)
  obtain ⟨e39, hD9, a2, hm16, a8, h4, hn40, hpn, h47, hh, h51, hT, hQ1, hQ2⟩ := hQ
  refine w_aload_n X dX12_step_0 rfl rfl ?_
  refine g12_runMethods X dX12_step_1 ?_
  refine w_aload_n X dX12_step_4 rfl rfl ?_
  refine g12_depth X dX12_step_5 ?_
  rw [e39]
  refine w_ialoadN X dX12_step_8 rfl rfl (⟨by omega, by decide⟩) ?_
  rw [a2]
  refine w_istore_n X dX12_step_9 rfl (by decide) ?_
  refine w_aload_n X dX12_step_10 rfl rfl ?_
  refine g12_runPlaces X dX12_step_11 ?_
  refine w_aload_n X dX12_step_14 rfl rfl ?_
  refine g12_depth X dX12_step_15 ?_
  rw [e39]
  refine w_ialoadN X dX12_step_18 rfl rfl (⟨by omega, by decide⟩) ?_
  rw [a8]
  refine w_istore_n X dX12_step_19 rfl (by decide) ?_
  refine w_iload_n X dX12_step_20 rfl rfl ?_
  refine w_aload_n X dX12_step_21 rfl rfl ?_
  refine g12_lengths X dX12_step_22 ?_
  refine w_iload_n X dX12_step_25 rfl rfl ?_
  refine w_ialoadN X dX12_step_26 rfl rfl (⟨by omega, by decide⟩) ?_
  rw [h4]
  refine w_icmp_ne (tgt := 35) X dX12_step_27 (by decide) (fun h27 => ?_) (fun h27 => ?_)
  · have hp : p < n := by
      rcases Nat.lt_or_ge p n with z | z
      · exact z
      · exact absurd (show nI p = nI n by rw [show p = n by omega]) h27
    obtain ⟨x, ho⟩ : ∃ x, M.1 2 (64 * m + p) = x := ⟨_, rfl⟩
    obtain ⟨v, hv⟩ : ∃ v, M.2.1 3 (64 * m + p) = v := ⟨_, rfl⟩
    refine w_aload_n X dX12_step_35 rfl rfl ?_
    refine g12_steps X dX12_step_36 ?_
    refine w_iload_n X dX12_step_39 rfl rfl ?_
    refine w_s1fI X dX12_step_40 k12_rowOf (c12_rowOf G hG _ _ _) (Nat.le_of_ble_eq_true rfl) ?_
    refine w_iload_n X dX12_step_43 rfl rfl ?_
    refine w_iadd X dX12_step_44 ?_
    rw [show (64 : Int32) * nI m + nI p = nI (64 * m + p) from nI_m 64 m p]
    refine w_ialoadN X dX12_step_45 rfl rfl (⟨by omega, by decide⟩) ?_
    rw [ho]
    refine w_istore_n X dX12_step_46 rfl (by decide) ?_
    refine w_aload_n X dX12_step_47 rfl rfl ?_
    refine g12_values X dX12_step_48 ?_
    refine w_iload_n X dX12_step_51 rfl rfl ?_
    refine w_s1fI X dX12_step_52 k12_rowOf (c12_rowOf G hG _ _ _) (Nat.le_of_ble_eq_true rfl) ?_
    refine w_iload_n X dX12_step_55 rfl rfl ?_
    refine w_iadd X dX12_step_56 ?_
    rw [show (64 : Int32) * nI m + nI p = nI (64 * m + p) from nI_m 64 m p]
    refine w_laloadN X dX12_step_57 rfl rfl (⟨by omega, by decide⟩) ?_
    rw [hv]
    refine w_lstore X dX12_step_58 (by decide) ?_
    refine w_lload X dX12_step_60 rfl ?_
    refine w_l2i X dX12_step_62 ?_
    refine w_istore X dX12_step_63 (by decide) ?_
    refine w_aload_n X dX12_step_65 rfl rfl ?_
    refine g12_runPlaces X dX12_step_66 ?_
    refine w_aload_n X dX12_step_69 rfl rfl ?_
    refine g12_depth X dX12_step_70 ?_
    rw [e39]
    refine w_iload_n X dX12_step_73 rfl rfl ?_
    refine w_iconst (v := 1) X dX12_step_74 (by decide) ?_
    refine w_iadd X dX12_step_75 ?_
    rw [nI_1]
    refine w_iastoreN X dX12_step_76 rfl rfl (⟨by omega, by decide⟩) ?_
    obtain ⟨A, hA⟩ : ∃ A, sI_ M 25 (D + 1) (nI (p + 1)) = A := ⟨_, rfl⟩
    rw [hA]
    have hs := hQ2 hp x v ho hv A hA.symm
    have eA : ∀ a i, ¬ (a = 25 ∧ i = D + 1) → A.1 a i = M.1 a i := fun a i z => by rw [← hA, gI_sI, if_neg z]
    have A39 : A.1 0 39 = nI (D + 1) := (eA _ _ (by omega)).trans e39
    have A47 : A.1 0 47 = nI h := (eA _ _ (by omega)).trans h47
    have A51 : A.1 0 51 = nI T := (eA _ _ (by omega)).trans h51
    refine w_iload_n X dX12_step_77 rfl rfl ?_
    refine w_if_ne (tgt := 90) X dX12_step_78 (by decide) (fun h78 => ?_) (fun h78 => ?_)
    · refine w_iload_n X dX12_step_90 rfl rfl ?_
      refine w_iconst (v := 1) X dX12_step_91 (by decide) ?_
      refine w_icmp_ne (tgt := 116) X dX12_step_92 (by decide) (fun h92 => ?_) (fun h92 => ?_)
      · refine w_iload_n X dX12_step_116 rfl rfl ?_
        refine w_iconst (v := 3) X dX12_step_117 (by decide) ?_
        refine w_icmp_ne (tgt := 147) X dX12_step_118 (by decide) (fun h118 => ?_) (fun h118 => ?_)
        · refine w_iload_n X dX12_step_147 rfl rfl ?_
          refine w_iconst (v := 4) X dX12_step_148 (by decide) ?_
          refine w_icmp_ne (tgt := 178) X dX12_step_149 (by decide) (fun h149 => ?_) (fun h149 => ?_)
          · refine w_iload_n X dX12_step_178 rfl rfl ?_
            refine w_iconst (v := 5) X dX12_step_179 (by decide) ?_
            refine w_icmp_ne (tgt := 229) X dX12_step_180 (by decide) (fun h180 => ?_) (fun h180 => ?_)
            · refine w_iload_n X dX12_step_229 rfl rfl ?_
              refine w_bipush (v := 6) X dX12_step_230 (by decide) ?_
              refine w_icmp_ne (tgt := 253) X dX12_step_232 (by decide) (fun h232 => ?_) (fun h232 => ?_)
              · refine w_iload_n X dX12_step_253 rfl rfl ?_
                refine w_bipush (v := 7) X dX12_step_254 (by decide) ?_
                refine w_icmp_ne (tgt := 313) X dX12_step_256 (by decide) (fun h256 => ?_) (fun h256 => ?_)
                · refine w_iload_n X dX12_step_313 rfl rfl ?_
                  refine w_bipush (v := 8) X dX12_step_314 (by decide) ?_
                  refine w_icmp_ne (tgt := 347) X dX12_step_316 (by decide) (fun h316 => ?_) (fun h316 => ?_)
                  · refine w_iload_n X dX12_step_347 rfl rfl ?_
                    refine w_bipush (v := 9) X dX12_step_348 (by decide) ?_
                    refine w_icmp_ne (tgt := 362) X dX12_step_350 (by decide) (fun h350 => ?_) (fun h350 => ?_)
                    · have o2 : x = 2 := by
                        have al := hs.2.2.2.2.2.2.2.2.2.2
                        simp [h78, h92, h118, h149, h180, h232, h256, h316, h350] at al
                        exact al
                      obtain ⟨g1, g2, g3⟩ := hs.2.2.2.2.2.2.2.2.2.1 o2
                      refine w_iload X dX12_step_362 rfl ?_
                      refine w_aload_n X dX12_step_364 rfl rfl ?_
                      refine g12_stack X dX12_step_365 ?_
                      refine w_aload_n X dX12_step_368 rfl rfl ?_
                      refine g12_height X dX12_step_369 ?_
                      rw [A47]
                      refine w_iconst (v := 1) X dX12_step_372 (by decide) ?_
                      refine w_isub X dX12_step_373 ?_
                      rw [nI_p _ (by omega)]
                      refine w_ialoadN X dX12_step_374 rfl rfl (⟨by omega, by decide⟩) ?_
                      refine w_s2fI X dX12_step_375 k12_isOver (c12_isOver G hG _ _ _ _) (Nat.le_of_ble_eq_true rfl) ?_
                      refine w_if_eq (tgt := 399) X dX12_step_378 (by decide) (fun h378 => ?_) (fun h378 => ?_)
                      · have hno : ¬ OV_ v.toInt32 (A.1 26 (h - 1)) := fun y => absurd h378 (by rw [if_pos (show (v.toInt32 = 47 ∨ v.toInt32 = 37) ∧ A.1 26 (h - 1) = 0 from y)]; decide)
                        refine w_aload_n X dX12_step_399 rfl rfl ?_
                        refine w_dup X dX12_step_400 rfl ?_
                        refine g12_height X dX12_step_401 ?_
                        rw [A47]
                        refine w_iconst (v := 1) X dX12_step_404 (by decide) ?_
                        refine w_isub X dX12_step_405 ?_
                        rw [nI_p _ (by omega)]
                        refine p12_height X dX12_step_406 ?_
                        refine w_aload_n X dX12_step_409 rfl rfl ?_
                        refine g12_stack X dX12_step_410 ?_
                        refine w_aload_n X dX12_step_413 rfl rfl ?_
                        refine g12_height X dX12_step_414 ?_
                        rw [gI_sI, if_pos ⟨rfl, rfl⟩]
                        refine w_iconst (v := 1) X dX12_step_417 (by decide) ?_
                        refine w_isub X dX12_step_418 ?_
                        rw [nI_p _ (by omega)]
                        refine w_iload X dX12_step_419 rfl ?_
                        refine w_aload_n X dX12_step_421 rfl rfl ?_
                        refine g12_stack X dX12_step_422 ?_
                        refine w_aload_n X dX12_step_425 rfl rfl ?_
                        refine g12_height X dX12_step_426 ?_
                        rw [gI_sI, if_pos ⟨rfl, rfl⟩]
                        refine w_iconst (v := 1) X dX12_step_429 (by decide) ?_
                        refine w_isub X dX12_step_430 ?_
                        rw [nI_p _ (by omega)]
                        refine w_ialoadN X dX12_step_431 rfl rfl (⟨by omega, by decide⟩) ?_
                        rw [gI_sI, if_neg (by omega)]
                        refine w_aload_n X dX12_step_432 rfl rfl ?_
                        refine g12_stack X dX12_step_433 ?_
                        refine w_aload_n X dX12_step_436 rfl rfl ?_
                        refine g12_height X dX12_step_437 ?_
                        rw [gI_sI, if_pos ⟨rfl, rfl⟩]
                        refine w_ialoadN X dX12_step_440 rfl rfl (⟨by omega, by decide⟩) ?_
                        rw [gI_sI, if_neg (by omega)]
                        refine w_s3fI X dX12_step_441 k12_result (c12_result G hG _ _ _ _ _ (fun hh2 y => hno ⟨hh2, y⟩)) (Nat.le_of_ble_eq_true rfl) ?_
                        refine w_iastoreN X dX12_step_444 rfl rfl (⟨by omega, by decide⟩) ?_
                        exact w_vrR X dX12_step_445 (g3 hno)
                      · have hov : OV_ v.toInt32 (A.1 26 (h - 1)) := by
                          by_cases y : (v.toInt32 = 47 ∨ v.toInt32 = 37) ∧ A.1 26 (h - 1) = 0
                          · exact y
                          · exact absurd (if_neg y) h378
                        refine w_aload_n X dX12_step_381 rfl rfl ?_
                        refine w_aload_n X dX12_step_382 rfl rfl ?_
                        refine g12_height X dX12_step_383 ?_
                        rw [A47]
                        refine w_iconst (v := 2) X dX12_step_386 (by decide) ?_
                        refine w_isub X dX12_step_387 ?_
                        rw [show (2 : Int32) = nI 2 from rfl, pk_sub (by omega)]
                        refine p12_height X dX12_step_388 ?_
                        refine w_aload_n X dX12_step_391 rfl rfl ?_
                        refine w_iconst (v := -1) X dX12_step_392 (by decide) ?_
                        refine w_v1rV X dX12_step_393 k12_throwUp rfl rfl (c12_throwUpE G hG _ _ (D + 1) (by omega) _ Q (g2 hov)) (Nat.le_of_ble_eq_true rfl) (fun N393 h393 => ?_)
                        refine w_goto (tgt := 445) X dX12_step_396 (by decide) ?_
                        exact w_vrR X dX12_step_445 h393
                    · obtain ⟨j, k, h2, hj3, hj, hh2, hIV⟩ := hs.2.2.2.2.2.2.2.2.1 h350
                      refine w_aload_n X dX12_step_353 rfl rfl ?_
                      refine w_lload X dX12_step_354 rfl ?_
                      refine w_v1rV X dX12_step_356 k12_invoke rfl rfl (c12_invokeE G hG _ _ c (D + 1) h2 k j (by omega) hj3 _ hj (by rw [A47, hh2]) Q hIV) (Nat.le_of_ble_eq_true rfl) (fun N356 h356 => ?_)
                      refine w_goto (tgt := 445) X dX12_step_359 (by decide) ?_
                      exact w_vrR X dX12_step_445 h356
                  · obtain ⟨g0, t2, hx, g⟩ := hs.2.2.2.2.2.2.2.1 h316
                    refine w_aload_n X dX12_step_319 rfl rfl ?_
                    refine w_dup X dX12_step_320 rfl ?_
                    refine g12_tries X dX12_step_321 ?_
                    rw [A51]
                    refine w_iconst (v := 1) X dX12_step_324 (by decide) ?_
                    refine w_isub X dX12_step_325 ?_
                    rw [nI_p _ (by omega)]
                    refine p12_tries X dX12_step_326 ?_
                    refine w_aload_n X dX12_step_329 rfl rfl ?_
                    refine g12_runPlaces X dX12_step_330 ?_
                    refine w_aload_n X dX12_step_333 rfl rfl ?_
                    refine g12_depth X dX12_step_334 ?_
                    rw [gI_sI, if_neg (by omega), A39]
                    refine w_iload_n X dX12_step_337 rfl rfl ?_
                    refine w_iconst (v := 1) X dX12_step_338 (by decide) ?_
                    refine w_iadd X dX12_step_339 ?_
                    refine w_iload X dX12_step_340 rfl ?_
                    rw [nI_1, hx]
                    refine w_iadd X dX12_step_342 ?_
                    rw [nI_add]
                    refine w_iastoreN X dX12_step_343 rfl rfl (⟨by omega, by decide⟩) ?_
                    refine w_goto (tgt := 445) X dX12_step_344 (by decide) ?_
                    exact w_vrR X dX12_step_445 g
                · obtain ⟨t2, hx, g⟩ := hs.2.2.2.2.2.2.1 h256
                  refine w_aload_n X dX12_step_259 rfl rfl ?_
                  refine g12_tryPlaces X dX12_step_260 ?_
                  refine w_aload_n X dX12_step_263 rfl rfl ?_
                  refine g12_tries X dX12_step_264 ?_
                  rw [A51]
                  refine w_iload_n X dX12_step_267 rfl rfl ?_
                  refine w_iconst (v := 1) X dX12_step_268 (by decide) ?_
                  refine w_iadd X dX12_step_269 ?_
                  refine w_iload X dX12_step_270 rfl ?_
                  rw [nI_1, hx]
                  refine w_iadd X dX12_step_272 ?_
                  rw [nI_add]
                  refine w_iastoreN X dX12_step_273 rfl rfl (⟨by omega, by decide⟩) ?_
                  refine w_aload_n X dX12_step_274 rfl rfl ?_
                  refine g12_tryHeights X dX12_step_275 ?_
                  refine w_aload_n X dX12_step_278 rfl rfl ?_
                  refine g12_tries X dX12_step_279 ?_
                  rw [gI_sI, if_neg (by omega), A51]
                  refine w_aload_n X dX12_step_282 rfl rfl ?_
                  refine g12_height X dX12_step_283 ?_
                  rw [gI_sI, if_neg (by omega), A47]
                  refine w_iastoreN X dX12_step_286 rfl rfl (⟨by omega, by decide⟩) ?_
                  refine w_aload_n X dX12_step_287 rfl rfl ?_
                  refine g12_tryDepths X dX12_step_288 ?_
                  refine w_aload_n X dX12_step_291 rfl rfl ?_
                  refine g12_tries X dX12_step_292 ?_
                  rw [gI_sI, if_neg (by omega), gI_sI, if_neg (by omega), A51]
                  refine w_aload_n X dX12_step_295 rfl rfl ?_
                  refine g12_depth X dX12_step_296 ?_
                  rw [gI_sI, if_neg (by omega), gI_sI, if_neg (by omega), A39]
                  refine w_iastoreN X dX12_step_299 rfl rfl (⟨by omega, by decide⟩) ?_
                  refine w_aload_n X dX12_step_300 rfl rfl ?_
                  refine w_dup X dX12_step_301 rfl ?_
                  refine g12_tries X dX12_step_302 ?_
                  rw [gI_sI, if_neg (by omega), gI_sI, if_neg (by omega), gI_sI, if_neg (by omega), A51]
                  refine w_iconst (v := 1) X dX12_step_305 (by decide) ?_
                  refine w_iadd X dX12_step_306 ?_
                  rw [nI_1]
                  refine p12_tries X dX12_step_307 ?_
                  refine w_goto (tgt := 445) X dX12_step_310 (by decide) ?_
                  exact w_vrR X dX12_step_445 g
              · obtain ⟨t2, hx, g⟩ := hs.2.2.2.2.2.1 h232
                refine w_aload_n X dX12_step_235 rfl rfl ?_
                refine g12_runPlaces X dX12_step_236 ?_
                refine w_aload_n X dX12_step_239 rfl rfl ?_
                refine g12_depth X dX12_step_240 ?_
                rw [A39]
                refine w_iload_n X dX12_step_243 rfl rfl ?_
                refine w_iconst (v := 1) X dX12_step_244 (by decide) ?_
                refine w_iadd X dX12_step_245 ?_
                refine w_iload X dX12_step_246 rfl ?_
                rw [nI_1, hx]
                refine w_iadd X dX12_step_248 ?_
                rw [nI_add]
                refine w_iastoreN X dX12_step_249 rfl rfl (⟨by omega, by decide⟩) ?_
                refine w_goto (tgt := 445) X dX12_step_250 (by decide) ?_
                exact w_vrR X dX12_step_445 g
            · obtain ⟨g0, t2, hx, g2, g3⟩ := hs.2.2.2.2.1 h180
              refine w_aload_n X dX12_step_183 rfl rfl ?_
              refine w_dup X dX12_step_184 rfl ?_
              refine g12_height X dX12_step_185 ?_
              rw [A47]
              refine w_iconst (v := 1) X dX12_step_188 (by decide) ?_
              refine w_isub X dX12_step_189 ?_
              rw [nI_p _ (by omega)]
              refine p12_height X dX12_step_190 ?_
              refine w_aload_n X dX12_step_193 rfl rfl ?_
              refine g12_runPlaces X dX12_step_194 ?_
              refine w_aload_n X dX12_step_197 rfl rfl ?_
              refine g12_depth X dX12_step_198 ?_
              rw [gI_sI, if_neg (by omega), A39]
              refine w_aload_n X dX12_step_201 rfl rfl ?_
              refine g12_stack X dX12_step_202 ?_
              refine w_aload_n X dX12_step_205 rfl rfl ?_
              refine g12_height X dX12_step_206 ?_
              rw [gI_sI, if_pos ⟨rfl, rfl⟩]
              refine w_ialoadN X dX12_step_209 rfl rfl (⟨by omega, by decide⟩) ?_
              rw [gI_sI, if_neg (by omega)]
              refine w_if_ne (tgt := 222) X dX12_step_210 (by decide) (fun h210 => ?_) (fun h210 => ?_)
              · refine w_iload_n X dX12_step_222 rfl rfl ?_
                refine w_iconst (v := 1) X dX12_step_223 (by decide) ?_
                refine w_iadd X dX12_step_224 ?_
                rw [nI_1]
                refine w_iastoreN X dX12_step_225 rfl rfl (⟨by omega, by decide⟩) ?_
                refine w_goto (tgt := 445) X dX12_step_226 (by decide) ?_
                exact w_vrR X dX12_step_445 (g3 h210)
              · refine w_iload_n X dX12_step_213 rfl rfl ?_
                refine w_iconst (v := 1) X dX12_step_214 (by decide) ?_
                refine w_iadd X dX12_step_215 ?_
                refine w_iload X dX12_step_216 rfl ?_
                rw [nI_1, hx]
                refine w_iadd X dX12_step_218 ?_
                refine w_goto (tgt := 225) X dX12_step_219 (by decide) ?_
                rw [nI_add]
                refine w_iastoreN X dX12_step_225 rfl rfl (⟨by omega, by decide⟩) ?_
                refine w_goto (tgt := 445) X dX12_step_226 (by decide) ?_
                exact w_vrR X dX12_step_445 (g2 h210)
          · obtain ⟨g1, g⟩ := hs.2.2.2.1 h149
            refine w_aload_n X dX12_step_152 rfl rfl ?_
            refine w_dup X dX12_step_153 rfl ?_
            refine g12_height X dX12_step_154 ?_
            rw [A47]
            refine w_iconst (v := 1) X dX12_step_157 (by decide) ?_
            refine w_isub X dX12_step_158 ?_
            rw [nI_p _ (by omega)]
            refine p12_height X dX12_step_159 ?_
            refine w_aload_n X dX12_step_162 rfl rfl ?_
            refine w_aload_n X dX12_step_163 rfl rfl ?_
            refine g12_stack X dX12_step_164 ?_
            refine w_aload_n X dX12_step_167 rfl rfl ?_
            refine g12_height X dX12_step_168 ?_
            rw [gI_sI, if_pos ⟨rfl, rfl⟩]
            refine w_ialoadN X dX12_step_171 rfl rfl (⟨by omega, by decide⟩) ?_
            rw [gI_sI, if_neg (by omega)]
            refine w_v1rV X dX12_step_172 k12_throwUp rfl rfl (c12_throwUpE G hG _ _ (D + 1) (by omega) _ Q g) (Nat.le_of_ble_eq_true rfl) (fun N172 h172 => ?_)
            refine w_goto (tgt := 445) X dX12_step_175 (by decide) ?_
            exact w_vrR X dX12_step_445 h172
        · obtain ⟨g1, g⟩ := hs.2.2.1 h118
          refine w_aload_n X dX12_step_121 rfl rfl ?_
          refine g12_stack X dX12_step_122 ?_
          refine w_aload_n X dX12_step_125 rfl rfl ?_
          refine g12_height X dX12_step_126 ?_
          rw [A47]
          refine w_iconst (v := 1) X dX12_step_129 (by decide) ?_
          refine w_isub X dX12_step_130 ?_
          rw [nI_p _ (by omega)]
          refine w_aload_n X dX12_step_131 rfl rfl ?_
          refine g12_stack X dX12_step_132 ?_
          refine w_aload_n X dX12_step_135 rfl rfl ?_
          refine g12_height X dX12_step_136 ?_
          rw [A47]
          refine w_iconst (v := 1) X dX12_step_139 (by decide) ?_
          refine w_isub X dX12_step_140 ?_
          rw [nI_p _ (by omega)]
          refine w_ialoadN X dX12_step_141 rfl rfl (⟨by omega, by decide⟩) ?_
          refine w_ineg X dX12_step_142 ?_
          refine w_iastoreN X dX12_step_143 rfl rfl (⟨by omega, by decide⟩) ?_
          refine w_goto (tgt := 445) X dX12_step_144 (by decide) ?_
          exact w_vrR X dX12_step_445 g
      · obtain ⟨j, hj, hx, g⟩ := hs.2.1 h92
        refine w_aload_n X dX12_step_95 rfl rfl ?_
        refine w_aload_n X dX12_step_96 rfl rfl ?_
        refine g12_runParameters X dX12_step_97 ?_
        refine w_iconst (v := 3) X dX12_step_100 (by decide) ?_
        refine w_aload_n X dX12_step_101 rfl rfl ?_
        refine g12_depth X dX12_step_102 ?_
        rw [A39]
        refine w_imul X dX12_step_105 ?_
        refine w_iload X dX12_step_106 rfl ?_
        refine w_iadd X dX12_step_108 ?_
        rw [hx, show (3 : Int32) * nI (D + 1) + nI j = nI (3 * (D + 1) + j) from nI_m 3 (D + 1) j]
        refine w_ialoadN X dX12_step_109 rfl rfl (⟨by omega, by decide⟩) ?_
        refine w_v1fV X dX12_step_110 k12_push rfl rfl (c12_push G hG _ _ h A47 (by omega) _) (Nat.le_of_ble_eq_true rfl) ?_
        refine w_goto (tgt := 445) X dX12_step_113 (by decide) ?_
        exact w_vrR X dX12_step_445 g
    · refine w_aload_n X dX12_step_81 rfl rfl ?_
      refine w_iload X dX12_step_82 rfl ?_
      refine w_v1fV X dX12_step_84 k12_push rfl rfl (c12_push G hG _ _ h A47 (by omega) _) (Nat.le_of_ble_eq_true rfl) ?_
      refine w_goto (tgt := 445) X dX12_step_87 (by decide) ?_
      exact w_vrR X dX12_step_445 (hs.1 h78)
  · obtain ⟨h2, hLV⟩ := hQ1 ((nI_eq (by omega) (by omega)).mp h27)
    refine w_aload_n X dX12_step_30 rfl rfl ?_
    refine w_v0rV X dX12_step_31 k12_leave rfl rfl (c12_leaveE G hG _ _ D h2 hD9 Q hLV) (Nat.le_of_ble_eq_true rfl) (fun N31 h31 => ?_)
    exact w_vrR X dX12_step_34 h31
def WPL_ (G : gg_) (d : Nat) (Q : mm_ → Prop) (c : Nat) : Nat → mm_ → Prop
  | 0, _ => False
  | u + 1, N => (N.1 0 39 = nI 0 ∧ Q N) ∨ ∃ D h T m p n, SRW_ G d (WPL_ G d Q c u) c D h T m p n N
def plM_ (M : mm_) (x y w z : Int32) : mm_ := sI_ (sI_ (sI_ (sI_ (sI_ (sI_ (sI_ (sI_ M 0 42 z) 0 39 0) 0 40 0) 0 47 0) 0 51 0) 24 3 x) 24 4 y) 24 5 w
def plQ_ (Q : mm_ → Prop) (r : Int32) (N : mm_) : Prop := ∃ N0, Q N0 ∧ N = sI_ N0 0 41 (N0.1 0 53) ∧ r = if N0.1 0 52 = 0 then 0 else 1
set_option maxRecDepth 100000 in
set_option maxHeartbeats 4000000 in
theorem c12_playE (G : gg_) (hG : gd_ G) (d : Nat) (M : mm_) (c m q3 : Nat) (hm : m < 16) (hq3 : q3 ≤ 3) (e3 : M.1 6 m = nI q3) (x y w z : Int32) (hz : z = 0 ∨ z = 1) (Q QE : mm_ → Prop) (hQ : CPR_ G (d + 2) 1 0 0 (enM_ (plM_ M x y w z) 0 0 m q3) QE) (hQ2 : ∀ N, QE N → ∃ u, WPL_ G d Q c u N) : cm_ G yX12_play cX12_play 6 (some .int) (d + 7) [.ref (G.1 0), .int (nI m), .int x, .int y, .int w, .int z] M (rI_ (plQ_ Q)) := by
  refine cm_of hG (by decide) (Nat.le_of_ble_eq_true rfl) (fun C X => ?_)
  have lp : ∀ (U : Nat) (N : mm_), WPL_ G d Q c U N → wq_ C G (qe_ C G (rI_ (plQ_ Q))) 53 [some (.ref (G.1 0)), some (.int (nI m)), some (.int x), some (.int y), some (.int w), some (.int z)] [] N := by
    intro U
    induction U with
    | zero => intro N hN; exact absurd hN id
    | succ U ih =>
      intro N hN
      rcases hN with ⟨e39, hN⟩ | ⟨D, h, T, m2, p, n, hN⟩
      · refine w_aload_n X dX12_play_53 rfl rfl ?_
        refine g12_depth X dX12_play_54 ?_
        rw [e39]
        refine w_if_le (tgt := 67) X dX12_play_57 (by decide) (fun h57 => ?_) (fun h57 => absurd (by decide) h57)
        refine w_aload_n X dX12_play_67 rfl rfl ?_
        refine w_aload_n X dX12_play_68 rfl rfl ?_
        refine g12_answer X dX12_play_69 ?_
        refine p12_value X dX12_play_72 ?_
        refine w_aload_n X dX12_play_75 rfl rfl ?_
        refine g12_threw X dX12_play_76 ?_
        rw [gI_sI, if_neg (by omega)]
        refine w_if_eq (tgt := 86) X dX12_play_79 (by decide) (fun h79 => ?_) (fun h79 => ?_)
        · refine w_iconst (v := 0) X dX12_play_86 (by decide) ?_
          exact w_irR X dX12_play_87 ⟨N, hN, rfl, by rw [if_pos h79]⟩
        · refine w_iconst (v := 1) X dX12_play_82 (by decide) ?_
          refine w_goto (tgt := 87) X dX12_play_83 (by decide) ?_
          exact w_irR X dX12_play_87 ⟨N, hN, rfl, by rw [if_neg h79]⟩
      · refine w_aload_n X dX12_play_53 rfl rfl ?_
        refine g12_depth X dX12_play_54 ?_
        rw [hN.1]
        refine w_if_le (tgt := 67) X dX12_play_57 (by decide) (fun h57 => absurd h57 (nI_ge (a := 0) (b := D + 1) (by omega) (by have := hN.2.1; omega))) (fun h57 => ?_)
        refine w_aload_n X dX12_play_60 rfl rfl ?_
        refine w_v0rV X dX12_play_61 k12_step rfl rfl (c12_stepE G hG _ _ _ c D h T m2 p n hN) (Nat.le_of_ble_eq_true rfl) (fun N61 h61 => ?_)
        refine w_goto (tgt := 53) X dX12_play_64 (by decide) ?_
        exact ih _ h61
  refine w_aload_n X dX12_play_0 rfl rfl ?_
  refine w_iload X dX12_play_1 rfl ?_
  refine p12_quiet X dX12_play_3 (hz) ?_
  refine w_aload_n X dX12_play_6 rfl rfl ?_
  refine w_iconst (v := 0) X dX12_play_7 (by decide) ?_
  refine p12_depth X dX12_play_8 ?_
  refine w_aload_n X dX12_play_11 rfl rfl ?_
  refine w_iconst (v := 0) X dX12_play_12 (by decide) ?_
  refine p12_invoked X dX12_play_13 ?_
  refine w_aload_n X dX12_play_16 rfl rfl ?_
  refine w_iconst (v := 0) X dX12_play_17 (by decide) ?_
  refine p12_height X dX12_play_18 ?_
  refine w_aload_n X dX12_play_21 rfl rfl ?_
  refine w_iconst (v := 0) X dX12_play_22 (by decide) ?_
  refine p12_tries X dX12_play_23 ?_
  refine w_aload_n X dX12_play_26 rfl rfl ?_
  refine g12_runParameters X dX12_play_27 ?_
  refine w_iconst (v := 3) X dX12_play_30 (by decide) ?_
  refine w_iload_n X dX12_play_31 rfl rfl ?_
  refine w_iastoreN X dX12_play_32 rfl rfl (⟨by decide, by decide⟩) ?_
  refine w_aload_n X dX12_play_33 rfl rfl ?_
  refine g12_runParameters X dX12_play_34 ?_
  refine w_iconst (v := 4) X dX12_play_37 (by decide) ?_
  refine w_iload_n X dX12_play_38 rfl rfl ?_
  refine w_iastoreN X dX12_play_39 rfl rfl (⟨by decide, by decide⟩) ?_
  refine w_aload_n X dX12_play_40 rfl rfl ?_
  refine g12_runParameters X dX12_play_41 ?_
  refine w_iconst (v := 5) X dX12_play_44 (by decide) ?_
  refine w_iload X dX12_play_45 rfl ?_
  refine w_iastoreN X dX12_play_47 rfl rfl (⟨by decide, by decide⟩) ?_
  have A39 : (plM_ M x y w z).1 0 39 = nI 0 := by unfold plM_; rw [gI_sI, if_neg (by omega), gI_sI, if_neg (by omega), gI_sI, if_neg (by omega), gI_sI, if_neg (by omega), gI_sI, if_neg (by omega), gI_sI, if_neg (by omega), gI_sI, if_pos ⟨rfl, rfl⟩]; rfl
  have A40 : (plM_ M x y w z).1 0 40 = nI 0 := by unfold plM_; rw [gI_sI, if_neg (by omega), gI_sI, if_neg (by omega), gI_sI, if_neg (by omega), gI_sI, if_neg (by omega), gI_sI, if_neg (by omega), gI_sI, if_pos ⟨rfl, rfl⟩]; rfl
  have A6 : (plM_ M x y w z).1 6 m = nI q3 := by unfold plM_; rw [gI_sI, if_neg (by omega), gI_sI, if_neg (by omega), gI_sI, if_neg (by omega), gI_sI, if_neg (by omega), gI_sI, if_neg (by omega), gI_sI, if_neg (by omega), gI_sI, if_neg (by omega), gI_sI, if_neg (by omega)]; exact e3
  refine w_aload_n X dX12_play_48 rfl rfl ?_
  refine w_iload_n X dX12_play_49 rfl rfl ?_
  refine w_v1rV X dX12_play_50 k12_enter rfl rfl (c12_enterE G hG _ (plM_ M x y w z) 0 0 m q3 A39 (by omega) A40 hm hq3 A6 QE hQ) (Nat.le_of_ble_eq_true rfl) (fun N50 h50 => ?_)
  obtain ⟨u, hu⟩ := hQ2 _ h50
  exact lp u _ hu
set_option maxRecDepth 100000 in
set_option maxHeartbeats 4000000 in
theorem c12_callE (G : gg_) (hG : gd_ G) (d : Nat) (M : mm_) (c : Nat) (hc : c ≤ 16) (h9 : M.1 0 9 = nI c) (m a b e : Int32) (QP : Int32 → mm_ → Prop) (hP : ∀ m2, m2 < c → m = nI m2 → cm_ G yX12_play cX12_play 6 (some .int) (d + 7) [.ref (G.1 0), .int (nI m2), .int a, .int b, .int e, .int 0] (sI_ M 0 0 0) (rI_ QP)) : cm_ G yX12_call cX12_call 5 (some .int) (d + 8) [.ref (G.1 0), .int m, .int a, .int b, .int e] M (rI_ (fun r N => ((m < 0 ∨ nI c ≤ m) ∧ r = 0 ∧ N = sI_ M 0 0 1) ∨ (¬ (m < 0 ∨ nI c ≤ m) ∧ QP r N))) := by
  refine cm_of hG (by decide) (Nat.le_of_ble_eq_true rfl) (fun C X => ?_)
  refine w_aload_n X dX12_call_0 rfl rfl ?_
  refine w_iload_n X dX12_call_1 rfl rfl ?_
  refine w_if_lt (tgt := 13) X dX12_call_2 (by decide) (fun h2 => ?_) (fun h2 => ?_)
  · refine w_iconst (v := 1) X dX12_call_13 (by decide) ?_
    refine w_goto (tgt := 18) X dX12_call_14 (by decide) ?_
    refine p12_thrown X dX12_call_18 ?_
    refine w_aload_n X dX12_call_21 rfl rfl ?_
    refine g12_thrown X dX12_call_22 ?_
    rw [gI_sI, if_pos ⟨rfl, rfl⟩]
    refine w_if_le (tgt := 32) X dX12_call_25 (by decide) (fun h25 => absurd h25 (by decide)) (fun h25 => ?_)
    refine w_iconst (v := 0) X dX12_call_28 (by decide) ?_
    refine w_goto (tgt := 42) X dX12_call_29 (by decide) ?_
    exact w_irR X dX12_call_42 (Or.inl ⟨Or.inl h2, rfl, rfl⟩)
  · refine w_iload_n X dX12_call_5 rfl rfl ?_
    refine w_aload_n X dX12_call_6 rfl rfl ?_
    refine g12_methods X dX12_call_7 ?_
    rw [h9]
    refine w_icmp_lt (tgt := 17) X dX12_call_10 (by decide) (fun h10 => ?_) (fun h10 => ?_)
    · refine w_iconst (v := 0) X dX12_call_17 (by decide) ?_
      refine p12_thrown X dX12_call_18 ?_
      refine w_aload_n X dX12_call_21 rfl rfl ?_
      refine g12_thrown X dX12_call_22 ?_
      rw [gI_sI, if_pos ⟨rfl, rfl⟩]
      refine w_if_le (tgt := 32) X dX12_call_25 (by decide) (fun h25 => ?_) (fun h25 => absurd ((by decide)) h25)
      obtain ⟨m2, hm2, em⟩ := ix_ (n := c) (by omega) h2 (Int32.not_le.mpr h10)
      have hP2 := hP m2 hm2 em
      have hb : ¬ (m < 0 ∨ nI c ≤ m) := fun y => y.elim h2 (Int32.not_le.mpr h10)
      subst em
      refine w_aload_n X dX12_call_32 rfl rfl ?_
      refine w_iload_n X dX12_call_33 rfl rfl ?_
      refine w_iload_n X dX12_call_34 rfl rfl ?_
      refine w_iload_n X dX12_call_35 rfl rfl ?_
      refine w_iload X dX12_call_36 rfl ?_
      refine w_iconst (v := 0) X dX12_call_38 (by decide) ?_
      refine w_v5rI X dX12_call_39 k12_play rfl rfl (hP2) (Nat.le_of_ble_eq_true rfl) (fun r39 N39 h39 => ?_)
      exact w_irR X dX12_call_42 (Or.inr ⟨hb, h39⟩)
    · refine w_iconst (v := 1) X dX12_call_13 (by decide) ?_
      refine w_goto (tgt := 18) X dX12_call_14 (by decide) ?_
      refine p12_thrown X dX12_call_18 ?_
      refine w_aload_n X dX12_call_21 rfl rfl ?_
      refine g12_thrown X dX12_call_22 ?_
      rw [gI_sI, if_pos ⟨rfl, rfl⟩]
      refine w_if_le (tgt := 32) X dX12_call_25 (by decide) (fun h25 => absurd h25 (by decide)) (fun h25 => ?_)
      refine w_iconst (v := 0) X dX12_call_28 (by decide) ?_
      refine w_goto (tgt := 42) X dX12_call_29 (by decide) ?_
      exact w_irR X dX12_call_42 (Or.inl ⟨Or.inr (Int32.not_lt.mp h10), rfl, rfl⟩)
set_option maxRecDepth 100000 in
set_option maxHeartbeats 4000000 in
theorem c12_replayE (G : gg_) (hG : gd_ G) (d : Nat) (M : mm_) (z : Nat) (hz : z ≤ 40) (h37 : M.1 0 37 = nI z) (i : Int32) (QP : Int32 → mm_ → Prop) (hP : ∀ i2, i2 < z → i = nI i2 → ∃ m2, M.1 22 (7 * i2 + 1) = nI m2 ∧ cm_ G yX12_play cX12_play 6 (some .int) (d + 7) [.ref (G.1 0), .int (nI m2), .int (M.1 22 (7 * i2 + 2)), .int (M.1 22 (7 * i2 + 3)), .int (M.1 22 (7 * i2 + 4)), .int 1] (sI_ M 0 0 0) (rI_ QP)) : cm_ G yX12_replay cX12_replay 2 (some .int) (d + 8) [.ref (G.1 0), .int i] M (rI_ (fun r N => ((i < 0 ∨ nI z ≤ i) ∧ r = 0 ∧ N = sI_ M 0 0 1) ∨ (¬ (i < 0 ∨ nI z ≤ i) ∧ QP r N))) := by
  refine cm_of hG (by decide) (Nat.le_of_ble_eq_true rfl) (fun C X => ?_)
  refine w_aload_n X dX12_replay_0 rfl rfl ?_
  refine w_iload_n X dX12_replay_1 rfl rfl ?_
  refine w_if_lt (tgt := 13) X dX12_replay_2 (by decide) (fun h2 => ?_) (fun h2 => ?_)
  · refine w_iconst (v := 1) X dX12_replay_13 (by decide) ?_
    refine w_goto (tgt := 18) X dX12_replay_14 (by decide) ?_
    refine p12_thrown X dX12_replay_18 ?_
    refine w_aload_n X dX12_replay_21 rfl rfl ?_
    refine g12_thrown X dX12_replay_22 ?_
    rw [gI_sI, if_pos ⟨rfl, rfl⟩]
    refine w_if_le (tgt := 32) X dX12_replay_25 (by decide) (fun h25 => absurd h25 (by decide)) (fun h25 => ?_)
    refine w_iconst (v := 0) X dX12_replay_28 (by decide) ?_
    refine w_goto (tgt := 81) X dX12_replay_29 (by decide) ?_
    exact w_irR X dX12_replay_81 (Or.inl ⟨Or.inl h2, rfl, rfl⟩)
  · refine w_iload_n X dX12_replay_5 rfl rfl ?_
    refine w_aload_n X dX12_replay_6 rfl rfl ?_
    refine g12_keepCount X dX12_replay_7 ?_
    rw [h37]
    refine w_icmp_lt (tgt := 17) X dX12_replay_10 (by decide) (fun h10 => ?_) (fun h10 => ?_)
    · refine w_iconst (v := 0) X dX12_replay_17 (by decide) ?_
      refine p12_thrown X dX12_replay_18 ?_
      refine w_aload_n X dX12_replay_21 rfl rfl ?_
      refine g12_thrown X dX12_replay_22 ?_
      rw [gI_sI, if_pos ⟨rfl, rfl⟩]
      refine w_if_le (tgt := 32) X dX12_replay_25 (by decide) (fun h25 => ?_) (fun h25 => absurd ((by decide)) h25)
      obtain ⟨i2, hi2, em⟩ := ix_ (n := z) (by omega) h2 (Int32.not_le.mpr h10)
      obtain ⟨m2, em2, hP2⟩ := hP i2 hi2 em
      have hb : ¬ (i < 0 ∨ nI z ≤ i) := fun y => y.elim h2 (Int32.not_le.mpr h10)
      subst em
      refine w_aload_n X dX12_replay_32 rfl rfl ?_
      refine w_aload_n X dX12_replay_33 rfl rfl ?_
      refine g12_keptOnes X dX12_replay_34 ?_
      refine w_bipush (v := 7) X dX12_replay_37 (by decide) ?_
      refine w_iload_n X dX12_replay_39 rfl rfl ?_
      refine w_imul X dX12_replay_40 ?_
      refine w_iconst (v := 1) X dX12_replay_41 (by decide) ?_
      refine w_iadd X dX12_replay_42 ?_
      rw [show (7 : Int32) * nI i2 + 1 = nI (7 * i2 + 1) from nI_m 7 i2 1]
      refine w_ialoadN X dX12_replay_43 rfl rfl (⟨by omega, by decide⟩) ?_
      rw [gI_sI, if_neg (by omega), em2]
      refine w_aload_n X dX12_replay_44 rfl rfl ?_
      refine g12_keptOnes X dX12_replay_45 ?_
      refine w_bipush (v := 7) X dX12_replay_48 (by decide) ?_
      refine w_iload_n X dX12_replay_50 rfl rfl ?_
      refine w_imul X dX12_replay_51 ?_
      refine w_iconst (v := 2) X dX12_replay_52 (by decide) ?_
      refine w_iadd X dX12_replay_53 ?_
      rw [show (7 : Int32) * nI i2 + 2 = nI (7 * i2 + 2) from nI_m 7 i2 2]
      refine w_ialoadN X dX12_replay_54 rfl rfl (⟨by omega, by decide⟩) ?_
      rw [gI_sI, if_neg (by omega)]
      refine w_aload_n X dX12_replay_55 rfl rfl ?_
      refine g12_keptOnes X dX12_replay_56 ?_
      refine w_bipush (v := 7) X dX12_replay_59 (by decide) ?_
      refine w_iload_n X dX12_replay_61 rfl rfl ?_
      refine w_imul X dX12_replay_62 ?_
      refine w_iconst (v := 3) X dX12_replay_63 (by decide) ?_
      refine w_iadd X dX12_replay_64 ?_
      rw [show (7 : Int32) * nI i2 + 3 = nI (7 * i2 + 3) from nI_m 7 i2 3]
      refine w_ialoadN X dX12_replay_65 rfl rfl (⟨by omega, by decide⟩) ?_
      rw [gI_sI, if_neg (by omega)]
      refine w_aload_n X dX12_replay_66 rfl rfl ?_
      refine g12_keptOnes X dX12_replay_67 ?_
      refine w_bipush (v := 7) X dX12_replay_70 (by decide) ?_
      refine w_iload_n X dX12_replay_72 rfl rfl ?_
      refine w_imul X dX12_replay_73 ?_
      refine w_iconst (v := 4) X dX12_replay_74 (by decide) ?_
      refine w_iadd X dX12_replay_75 ?_
      rw [show (7 : Int32) * nI i2 + 4 = nI (7 * i2 + 4) from nI_m 7 i2 4]
      refine w_ialoadN X dX12_replay_76 rfl rfl (⟨by omega, by decide⟩) ?_
      rw [gI_sI, if_neg (by omega)]
      refine w_iconst (v := 1) X dX12_replay_77 (by decide) ?_
      refine w_v5rI X dX12_replay_78 k12_play rfl rfl (hP2) (Nat.le_of_ble_eq_true rfl) (fun r78 N78 h78 => ?_)
      exact w_irR X dX12_replay_81 (Or.inr ⟨hb, h78⟩)
    · refine w_iconst (v := 1) X dX12_replay_13 (by decide) ?_
      refine w_goto (tgt := 18) X dX12_replay_14 (by decide) ?_
      refine p12_thrown X dX12_replay_18 ?_
      refine w_aload_n X dX12_replay_21 rfl rfl ?_
      refine g12_thrown X dX12_replay_22 ?_
      rw [gI_sI, if_pos ⟨rfl, rfl⟩]
      refine w_if_le (tgt := 32) X dX12_replay_25 (by decide) (fun h25 => absurd h25 (by decide)) (fun h25 => ?_)
      refine w_iconst (v := 0) X dX12_replay_28 (by decide) ?_
      refine w_goto (tgt := 81) X dX12_replay_29 (by decide) ?_
      exact w_irR X dX12_replay_81 (Or.inl ⟨Or.inr (Int32.not_lt.mp h10), rfl, rfl⟩)

end
