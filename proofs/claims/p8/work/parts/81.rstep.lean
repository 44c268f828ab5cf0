/-! the reference's machine: step -/
def sP_ (D T : Nat) (a i : Nat) : Prop := (a = 0 ∧ (i = 47 ∨ i = 51)) ∨ a = 26 ∨ (a = 25 ∧ i = D) ∨ ((a = 27 ∨ a = 28 ∨ a = 29) ∧ T ≤ i)
theorem sP_m {D T a i : Nat} (h : sP_ D T a i) : mR_ a i := by unfold sP_ at h; unfold mR_; omega
theorem sP_I {D T a i : Nat} {M : mm_} {v : Int32} (h : sP_ D T a i) : frR_ (sP_ D T) M (sI_ M a i v) := frR_I (sP_m h) h
/-- a step inside the top frame: its place is q now -/
theorem RS_st {c : Nat} {nn : Nat → Nat} {FF : Nat → Nat → Nat × List Nat} {f : fs4_} {r : List fs4_} {k q : Nat} {M N : mm_} (hR : RS_ c nn FF (f :: r) k M) (hN : frR_ (sP_ (r.length + 1) (f.2.2.2 + (FF f.1 f.2.1).2.length)) M N) (hpq : f.2.1 < q) (hq : q ≤ nn f.1) (h25 : N.1 25 (r.length + 1) = nI q) (h47 : N.1 0 47 = nI (f.2.2.1 + (FF f.1 q).1)) (h51 : N.1 0 51 = nI (f.2.2.2 + (FF f.1 q).2.length)) (hen : ent_ FF N (r.length + 1) f.1 q f.2.2.1 f.2.2.2) : g2R_ c nn FF ((1000 - k) * 42 + muR_ nn (f :: r)) N := by
  obtain ⟨h39, hl, ⟨⟨a1, a2, a3, a4, a5, a6, a7⟩, a8, a9⟩, -, h40, hk2⟩ := hR
  have e : ∀ a i, ¬ pzR_ a i → ¬ sP_ (r.length + 1) (f.2.2.2 + (FF f.1 f.2.1).2.length) a i → N.1 a i = M.1 a i := hN.2.1
  have hto := lk_to a7
  refine ⟨(f.1, q, f.2.2.1, f.2.2.2) :: r, k, ⟨?_, hl, ⟨⟨a1, ?_, hq, a4, a5, hen, a7⟩, h25, ?_⟩, ⟨h47, h51⟩, ?_, hk2⟩, ?_⟩
  · rw [e 0 39 (by unfold pzR_; omega) (by unfold sP_; omega)]; exact h39
  · rw [e 23 _ (by unfold pzR_; omega) (by unfold sP_; omega)]; exact a2
  · exact FS_cg r _ (Nat.le_refl _) a9 (fun q h1 h2 => ⟨e _ _ (by unfold pzR_; omega) (by unfold sP_; omega), e _ _ (by unfold pzR_; omega) (by unfold sP_; omega)⟩) (fun a k2 ha hk => e _ _ (by unfold pzR_; omega) (by unfold sP_; omega))
  · rw [e 0 40 (by unfold pzR_; omega) (by unfold sP_; omega)]; exact h40
  · show (1000 - k) * 42 + (muR_ nn r + (nn f.1 - q + 1)) < (1000 - k) * 42 + (muR_ nn r + (nn f.1 - f.2.1 + 1))
    omega
theorem ent_st {c : Nat} {nn : Nat → Nat} {FF : Nat → Nat → Nat × List Nat} {f : fs4_} {r : List fs4_} {k q : Nat} {M N : mm_} (hR : RS_ c nn FF (f :: r) k M) (hN : frR_ (sP_ (r.length + 1) (f.2.2.2 + (FF f.1 f.2.1).2.length)) M N) (e : ∀ (k2 x : Nat), (FF f.1 q).2[k2]? = some x → (FF f.1 f.2.1).2[k2]? = some x) : ent_ FF N (r.length + 1) f.1 q f.2.2.1 f.2.2.2 := by
  intro k2 x hx
  have hx2 := e k2 x hx
  have hl := (List.getElem?_eq_some_iff.mp hx2).1
  have z : ∀ a i, ¬ pzR_ a i → ¬ sP_ (r.length + 1) (f.2.2.2 + (FF f.1 f.2.1).2.length) a i → N.1 a i = M.1 a i := hN.2.1
  rw [z 27 _ (by unfold pzR_; omega) (by unfold sP_; omega), z 28 _ (by unfold pzR_; omega) (by unfold sP_; omega), z 29 _ (by unfold pzR_; omega) (by unfold sP_; omega)]
  exact hR.2.2.1.1.2.2.2.2.2.1 k2 x hx2
set_option maxRecDepth 100000 in
set_option maxHeartbeats 4000000 in
theorem c12_step (G : gg_) (hG : gd_ G) (d : Nat) (M : mm_) (c : Nat) (nn : Nat → Nat) (FF : Nat → Nat → Nat × List Nat) (hE : EV_ c nn FF M) (f : fs4_) (r : List fs4_) (k : Nat) (hR : RS_ c nn FF (f :: r) k M) : cm_ G yX12_step cX12_step 7 none (d + 6) [.ref (G.1 0)] M (rV_ (fun N => frR_ mR_ M N ∧ g2R_ c nn FF ((1000 - k) * 42 + muR_ nn (f :: r)) N)) := by
  refine cm_of hG (by decide) (Nat.le_of_ble_eq_true rfl) (fun C X => ?_)
  have hR0 := hR
  obtain ⟨h39, hl, ⟨⟨a1, a2, a3, a4, a5, a6, a7⟩, a8, a9⟩, ⟨h47, h51⟩, h40, hk2⟩ := hR0
  have hl10 : r.length + 1 ≤ 10 := hl
  have e39 : M.1 0 39 = nI (r.length + 1) := h39
  have hc16 := hE.2.1
  obtain ⟨okF, -⟩ := hE.2.2.2.2 f.1 a1
  obtain ⟨b1, b2, b3⟩ := okF.2.2.2.2.1 f.2.1 a3
  have hn40 := okF.2.1
  obtain ⟨T, hT⟩ : ∃ T, f.2.2.2 + (FF f.1 f.2.1).2.length = T := ⟨_, rfl⟩
  refine w_aload_n X dX12_step_0 rfl rfl ?_
  refine g12_runMethods X dX12_step_1 ?_
  refine w_aload_n X dX12_step_4 rfl rfl ?_
  refine g12_depth X dX12_step_5 ?_
  rw [e39]
  refine w_ialoadN X dX12_step_8 rfl rfl (⟨by omega, by decide⟩) ?_
  rw [a2]
  refine w_istore_n X dX12_step_9 rfl (by decide) ?_
  refine w_aload_n X dX12_step_10 rfl rfl ?_
  refine g12_runPlaces X dX12_step_11 ?_
  refine w_aload_n X dX12_step_14 rfl rfl ?_
  refine g12_depth X dX12_step_15 ?_
  rw [e39]
  refine w_ialoadN X dX12_step_18 rfl rfl (⟨by omega, by decide⟩) ?_
  rw [a8]
  refine w_istore_n X dX12_step_19 rfl (by decide) ?_
  refine w_iload_n X dX12_step_20 rfl rfl ?_
  refine w_aload_n X dX12_step_21 rfl rfl ?_
  refine g12_lengths X dX12_step_22 ?_
  refine w_iload_n X dX12_step_25 rfl rfl ?_
  refine w_ialoadN X dX12_step_26 rfl rfl (⟨by omega, by decide⟩) ?_
  rw [okF.1]
  refine w_icmp_ne (tgt := 35) X dX12_step_27 (by decide) (fun h27 => ?_) (fun h27 => ?_)
  · have hp : f.2.1 < nn f.1 := by
      rcases Nat.lt_or_ge f.2.1 (nn f.1) with z | z
      · exact z
      · exact absurd (show nI f.2.1 = nI (nn f.1) by rw [show f.2.1 = nn f.1 by omega]) h27
    obtain ⟨o, ho⟩ : ∃ o, M.1 2 (64 * f.1 + f.2.1) = o := ⟨_, rfl⟩
    obtain ⟨v, hv⟩ : ∃ v, M.2.1 3 (64 * f.1 + f.2.1) = v := ⟨_, rfl⟩
    have hs := okF.2.2.2.2.2 f.2.1 hp
    rw [ho, hv] at hs
    refine w_aload_n X dX12_step_35 rfl rfl ?_
    refine g12_steps X dX12_step_36 ?_
    refine w_iload_n X dX12_step_39 rfl rfl ?_
    refine w_s1fI X dX12_step_40 k12_rowOf (c12_rowOf G hG _ _ _) (Nat.le_of_ble_eq_true rfl) ?_
    refine w_iload_n X dX12_step_43 rfl rfl ?_
    refine w_iadd X dX12_step_44 ?_
    rw [show (64 : Int32) * nI f.1 + nI f.2.1 = nI (64 * f.1 + f.2.1) from nI_m 64 f.1 f.2.1]
    refine w_ialoadN X dX12_step_45 rfl rfl (⟨by omega, by decide⟩) ?_
    rw [ho]
    refine w_istore_n X dX12_step_46 rfl (by decide) ?_
    refine w_aload_n X dX12_step_47 rfl rfl ?_
    refine g12_values X dX12_step_48 ?_
    refine w_iload_n X dX12_step_51 rfl rfl ?_
    refine w_s1fI X dX12_step_52 k12_rowOf (c12_rowOf G hG _ _ _) (Nat.le_of_ble_eq_true rfl) ?_
    refine w_iload_n X dX12_step_55 rfl rfl ?_
    refine w_iadd X dX12_step_56 ?_
    rw [show (64 : Int32) * nI f.1 + nI f.2.1 = nI (64 * f.1 + f.2.1) from nI_m 64 f.1 f.2.1]
    refine w_laloadN X dX12_step_57 rfl rfl (⟨by omega, by decide⟩) ?_
    rw [hv]
    refine w_lstore X dX12_step_58 (by decide) ?_
    refine w_lload X dX12_step_60 rfl ?_
    refine w_l2i X dX12_step_62 ?_
    refine w_istore X dX12_step_63 (by decide) ?_
    refine w_aload_n X dX12_step_65 rfl rfl ?_
    refine g12_runPlaces X dX12_step_66 ?_
    refine w_aload_n X dX12_step_69 rfl rfl ?_
    refine g12_depth X dX12_step_70 ?_
    rw [e39]
    refine w_iload_n X dX12_step_73 rfl rfl ?_
    refine w_iconst (v := 1) X dX12_step_74 (by decide) ?_
    refine w_iadd X dX12_step_75 ?_
    rw [nI_1]
    refine w_iastoreN X dX12_step_76 rfl rfl (⟨by omega, by decide⟩) ?_
    obtain ⟨A, hA⟩ : ∃ A, sI_ M 25 (r.length + 1) (nI (f.2.1 + 1)) = A := ⟨_, rfl⟩
    rw [hA]
    have fA : frR_ (sP_ (r.length + 1) (f.2.2.2 + (FF f.1 f.2.1).2.length)) M A := by rw [← hA]; exact sP_I (by unfold sP_; omega)
    have eA : ∀ a i, ¬ (a = 25 ∧ i = r.length + 1) → A.1 a i = M.1 a i := fun a i z => by rw [← hA, gI_sI, if_neg z]
    have A25 : A.1 25 (r.length + 1) = nI (f.2.1 + 1) := by rw [← hA, gI_sI, if_pos ⟨rfl, rfl⟩]
    have A39 : A.1 0 39 = nI (r.length + 1) := (eA _ _ (by omega)).trans e39
    have A47 : A.1 0 47 = nI (f.2.2.1 + (FF f.1 f.2.1).1) := (eA _ _ (by omega)).trans h47
    have A51 : A.1 0 51 = nI (f.2.2.2 + (FF f.1 f.2.1).2.length) := (eA _ _ (by omega)).trans h51
    have A40 : A.1 0 40 = nI k := (eA _ _ (by omega)).trans h40
    have hEA := EV_fr (frR_mo fA (fun a i => sP_m)) hE
    have tA : TL_ c nn FF A (f :: r) := ⟨⟨a1, (eA _ _ (by omega)).trans a2, a3, a4, a5, fun k2 x hx => by rw [eA _ _ (by omega), eA _ _ (by omega), eA _ _ (by omega)]; exact a6 k2 x hx, a7⟩, FS_cg r _ (Nat.le_refl _) a9 (fun q h1 h2 => ⟨eA _ _ (by omega), eA _ _ (by omega)⟩) (fun a k2 ha _ => eA _ _ (by omega))⟩
    refine w_iload_n X dX12_step_77 rfl rfl ?_
    refine w_if_ne (tgt := 90) X dX12_step_78 (by decide) (fun h78 => ?_) (fun h78 => ?_)
    · refine w_iload_n X dX12_step_90 rfl rfl ?_
      refine w_iconst (v := 1) X dX12_step_91 (by decide) ?_
      refine w_icmp_ne (tgt := 116) X dX12_step_92 (by decide) (fun h92 => ?_) (fun h92 => ?_)
      · refine w_iload_n X dX12_step_116 rfl rfl ?_
        refine w_iconst (v := 3) X dX12_step_117 (by decide) ?_
        refine w_icmp_ne (tgt := 147) X dX12_step_118 (by decide) (fun h118 => ?_) (fun h118 => ?_)
        · refine w_iload_n X dX12_step_147 rfl rfl ?_
          refine w_iconst (v := 4) X dX12_step_148 (by decide) ?_
          refine w_icmp_ne (tgt := 178) X dX12_step_149 (by decide) (fun h149 => ?_) (fun h149 => ?_)
          · refine w_iload_n X dX12_step_178 rfl rfl ?_
            refine w_iconst (v := 5) X dX12_step_179 (by decide) ?_
            refine w_icmp_ne (tgt := 229) X dX12_step_180 (by decide) (fun h180 => ?_) (fun h180 => ?_)
            · refine w_iload_n X dX12_step_229 rfl rfl ?_
              refine w_bipush (v := 6) X dX12_step_230 (by decide) ?_
              refine w_icmp_ne (tgt := 253) X dX12_step_232 (by decide) (fun h232 => ?_) (fun h232 => ?_)
              · refine w_iload_n X dX12_step_253 rfl rfl ?_
                refine w_bipush (v := 7) X dX12_step_254 (by decide) ?_
                refine w_icmp_ne (tgt := 313) X dX12_step_256 (by decide) (fun h256 => ?_) (fun h256 => ?_)
                · refine w_iload_n X dX12_step_313 rfl rfl ?_
                  refine w_bipush (v := 8) X dX12_step_314 (by decide) ?_
                  refine w_icmp_ne (tgt := 347) X dX12_step_316 (by decide) (fun h316 => ?_) (fun h316 => ?_)
                  · refine w_iload_n X dX12_step_347 rfl rfl ?_
                    refine w_bipush (v := 9) X dX12_step_348 (by decide) ?_
                    refine w_icmp_ne (tgt := 362) X dX12_step_350 (by decide) (fun h350 => ?_) (fun h350 => ?_)
                    · have o2 : o = 2 := by
                        have al := hs.2.2.2.2.2.2.2.2.2.2
                        simp [h78, h92, h118, h149, h180, h232, h256, h316, h350] at al
                        exact al
                      obtain ⟨g1, g2⟩ := hs.2.2.2.2.2.2.2.2.2.1 o2
                      refine w_iload X dX12_step_362 rfl ?_
                      refine w_aload_n X dX12_step_364 rfl rfl ?_
                      refine g12_stack X dX12_step_365 ?_
                      refine w_aload_n X dX12_step_368 rfl rfl ?_
                      refine g12_height X dX12_step_369 ?_
                      rw [A47]
                      refine w_iconst (v := 1) X dX12_step_372 (by decide) ?_
                      refine w_isub X dX12_step_373 ?_
                      rw [nI_p _ (by omega)]
                      refine w_ialoadN X dX12_step_374 rfl rfl (⟨by omega, by decide⟩) ?_
                      refine w_s2fI X dX12_step_375 k12_isOver (c12_isOver G hG _ _ _ _) (Nat.le_of_ble_eq_true rfl) ?_
                      refine w_if_eq (tgt := 399) X dX12_step_378 (by decide) (fun h378 => ?_) (fun h378 => ?_)
                      · refine w_aload_n X dX12_step_399 rfl rfl ?_
                        refine w_dup X dX12_step_400 rfl ?_
                        refine g12_height X dX12_step_401 ?_
                        rw [A47]
                        refine w_iconst (v := 1) X dX12_step_404 (by decide) ?_
                        refine w_isub X dX12_step_405 ?_
                        rw [nI_p _ (by omega)]
                        refine p12_height X dX12_step_406 ?_
                        refine w_aload_n X dX12_step_409 rfl rfl ?_
                        refine g12_stack X dX12_step_410 ?_
                        refine w_aload_n X dX12_step_413 rfl rfl ?_
                        refine g12_height X dX12_step_414 ?_
                        rw [gI_sI, if_pos ⟨rfl, rfl⟩]
                        refine w_iconst (v := 1) X dX12_step_417 (by decide) ?_
                        refine w_isub X dX12_step_418 ?_
                        rw [nI_p _ (by omega)]
                        refine w_iload X dX12_step_419 rfl ?_
                        refine w_aload_n X dX12_step_421 rfl rfl ?_
                        refine g12_stack X dX12_step_422 ?_
                        refine w_aload_n X dX12_step_425 rfl rfl ?_
                        refine g12_height X dX12_step_426 ?_
                        rw [gI_sI, if_pos ⟨rfl, rfl⟩]
                        refine w_iconst (v := 1) X dX12_step_429 (by decide) ?_
                        refine w_isub X dX12_step_430 ?_
                        rw [nI_p _ (by omega)]
                        refine w_ialoadN X dX12_step_431 rfl rfl (⟨by omega, by decide⟩) ?_
                        refine w_aload_n X dX12_step_432 rfl rfl ?_
                        refine g12_stack X dX12_step_433 ?_
                        refine w_aload_n X dX12_step_436 rfl rfl ?_
                        refine g12_height X dX12_step_437 ?_
                        rw [gI_sI, if_pos ⟨rfl, rfl⟩]
                        refine w_ialoadN X dX12_step_440 rfl rfl (⟨by omega, by decide⟩) ?_
                        refine w_s3fI X dX12_step_441 k12_result (c12_result G hG _ _ _ _ _ (fun hh y => absurd h378 (by rw [if_pos ⟨hh, by rw [gI_sI, if_neg (by omega)] at y; exact y⟩]; decide))) (Nat.le_of_ble_eq_true rfl) ?_
                        refine w_iastoreN X dX12_step_444 rfl rfl (⟨by omega, by decide⟩) ?_
                        refine w_vrR X dX12_step_445 ⟨frR_tr (frR_mo fA (fun a i => sP_m)) (frR_mo (P := sP_ (r.length + 1) (f.2.2.2 + (FF f.1 f.2.1).2.length)) (frR_tr (sP_I (by unfold sP_; omega)) (sP_I (by unfold sP_; omega))) (fun a i => sP_m)), RS_st hR (frR_tr fA (frR_tr (sP_I (by unfold sP_; omega)) (sP_I (by unfold sP_; omega)))) (q := f.2.1 + 1) (by omega) (by omega) ?_ ?_ ?_ ?_⟩
                        · rw [gI_sI, if_neg (by omega), gI_sI, if_neg (by omega)]; exact A25
                        · rw [gI_sI, if_neg (by omega), gI_sI, if_pos ⟨rfl, rfl⟩, g2]; show nI _ = nI (f.2.2.1 + ((FF f.1 f.2.1).1 - 1)); congr 1; omega
                        · rw [gI_sI, if_neg (by omega), gI_sI, if_neg (by omega)]; rw [g2]; exact A51
                        · exact ent_st hR (frR_tr fA (frR_tr (sP_I (by unfold sP_; omega)) (sP_I (by unfold sP_; omega)))) (fun k2 x hx => by rw [g2] at hx; exact hx)
                      · refine w_aload_n X dX12_step_381 rfl rfl ?_
                        refine w_aload_n X dX12_step_382 rfl rfl ?_
                        refine g12_height X dX12_step_383 ?_
                        rw [A47]
                        refine w_iconst (v := 2) X dX12_step_386 (by decide) ?_
                        refine w_isub X dX12_step_387 ?_
                        rw [show (2 : Int32) = nI 2 from rfl, pk_sub (by omega)]
                        refine p12_height X dX12_step_388 ?_
                        refine w_aload_n X dX12_step_391 rfl rfl ?_
                        refine w_iconst (v := -1) X dX12_step_392 (by decide) ?_
                        refine w_v1rV X dX12_step_393 k12_throwUp rfl rfl (c12_throwUp G hG _ _ c nn FF (EV_fr (frR_I (P := mR_) (by unfold mR_; omega) (by unfold mR_; omega)) hEA) (f :: r) hl10 ⟨⟨a1, by rw [gI_sI, if_neg (by omega)]; exact tA.1.2.1, a3, a4, a5, fun k2 x hx => by rw [gI_sI, if_neg (by omega), gI_sI, if_neg (by omega), gI_sI, if_neg (by omega)]; exact tA.1.2.2.2.2.2.1 k2 x hx, a7⟩, FS_cg r _ (Nat.le_refl _) tA.2 (fun q h1 h2 => ⟨by rw [gI_sI, if_neg (by omega)], by rw [gI_sI, if_neg (by omega)]⟩) (fun a k2 ha _ => by rw [gI_sI, if_neg (by omega)])⟩ (by rw [gI_sI, if_neg (by omega)]; exact A39) (by rw [gI_sI, if_neg (by omega)]; exact A51) k (muR_ nn (f :: r)) (by rw [gI_sI, if_neg (by omega)]; exact A40) hk2 (by show 0 < muR_ nn r + (nn f.1 - f.2.1 + 1); omega) (Nat.le_refl _) _) (Nat.le_of_ble_eq_true rfl) (fun N393 h393 => ?_)
                        refine w_goto (tgt := 445) X dX12_step_396 (by decide) ?_
                        refine w_vrR X dX12_step_445 ⟨frR_tr (frR_mo fA (fun a i => sP_m)) (frR_tr (frR_I (by unfold mR_; omega) (by unfold mR_; omega)) (frR_mo h393.1 (fun a i => uR_m))), g2_go h393.2 (Nat.le_refl _)⟩
                    · obtain ⟨j, hj3, hj, hjh, hF1⟩ := hs.2.2.2.2.2.2.2.2.1 h350
                      refine w_aload_n X dX12_step_353 rfl rfl ?_
                      refine w_lload X dX12_step_354 rfl ?_
                      refine w_v1rV X dX12_step_356 k12_invoke rfl rfl (c12_invoke G hG _ _ c nn FF hEA f r k A39 hl10 tA.1 tA.2 A25 hp A47 A51 A40 hk2 _ j hj3 hj hjh hF1 _ (Nat.le_refl _)) (Nat.le_of_ble_eq_true rfl) (fun N356 h356 => ?_)
                      refine w_goto (tgt := 445) X dX12_step_359 (by decide) ?_
                      refine w_vrR X dX12_step_445 ⟨frR_tr (frR_mo fA (fun a i => sP_m)) h356.1, h356.2⟩
                  · obtain ⟨t2, x, S, hx, g1, g2, g3⟩ := hs.2.2.2.2.2.2.2.1 h316
                    have hsl : (FF f.1 f.2.1).2.length = S.length + 1 := by rw [g2]; simp
                    refine w_aload_n X dX12_step_319 rfl rfl ?_
                    refine w_dup X dX12_step_320 rfl ?_
                    refine g12_tries X dX12_step_321 ?_
                    rw [A51, hsl]
                    refine w_iconst (v := 1) X dX12_step_324 (by decide) ?_
                    refine w_isub X dX12_step_325 ?_
                    rw [nI_p _ (by omega), show f.2.2.2 + (S.length + 1) - 1 = f.2.2.2 + S.length by omega]
                    refine p12_tries X dX12_step_326 ?_
                    refine w_aload_n X dX12_step_329 rfl rfl ?_
                    refine g12_runPlaces X dX12_step_330 ?_
                    refine w_aload_n X dX12_step_333 rfl rfl ?_
                    refine g12_depth X dX12_step_334 ?_
                    rw [gI_sI, if_neg (by omega), A39]
                    refine w_iload_n X dX12_step_337 rfl rfl ?_
                    refine w_iconst (v := 1) X dX12_step_338 (by decide) ?_
                    refine w_iadd X dX12_step_339 ?_
                    refine w_iload X dX12_step_340 rfl ?_
                    rw [nI_1, hx]
                    refine w_iadd X dX12_step_342 ?_
                    rw [nI_add]
                    refine w_iastoreN X dX12_step_343 rfl rfl (⟨by omega, by decide⟩) ?_
                    refine w_goto (tgt := 445) X dX12_step_344 (by decide) ?_
                    refine w_vrR X dX12_step_445 ⟨frR_tr (frR_mo fA (fun a i => sP_m)) (frR_mo (P := sP_ (r.length + 1) (f.2.2.2 + (FF f.1 f.2.1).2.length)) (frR_tr (sP_I (by unfold sP_; omega)) (sP_I (by unfold sP_; omega))) (fun a i => sP_m)), RS_st hR (frR_tr fA (frR_tr (sP_I (by unfold sP_; omega)) (sP_I (by unfold sP_; omega)))) (q := f.2.1 + 1 + t2) (by omega) (by omega) ?_ ?_ ?_ ?_⟩
                    · rw [gI_sI, if_pos ⟨rfl, rfl⟩]
                    · rw [gI_sI, if_neg (by omega), gI_sI, if_neg (by omega)]; rw [g3]; exact A47
                    · rw [gI_sI, if_neg (by omega), gI_sI, if_pos ⟨rfl, rfl⟩, g3]
                    · exact ent_st hR (frR_tr fA (frR_tr (sP_I (by unfold sP_; omega)) (sP_I (by unfold sP_; omega)))) (fun k2 x hx => by rw [g3] at hx; rw [g2]; exact (List.getElem?_append_left (List.getElem?_eq_some_iff.mp hx).1).trans hx)
                · obtain ⟨t2, hx, g1, g2, g3⟩ := hs.2.2.2.2.2.2.1 h256
                  refine w_aload_n X dX12_step_259 rfl rfl ?_
                  refine g12_tryPlaces X dX12_step_260 ?_
                  refine w_aload_n X dX12_step_263 rfl rfl ?_
                  refine g12_tries X dX12_step_264 ?_
                  rw [A51]
                  refine w_iload_n X dX12_step_267 rfl rfl ?_
                  refine w_iconst (v := 1) X dX12_step_268 (by decide) ?_
                  refine w_iadd X dX12_step_269 ?_
                  refine w_iload X dX12_step_270 rfl ?_
                  rw [nI_1, hx]
                  refine w_iadd X dX12_step_272 ?_
                  rw [nI_add]
                  refine w_iastoreN X dX12_step_273 rfl rfl (⟨by omega, by decide⟩) ?_
                  refine w_aload_n X dX12_step_274 rfl rfl ?_
                  refine g12_tryHeights X dX12_step_275 ?_
                  refine w_aload_n X dX12_step_278 rfl rfl ?_
                  refine g12_tries X dX12_step_279 ?_
                  rw [gI_sI, if_neg (by omega), A51]
                  refine w_aload_n X dX12_step_282 rfl rfl ?_
                  refine g12_height X dX12_step_283 ?_
                  rw [gI_sI, if_neg (by omega), A47]
                  refine w_iastoreN X dX12_step_286 rfl rfl (⟨by omega, by decide⟩) ?_
                  refine w_aload_n X dX12_step_287 rfl rfl ?_
                  refine g12_tryDepths X dX12_step_288 ?_
                  refine w_aload_n X dX12_step_291 rfl rfl ?_
                  refine g12_tries X dX12_step_292 ?_
                  rw [gI_sI, if_neg (by omega), gI_sI, if_neg (by omega), A51]
                  refine w_aload_n X dX12_step_295 rfl rfl ?_
                  refine g12_depth X dX12_step_296 ?_
                  rw [gI_sI, if_neg (by omega), gI_sI, if_neg (by omega), A39]
                  refine w_iastoreN X dX12_step_299 rfl rfl (⟨by omega, by decide⟩) ?_
                  refine w_aload_n X dX12_step_300 rfl rfl ?_
                  refine w_dup X dX12_step_301 rfl ?_
                  refine g12_tries X dX12_step_302 ?_
                  rw [gI_sI, if_neg (by omega), gI_sI, if_neg (by omega), gI_sI, if_neg (by omega), A51]
                  refine w_iconst (v := 1) X dX12_step_305 (by decide) ?_
                  refine w_iadd X dX12_step_306 ?_
                  rw [nI_1]
                  refine p12_tries X dX12_step_307 ?_
                  refine w_goto (tgt := 445) X dX12_step_310 (by decide) ?_
                  refine w_vrR X dX12_step_445 ⟨frR_tr (frR_mo fA (fun a i => sP_m)) (frR_mo (P := sP_ (r.length + 1) (f.2.2.2 + (FF f.1 f.2.1).2.length)) (frR_tr (sP_I (D := r.length + 1) (T := f.2.2.2 + (FF f.1 f.2.1).2.length) (by unfold sP_; omega)) (frR_tr (sP_I (D := r.length + 1) (T := f.2.2.2 + (FF f.1 f.2.1).2.length) (by unfold sP_; omega)) (frR_tr (sP_I (D := r.length + 1) (T := f.2.2.2 + (FF f.1 f.2.1).2.length) (by unfold sP_; omega)) (sP_I (D := r.length + 1) (T := f.2.2.2 + (FF f.1 f.2.1).2.length) (by unfold sP_; omega))))) (fun a i => sP_m)), RS_st hR (frR_tr fA (frR_tr (sP_I (by unfold sP_; omega)) (frR_tr (sP_I (by unfold sP_; omega)) (frR_tr (sP_I (by unfold sP_; omega)) (sP_I (by unfold sP_; omega)))))) (q := f.2.1 + 1) (by omega) (by omega) ?_ ?_ ?_ ?_⟩
                  · rw [gI_sI, if_neg (by omega), gI_sI, if_neg (by omega), gI_sI, if_neg (by omega), gI_sI, if_neg (by omega)]; exact A25
                  · rw [gI_sI, if_neg (by omega), gI_sI, if_neg (by omega), gI_sI, if_neg (by omega), gI_sI, if_neg (by omega)]; rw [g2]; exact A47
                  · rw [gI_sI, if_pos ⟨rfl, rfl⟩, g2]; show nI _ = nI (f.2.2.2 + ((FF f.1 f.2.1).2 ++ [f.2.1 + 1 + t2]).length); rw [List.length_append]; rfl
                  · intro k2 x hx
                    rw [g2] at hx
                    by_cases hk : k2 < (FF f.1 f.2.1).2.length
                    · have hx2 : (FF f.1 f.2.1).2[k2]? = some x := by rw [← List.getElem?_append_left hk]; exact hx
                      simp only [gI_sI]
                      rw [if_neg (by omega), if_neg (by omega), if_neg (by omega), if_neg (by omega), if_neg (by omega), if_neg (by omega), if_neg (by omega), if_neg (by omega), if_neg (by omega), if_neg (by omega), if_neg (by omega), if_neg (by omega), eA _ _ (by omega), eA _ _ (by omega), eA _ _ (by omega)]
                      exact a6 k2 x hx2
                    · have hx3 : ((FF f.1 f.2.1).2 ++ [f.2.1 + 1 + t2])[k2]? = some x := hx
                      rw [List.getElem?_append_right (by omega)] at hx3
                      have hk2 : k2 - (FF f.1 f.2.1).2.length < 1 := (List.getElem?_eq_some_iff.mp hx3).1
                      obtain rfl : k2 = (FF f.1 f.2.1).2.length := by omega
                      rw [Nat.sub_self] at hx3
                      cases hx3
                      refine ⟨?_, ?_, ?_⟩
                      · rw [gI_sI, if_neg (by omega), gI_sI, if_neg (by omega), gI_sI, if_neg (by omega), gI_sI, if_pos ⟨rfl, rfl⟩]
                      · rw [gI_sI, if_neg (by omega), gI_sI, if_neg (by omega), gI_sI, if_pos ⟨rfl, rfl⟩, g3]
                      · rw [gI_sI, if_neg (by omega), gI_sI, if_pos ⟨rfl, rfl⟩]
              · obtain ⟨t2, hx, g1, g2⟩ := hs.2.2.2.2.2.1 h232
                refine w_aload_n X dX12_step_235 rfl rfl ?_
                refine g12_runPlaces X dX12_step_236 ?_
                refine w_aload_n X dX12_step_239 rfl rfl ?_
                refine g12_depth X dX12_step_240 ?_
                rw [A39]
                refine w_iload_n X dX12_step_243 rfl rfl ?_
                refine w_iconst (v := 1) X dX12_step_244 (by decide) ?_
                refine w_iadd X dX12_step_245 ?_
                refine w_iload X dX12_step_246 rfl ?_
                rw [nI_1, hx]
                refine w_iadd X dX12_step_248 ?_
                rw [nI_add]
                refine w_iastoreN X dX12_step_249 rfl rfl (⟨by omega, by decide⟩) ?_
                refine w_goto (tgt := 445) X dX12_step_250 (by decide) ?_
                refine w_vrR X dX12_step_445 ⟨frR_tr (frR_mo fA (fun a i => sP_m)) (frR_mo (P := sP_ (r.length + 1) (f.2.2.2 + (FF f.1 f.2.1).2.length)) (sP_I (by unfold sP_; omega)) (fun a i => sP_m)), RS_st hR (frR_tr fA (sP_I (by unfold sP_; omega))) (q := f.2.1 + 1 + t2) (by omega) (by omega) ?_ ?_ ?_ ?_⟩
                · rw [gI_sI, if_pos ⟨rfl, rfl⟩]
                · rw [gI_sI, if_neg (by omega)]; rw [g2]; exact A47
                · rw [gI_sI, if_neg (by omega)]; rw [g2]; exact A51
                · exact ent_st hR (frR_tr fA (sP_I (by unfold sP_; omega))) (fun k2 x hx => by rw [g2] at hx; exact hx)
            · obtain ⟨t2, hx, g1, g2, g3, g4⟩ := hs.2.2.2.2.1 h180
              refine w_aload_n X dX12_step_183 rfl rfl ?_
              refine w_dup X dX12_step_184 rfl ?_
              refine g12_height X dX12_step_185 ?_
              rw [A47]
              refine w_iconst (v := 1) X dX12_step_188 (by decide) ?_
              refine w_isub X dX12_step_189 ?_
              rw [nI_p _ (by omega)]
              refine p12_height X dX12_step_190 ?_
              refine w_aload_n X dX12_step_193 rfl rfl ?_
              refine g12_runPlaces X dX12_step_194 ?_
              refine w_aload_n X dX12_step_197 rfl rfl ?_
              refine g12_depth X dX12_step_198 ?_
              rw [gI_sI, if_neg (by omega), A39]
              refine w_aload_n X dX12_step_201 rfl rfl ?_
              refine g12_stack X dX12_step_202 ?_
              refine w_aload_n X dX12_step_205 rfl rfl ?_
              refine g12_height X dX12_step_206 ?_
              rw [gI_sI, if_pos ⟨rfl, rfl⟩]
              refine w_ialoadN X dX12_step_209 rfl rfl (⟨by omega, by decide⟩) ?_
              refine w_if_ne (tgt := 222) X dX12_step_210 (by decide) (fun h210 => ?_) (fun h210 => ?_)
              · refine w_iload_n X dX12_step_222 rfl rfl ?_
                refine w_iconst (v := 1) X dX12_step_223 (by decide) ?_
                refine w_iadd X dX12_step_224 ?_
                rw [nI_1]
                refine w_iastoreN X dX12_step_225 rfl rfl (⟨by omega, by decide⟩) ?_
                refine w_goto (tgt := 445) X dX12_step_226 (by decide) ?_
                refine w_vrR X dX12_step_445 ⟨frR_tr (frR_mo fA (fun a i => sP_m)) (frR_mo (P := sP_ (r.length + 1) (f.2.2.2 + (FF f.1 f.2.1).2.length)) (frR_tr (sP_I (by unfold sP_; omega)) (sP_I (by unfold sP_; omega))) (fun a i => sP_m)), RS_st hR (frR_tr fA (frR_tr (sP_I (by unfold sP_; omega)) (sP_I (by unfold sP_; omega)))) (q := f.2.1 + 1) (by omega) (by omega) ?_ ?_ ?_ ?_⟩
                · rw [gI_sI, if_pos ⟨rfl, rfl⟩]
                · rw [gI_sI, if_neg (by omega), gI_sI, if_pos ⟨rfl, rfl⟩, g3]; show nI _ = nI (f.2.2.1 + ((FF f.1 f.2.1).1 - 1)); congr 1; omega
                · rw [gI_sI, if_neg (by omega), gI_sI, if_neg (by omega)]; rw [g3]; exact A51
                · exact ent_st hR (frR_tr fA (frR_tr (sP_I (by unfold sP_; omega)) (sP_I (by unfold sP_; omega)))) (fun k2 x hx => by rw [g3] at hx; exact hx)
              · refine w_iload_n X dX12_step_213 rfl rfl ?_
                refine w_iconst (v := 1) X dX12_step_214 (by decide) ?_
                refine w_iadd X dX12_step_215 ?_
                refine w_iload X dX12_step_216 rfl ?_
                rw [nI_1, hx]
                refine w_iadd X dX12_step_218 ?_
                refine w_goto (tgt := 225) X dX12_step_219 (by decide) ?_
                rw [nI_add]
                refine w_iastoreN X dX12_step_225 rfl rfl (⟨by omega, by decide⟩) ?_
                refine w_goto (tgt := 445) X dX12_step_226 (by decide) ?_
                refine w_vrR X dX12_step_445 ⟨frR_tr (frR_mo fA (fun a i => sP_m)) (frR_mo (P := sP_ (r.length + 1) (f.2.2.2 + (FF f.1 f.2.1).2.length)) (frR_tr (sP_I (by unfold sP_; omega)) (sP_I (by unfold sP_; omega))) (fun a i => sP_m)), RS_st hR (frR_tr fA (frR_tr (sP_I (by unfold sP_; omega)) (sP_I (by unfold sP_; omega)))) (q := f.2.1 + 1 + t2) (by omega) (by omega) ?_ ?_ ?_ ?_⟩
                · rw [gI_sI, if_pos ⟨rfl, rfl⟩]
                · rw [gI_sI, if_neg (by omega), gI_sI, if_pos ⟨rfl, rfl⟩, g4, g3]; show nI _ = nI (f.2.2.1 + ((FF f.1 f.2.1).1 - 1)); congr 1; omega
                · rw [gI_sI, if_neg (by omega), gI_sI, if_neg (by omega)]; rw [g4, g3]; exact A51
                · exact ent_st hR (frR_tr fA (frR_tr (sP_I (by unfold sP_; omega)) (sP_I (by unfold sP_; omega)))) (fun k2 x hx => by rw [g4, g3] at hx; exact hx)
          · have g1 := hs.2.2.2.1 h149
            refine w_aload_n X dX12_step_152 rfl rfl ?_
            refine w_dup X dX12_step_153 rfl ?_
            refine g12_height X dX12_step_154 ?_
            rw [A47]
            refine w_iconst (v := 1) X dX12_step_157 (by decide) ?_
            refine w_isub X dX12_step_158 ?_
            rw [nI_p _ (by omega)]
            refine p12_height X dX12_step_159 ?_
            refine w_aload_n X dX12_step_162 rfl rfl ?_
            refine w_aload_n X dX12_step_163 rfl rfl ?_
            refine g12_stack X dX12_step_164 ?_
            refine w_aload_n X dX12_step_167 rfl rfl ?_
            refine g12_height X dX12_step_168 ?_
            rw [gI_sI, if_pos ⟨rfl, rfl⟩]
            refine w_ialoadN X dX12_step_171 rfl rfl (⟨by omega, by decide⟩) ?_
            refine w_v1rV X dX12_step_172 k12_throwUp rfl rfl (c12_throwUp G hG _ _ c nn FF (EV_fr (frR_I (P := mR_) (by unfold mR_; omega) (by unfold mR_; omega)) hEA) (f :: r) hl10 ⟨⟨a1, by rw [gI_sI, if_neg (by omega)]; exact tA.1.2.1, a3, a4, a5, fun k2 x hx => by rw [gI_sI, if_neg (by omega), gI_sI, if_neg (by omega), gI_sI, if_neg (by omega)]; exact tA.1.2.2.2.2.2.1 k2 x hx, a7⟩, FS_cg r _ (Nat.le_refl _) tA.2 (fun q h1 h2 => ⟨by rw [gI_sI, if_neg (by omega)], by rw [gI_sI, if_neg (by omega)]⟩) (fun a k2 ha _ => by rw [gI_sI, if_neg (by omega)])⟩ (by rw [gI_sI, if_neg (by omega)]; exact A39) (by rw [gI_sI, if_neg (by omega)]; exact A51) k (muR_ nn (f :: r)) (by rw [gI_sI, if_neg (by omega)]; exact A40) hk2 (by show 0 < muR_ nn r + (nn f.1 - f.2.1 + 1); omega) (Nat.le_refl _) _) (Nat.le_of_ble_eq_true rfl) (fun N172 h172 => ?_)
            refine w_goto (tgt := 445) X dX12_step_175 (by decide) ?_
            refine w_vrR X dX12_step_445 ⟨frR_tr (frR_mo fA (fun a i => sP_m)) (frR_tr (frR_I (by unfold mR_; omega) (by unfold mR_; omega)) (frR_mo h172.1 (fun a i => uR_m))), g2_go h172.2 (Nat.le_refl _)⟩
        · obtain ⟨g, g1⟩ := hs.2.2.1 h118
          refine w_aload_n X dX12_step_121 rfl rfl ?_
          refine g12_stack X dX12_step_122 ?_
          refine w_aload_n X dX12_step_125 rfl rfl ?_
          refine g12_height X dX12_step_126 ?_
          rw [A47]
          refine w_iconst (v := 1) X dX12_step_129 (by decide) ?_
          refine w_isub X dX12_step_130 ?_
          rw [nI_p _ (by omega)]
          refine w_aload_n X dX12_step_131 rfl rfl ?_
          refine g12_stack X dX12_step_132 ?_
          refine w_aload_n X dX12_step_135 rfl rfl ?_
          refine g12_height X dX12_step_136 ?_
          rw [A47]
          refine w_iconst (v := 1) X dX12_step_139 (by decide) ?_
          refine w_isub X dX12_step_140 ?_
          rw [nI_p _ (by omega)]
          refine w_ialoadN X dX12_step_141 rfl rfl (⟨by omega, by decide⟩) ?_
          refine w_ineg X dX12_step_142 ?_
          refine w_iastoreN X dX12_step_143 rfl rfl (⟨by omega, by decide⟩) ?_
          refine w_goto (tgt := 445) X dX12_step_144 (by decide) ?_
          refine w_vrR X dX12_step_445 ⟨frR_tr (frR_mo fA (fun a i => sP_m)) (frR_mo (P := sP_ (r.length + 1) (f.2.2.2 + (FF f.1 f.2.1).2.length)) (sP_I (by unfold sP_; omega)) (fun a i => sP_m)), RS_st hR (frR_tr fA (sP_I (by unfold sP_; omega))) (q := f.2.1 + 1) (by omega) (by omega) ?_ ?_ ?_ ?_⟩
          · rw [gI_sI, if_neg (by omega)]; exact A25
          · rw [gI_sI, if_neg (by omega)]; rw [g]; exact A47
          · rw [gI_sI, if_neg (by omega)]; rw [g]; exact A51
          · exact ent_st hR (frR_tr fA (sP_I (by unfold sP_; omega))) (fun k2 x hx => by rw [g] at hx; exact hx)
      · obtain ⟨g, j, hj, hx⟩ := hs.2.1 h92
        refine w_aload_n X dX12_step_95 rfl rfl ?_
        refine w_aload_n X dX12_step_96 rfl rfl ?_
        refine g12_runParameters X dX12_step_97 ?_
        refine w_iconst (v := 3) X dX12_step_100 (by decide) ?_
        refine w_aload_n X dX12_step_101 rfl rfl ?_
        refine g12_depth X dX12_step_102 ?_
        rw [A39]
        refine w_imul X dX12_step_105 ?_
        refine w_iload X dX12_step_106 rfl ?_
        refine w_iadd X dX12_step_108 ?_
        rw [hx, show (3 : Int32) * nI (r.length + 1) + nI j = nI (3 * (r.length + 1) + j) from nI_m 3 (r.length + 1) j]
        refine w_ialoadN X dX12_step_109 rfl rfl (⟨by omega, by decide⟩) ?_
        refine w_v1fV X dX12_step_110 k12_push rfl rfl (c12_push G hG _ _ (f.2.2.1 + (FF f.1 f.2.1).1) A47 (by omega) _) (Nat.le_of_ble_eq_true rfl) ?_
        refine w_goto (tgt := 445) X dX12_step_113 (by decide) ?_
        refine w_vrR X dX12_step_445 ⟨frR_tr (frR_mo fA (fun a i => sP_m)) (frR_mo (P := sP_ (r.length + 1) (f.2.2.2 + (FF f.1 f.2.1).2.length)) (frR_tr (sP_I (by unfold sP_; omega)) (sP_I (by unfold sP_; omega))) (fun a i => sP_m)), RS_st hR (frR_tr fA (frR_tr (sP_I (by unfold sP_; omega)) (sP_I (by unfold sP_; omega)))) (q := f.2.1 + 1) (by omega) (by omega) ?_ ?_ ?_ ?_⟩
        · unfold ps_; rw [gI_sI, if_neg (by omega), gI_sI, if_neg (by omega)]; exact A25
        · unfold ps_; rw [gI_sI, if_pos ⟨rfl, rfl⟩, g]; show nI _ = nI _; congr 1
        · unfold ps_; rw [gI_sI, if_neg (by omega), gI_sI, if_neg (by omega)]; rw [g]; exact A51
        · exact ent_st hR (frR_tr fA (frR_tr (sP_I (by unfold sP_; omega)) (sP_I (by unfold sP_; omega)))) (fun k2 x hx => by rw [g] at hx; exact hx)
    · have g := hs.1 h78
      refine w_aload_n X dX12_step_81 rfl rfl ?_
      refine w_iload X dX12_step_82 rfl ?_
      refine w_v1fV X dX12_step_84 k12_push rfl rfl (c12_push G hG _ _ (f.2.2.1 + (FF f.1 f.2.1).1) A47 (by omega) _) (Nat.le_of_ble_eq_true rfl) ?_
      refine w_goto (tgt := 445) X dX12_step_87 (by decide) ?_
      refine w_vrR X dX12_step_445 ⟨frR_tr (frR_mo fA (fun a i => sP_m)) (frR_mo (P := sP_ (r.length + 1) (f.2.2.2 + (FF f.1 f.2.1).2.length)) (frR_tr (sP_I (by unfold sP_; omega)) (sP_I (by unfold sP_; omega))) (fun a i => sP_m)), RS_st hR (frR_tr fA (frR_tr (sP_I (by unfold sP_; omega)) (sP_I (by unfold sP_; omega)))) (q := f.2.1 + 1) (by omega) (by omega) ?_ ?_ ?_ ?_⟩
      · unfold ps_; rw [gI_sI, if_neg (by omega), gI_sI, if_neg (by omega)]; exact A25
      · unfold ps_; rw [gI_sI, if_pos ⟨rfl, rfl⟩, g]; show nI _ = nI _; congr 1
      · unfold ps_; rw [gI_sI, if_neg (by omega), gI_sI, if_neg (by omega)]; rw [g]; exact A51
      · exact ent_st hR (frR_tr fA (frR_tr (sP_I (by unfold sP_; omega)) (sP_I (by unfold sP_; omega)))) (fun k2 x hx => by rw [g] at hx; exact hx)
  · refine w_aload_n X dX12_step_30 rfl rfl ?_
    refine w_v0rV X dX12_step_31 k12_leave rfl rfl (c12_leave G hG _ _ c nn FF hE f r k hR ((nI_eq (by omega) (by omega)).mp h27)) (Nat.le_of_ble_eq_true rfl) (fun N31 h31 => ?_)
    exact w_vrR X dX12_step_34 ⟨frR_mo h31.1 (fun a i => uR_m), g2_go h31.2 (Nat.le_refl _)⟩
