/-! the law's loop -/
theorem law_cmp {L i : Nat} (hL : L ≤ 2560) (hi : i ≤ 2570) (h : ¬ nI L - 5 < nI i) : i + 5 ≤ L := by
  refine Nat.le_of_not_lt (fun z => h ?_)
  by_cases h5 : 5 ≤ L
  · rw [show (5 : Int32) = nI 5 from rfl, pk_sub h5]
    exact nI_lt (by omega) (by omega)
  · have e : ∀ x : Nat, x < 5 → nI x - 5 < 0 := by decide
    have e2 : (0 : Int32) ≤ nI i := by
      rw [← nI_0]
      exact nI_le (by omega) (by omega)
    exact Int32.lt_of_lt_of_le (e L (by omega)) e2
section LOOP
variable {C : mc_} {G : gg_} {b L : Nat} {xs : Nat → Int32}
set_option maxRecDepth 100000 in
theorem law_loop (h : LX_ C G b L xs) (hL : L ≤ 2560) : ∀ (u i a sl : Nat) (M : mm_) (o5 o6 : Option Value), L ≤ i + 5 * u + 4 → i ≤ L + 5 → a + u ≤ 601024 → sl + 6 * u ≤ 7293034 → IV_ M → wq_ (ca_ C a sl) G (lwq_ C) 23 [some (.ref b), some (.ref (G.1 34)), some (.ref (G.1 0)), some (.ref (G.1 262)), some (.int (nI i)), o5, o6] [] M := by
  intro u
  induction u with
  | zero =>
    intro i a sl M o5 o6 h1 h2 ha hs hB
    have X := LX_cx (a := a) (sl := sl) h (by omega) (by omega)
    refine w_iload X dL_law_23 rfl ?_
    refine w_aload_n X dL_law_25 rfl rfl ?_
    refine w_sclen X (LX_sc h) dL_law_26 ?_
    refine w_iconst (v := 5) X dL_law_27 (by decide) ?_
    refine w_isub X dL_law_28 ?_
    refine w_icmp_gt (tgt := 620) X dL_law_29 (by decide) (fun _ => ?_) (fun z => ?_)
    · refine w_iconst (v := 1) X dL_law_620 (by decide) ?_
      exact w_lawret h (by omega) (by omega) dL_law_621
    · have := law_cmp hL (by omega) z
      omega
  | succ u ih =>
    intro i a sl M o5 o6 h1 h2 ha hs hB
    have X := LX_cx (a := a) (sl := sl) h (by omega) (by omega)
    have X1 := LX_cx (a := a + 1) (sl := sl + 6) h (by omega) (by omega)
    refine w_iload X dL_law_23 rfl ?_
    refine w_aload_n X dL_law_25 rfl rfl ?_
    refine w_sclen X (LX_sc h) dL_law_26 ?_
    refine w_iconst (v := 5) X dL_law_27 (by decide) ?_
    refine w_isub X dL_law_28 ?_
    refine w_icmp_gt (tgt := 620) X dL_law_29 (by decide) (fun _ => ?_) (fun z => ?_)
    · refine w_iconst (v := 1) X dL_law_620 (by decide) ?_
      exact w_lawret h (by omega) (by omega) dL_law_621
    have hi := law_cmp hL (by omega) z
    have K : ∀ (N : mm_) (p5 p6 : Option Value), IV_ N → wq_ (ca_ C (a + 1) (sl + 6)) G (lwq_ C) 614 [some (.ref b), some (.ref (G.1 34)), some (.ref (G.1 0)), some (.ref (G.1 262)), some (.int (nI i)), p5, p6] [] N := by
      intro N p5 p6 hN
      refine w_iinc (v := 5) X1 dL_law_614 rfl (by decide) (by decide) ?_
      refine w_goto (tgt := 23) X1 dL_law_617 (by decide) ?_
      rw [show nI i + 5 = nI (i + 5) from nI_add i 5]
      exact ih (i + 5) (a + 1) (sl + 6) N p5 p6 (by omega) (by omega) (by omega) (by omega) hN
    refine w_aload_n X dL_law_32 rfl rfl ?_
    refine w_iload X dL_law_33 rfl ?_
    refine w_sld X (LX_sc h) dL_law_35 (vp_in_nI (by omega) (by omega)) ?_
    refine w_bipush (v := 31) X dL_law_36 (by decide) ?_
    refine w_iand X dL_law_38 ?_
    generalize xs (nI i).toNatClampNeg &&& 31 = t
    by_cases ht : t.toInt < 0 ∨ 16 < t.toInt
    · refine w_tableOut (tgt := 614) X dL_law_39 ht (by decide) ?_
      exact w_widen (by omega) (by omega) (K _ _ _ hB)
    obtain ⟨n, hn⟩ : ∃ n : Nat, t.toInt = (n : Int) := ⟨t.toInt.toNat, by omega⟩
    have hn2 : n = 0 ∨ n = 1 ∨ n = 2 ∨ n = 3 ∨ n = 4 ∨ n = 5 ∨ n = 6 ∨ n = 7 ∨ n = 8 ∨ n = 9 ∨ n = 10 ∨ n = 11 ∨ n = 12 ∨ n = 13 ∨ n = 14 ∨ n = 15 ∨ n = 16 := by omega
    rcases hn2 with rfl | rfl | rfl | rfl | rfl | rfl | rfl | rfl | rfl | rfl | rfl | rfl | rfl | rfl | rfl | rfl | rfl
    · exact w_tableIn (tgt := 120) (off := 81) X dL_law_39 (by rw [hn]; decide) (by rw [hn]; decide) (by rw [hn]; decide) (by decide) (law_0 h hL hi (by omega) (by omega) rfl rfl rfl rfl hB K)
    · exact w_tableIn (tgt := 192) (off := 153) X dL_law_39 (by rw [hn]; decide) (by rw [hn]; decide) (by rw [hn]; decide) (by decide) (law_1 h hL hi (by omega) (by omega) rfl rfl rfl rfl hB K)
    · exact w_tableIn (tgt := 205) (off := 166) X dL_law_39 (by rw [hn]; decide) (by rw [hn]; decide) (by rw [hn]; decide) (by decide) (law_2 h hL hi (by omega) (by omega) rfl rfl rfl rfl hB K)
    · exact w_tableIn (tgt := 218) (off := 179) X dL_law_39 (by rw [hn]; decide) (by rw [hn]; decide) (by rw [hn]; decide) (by decide) (law_3 h hL hi (by omega) (by omega) rfl rfl rfl rfl hB K)
    · exact w_tableIn (tgt := 231) (off := 192) X dL_law_39 (by rw [hn]; decide) (by rw [hn]; decide) (by rw [hn]; decide) (by decide) (law_4 h hL hi (by omega) (by omega) rfl rfl rfl rfl hB K)
    · exact w_tableIn (tgt := 244) (off := 205) X dL_law_39 (by rw [hn]; decide) (by rw [hn]; decide) (by rw [hn]; decide) (by decide) (law_5 h hL hi (by omega) (by omega) rfl rfl rfl rfl hB K)
    · exact w_tableIn (tgt := 257) (off := 218) X dL_law_39 (by rw [hn]; decide) (by rw [hn]; decide) (by rw [hn]; decide) (by decide) (law_6 h hL hi (by omega) (by omega) rfl rfl rfl rfl hB K)
    · exact w_tableIn (tgt := 349) (off := 310) X dL_law_39 (by rw [hn]; decide) (by rw [hn]; decide) (by rw [hn]; decide) (by decide) (law_7 h hL hi (by omega) (by omega) rfl rfl rfl rfl hB K)
    · exact w_tableIn (tgt := 362) (off := 323) X dL_law_39 (by rw [hn]; decide) (by rw [hn]; decide) (by rw [hn]; decide) (by decide) (law_8 h hL hi (by omega) (by omega) rfl rfl rfl rfl hB K)
    · exact w_tableIn (tgt := 375) (off := 336) X dL_law_39 (by rw [hn]; decide) (by rw [hn]; decide) (by rw [hn]; decide) (by decide) (law_9 h hL hi (by omega) (by omega) rfl rfl rfl rfl hB K)
    · exact w_tableIn (tgt := 388) (off := 349) X dL_law_39 (by rw [hn]; decide) (by rw [hn]; decide) (by rw [hn]; decide) (by decide) (law_10 h hL hi (by omega) (by omega) rfl rfl rfl rfl hB K)
    · exact w_tableIn (tgt := 428) (off := 389) X dL_law_39 (by rw [hn]; decide) (by rw [hn]; decide) (by rw [hn]; decide) (by decide) (law_11 h hL hi (by omega) (by omega) rfl rfl rfl rfl hB K)
    · exact w_tableIn (tgt := 441) (off := 402) X dL_law_39 (by rw [hn]; decide) (by rw [hn]; decide) (by rw [hn]; decide) (by decide) (law_12 h hL hi (by omega) (by omega) rfl rfl rfl rfl hB K)
    · exact w_tableIn (tgt := 481) (off := 442) X dL_law_39 (by rw [hn]; decide) (by rw [hn]; decide) (by rw [hn]; decide) (by decide) (law_13 h hL hi (by omega) (by omega) rfl rfl rfl rfl hB K)
    · exact w_tableIn (tgt := 533) (off := 494) X dL_law_39 (by rw [hn]; decide) (by rw [hn]; decide) (by rw [hn]; decide) (by decide) (law_14 h hL hi (by omega) (by omega) rfl rfl rfl rfl hB K)
    · exact w_tableIn (tgt := 546) (off := 507) X dL_law_39 (by rw [hn]; decide) (by rw [hn]; decide) (by rw [hn]; decide) (by decide) (law_15 h hL hi (by omega) (by omega) rfl rfl rfl rfl hB K)
    · exact w_tableIn (tgt := 586) (off := 547) X dL_law_39 (by rw [hn]; decide) (by rw [hn]; decide) (by rw [hn]; decide) (by decide) (law_16 h hL hi (by omega) (by omega) rfl rfl rfl rfl hB K)
theorem wn_wq {D : mc_} {Q : State → Prop} {pc : Nat} {lv : List (Option Value)} {st : List Value} {M : mm_} (ha : ∀ k, k < 263 → aok_ M k = true) (k : wq_ D G Q pc lv st M) : wn_ D G Q pc lv st M 263 := by
  obtain ⟨p, l, e, R, s, m, args, below, meth, c, cs, sl⟩ := D
  intro H locs ls hl hP hS
  exact k H locs ls hl (hp_wl ha hP) hS
set_option maxRecDepth 100000 in
theorem law_head (X : cnX_ C G RL cL_law 7 ret 1300 263 15532) (hg : ga_ G) (h : LX_ C G b L xs) (hL : L ≤ 2560) : wn_ (ca_ C 0 0) G (lwq_ C) 0 [some (.ref b), none, none, none, none, none, none] [] Z0_ 0 := by
  refine n_new X dL_law_0 rfl inG11 tyX11_ok clL_8 ins11_ in11_ rfl (by decide +kernel) (by decide) (by decide) (by decide) ?_
  refine n_dup X dL_law_3 rfl ?_
  refine n_ctor [] X dL_law_4 kL_39 (i11_ G hg 1295 _) (Nat.le_of_ble_eq_true rfl) (by decide) (by decide) ?_
  refine n_astore_n X dL_law_7 rfl (by decide) ?_
  refine n_new X dL_law_8 rfl inG12 tyX12_ok clL_40 ins12_ in12_ rfl (by decide +kernel) (by decide) (by decide) (by decide) ?_
  refine n_dup X dL_law_11 rfl ?_
  refine n_ctor [] X dL_law_12 kL_42 (i12_ G hg 1298 _) (Nat.le_of_ble_eq_true rfl) (by decide) (by decide) ?_
  refine n_astore_n X dL_law_15 rfl (by decide) ?_
  refine n_iconst (v := 1) X dL_law_16 (by decide) ?_
  refine n_newL X dL_law_17 rfl rfl ac_long rfl (fun _ _ h => h) rfl (by decide) (by decide) (by decide) (by decide) (by decide) ?_
  refine wn_wq (M := M1_) aok_1 ?_
  have Y := LX_cx (a := 263) (sl := 15532) h (by decide) (by decide)
  refine w_astore_n Y dL_law_19 rfl (by decide) ?_
  refine w_iconst (v := 0) Y dL_law_20 (by decide) ?_
  refine w_istore Y dL_law_21 (by decide) ?_
  exact law_loop h hL 512 0 263 15532 M1_ none none (by omega) (by omega) (by decide) (by decide) IV_1
end LOOP
theorem hp_0 {G : gg_} {H : Heap} (h : G.2.2.2 = H.size) : hp_ G Z0_ 0 H := ⟨(fun k q h => by cases h), (by rw [h]; rfl), fun k _ => ⟨fun _ => rfl, fun _ => rfl, fun _ => rfl⟩⟩
