/-! the class: start, call, replay, by the abstract state -/
theorem hd_fa {k : Nat} {M N : mm_} {C : List cq2_} (hk : kcX_ k) (h2 : N.2 = M.2) (h : ∀ a i, faX_ a i → N.1 a i = M.1 a i) (g : hd_ k M C) : hd_ k N C := by
  unfold kcX_ at hk
  exact hd_cg (fun a i z1 z2 => h a i (by unfold faX_; omega)) (fun i => by rw [h2]) g
theorem JX_fa {E : se_} {J : Nat → Nat} {c : Nat} {s s2 : sgA_} {M N : mm_} (hJ : ∀ j, j < 8 → J j < 9) (h2 : N.2 = M.2) (h : ∀ a i, faX_ a i → N.1 a i = M.1 a i) (hs : KM_ s s2) (g : JX_ E J c s M) : JX_ E J c s2 N := by
  intro j hj h0
  have hs2 : s2.1 j = s.1 j := (hs j hj).resolve_right h0
  rw [hs2] at h0 ⊢
  have hJj := hJ j hj
  obtain ⟨a1, a2, a3⟩ := g j hj h0
  have e : ∀ i, ¬ i = 0 → ¬ i = 7 → N.1 (135 + 12 * J j) i = M.1 (135 + 12 * J j) i := fun i z1 z2 => h _ i (by unfold faX_; omega)
  have xc : ∀ k e, kcX_ k → XCo_ k e M → XCo_ k e N := fun k e hk g => ⟨g.1, g.2.1, g.2.2.1, hd_fa hk h2 h g.2.2.2.1, g.2.2.2.2⟩
  refine ⟨a1, fun m hm => by rw [e 9 (by omega) (by omega)]; exact a2 m hm, fun h1 => ?_⟩
  obtain ⟨b1, b2, b3, b4, b5⟩ := a3 h1
  refine ⟨by rw [e 1 (by omega) (by omega)]; exact b1, by rw [e 6 (by omega) (by omega)]; exact b2, xc _ _ (kcX_e hJj) b3, fun z => by rw [e 5 (by omega) (by omega)]; exact b4 z, fun e2 z => ?_⟩
  obtain ⟨c1, c2⟩ := b5 e2 z
  exact ⟨by rw [e 5 (by omega) (by omega)]; exact c1, xc _ _ (kcX_c hJj) c2⟩
theorem iv_all {E : se_} {m : Nat} {P : Nat → Int32} {s : sgA_} (h : iv2_ s = 0) : ivT_ E 1 m P s = inA_ E 10 m P s := by
  unfold ivT_
  rw [if_neg (by decide), if_neg (show ¬ 1000 ≤ s.2.2.2.2.2 from by rw [show s.2.2.2.2.2 = 0 from h]; decide)]
/-- what a call leaves in the class -/
def CLQ_ (J : Nat → Nat) (M : mm_) (o : io2_) (q : Int32) (N : mm_) : Prop := N.2 = M.2 ∧ (∀ a i, faX_ a i → N.1 a i = M.1 a i) ∧ zoX_ (N.1 247 10) ∧ DX_ J o.2 N ∧ match o.1 with
  | .inl v => q = 0 ∧ N.1 247 0 = v
  | .inr x => q = 1 ∧ N.1 247 0 = x.2 ∧ (x.1 = 1 ∨ x.1 = 2)
theorem c4_startT (G : gg_) (hG : gd_ G) (e : Nat) (M : mm_) (E : se_) (J : Nat → Nat) (S c m : Nat) (P : Nat → Int32) (s : sgA_) (z : Int32) (hz : zoX_ z) (hS : SX_ E J S c (sI_ M 247 9 z)) (hm : m < c) (hiv : iv2_ s = 0) (hD : DX_ J s (sI_ M 247 1 0)) (hX : JX_ E J c s M) (hP : ∀ i, i < 3 → M.1 250 i = P i) (h10 : zoX_ (M.1 247 10)) : cm_ G yX4_start cX4_start 3 (some .int) (e + 61) [.ref (G.1 247), .int (nI m), .int z] M (rI_ (CLQ_ J M (inA_ E 10 m P s))) := by
  have hJ : ∀ j, j < 8 → J j < 9 := fun j hj => (hS.2.2.2.1.1 j hj).1
  obtain ⟨A, hA⟩ : ∃ A, sI_ (sI_ (sI_ (sI_ M 247 9 z) 247 1 0) 247 12 0) 247 8 0 = A := ⟨_, rfl⟩
  have aF : XF_ 0 0 (sI_ M 247 9 z) A := by rw [← hA]; exact XF_247 (by omega) (by omega) (XF_247 (by omega) (by omega) (XF_247 (by omega) (by omega) XF_rf))
  have ao : ∀ a i, ¬ (a = 247 ∧ (i = 9 ∨ i = 1 ∨ i = 12 ∨ i = 8)) → A.1 a i = M.1 a i := fun a i h => by rw [← hA, gI_sI, if_neg (by omega), gI_sI, if_neg (by omega), gI_sI, if_neg (by omega), gI_sI, if_neg (by omega)]
  have a2 : A.2 = M.2 := by rw [← hA]; rfl
  have sA : SX_ E J S c A := SX_cg aF hS
  have dA : DX_ J s A := DX_cg hJ (fun a i h => by rw [← hA, gI_sI, if_neg (by omega), gI_sI, if_neg (by omega), gI_sI, gI_sI, gI_sI]; by_cases h1 : a = 247 ∧ i = 1; (rw [if_pos h1, if_pos h1]); (rw [if_neg h1, if_neg h1, if_neg (by omega)])) hD
  have xA : JX_ E J c s A := JX_fa hJ a2 (fun a i h => ao a i (by unfold faX_ at h; omega)) (KM_rf s) hX
  have hit := IT_all G hG E J S c 10 1 (by decide) (by decide) e A m 0 P s sA hm (by rw [← hA, gI_sI, if_pos ⟨rfl, rfl⟩]; rfl) (by omega) (by rw [ao _ _ (by omega)]; exact h10) (by rw [← hA, gI_sI, if_neg (by omega), gI_sI, if_pos ⟨rfl, rfl⟩]) dA xA (fun i hi => by rw [ao _ _ (by omega)]; exact hP i hi)
  rw [iv_all hiv] at hit
  refine cm_post (c4_startE G hG (e + 54) M m z hz _ (by rw [hA]; exact hit)) (fun v N h => ?_)
  obtain ⟨q, hv, v0, N0, ⟨i1, i2, i3⟩, hN, hq⟩ := h
  refine ⟨q, hv, ?_⟩
  subst hN
  refine ⟨i1.1.trans a2, fun a i h => ?_, ?_, ?_⟩
  · rw [gI_sI, if_neg (by unfold faX_ at h; omega), i1.2.1 a i h, ao a i (by unfold faX_ at h; omega)]
  · rw [gI_sI, if_neg (by omega)]
    generalize inA_ E 10 m P s = o at i3
    obtain ⟨o, s2⟩ := o
    cases o with
    | inl x => exact Or.inl i3.2.1
    | inr x => exact Or.inr i3.2.1
  · generalize inA_ E 10 m P s = o at i3
    obtain ⟨o, s2⟩ := o
    cases o with
    | inl x => exact ⟨DX_m hJ (by omega) (by omega) i3.2.2.2, by rw [hq, if_pos i3.2.1], by rw [gI_sI, if_pos ⟨rfl, rfl⟩]; exact i3.1⟩
    | inr x => exact ⟨DX_m hJ (by omega) (by omega) i3.2.2.2.1, by rw [hq, if_neg (by rw [i3.2.1]; decide)], by rw [gI_sI, if_pos ⟨rfl, rfl⟩]; exact i3.1, i3.2.2.2.2⟩
set_option maxRecDepth 100000 in
set_option maxHeartbeats 600000 in
theorem c11_callE (G : gg_) (hG : gd_ G) (d : Nat) (M : mm_) (c : Nat) (hc : mt_ M c) (hv : vq_ M) (m x y w : Int32) (QC : Int32 → mm_ → Prop) (hst : ∀ m2, m2 < c → m = nI m2 → cm_ G yX4_start cX4_start 3 (some .int) (d + 62) [.ref (G.1 247), .int (nI m2), .int 1] (sp1_ M (poX_ (kf_ M c (nI m2))) x y w) (rI_ QC)) : cmx_ G yX11_call cX11_call 5 (some .int) (d + 63) [.ref (G.1 34), .int m, .int x, .int y, .int w] M (rI_ (fun r N => (∃ m2, m2 < c ∧ m = nI m2) ∧ QC r N)) (fun E => E = "java/lang/IndexOutOfBoundsException" ∧ mH_ c m = 0) := by
  refine cmx_of hG (by decide) (Nat.le_of_ble_eq_true rfl) (fun C X Z => ?_)
  refine w_aload_n X dX11_call_0 rfl rfl ?_
  refine g11_37 X dX11_call_1 s_34 rfl ?_
  refine w_iload_n X dX11_call_4 rfl rfl ?_
  refine w_v1fI X dX11_call_5 k11_135 rfl s_45 (c5_has G hG _ _ c hc _) (Nat.le_of_ble_eq_true rfl) ?_
  refine w_if_ne (tgt := 19) X dX11_call_8 (by decide) (fun h8 => ?_) (fun h8 => ?_)
  · obtain ⟨m2, hm2, em⟩ := ix_ (n := c) (by have := hc.1; omega) (Int32.not_lt.mpr (mH_1 h8).1) (Int32.not_le.mpr (mH_1 h8).2)
    have hs2 := hst m2 hm2 em
    subst em
    refine w_aload_n X dX11_call_19 rfl rfl ?_
    refine g11_65 X dX11_call_20 s_34 rfl ?_
    refine w_aload_n X dX11_call_23 rfl rfl ?_
    refine g11_37 X dX11_call_24 s_34 rfl ?_
    refine w_iload_n X dX11_call_27 rfl rfl ?_
    refine w_v1fI X dX11_call_28 k11_142 rfl s_45 (c5_parametersOf G hG _ _ c hc _) (Nat.le_of_ble_eq_true rfl) ?_
    refine w_iload_n X dX11_call_31 rfl rfl ?_
    refine w_iload_n X dX11_call_32 rfl rfl ?_
    refine w_iload X dX11_call_33 rfl ?_
    refine w_v4fV X dX11_call_35 k11_145 rfl s_247 (c4_setParameters G hG _ _ hv _ _ _ _) (Nat.le_of_ble_eq_true rfl) ?_
    refine w_aload_n X dX11_call_38 rfl rfl ?_
    refine g11_65 X dX11_call_39 s_34 rfl ?_
    refine w_iload_n X dX11_call_42 rfl rfl ?_
    refine w_iconst (v := 1) X dX11_call_43 (by decide) ?_
    refine w_v2rI X dX11_call_44 k11_149 rfl s_247 (hs2) (Nat.le_of_ble_eq_true rfl) (fun r44 N44 h44 => ?_)
    exact w_irX X Z dX11_call_47 ⟨_, rfl, ⟨m2, hm2, rfl⟩, h44⟩
  · exact w_throwI X Z (by omega) dX11_call_11 dX11_call_14 dX11_call_15 dX11_call_18 (⟨rfl, h8⟩)
set_option maxRecDepth 100000 in
set_option maxHeartbeats 600000 in
theorem c11_replayE (G : gg_) (hG : gd_ G) (d : Nat) (M : mm_) (c : Nat) (hc : mt_ M c) (hv : vq_ M) (z : Nat) (hz : z ≤ 40) (k3 : M.1 245 1 = 7) (k5 : M.1 245 3 = nI z) (i : Int32) (QC : Int32 → mm_ → Prop) (hst : ∀ i2, i2 < z → i = nI i2 → ∃ m2, M.1 246 (7 * i2 + 1) = nI m2 ∧ cm_ G yX4_start cX4_start 3 (some .int) (d + 62) [.ref (G.1 247), .int (nI m2), .int 0] (sp1_ M (poX_ (kf_ M c (nI m2))) (M.1 246 (7 * i2 + 2)) (M.1 246 (7 * i2 + 3)) (M.1 246 (7 * i2 + 4))) (rI_ QC)) : cmx_ G yX11_replay cX11_replay 3 (some .int) (d + 63) [.ref (G.1 34), .int i] M (rI_ (fun r N => (∃ i2, i2 < z ∧ i = nI i2) ∧ QC r N)) (fun E => E = "java/lang/IndexOutOfBoundsException" ∧ rH_ M 245 i = 0) := by
  refine cmx_of hG (by decide) (Nat.le_of_ble_eq_true rfl) (fun C X Z => ?_)
  refine w_aload_n X dX11_replay_0 rfl rfl ?_
  refine g11_57 X dX11_replay_1 s_34 rfl ?_
  refine w_iload_n X dX11_replay_4 rfl rfl ?_
  refine w_v1fI X dX11_replay_5 k11_162 rfl s_245 (c8_has G hG _ _ 245 280 rw_kept _) (Nat.le_of_ble_eq_true rfl) ?_
  refine w_if_ne (tgt := 19) X dX11_replay_8 (by decide) (fun h8 => ?_) (fun h8 => ?_)
  · obtain ⟨i2, hi2, ei⟩ := rH_in k5 (by omega) h8
    obtain ⟨m2, em, hs2⟩ := hst i2 hi2 ei
    have r1 : rC_ M 245 280 (nI i2) 1 = nI m2 := (rC_at (j := 1) k3 (by omega) (by decide)).trans em
    have r2 : rC_ M 245 280 (nI i2) 2 = M.1 246 (7 * i2 + 2) := rC_at (j := 2) k3 (by omega) (by decide)
    have r3 : rC_ M 245 280 (nI i2) 3 = M.1 246 (7 * i2 + 3) := rC_at (j := 3) k3 (by omega) (by decide)
    have r4 : rC_ M 245 280 (nI i2) 4 = M.1 246 (7 * i2 + 4) := rC_at (j := 4) k3 (by omega) (by decide)
    subst ei
    refine w_aload_n X dX11_replay_19 rfl rfl ?_
    refine g11_57 X dX11_replay_20 s_34 rfl ?_
    refine w_iload_n X dX11_replay_23 rfl rfl ?_
    refine w_iconst (v := 1) X dX11_replay_24 (by decide) ?_
    refine w_v2fI X dX11_replay_25 k11_163 rfl s_245 (c8_cell G hG _ _ 245 280 rw_kept _ _) (Nat.le_of_ble_eq_true rfl) ?_
    rw [r1]
    refine w_istore_n X dX11_replay_28 rfl (by decide) ?_
    refine w_aload_n X dX11_replay_29 rfl rfl ?_
    refine g11_65 X dX11_replay_30 s_34 rfl ?_
    refine w_aload_n X dX11_replay_33 rfl rfl ?_
    refine g11_37 X dX11_replay_34 s_34 rfl ?_
    refine w_iload_n X dX11_replay_37 rfl rfl ?_
    refine w_v1fI X dX11_replay_38 k11_142 rfl s_45 (c5_parametersOf G hG _ _ c hc _) (Nat.le_of_ble_eq_true rfl) ?_
    refine w_aload_n X dX11_replay_41 rfl rfl ?_
    refine g11_57 X dX11_replay_42 s_34 rfl ?_
    refine w_iload_n X dX11_replay_45 rfl rfl ?_
    refine w_iconst (v := 2) X dX11_replay_46 (by decide) ?_
    refine w_v2fI X dX11_replay_47 k11_163 rfl s_245 (c8_cell G hG _ _ 245 280 rw_kept _ _) (Nat.le_of_ble_eq_true rfl) ?_
    refine w_aload_n X dX11_replay_50 rfl rfl ?_
    refine g11_57 X dX11_replay_51 s_34 rfl ?_
    refine w_iload_n X dX11_replay_54 rfl rfl ?_
    refine w_iconst (v := 3) X dX11_replay_55 (by decide) ?_
    refine w_v2fI X dX11_replay_56 k11_163 rfl s_245 (c8_cell G hG _ _ 245 280 rw_kept _ _) (Nat.le_of_ble_eq_true rfl) ?_
    refine w_aload_n X dX11_replay_59 rfl rfl ?_
    refine g11_57 X dX11_replay_60 s_34 rfl ?_
    refine w_iload_n X dX11_replay_63 rfl rfl ?_
    refine w_iconst (v := 4) X dX11_replay_64 (by decide) ?_
    refine w_v2fI X dX11_replay_65 k11_163 rfl s_245 (c8_cell G hG _ _ 245 280 rw_kept _ _) (Nat.le_of_ble_eq_true rfl) ?_
    refine w_v4fV X dX11_replay_68 k11_145 rfl s_247 (c4_setParameters G hG _ _ hv _ _ _ _) (Nat.le_of_ble_eq_true rfl) ?_
    rw [r2, r3, r4]
    refine w_aload_n X dX11_replay_71 rfl rfl ?_
    refine g11_65 X dX11_replay_72 s_34 rfl ?_
    refine w_iload_n X dX11_replay_75 rfl rfl ?_
    refine w_iconst (v := 0) X dX11_replay_76 (by decide) ?_
    refine w_v2rI X dX11_replay_77 k11_149 rfl s_247 (hs2) (Nat.le_of_ble_eq_true rfl) (fun r77 N77 h77 => ?_)
    exact w_irX X Z dX11_replay_80 ⟨_, rfl, ⟨i2, hi2, rfl⟩, h77⟩
  · exact w_throwI X Z (by omega) dX11_replay_11 dX11_replay_14 dX11_replay_15 dX11_replay_18 (⟨rfl, h8⟩)
