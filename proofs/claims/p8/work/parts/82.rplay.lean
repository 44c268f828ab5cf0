/-! the reference's machine: play, call, replay -/
def pR_ (a i : Nat) : Prop := mR_ a i ∨ (a = 0 ∧ i = 0)
theorem pR_00 {M : mm_} {v : Int32} : frR_ pR_ M (sI_ M 0 0 v) := by
  refine ⟨rfl, fun b j _ w => ?_, fun j => Or.inl (by rw [gI_sI, if_neg (by omega)]), ckR_s (fun j hj => by rw [gI_sI, if_neg (by omega)]) (fun j => by rw [gI_sI, if_neg (by omega)])⟩
  rw [gI_sI]; split
  · rename_i z; exact absurd (Or.inr ⟨z.1, z.2⟩) w
  · rfl
theorem jbR_pr {M N : mm_} (h : frR_ pR_ M N) (g : jbR_ M) : jbR_ N := by
  have e : ∀ a i, ¬ pzR_ a i → ¬ pR_ a i → N.1 a i = M.1 a i := h.2.1
  have ek : ∀ {V t : Nat}, okT_ V t M → okT_ V t N := fun k => okT_fr (fun i => e 4 i (by unfold pzR_; omega) (by unfold pR_ mR_; omega)) (fun i => e 2 i (by unfold pzR_; omega) (by unfold pR_ mR_; omega)) (fun i => by rw [h.1]) k
  intro j hj
  obtain ⟨⟨z, a1, a2⟩, a3⟩ := g j hj
  refine ⟨⟨z, a1, by rw [e 18 j (by unfold pzR_; omega) (by unfold pR_ mR_; omega)]; exact a2⟩, fun k => ?_⟩
  rcases h.2.2.1 j with y | y
  · rw [y] at k
    obtain ⟨b1, b2⟩ := a3 k
    refine ⟨ek b1, fun q => ek (b2 ?_)⟩
    rw [e 16 j (by unfold pzR_; omega) (by unfold pR_ mR_; omega)] at q
    exact q
  · rw [y] at k; exact absurd k (by decide)
theorem EV_pr {c : Nat} {nn : Nat → Nat} {FF : Nat → Nat → Nat × List Nat} {M N : mm_} (h : frR_ pR_ M N) (g : EV_ c nn FF M) : EV_ c nn FF N := by
  have e : ∀ a i, ¬ pzR_ a i → ¬ pR_ a i → N.1 a i = M.1 a i := h.2.1
  obtain ⟨g1, g2, g3, g4, g5⟩ := g
  refine ⟨by rw [e 0 9 (by unfold pzR_; omega) (by unfold pR_ mR_; omega)]; exact g1, g2, h.2.2.2 g3, jbR_pr h g4, fun m hm => ?_⟩
  obtain ⟨⟨a1, a2, a3, a4, a5, a6⟩, q, b1, b2⟩ := g5 m hm
  refine ⟨⟨by rw [e 4 _ (by unfold pzR_; omega) (by unfold pR_ mR_; omega)]; exact a1, a2, a3, a4, a5, fun i hi => ?_⟩, q, b1, by rw [e 6 _ (by unfold pzR_; omega) (by unfold pR_ mR_; omega)]; exact b2⟩
  rw [e 2 _ (by unfold pzR_; omega) (by unfold pR_ mR_; omega), h.1]
  exact a6 i hi
set_option maxRecDepth 100000 in
set_option maxHeartbeats 4000000 in
theorem c12_play (G : gg_) (hG : gd_ G) (d : Nat) (M : mm_) (c : Nat) (nn : Nat → Nat) (FF : Nat → Nat → Nat × List Nat) (hE : EV_ c nn FF M) (m : Nat) (hm : m < c) (x y w z : Int32) (hz : z = 0 ∨ z = 1) : cm_ G yX12_play cX12_play 6 (some .int) (d + 7) [.ref (G.1 0), .int (nI m), .int x, .int y, .int w, .int z] M (rI_ (fun _ N => frR_ mR_ M N)) := by
  refine cm_of hG (by decide) (Nat.le_of_ble_eq_true rfl) (fun C X => ?_)
  have lp : ∀ (U : Nat) (L : List fs4_) (k : Nat) (N : mm_), frR_ mR_ M N → RS_ c nn FF L k N → (1000 - k) * 42 + muR_ nn L < U → wq_ C G (qe_ C G (rI_ (fun _ N => frR_ mR_ M N))) 53 [some (.ref (G.1 0)), some (.int (nI m)), some (.int x), some (.int y), some (.int w), some (.int z)] [] N := by
    intro U
    induction U with
    | zero => intro L k N hN hR hU; omega
    | succ U ih =>
      intro L k N hN hR hU
      have hEN := EV_fr hN hE
      cases L with
      | nil =>
        have e39 : N.1 0 39 = nI 0 := hR.1
        refine w_aload_n X dX12_play_53 rfl rfl ?_
        refine g12_depth X dX12_play_54 ?_
        rw [e39]
        refine w_if_le (tgt := 67) X dX12_play_57 (by decide) (fun h57 => ?_) (fun h57 => absurd (by decide) h57)
        refine w_aload_n X dX12_play_67 rfl rfl ?_
        refine w_aload_n X dX12_play_68 rfl rfl ?_
        refine g12_answer X dX12_play_69 ?_
        refine p12_value X dX12_play_72 ?_
        refine w_aload_n X dX12_play_75 rfl rfl ?_
        refine g12_threw X dX12_play_76 ?_
        refine w_if_eq (tgt := 86) X dX12_play_79 (by decide) (fun h79 => ?_) (fun h79 => ?_)
        · refine w_iconst (v := 0) X dX12_play_86 (by decide) ?_
          exact w_irR X dX12_play_87 (frR_tr hN (frR_I (by unfold mR_; omega) (by unfold mR_; omega)))
        · refine w_iconst (v := 1) X dX12_play_82 (by decide) ?_
          refine w_goto (tgt := 87) X dX12_play_83 (by decide) ?_
          exact w_irR X dX12_play_87 (frR_tr hN (frR_I (by unfold mR_; omega) (by unfold mR_; omega)))
      | cons f r =>
        have e39 : N.1 0 39 = nI (r.length + 1) := hR.1
        have hl10 : r.length + 1 ≤ 10 := hR.2.1
        refine w_aload_n X dX12_play_53 rfl rfl ?_
        refine g12_depth X dX12_play_54 ?_
        rw [e39]
        refine w_if_le (tgt := 67) X dX12_play_57 (by decide) (fun h57 => absurd h57 (nI_ge (a := 0) (b := r.length + 1) (by omega) (by omega))) (fun h57 => ?_)
        refine w_aload_n X dX12_play_60 rfl rfl ?_
        refine w_v0rV X dX12_play_61 k12_step rfl rfl (c12_step G hG _ _ c nn FF hEN f r k hR) (Nat.le_of_ble_eq_true rfl) (fun N61 h61 => ?_)
        refine w_goto (tgt := 53) X dX12_play_64 (by decide) ?_
        obtain ⟨h61a, L2, k2, h61b, h61c⟩ := h61
        exact ih L2 k2 _ (frR_tr hN h61a) h61b (by omega)
  refine w_aload_n X dX12_play_0 rfl rfl ?_
  refine w_iload X dX12_play_1 rfl ?_
  refine p12_quiet X dX12_play_3 (hz) ?_
  refine w_aload_n X dX12_play_6 rfl rfl ?_
  refine w_iconst (v := 0) X dX12_play_7 (by decide) ?_
  refine p12_depth X dX12_play_8 ?_
  refine w_aload_n X dX12_play_11 rfl rfl ?_
  refine w_iconst (v := 0) X dX12_play_12 (by decide) ?_
  refine p12_invoked X dX12_play_13 ?_
  refine w_aload_n X dX12_play_16 rfl rfl ?_
  refine w_iconst (v := 0) X dX12_play_17 (by decide) ?_
  refine p12_height X dX12_play_18 ?_
  refine w_aload_n X dX12_play_21 rfl rfl ?_
  refine w_iconst (v := 0) X dX12_play_22 (by decide) ?_
  refine p12_tries X dX12_play_23 ?_
  refine w_aload_n X dX12_play_26 rfl rfl ?_
  refine g12_runParameters X dX12_play_27 ?_
  refine w_iconst (v := 3) X dX12_play_30 (by decide) ?_
  refine w_iload_n X dX12_play_31 rfl rfl ?_
  refine w_iastoreN X dX12_play_32 rfl rfl (⟨by decide, by decide⟩) ?_
  refine w_aload_n X dX12_play_33 rfl rfl ?_
  refine g12_runParameters X dX12_play_34 ?_
  refine w_iconst (v := 4) X dX12_play_37 (by decide) ?_
  refine w_iload_n X dX12_play_38 rfl rfl ?_
  refine w_iastoreN X dX12_play_39 rfl rfl (⟨by decide, by decide⟩) ?_
  refine w_aload_n X dX12_play_40 rfl rfl ?_
  refine g12_runParameters X dX12_play_41 ?_
  refine w_iconst (v := 5) X dX12_play_44 (by decide) ?_
  refine w_iload X dX12_play_45 rfl ?_
  refine w_iastoreN X dX12_play_47 rfl rfl (⟨by decide, by decide⟩) ?_
  have fA : frR_ mR_ M (sI_ (sI_ (sI_ (sI_ (sI_ (sI_ (sI_ (sI_ M 0 42 z) 0 39 0) 0 40 0) 0 47 0) 0 51 0) 24 3 x) 24 4 y) 24 5 w) := frR_tr (frR_tr (frR_tr (frR_tr (frR_tr (frR_tr (frR_tr (frR_I (by unfold mR_; omega) (by unfold mR_; omega)) (frR_I (by unfold mR_; omega) (by unfold mR_; omega))) (frR_I (by unfold mR_; omega) (by unfold mR_; omega))) (frR_I (by unfold mR_; omega) (by unfold mR_; omega))) (frR_I (by unfold mR_; omega) (by unfold mR_; omega))) (frR_I (by unfold mR_; omega) (by unfold mR_; omega))) (frR_I (by unfold mR_; omega) (by unfold mR_; omega))) (frR_I (by unfold mR_; omega) (by unfold mR_; omega))
  have A39 : (sI_ (sI_ (sI_ (sI_ (sI_ (sI_ (sI_ (sI_ M 0 42 z) 0 39 0) 0 40 0) 0 47 0) 0 51 0) 24 3 x) 24 4 y) 24 5 w).1 0 39 = nI 0 := by rw [gI_sI, if_neg (by omega), gI_sI, if_neg (by omega), gI_sI, if_neg (by omega), gI_sI, if_neg (by omega), gI_sI, if_neg (by omega), gI_sI, if_neg (by omega), gI_sI, if_pos ⟨rfl, rfl⟩]; rfl
  have A40 : (sI_ (sI_ (sI_ (sI_ (sI_ (sI_ (sI_ (sI_ M 0 42 z) 0 39 0) 0 40 0) 0 47 0) 0 51 0) 24 3 x) 24 4 y) 24 5 w).1 0 40 = nI 0 := by rw [gI_sI, if_neg (by omega), gI_sI, if_neg (by omega), gI_sI, if_neg (by omega), gI_sI, if_neg (by omega), gI_sI, if_neg (by omega), gI_sI, if_pos ⟨rfl, rfl⟩]; rfl
  have A47 : (sI_ (sI_ (sI_ (sI_ (sI_ (sI_ (sI_ (sI_ M 0 42 z) 0 39 0) 0 40 0) 0 47 0) 0 51 0) 24 3 x) 24 4 y) 24 5 w).1 0 47 = nI 0 := by rw [gI_sI, if_neg (by omega), gI_sI, if_neg (by omega), gI_sI, if_neg (by omega), gI_sI, if_neg (by omega), gI_sI, if_pos ⟨rfl, rfl⟩]; rfl
  have A51 : (sI_ (sI_ (sI_ (sI_ (sI_ (sI_ (sI_ (sI_ M 0 42 z) 0 39 0) 0 40 0) 0 47 0) 0 51 0) 24 3 x) 24 4 y) 24 5 w).1 0 51 = nI 0 := by rw [gI_sI, if_neg (by omega), gI_sI, if_neg (by omega), gI_sI, if_neg (by omega), gI_sI, if_pos ⟨rfl, rfl⟩]; rfl
  generalize sI_ (sI_ (sI_ (sI_ (sI_ (sI_ (sI_ (sI_ M 0 42 z) 0 39 0) 0 40 0) 0 47 0) 0 51 0) 24 3 x) 24 4 y) 24 5 w = A at fA A39 A40 A47 A51 ⊢
  have hEA := EV_fr fA hE
  have e0 : FF m 0 = (0, []) := (hE.2.2.2.2 m hm).1.2.2.1
  refine w_aload_n X dX12_play_48 rfl rfl ?_
  refine w_iload_n X dX12_play_49 rfl rfl ?_
  refine w_v1rV X dX12_play_50 k12_enter rfl rfl (c12_enter G hG _ _ c nn FF hEA 0 0 m A39 (by omega) A40 hm) (Nat.le_of_ble_eq_true rfl) (fun N50 h50 => ?_)
  have g : ∀ a i, ¬ pzR_ a i → ¬ eR_ 0 a i → N50.1 a i = A.1 a i := h50.1.2.1
  refine lp _ [(m, 0, 0, 0)] 1 _ (frR_tr fA (frR_mo h50.1 (fun a i => eR_m))) ⟨h50.2.1, by simp, ⟨⟨hm, h50.2.2.2.1, Nat.zero_le _, Nat.zero_le _, Nat.zero_le _, fun k2 y2 hy => ?_, ⟨rfl, rfl⟩⟩, h50.2.2.2.2, trivial⟩, ⟨?_, ?_⟩, h50.2.2.1, by decide⟩ (Nat.lt_succ_self _)
  · have hy2 : (FF m 0).2[k2]? = some y2 := hy
    rw [e0] at hy2; cases hy2
  · rw [g 0 47 (by unfold pzR_; omega) (by unfold eR_; omega), A47]; show nI 0 = nI (0 + (FF m 0).1); rw [e0]; rfl
  · rw [g 0 51 (by unfold pzR_; omega) (by unfold eR_; omega), A51]; show nI 0 = nI (0 + (FF m 0).2.length); rw [e0]; rfl
set_option maxRecDepth 100000 in
set_option maxHeartbeats 4000000 in
theorem c12_call (G : gg_) (hG : gd_ G) (d : Nat) (M : mm_) (c : Nat) (nn : Nat → Nat) (FF : Nat → Nat → Nat × List Nat) (hE : EV_ c nn FF M) (m a b e : Int32) : cm_ G yX12_call cX12_call 5 (some .int) (d + 8) [.ref (G.1 0), .int m, .int a, .int b, .int e] M (rI_ (fun _ N => frR_ pR_ M N)) := by
  refine cm_of hG (by decide) (Nat.le_of_ble_eq_true rfl) (fun C X => ?_)
  refine w_aload_n X dX12_call_0 rfl rfl ?_
  refine w_iload_n X dX12_call_1 rfl rfl ?_
  refine w_if_lt (tgt := 13) X dX12_call_2 (by decide) (fun h2 => ?_) (fun h2 => ?_)
  · refine w_iconst (v := 1) X dX12_call_13 (by decide) ?_
    refine w_goto (tgt := 18) X dX12_call_14 (by decide) ?_
    refine p12_thrown X dX12_call_18 ?_
    refine w_aload_n X dX12_call_21 rfl rfl ?_
    refine g12_thrown X dX12_call_22 ?_
    rw [gI_sI, if_pos ⟨rfl, rfl⟩]
    refine w_if_le (tgt := 32) X dX12_call_25 (by decide) (fun h25 => absurd h25 (by decide)) (fun h25 => ?_)
    refine w_iconst (v := 0) X dX12_call_28 (by decide) ?_
    refine w_goto (tgt := 42) X dX12_call_29 (by decide) ?_
    exact w_irR X dX12_call_42 pR_00
  · refine w_iload_n X dX12_call_5 rfl rfl ?_
    refine w_aload_n X dX12_call_6 rfl rfl ?_
    refine g12_methods X dX12_call_7 ?_
    refine w_icmp_lt (tgt := 17) X dX12_call_10 (by decide) (fun h10 => ?_) (fun h10 => ?_)
    · refine w_iconst (v := 0) X dX12_call_17 (by decide) ?_
      refine p12_thrown X dX12_call_18 ?_
      refine w_aload_n X dX12_call_21 rfl rfl ?_
      refine g12_thrown X dX12_call_22 ?_
      rw [gI_sI, if_pos ⟨rfl, rfl⟩]
      refine w_if_le (tgt := 32) X dX12_call_25 (by decide) (fun h25 => ?_) (fun h25 => absurd ((by decide)) h25)
      obtain ⟨m2, hm2, em⟩ := ix_ (n := c) (by have := hE.2.1; omega) h2 (by rw [hE.1] at h10; exact Int32.not_le.mpr h10)
      have hEA := EV_pr (pR_00 (v := 0)) hE
      subst em
      refine w_aload_n X dX12_call_32 rfl rfl ?_
      refine w_iload_n X dX12_call_33 rfl rfl ?_
      refine w_iload_n X dX12_call_34 rfl rfl ?_
      refine w_iload_n X dX12_call_35 rfl rfl ?_
      refine w_iload X dX12_call_36 rfl ?_
      refine w_iconst (v := 0) X dX12_call_38 (by decide) ?_
      refine w_v5rI X dX12_call_39 k12_play rfl rfl (c12_play G hG _ _ c nn FF hEA m2 hm2 _ _ _ 0 (Or.inl rfl)) (Nat.le_of_ble_eq_true rfl) (fun r39 N39 h39 => ?_)
      exact w_irR X dX12_call_42 (frR_tr pR_00 (frR_mo h39 (fun a i z => Or.inl z)))
    · refine w_iconst (v := 1) X dX12_call_13 (by decide) ?_
      refine w_goto (tgt := 18) X dX12_call_14 (by decide) ?_
      refine p12_thrown X dX12_call_18 ?_
      refine w_aload_n X dX12_call_21 rfl rfl ?_
      refine g12_thrown X dX12_call_22 ?_
      rw [gI_sI, if_pos ⟨rfl, rfl⟩]
      refine w_if_le (tgt := 32) X dX12_call_25 (by decide) (fun h25 => absurd h25 (by decide)) (fun h25 => ?_)
      refine w_iconst (v := 0) X dX12_call_28 (by decide) ?_
      refine w_goto (tgt := 42) X dX12_call_29 (by decide) ?_
      exact w_irR X dX12_call_42 pR_00
set_option maxRecDepth 100000 in
set_option maxHeartbeats 4000000 in
theorem c12_replay (G : gg_) (hG : gd_ G) (d : Nat) (M : mm_) (c : Nat) (nn : Nat → Nat) (FF : Nat → Nat → Nat × List Nat) (hE : EV_ c nn FF M) (i : Int32) : cm_ G yX12_replay cX12_replay 2 (some .int) (d + 8) [.ref (G.1 0), .int i] M (rI_ (fun _ N => frR_ pR_ M N)) := by
  refine cm_of hG (by decide) (Nat.le_of_ble_eq_true rfl) (fun C X => ?_)
  refine w_aload_n X dX12_replay_0 rfl rfl ?_
  refine w_iload_n X dX12_replay_1 rfl rfl ?_
  refine w_if_lt (tgt := 13) X dX12_replay_2 (by decide) (fun h2 => ?_) (fun h2 => ?_)
  · refine w_iconst (v := 1) X dX12_replay_13 (by decide) ?_
    refine w_goto (tgt := 18) X dX12_replay_14 (by decide) ?_
    refine p12_thrown X dX12_replay_18 ?_
    refine w_aload_n X dX12_replay_21 rfl rfl ?_
    refine g12_thrown X dX12_replay_22 ?_
    rw [gI_sI, if_pos ⟨rfl, rfl⟩]
    refine w_if_le (tgt := 32) X dX12_replay_25 (by decide) (fun h25 => absurd h25 (by decide)) (fun h25 => ?_)
    refine w_iconst (v := 0) X dX12_replay_28 (by decide) ?_
    refine w_goto (tgt := 81) X dX12_replay_29 (by decide) ?_
    exact w_irR X dX12_replay_81 pR_00
  · refine w_iload_n X dX12_replay_5 rfl rfl ?_
    refine w_aload_n X dX12_replay_6 rfl rfl ?_
    refine g12_keepCount X dX12_replay_7 ?_
    refine w_icmp_lt (tgt := 17) X dX12_replay_10 (by decide) (fun h10 => ?_) (fun h10 => ?_)
    · refine w_iconst (v := 0) X dX12_replay_17 (by decide) ?_
      refine p12_thrown X dX12_replay_18 ?_
      refine w_aload_n X dX12_replay_21 rfl rfl ?_
      refine g12_thrown X dX12_replay_22 ?_
      rw [gI_sI, if_pos ⟨rfl, rfl⟩]
      refine w_if_le (tgt := 32) X dX12_replay_25 (by decide) (fun h25 => ?_) (fun h25 => absurd ((by decide)) h25)
      obtain ⟨-, c2, z, b1, b2, b3, b4, b5⟩ := hE.2.2.1
      obtain rfl : c2 = c := (nI_eq (by omega) (by have := hE.2.1; omega)).mp (b2.symm.trans hE.1)
      obtain ⟨i2, hi2, ei⟩ := ix_ (n := z) (by omega) h2 (by rw [b4] at h10; exact Int32.not_le.mpr h10)
      have hEA := EV_pr (pR_00 (v := 0)) hE
      subst ei
      obtain ⟨m2, hm2, em⟩ := b5 i2 hi2
      refine w_aload_n X dX12_replay_32 rfl rfl ?_
      refine w_aload_n X dX12_replay_33 rfl rfl ?_
      refine g12_keptOnes X dX12_replay_34 ?_
      refine w_bipush (v := 7) X dX12_replay_37 (by decide) ?_
      refine w_iload_n X dX12_replay_39 rfl rfl ?_
      refine w_imul X dX12_replay_40 ?_
      refine w_iconst (v := 1) X dX12_replay_41 (by decide) ?_
      refine w_iadd X dX12_replay_42 ?_
      rw [show (7 : Int32) * nI i2 + 1 = nI (7 * i2 + 1) from nI_m 7 i2 1]
      refine w_ialoadN X dX12_replay_43 rfl rfl (⟨by omega, by decide⟩) ?_
      rw [gI_sI, if_neg (by omega), em]
      refine w_aload_n X dX12_replay_44 rfl rfl ?_
      refine g12_keptOnes X dX12_replay_45 ?_
      refine w_bipush (v := 7) X dX12_replay_48 (by decide) ?_
      refine w_iload_n X dX12_replay_50 rfl rfl ?_
      refine w_imul X dX12_replay_51 ?_
      refine w_iconst (v := 2) X dX12_replay_52 (by decide) ?_
      refine w_iadd X dX12_replay_53 ?_
      rw [show (7 : Int32) * nI i2 + 2 = nI (7 * i2 + 2) from nI_m 7 i2 2]
      refine w_ialoadN X dX12_replay_54 rfl rfl (⟨by omega, by decide⟩) ?_
      refine w_aload_n X dX12_replay_55 rfl rfl ?_
      refine g12_keptOnes X dX12_replay_56 ?_
      refine w_bipush (v := 7) X dX12_replay_59 (by decide) ?_
      refine w_iload_n X dX12_replay_61 rfl rfl ?_
      refine w_imul X dX12_replay_62 ?_
      refine w_iconst (v := 3) X dX12_replay_63 (by decide) ?_
      refine w_iadd X dX12_replay_64 ?_
      rw [show (7 : Int32) * nI i2 + 3 = nI (7 * i2 + 3) from nI_m 7 i2 3]
      refine w_ialoadN X dX12_replay_65 rfl rfl (⟨by omega, by decide⟩) ?_
      refine w_aload_n X dX12_replay_66 rfl rfl ?_
      refine g12_keptOnes X dX12_replay_67 ?_
      refine w_bipush (v := 7) X dX12_replay_70 (by decide) ?_
      refine w_iload_n X dX12_replay_72 rfl rfl ?_
      refine w_imul X dX12_replay_73 ?_
      refine w_iconst (v := 4) X dX12_replay_74 (by decide) ?_
      refine w_iadd X dX12_replay_75 ?_
      rw [show (7 : Int32) * nI i2 + 4 = nI (7 * i2 + 4) from nI_m 7 i2 4]
      refine w_ialoadN X dX12_replay_76 rfl rfl (⟨by omega, by decide⟩) ?_
      refine w_iconst (v := 1) X dX12_replay_77 (by decide) ?_
      refine w_v5rI X dX12_replay_78 k12_play rfl rfl (c12_play G hG _ _ c2 nn FF hEA m2 hm2 _ _ _ 1 (Or.inr rfl)) (Nat.le_of_ble_eq_true rfl) (fun r78 N78 h78 => ?_)
      exact w_irR X dX12_replay_81 (frR_tr pR_00 (frR_mo h78 (fun a i z => Or.inl z)))
    · refine w_iconst (v := 1) X dX12_replay_13 (by decide) ?_
      refine w_goto (tgt := 18) X dX12_replay_14 (by decide) ?_
      refine p12_thrown X dX12_replay_18 ?_
      refine w_aload_n X dX12_replay_21 rfl rfl ?_
      refine g12_thrown X dX12_replay_22 ?_
      rw [gI_sI, if_pos ⟨rfl, rfl⟩]
      refine w_if_le (tgt := 32) X dX12_replay_25 (by decide) (fun h25 => absurd h25 (by decide)) (fun h25 => ?_)
      refine w_iconst (v := 0) X dX12_replay_28 (by decide) ?_
      refine w_goto (tgt := 81) X dX12_replay_29 (by decide) ?_
      exact w_irR X dX12_replay_81 pR_00
