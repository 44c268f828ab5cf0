/-! the law's helpers of call, replay and counted, exactly -/
set_option maxRecDepth 100000 in
set_option maxHeartbeats 600000 in
theorem cLE_call_ (G : gg_) (hG : gd_ G) (d : Nat) (M : mm_) (m : Int32) (x : Int32) (y : Int32) (w : Int32) (c : Nat) (hc : mt_ M c) (hv : vq_ M) (QC : Int32 → mm_ → Prop) (hst : ∀ m2, m2 < c → m = nI m2 → cm_ G yX4_start cX4_start 3 (some .int) (d + 62) [.ref (G.1 247), .int (nI m2), .int 1] (sp1_ M (poX_ (kf_ M c (nI m2))) x y w) (rI_ QC)) : chx_ G yL_call cL_call 7 [(0, 14, 17, 19)] (d + 64) [.ref (G.1 34), .int m, .int x, .int y, .int w, .ref (G.1 262)] M (rI_ (fun r N => (r = 0 ∧ ∃ (r0 : Int32) (N0 : mm_), (fun r N => (∃ m2, m2 < c ∧ m = nI m2) ∧ QC r N) r0 N0 ∧ N = sL_ N0 262 0 r0.toInt64) ∨ (r = 1 ∧ N = M ∧ (fun E => E = "java/lang/IndexOutOfBoundsException" ∧ mH_ c m = 0) "java/lang/IndexOutOfBoundsException"))) := by
  refine chx_of hG (by decide) (Nat.le_of_ble_eq_true rfl) (fun C X X2 hlc hcs htb hnc => ?_)
  refine w_aload X dL_call_0 rfl ?_
  refine w_iconst (v := 0) X dL_call_2 (by decide) ?_
  refine w_aload_n X dL_call_3 rfl rfl ?_
  refine w_iload_n X dL_call_4 rfl rfl ?_
  refine w_iload_n X dL_call_5 rfl rfl ?_
  refine w_iload_n X dL_call_6 rfl rfl ?_
  refine w_iload X dL_call_7 rfl ?_
  refine w_callX (xe := fun E => E = "java/lang/IndexOutOfBoundsException" ∧ mH_ c m = 0) (post := rI_ (fun r N => (∃ m2, m2 < c ∧ m = nI m2) ∧ QC r N)) [.int m, .int x, .int y, .int w] X hlc dL_call_9 kL_15 rfl s_34 (c11_callE G hG d M c hc hv m x y w QC hst) (Nat.le_of_ble_eq_true rfl) (by rw [hcs.1, hcs.2.1]; exact hcs.2.2) ?_ ?_
  · rw [hcs.1, hcs.2.1]
    rintro v N ⟨r0, rfl, h0⟩
    refine w_i2l X2 dL_call_12 ?_
    refine w_lastoreN X2 dL_call_13 s_262 rfl (⟨by decide, by decide⟩) ?_
    refine w_goto (tgt := 21) X2 dL_call_14 (by decide) ?_
    refine w_iconst (v := 0) X2 dL_call_21 (by decide) ?_
    exact w_irR X2 dL_call_22 (Or.inl ⟨rfl, r0, N, h0, rfl⟩)
  · rw [hcs.1, hcs.2.1]
    intro E q hE
    obtain ⟨rfl, hE2⟩ := hE
    refine w_catch X2 [] ⟨0, 14, 17, 19⟩ [] htb (by decide) (fun z hz => by cases hz) (by decide) (by decide) xl19 ?_
    refine w_astore X2 dL_call_17 (by decide) ?_
    refine w_iconst (v := 1) X2 dL_call_19 (by decide) ?_
    exact w_irR X2 dL_call_20 (Or.inr (⟨rfl, rfl, ⟨rfl, hE2⟩⟩))
set_option maxRecDepth 100000 in
set_option maxHeartbeats 600000 in
theorem cLE_counted_ (G : gg_) (hG : gd_ G) (d : Nat) (M : mm_) (j : Int32) (m : Int32) (w : Int32) (J : Nat → Nat) (S : Nat) (hq : jq_ M J S) (c : Nat) (hc : mt_ M c) : chx_ G yL_counted cL_counted 6 [(0, 12, 15, 19), (0, 12, 19, 13)] (d + 7) [.ref (G.1 34), .int j, .int m, .int w, .ref (G.1 262)] M (rI_ (fun r N => (r = 0 ∧ ∃ (r0 : Int32) (N0 : mm_), (fun r N => N = M ∧ ∃ i m2 w2, i < 8 ∧ j = nI i ∧ m2 < c ∧ m = nI m2 ∧ w2 < 3 ∧ w = nI w2 ∧ M.1 (135 + 12 * J i) 0 = 2 ∧ r = M.1 (135 + 12 * J i + 11) (m2 * 3 + w2)) r0 N0 ∧ N = sL_ N0 262 0 r0.toInt64) ∨ (r = 1 ∧ N = M ∧ (fun E => (E = "java/lang/IndexOutOfBoundsException" ∧ ¬ cnB_ J c M j m) ∨ (E = "java/lang/IllegalArgumentException" ∧ cnB_ J c M j m ∧ (w < 0 ∨ 3 ≤ w))) "java/lang/IndexOutOfBoundsException") ∨ (r = 2 ∧ N = M ∧ (fun E => (E = "java/lang/IndexOutOfBoundsException" ∧ ¬ cnB_ J c M j m) ∨ (E = "java/lang/IllegalArgumentException" ∧ cnB_ J c M j m ∧ (w < 0 ∨ 3 ≤ w))) "java/lang/IllegalArgumentException"))) := by
  refine chx_of hG (by decide) (Nat.le_of_ble_eq_true rfl) (fun C X X2 hlc hcs htb hnc => ?_)
  refine w_aload X dL_counted_0 rfl ?_
  refine w_iconst (v := 0) X dL_counted_2 (by decide) ?_
  refine w_aload_n X dL_counted_3 rfl rfl ?_
  refine w_iload_n X dL_counted_4 rfl rfl ?_
  refine w_iload_n X dL_counted_5 rfl rfl ?_
  refine w_iload_n X dL_counted_6 rfl rfl ?_
  refine w_callX (xe := fun E => (E = "java/lang/IndexOutOfBoundsException" ∧ ¬ cnB_ J c M j m) ∨ (E = "java/lang/IllegalArgumentException" ∧ cnB_ J c M j m ∧ (w < 0 ∨ 3 ≤ w))) (post := rI_ (fun r N => N = M ∧ ∃ i m2 w2, i < 8 ∧ j = nI i ∧ m2 < c ∧ m = nI m2 ∧ w2 < 3 ∧ w = nI w2 ∧ M.1 (135 + 12 * J i) 0 = 2 ∧ r = M.1 (135 + 12 * J i + 11) (m2 * 3 + w2))) [.int j, .int m, .int w] X hlc dL_counted_7 kL_28 rfl s_34 (c11_countedE G hG d M J S hq c hc j m w) (Nat.le_of_ble_eq_true rfl) (by rw [hcs.1, hcs.2.1]; exact hcs.2.2) ?_ ?_
  · rw [hcs.1, hcs.2.1]
    rintro v N ⟨r0, rfl, h0⟩
    refine w_i2l X2 dL_counted_10 ?_
    refine w_lastoreN X2 dL_counted_11 s_262 rfl (⟨by decide, by decide⟩) ?_
    refine w_goto (tgt := 23) X2 dL_counted_12 (by decide) ?_
    refine w_iconst (v := 0) X2 dL_counted_23 (by decide) ?_
    exact w_irR X2 dL_counted_24 (Or.inl ⟨rfl, r0, N, h0, rfl⟩)
  · rw [hcs.1, hcs.2.1]
    intro E q hE
    rcases hE with ⟨rfl, hE2⟩ | ⟨rfl, hE2⟩
    · refine w_catch X2 [] ⟨0, 12, 15, 19⟩ [⟨0, 12, 19, 13⟩] htb (by decide) (fun z hz => by cases hz) (by decide) (by decide) xl19 ?_
      refine w_astore X2 dL_counted_15 (by decide) ?_
      refine w_iconst (v := 1) X2 dL_counted_17 (by decide) ?_
      exact w_irR X2 dL_counted_18 (Or.inr (Or.inl ⟨rfl, rfl, Or.inl ⟨rfl, hE2⟩⟩))
    · refine w_catch X2 [⟨0, 12, 15, 19⟩] ⟨0, 12, 19, 13⟩ [] htb (by decide) (fun z hz => by obtain rfl := List.mem_singleton.mp hz; exact ⟨by decide, _, xl19, hnc⟩) (by decide) (by decide) xl13 ?_
      refine w_astore X2 dL_counted_19 (by decide) ?_
      refine w_iconst (v := 2) X2 dL_counted_21 (by decide) ?_
      exact w_irR X2 dL_counted_22 (Or.inr (Or.inr ⟨rfl, rfl, Or.inr ⟨rfl, hE2⟩⟩))
set_option maxRecDepth 100000 in
set_option maxHeartbeats 600000 in
theorem cLE_replay_ (G : gg_) (hG : gd_ G) (d : Nat) (M : mm_) (i : Int32) (c : Nat) (hc : mt_ M c) (hv : vq_ M) (z : Nat) (hz : z ≤ 40) (k3 : M.1 245 1 = 7) (k5 : M.1 245 3 = nI z) (QC : Int32 → mm_ → Prop) (hst : ∀ i2, i2 < z → i = nI i2 → ∃ m2, M.1 246 (7 * i2 + 1) = nI m2 ∧ cm_ G yX4_start cX4_start 3 (some .int) (d + 62) [.ref (G.1 247), .int (nI m2), .int 0] (sp1_ M (poX_ (kf_ M c (nI m2))) (M.1 246 (7 * i2 + 2)) (M.1 246 (7 * i2 + 3)) (M.1 246 (7 * i2 + 4))) (rI_ QC)) : chx_ G yL_replay cL_replay 4 [(0, 9, 12, 19)] (d + 64) [.ref (G.1 34), .int i, .ref (G.1 262)] M (rI_ (fun r N => (r = 0 ∧ ∃ (r0 : Int32) (N0 : mm_), (fun r N => (∃ i2, i2 < z ∧ i = nI i2) ∧ QC r N) r0 N0 ∧ N = sL_ N0 262 0 r0.toInt64) ∨ (r = 1 ∧ N = M ∧ (fun E => E = "java/lang/IndexOutOfBoundsException" ∧ rH_ M 245 i = 0) "java/lang/IndexOutOfBoundsException"))) := by
  refine chx_of hG (by decide) (Nat.le_of_ble_eq_true rfl) (fun C X X2 hlc hcs htb hnc => ?_)
  refine w_aload_n X dL_replay_0 rfl rfl ?_
  refine w_iconst (v := 0) X dL_replay_1 (by decide) ?_
  refine w_aload_n X dL_replay_2 rfl rfl ?_
  refine w_iload_n X dL_replay_3 rfl rfl ?_
  refine w_callX (xe := fun E => E = "java/lang/IndexOutOfBoundsException" ∧ rH_ M 245 i = 0) (post := rI_ (fun r N => (∃ i2, i2 < z ∧ i = nI i2) ∧ QC r N)) [.int i] X hlc dL_replay_4 kL_35 rfl s_34 (c11_replayE G hG d M c hc hv z hz k3 k5 i QC hst) (Nat.le_of_ble_eq_true rfl) (by rw [hcs.1, hcs.2.1]; exact hcs.2.2) ?_ ?_
  · rw [hcs.1, hcs.2.1]
    rintro v N ⟨r0, rfl, h0⟩
    refine w_i2l X2 dL_replay_7 ?_
    refine w_lastoreN X2 dL_replay_8 s_262 rfl (⟨by decide, by decide⟩) ?_
    refine w_goto (tgt := 15) X2 dL_replay_9 (by decide) ?_
    refine w_iconst (v := 0) X2 dL_replay_15 (by decide) ?_
    exact w_irR X2 dL_replay_16 (Or.inl ⟨rfl, r0, N, h0, rfl⟩)
  · rw [hcs.1, hcs.2.1]
    intro E q hE
    obtain ⟨rfl, hE2⟩ := hE
    refine w_catch X2 [] ⟨0, 9, 12, 19⟩ [] htb (by decide) (fun z hz => by cases hz) (by decide) (by decide) xl19 ?_
    refine w_astore_n X2 dL_replay_12 rfl (by decide) ?_
    refine w_iconst (v := 1) X2 dL_replay_13 (by decide) ?_
    exact w_irR X2 dL_replay_14 (Or.inr (⟨rfl, rfl, ⟨rfl, hE2⟩⟩))
