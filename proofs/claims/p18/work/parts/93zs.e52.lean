section
/-! the class's counted, exactly -/
/-- job j is a monitor, and m a method -/
def cnB_ (J : Nat → Nat) (c : Nat) (M : mm_) (j m : Int32) : Prop := ∃ i m2, i < 8 ∧ j = nI i ∧ m2 < c ∧ m = nI m2 ∧ M.1 (135 + 12 * J i) 0 = 2
theorem cnB_k {J : Nat → Nat} {c i : Nat} {M : mm_} {m : Int32} (hi : i < 8) (h : cnB_ J c M (nI i) m) : M.1 (135 + 12 * J i) 0 = 2 := by
  obtain ⟨i2, m2, h1, h2, h3, h4, h5⟩ := h
  obtain rfl : i = i2 := (nI_eq (by omega) (by omega)).mp h2
  exact h5
theorem cnB_m {J : Nat → Nat} {c : Nat} {M : mm_} {j m : Int32} (hc : c ≤ 16) (h : cnB_ J c M j m) : ¬ mH_ c m = 0 := by
  obtain ⟨i2, m2, h1, h2, h3, rfl, h5⟩ := h
  unfold mH_
  rw [if_pos ⟨nI_le (a := 0) (b := m2) (by omega) (by omega), nI_lt (a := m2) (b := c) h3 (by omega)⟩]
  decide
theorem has0 {J : Nat → Nat} {i : Nat} {M : mm_} (h : jH_ M J i = 0) (z : M.1 (135 + 12 * J i) 0 = 2) : False := by
  unfold jH_ at h
  rw [z] at h
  exact absurd h (by decide)
theorem cnB_j {J : Nat → Nat} {c : Nat} {M : mm_} {j m : Int32} (hj : j < 0 ∨ 8 ≤ j) : ¬ cnB_ J c M j m := by
  rintro ⟨i2, m2, h1, rfl, -⟩
  rcases hj with y | y
  · exact absurd ((nI_ltI (a := i2) (b := 0) (by omega) (by decide)).mp y) (by omega)
  · exact absurd ((nI_leI (a := 8) (b := i2) (by decide) (by omega)).mp y) (by omega)
set_option maxRecDepth 100000 in
set_option maxHeartbeats 600000 in
theorem c11_countedE (G : gg_) (hG : gd_ G) (d : Nat) (M : mm_) (J : Nat → Nat) (S : Nat) (hq : jq_ M J S) (c : Nat) (hc : mt_ M c) (j m w : Int32) : cmx_ G yX11_counted cX11_counted 4 (some .int) (d + 6) [.ref (G.1 34), .int j, .int m, .int w] M (rI_ (fun r N => N = M ∧ ∃ i m2 w2, i < 8 ∧ j = nI i ∧ m2 < c ∧ m = nI m2 ∧ w2 < 3 ∧ w = nI w2 ∧ M.1 (135 + 12 * J i) 0 = 2 ∧ r = M.1 (135 + 12 * J i + 11) (m2 * 3 + w2))) (fun E => (E = "java/lang/IndexOutOfBoundsException" ∧ ¬ cnB_ J c M j m) ∨ (E = "java/lang/IllegalArgumentException" ∧ cnB_ J c M j m ∧ (w < 0 ∨ 3 ≤ w))) := by
  refine cmx_of hG (by decide) (Nat.le_of_ble_eq_true rfl) (fun C X Z => ?_)
  by_cases hj : 0 ≤ j ∧ j < 8
  · obtain ⟨i, hi, ei⟩ := ix_ (x := j) (n := 8) (by decide) (Int32.not_lt.mpr hj.1) (Int32.not_le.mpr hj.2)
    subst ei
    refine w_aload_n X dX11_counted_0 rfl rfl ?_
    refine g11_44 X dX11_counted_1 s_34 rfl ?_
    refine w_iload_n X dX11_counted_4 rfl rfl ?_
    refine w_v1fI X dX11_counted_5 k11_179 rfl s_133 (c3_has G hG _ _ J S hq i hi) (Nat.le_of_ble_eq_true rfl) ?_
    refine w_if_eq (tgt := 37) X dX11_counted_8 (by decide) (fun h8 => ?_) (fun h8 => ?_)
    · exact w_throwI X Z (by omega) dX11_counted_37 dX11_counted_40 dX11_counted_41 dX11_counted_44 (Or.inl ⟨rfl, fun y => absurd (cnB_k hi y) (fun z => has0 h8 z)⟩)
    · refine w_aload_n X dX11_counted_11 rfl rfl ?_
      refine g11_44 X dX11_counted_12 s_34 rfl ?_
      refine w_iload_n X dX11_counted_15 rfl rfl ?_
      refine w_v1fR X dX11_counted_16 k11_167 rfl s_133 (c3_at G hG _ _ J S hq i hi) (Nat.le_of_ble_eq_true rfl) ?_
      refine g11_171 X dX11_counted_19 (jq_jd hq hi).1 rfl ?_
      refine w_iconst (v := 2) X dX11_counted_22 (by decide) ?_
      refine w_icmp_ne (tgt := 37) X dX11_counted_23 (by decide) (fun h23 => ?_) (fun h23 => ?_)
      · exact w_throwI X Z (by omega) dX11_counted_37 dX11_counted_40 dX11_counted_41 dX11_counted_44 (Or.inl ⟨rfl, fun y => h23 (cnB_k hi y)⟩)
      · refine w_aload_n X dX11_counted_26 rfl rfl ?_
        refine g11_37 X dX11_counted_27 s_34 rfl ?_
        refine w_iload_n X dX11_counted_30 rfl rfl ?_
        refine w_v1fI X dX11_counted_31 k11_135 rfl s_45 (c5_has G hG _ _ c hc _) (Nat.le_of_ble_eq_true rfl) ?_
        refine w_if_ne (tgt := 45) X dX11_counted_34 (by decide) (fun h34 => ?_) (fun h34 => ?_)
        · obtain ⟨m2, hm2, em⟩ := ix_ (n := c) (by have := hc.1; omega) (Int32.not_lt.mpr (mH_1 h34).1) (Int32.not_le.mpr (mH_1 h34).2)
          have hin : cnB_ J c M (nI i) m := ⟨i, m2, hi, rfl, hm2, em, h23⟩
          refine w_iload_n X dX11_counted_45 rfl rfl ?_
          refine w_if_lt (tgt := 54) X dX11_counted_46 (by decide) (fun h46 => ?_) (fun h46 => ?_)
          · exact w_throwA X Z (by omega) dX11_counted_54 dX11_counted_57 dX11_counted_58 dX11_counted_61 (Or.inr ⟨rfl, hin, Or.inl h46⟩)
          · refine w_iload_n X dX11_counted_49 rfl rfl ?_
            refine w_iconst (v := 3) X dX11_counted_50 (by decide) ?_
            refine w_icmp_lt (tgt := 62) X dX11_counted_51 (by decide) (fun h51 => ?_) (fun h51 => ?_)
            · obtain ⟨w2, hw2, ew⟩ := ix_ (n := 3) (by decide) h46 (Int32.not_le.mpr h51)
              refine w_aload_n X dX11_counted_62 rfl rfl ?_
              refine g11_44 X dX11_counted_63 s_34 rfl ?_
              refine w_iload_n X dX11_counted_66 rfl rfl ?_
              refine w_v1fR X dX11_counted_67 k11_167 rfl s_133 (c3_at G hG _ _ J S hq i hi) (Nat.le_of_ble_eq_true rfl) ?_
              refine g11_180 X dX11_counted_70 (jq_jd hq hi).1 rfl ?_
              refine w_iload_n X dX11_counted_73 rfl rfl ?_
              refine w_iconst (v := 3) X dX11_counted_74 (by decide) ?_
              refine w_imul X dX11_counted_75 ?_
              refine w_iload_n X dX11_counted_76 rfl rfl ?_
              refine w_iadd X dX11_counted_77 ?_
              rw [em, ew, nI_mp]
              refine w_ialoadN X dX11_counted_78 (jq_jd hq hi).2.1 rfl (⟨by have := hc.1; omega, by decide⟩) ?_
              exact w_irX X Z dX11_counted_79 ⟨_, rfl, rfl, i, m2, w2, hi, rfl, hm2, rfl, hw2, rfl, h23, rfl⟩
            · exact w_throwA X Z (by omega) dX11_counted_54 dX11_counted_57 dX11_counted_58 dX11_counted_61 (Or.inr ⟨rfl, hin, Or.inr (Int32.not_lt.mp h51)⟩)
        · exact w_throwI X Z (by omega) dX11_counted_37 dX11_counted_40 dX11_counted_41 dX11_counted_44 (Or.inl ⟨rfl, fun y => cnB_m hc.1 y h34⟩)
  · have hj2 : j < 0 ∨ 8 ≤ j := by
      by_cases z : j < 0
      · exact Or.inl z
      · exact Or.inr (Int32.not_lt.mp (fun y => hj ⟨Int32.not_lt.mp z, y⟩))
    refine w_aload_n X dX11_counted_0 rfl rfl ?_
    refine g11_44 X dX11_counted_1 s_34 rfl ?_
    refine w_iload_n X dX11_counted_4 rfl rfl ?_
    refine w_v1fI X dX11_counted_5 k11_179 rfl s_133 (c3_hasO G hG _ _ J S hq _ hj2) (Nat.le_of_ble_eq_true rfl) ?_
    refine w_if_eq (tgt := 37) X dX11_counted_8 (by decide) (fun h8 => ?_) (fun h8 => absurd (rfl) h8)
    exact w_throwI X Z (by omega) dX11_counted_37 dX11_counted_40 dX11_counted_41 dX11_counted_44 (Or.inl ⟨rfl, cnB_j hj2⟩)

end
section
/-! the law's helpers of call, replay and counted, exactly -/
set_option maxRecDepth 100000 in
set_option maxHeartbeats 600000 in
theorem cLE_call_ (G : gg_) (hG : gd_ G) (d : Nat) (M : mm_) (m : Int32) (x : Int32) (y : Int32) (w : Int32) (c : Nat) (hc : mt_ M c) (hv : vq_ M) (QC : Int32 → mm_ → Prop) (hst : ∀ m2, m2 < c → m = nI m2 → cm_ G yX4_start cX4_start 3 (some .int) (d + 62) [.ref (G.1 247), .int (nI m2), .int 1] (sp1_ M (poX_ (kf_ M c (nI m2))) x y w) (rI_ QC)) : chx_ G yL_call cL_call 7 [(0, 14, 17, 19)] (d + 64) [.ref (G.1 34), .int m, .int x, .int y, .int w, .ref (G.1 262)] M (rI_ (fun r N => (r = 0 ∧ ∃ (r0 : Int32) (N0 : mm_), (fun r N => (∃ m2, m2 < c ∧ m = nI m2) ∧ QC r N) r0 N0 ∧ N = sL_ N0 262 0 r0.toInt64) ∨ (r = 1 ∧ N = M ∧ (fun E => E = "java/lang/IndexOutOfBoundsException" ∧ mH_ c m = 0) "java/lang/IndexOutOfBoundsException"))) := by
  refine chx_of hG (by decide) (Nat.le_of_ble_eq_true rfl) (fun C X X2 hlc hcs htb hnc => ?_)
  refine w_aload X dL_call_0 rfl ?_
  refine w_iconst (v := 0) X dL_call_2 (by decide) ?_
  refine w_aload_n X dL_call_3 rfl rfl ?_
  refine w_iload_n X dL_call_4 rfl rfl ?_
  refine w_iload_n X dL_call_5 rfl rfl ?_
  refine w_iload_n X dL_call_6 rfl rfl ?_
  refine w_iload X dL_call_7 rfl ?_
  refine w_callX (xe := fun E => E = "java/lang/IndexOutOfBoundsException" ∧ mH_ c m = 0) (post := rI_ (fun r N => (∃ m2, m2 < c ∧ m = nI m2) ∧ QC r N)) [.int m, .int x, .int y, .int w] X hlc dL_call_9 kL_15 rfl s_34 (c11_callE G hG d M c hc hv m x y w QC hst) (Nat.le_of_ble_eq_true rfl) (by rw [hcs.1, hcs.2.1]; exact hcs.2.2) ?_ ?_
  · rw [hcs.1, hcs.2.1]
    rintro v N ⟨r0, rfl, h0⟩
    refine w_i2l X2 dL_call_12 ?_
    refine w_lastoreN X2 dL_call_13 s_262 rfl (⟨by decide, by decide⟩) ?_
    refine w_goto (tgt := 21) X2 dL_call_14 (by decide) ?_
    refine w_iconst (v := 0) X2 dL_call_21 (by decide) ?_
    exact w_irR X2 dL_call_22 (Or.inl ⟨rfl, r0, N, h0, rfl⟩)
  · rw [hcs.1, hcs.2.1]
    intro E q hE
    obtain ⟨rfl, hE2⟩ := hE
    refine w_catch X2 [] ⟨0, 14, 17, 19⟩ [] htb (by decide) (fun z hz => by cases hz) (by decide) (by decide) xl19 ?_
    refine w_astore X2 dL_call_17 (by decide) ?_
    refine w_iconst (v := 1) X2 dL_call_19 (by decide) ?_
    exact w_irR X2 dL_call_20 (Or.inr (⟨rfl, rfl, ⟨rfl, hE2⟩⟩))
set_option maxRecDepth 100000 in
set_option maxHeartbeats 600000 in
theorem cLE_counted_ (G : gg_) (hG : gd_ G) (d : Nat) (M : mm_) (j : Int32) (m : Int32) (w : Int32) (J : Nat → Nat) (S : Nat) (hq : jq_ M J S) (c : Nat) (hc : mt_ M c) : chx_ G yL_counted cL_counted 6 [(0, 12, 15, 19), (0, 12, 19, 13)] (d + 7) [.ref (G.1 34), .int j, .int m, .int w, .ref (G.1 262)] M (rI_ (fun r N => (r = 0 ∧ ∃ (r0 : Int32) (N0 : mm_), (fun r N => N = M ∧ ∃ i m2 w2, i < 8 ∧ j = nI i ∧ m2 < c ∧ m = nI m2 ∧ w2 < 3 ∧ w = nI w2 ∧ M.1 (135 + 12 * J i) 0 = 2 ∧ r = M.1 (135 + 12 * J i + 11) (m2 * 3 + w2)) r0 N0 ∧ N = sL_ N0 262 0 r0.toInt64) ∨ (r = 1 ∧ N = M ∧ (fun E => (E = "java/lang/IndexOutOfBoundsException" ∧ ¬ cnB_ J c M j m) ∨ (E = "java/lang/IllegalArgumentException" ∧ cnB_ J c M j m ∧ (w < 0 ∨ 3 ≤ w))) "java/lang/IndexOutOfBoundsException") ∨ (r = 2 ∧ N = M ∧ (fun E => (E = "java/lang/IndexOutOfBoundsException" ∧ ¬ cnB_ J c M j m) ∨ (E = "java/lang/IllegalArgumentException" ∧ cnB_ J c M j m ∧ (w < 0 ∨ 3 ≤ w))) "java/lang/IllegalArgumentException"))) := by
  refine chx_of hG (by decide) (Nat.le_of_ble_eq_true rfl) (fun C X X2 hlc hcs htb hnc => ?_)
  refine w_aload X dL_counted_0 rfl ?_
  refine w_iconst (v := 0) X dL_counted_2 (by decide) ?_
  refine w_aload_n X dL_counted_3 rfl rfl ?_
  refine w_iload_n X dL_counted_4 rfl rfl ?_
  refine w_iload_n X dL_counted_5 rfl rfl ?_
  refine w_iload_n X dL_counted_6 rfl rfl ?_
  refine w_callX (xe := fun E => (E = "java/lang/IndexOutOfBoundsException" ∧ ¬ cnB_ J c M j m) ∨ (E = "java/lang/IllegalArgumentException" ∧ cnB_ J c M j m ∧ (w < 0 ∨ 3 ≤ w))) (post := rI_ (fun r N => N = M ∧ ∃ i m2 w2, i < 8 ∧ j = nI i ∧ m2 < c ∧ m = nI m2 ∧ w2 < 3 ∧ w = nI w2 ∧ M.1 (135 + 12 * J i) 0 = 2 ∧ r = M.1 (135 + 12 * J i + 11) (m2 * 3 + w2))) [.int j, .int m, .int w] X hlc dL_counted_7 kL_28 rfl s_34 (c11_countedE G hG d M J S hq c hc j m w) (Nat.le_of_ble_eq_true rfl) (by rw [hcs.1, hcs.2.1]; exact hcs.2.2) ?_ ?_
  · rw [hcs.1, hcs.2.1]
    rintro v N ⟨r0, rfl, h0⟩
    refine w_i2l X2 dL_counted_10 ?_
    refine w_lastoreN X2 dL_counted_11 s_262 rfl (⟨by decide, by decide⟩) ?_
    refine w_goto (tgt := 23) X2 dL_counted_12 (by decide) ?_
    refine w_iconst (v := 0) X2 dL_counted_23 (by decide) ?_
    exact w_irR X2 dL_counted_24 (Or.inl ⟨rfl, r0, N, h0, rfl⟩)
  · rw [hcs.1, hcs.2.1]
    intro E q hE
    rcases hE with ⟨rfl, hE2⟩ | ⟨rfl, hE2⟩
    · refine w_catch X2 [] ⟨0, 12, 15, 19⟩ [⟨0, 12, 19, 13⟩] htb (by decide) (fun z hz => by cases hz) (by decide) (by decide) xl19 ?_
      refine w_astore X2 dL_counted_15 (by decide) ?_
      refine w_iconst (v := 1) X2 dL_counted_17 (by decide) ?_
      exact w_irR X2 dL_counted_18 (Or.inr (Or.inl ⟨rfl, rfl, Or.inl ⟨rfl, hE2⟩⟩))
    · refine w_catch X2 [⟨0, 12, 15, 19⟩] ⟨0, 12, 19, 13⟩ [] htb (by decide) (fun z hz => by obtain rfl := List.mem_singleton.mp hz; exact ⟨by decide, _, xl19, hnc⟩) (by decide) (by decide) xl13 ?_
      refine w_astore X2 dL_counted_19 (by decide) ?_
      refine w_iconst (v := 2) X2 dL_counted_21 (by decide) ?_
      exact w_irR X2 dL_counted_22 (Or.inr (Or.inr ⟨rfl, rfl, Or.inr ⟨rfl, hE2⟩⟩))
set_option maxRecDepth 100000 in
set_option maxHeartbeats 600000 in
theorem cLE_replay_ (G : gg_) (hG : gd_ G) (d : Nat) (M : mm_) (i : Int32) (c : Nat) (hc : mt_ M c) (hv : vq_ M) (z : Nat) (hz : z ≤ 40) (k3 : M.1 245 1 = 7) (k5 : M.1 245 3 = nI z) (QC : Int32 → mm_ → Prop) (hst : ∀ i2, i2 < z → i = nI i2 → ∃ m2, M.1 246 (7 * i2 + 1) = nI m2 ∧ cm_ G yX4_start cX4_start 3 (some .int) (d + 62) [.ref (G.1 247), .int (nI m2), .int 0] (sp1_ M (poX_ (kf_ M c (nI m2))) (M.1 246 (7 * i2 + 2)) (M.1 246 (7 * i2 + 3)) (M.1 246 (7 * i2 + 4))) (rI_ QC)) : chx_ G yL_replay cL_replay 4 [(0, 9, 12, 19)] (d + 64) [.ref (G.1 34), .int i, .ref (G.1 262)] M (rI_ (fun r N => (r = 0 ∧ ∃ (r0 : Int32) (N0 : mm_), (fun r N => (∃ i2, i2 < z ∧ i = nI i2) ∧ QC r N) r0 N0 ∧ N = sL_ N0 262 0 r0.toInt64) ∨ (r = 1 ∧ N = M ∧ (fun E => E = "java/lang/IndexOutOfBoundsException" ∧ rH_ M 245 i = 0) "java/lang/IndexOutOfBoundsException"))) := by
  refine chx_of hG (by decide) (Nat.le_of_ble_eq_true rfl) (fun C X X2 hlc hcs htb hnc => ?_)
  refine w_aload_n X dL_replay_0 rfl rfl ?_
  refine w_iconst (v := 0) X dL_replay_1 (by decide) ?_
  refine w_aload_n X dL_replay_2 rfl rfl ?_
  refine w_iload_n X dL_replay_3 rfl rfl ?_
  refine w_callX (xe := fun E => E = "java/lang/IndexOutOfBoundsException" ∧ rH_ M 245 i = 0) (post := rI_ (fun r N => (∃ i2, i2 < z ∧ i = nI i2) ∧ QC r N)) [.int i] X hlc dL_replay_4 kL_35 rfl s_34 (c11_replayE G hG d M c hc hv z hz k3 k5 i QC hst) (Nat.le_of_ble_eq_true rfl) (by rw [hcs.1, hcs.2.1]; exact hcs.2.2) ?_ ?_
  · rw [hcs.1, hcs.2.1]
    rintro v N ⟨r0, rfl, h0⟩
    refine w_i2l X2 dL_replay_7 ?_
    refine w_lastoreN X2 dL_replay_8 s_262 rfl (⟨by decide, by decide⟩) ?_
    refine w_goto (tgt := 15) X2 dL_replay_9 (by decide) ?_
    refine w_iconst (v := 0) X2 dL_replay_15 (by decide) ?_
    exact w_irR X2 dL_replay_16 (Or.inl ⟨rfl, r0, N, h0, rfl⟩)
  · rw [hcs.1, hcs.2.1]
    intro E q hE
    obtain ⟨rfl, hE2⟩ := hE
    refine w_catch X2 [] ⟨0, 9, 12, 19⟩ [] htb (by decide) (fun z hz => by cases hz) (by decide) (by decide) xl19 ?_
    refine w_astore_n X2 dL_replay_12 rfl (by decide) ?_
    refine w_iconst (v := 1) X2 dL_replay_13 (by decide) ?_
    exact w_irR X2 dL_replay_14 (Or.inr (⟨rfl, rfl, ⟨rfl, hE2⟩⟩))

end
section
/-! jobs, records and what was kept: the two programs' tables are one -/
def JT1_ (J : Nat → Nat) (c : Nat) (M : mm_) (j : Nat) : Prop := ∃ z, z ≤ 12 ∧ M.1 18 j = nI z ∧ M.2.1 (135 + 12 * J j) 2 = pwT_ (pa_ M j) 0 z ∧ (∀ p, p < z → ¬ sgX_ (pa_ M j p) = 0) ∧ (∀ m, m < c → (btX_ (M.1 (135 + 12 * J j) 9) (nI m) = 1 ↔ ¬ ft_ (pa_ M j) z (M.2.1 5 m) = 0)) ∧
  (M.1 12 j = 1 → M.1 (135 + 12 * J j) 1 = M.1 13 j ∧ M.1 (135 + 12 * J j) 6 = M.1 14 j ∧ M.1 (135 + 12 * J j) 7 = M.1 15 j ∧ (∃ a l, M.1 15 j = nI a ∧ M.1 14 j = nI l ∧ a < l ∧ l ≤ 99) ∧ (∃ e, XCo_ (135 + 12 * J j + 1) e M ∧ RCo_ (16 + 2 * j) e M) ∧ ((M.1 (135 + 12 * J j) 5 = 0 ∧ M.1 16 j = 0) ∨ (¬ M.1 (135 + 12 * J j) 5 = 0 ∧ ¬ M.1 16 j = 0 ∧ ∃ e, XCo_ (135 + 12 * J j + 6) e M ∧ RCo_ (17 + 2 * j) e M))) ∧
  (M.1 12 j = 2 → ∀ i, i < 48 → M.1 (135 + 12 * J j + 11) i = M.1 20 (48 * j + i))
def JT_ (J : Nat → Nat) (c : Nat) (M : mm_) : Prop := kdE_ J M M ∧ ∀ j, j < 8 → ¬ M.1 12 j = 0 → JT1_ J c M j
def RT_ (M : mm_) : Prop := ∃ a b, a ≤ 300 ∧ M.1 243 0 = 300 ∧ M.1 243 1 = 5 ∧ M.1 243 3 = nI a ∧ M.1 0 35 = nI a ∧ (∀ i, i < a * 5 → M.1 244 i = M.1 21 i) ∧ b ≤ 40 ∧ M.1 245 0 = 40 ∧ M.1 245 1 = 7 ∧ M.1 245 3 = nI b ∧ M.1 0 37 = nI b ∧ ∀ i, i < b * 7 → M.1 246 i = M.1 22 i
/-- an environment and a state for both programs -/
theorem E_of {J : Nat → Nat} {c : Nat} {M : mm_} (hT : JT_ J c M) (hM : MQ_ c M) (hR : RT_ M) (b : Bool) : ∃ (E : se_) (s : sgA_), E.1 = c ∧ (∀ m, m < c → E.2.1 m = M.2.1 46 m) ∧ (∀ m, m < c → wK_ (E.2.2.1 m) ∧ hd_ (48 + 5 * m) M (cqX_ (E.2.2.1 m) 0 0) ∧ 3 * snX_ (E.2.2.1 m) + 1 ≤ 80 ∧ sd_ M m (tm_ (E.2.2.1 m)) ∧ (tc_ (tm_ (E.2.2.1 m))).length ≤ 40 ∧ wfR_ true 3 true (tm_ (E.2.2.1 m))) ∧ E.2.2.2.2.2.2.2.2 = b ∧ JX_ E J c s M ∧ JR_ E c s M ∧ WL_ E s ∧ iv2_ s = 0 ∧ DX_ J s (sI_ M 247 1 0) ∧ DR_ s (sI_ M 0 40 0) ∧ ∀ j m, E.2.2.2.2.2.2.2.1 j m = true → m < c := by
  classical
  obtain ⟨hk, hj⟩ := hT
  obtain ⟨a, kb, r1, r2, r3, r4, r5, r6, r7, r8, r9, r10, r11, r12⟩ := hR
  let tr : Nat → Term := fun m => if h : m < c then Classical.choose (hM m h).2 else .null
  let ex : Nat → Term := fun j => if h : ∃ e, XCo_ (135 + 12 * J j + 1) e M ∧ RCo_ (16 + 2 * j) e M then Classical.choose h else .null
  let cn : Nat → Option Term := fun j => if h : ¬ M.1 16 j = 0 ∧ ∃ e, XCo_ (135 + 12 * J j + 6) e M ∧ RCo_ (17 + 2 * j) e M then some (Classical.choose h.2) else none
  let fi : Nat → Nat → Bool := fun j m => decide (m < c ∧ btX_ (M.1 (135 + 12 * J j) 9) (nI m) = 1)
  refine ⟨(c, fun m => M.2.1 46 m, tr, fun j => M.1 13 j, fun j => M.1 14 j, ex, cn, fi, b), (fun j => M.1 12 j, fun j => M.1 (135 + 12 * J j) 7, fun j i => M.1 (135 + 12 * J j + 11) i, (a, fun i => M.1 244 i), (kb, fun i => M.1 246 i), 0), rfl, fun m _ => rfl, fun m hm => ?_, rfl, fun j hj8 h0 => ?_, fun j hj8 h0 => ?_, fun j hj8 h1 => ?_, rfl, ?_, ?_, fun j m h => (of_decide_eq_true h).1⟩
  · have e : tr m = Classical.choose (hM m hm).2 := dif_pos hm
    have := Classical.choose_spec (hM m hm).2
    show wK_ (tr m) ∧ _
    rw [← e] at this
    exact ⟨this.1, this.2.1, this.2.2.1, this.2.2.2.1, this.2.2.2.2.1, this.2.2.2.2.2.1⟩
  · have h0 : ¬ M.1 12 j = 0 := h0
    obtain ⟨z, g1, g2, g3, g4, g5, g6, g7⟩ := hj j hj8 h0
    refine ⟨(hk j hj8).2.resolve_left h0, fun m hm => ?_, fun h1 => ?_⟩
    · show _ ↔ decide (m < c ∧ btX_ (M.1 (135 + 12 * J j) 9) (nI m) = 1) = true
      rw [decide_eq_true_iff]
      exact ⟨fun y => ⟨hm, y⟩, fun y => y.2⟩
    · obtain ⟨k1, k2, k3, k4, k5, k6⟩ := g6 h1
      have e : ex j = Classical.choose k5 := dif_pos k5
      have es := Classical.choose_spec k5
      rw [← e] at es
      refine ⟨k1, k2, es.1, fun hn => ?_, fun e2 he => ?_⟩
      · rcases k6 with k6 | ⟨k7, k8, k9⟩
        · exact k6.1
        · have : cn j = some (Classical.choose k9) := dif_pos ⟨k8, k9⟩
          exact absurd (this.symm.trans hn) (by simp)
      · rcases k6 with k6 | ⟨k7, k8, k9⟩
        · have : cn j = none := dif_neg (fun y => y.1 k6.2)
          exact absurd (this.symm.trans he) (by simp)
        · have : cn j = some (Classical.choose k9) := dif_pos ⟨k8, k9⟩
          have e3 : Classical.choose k9 = e2 := Option.some.inj (this.symm.trans he)
          have cs := Classical.choose_spec k9
          rw [e3] at cs
          exact ⟨k7, cs.1⟩
  · have h0 : ¬ M.1 12 j = 0 := h0
    obtain ⟨z, g1, g2, g3, g4, g5, g6, g7⟩ := hj j hj8 h0
    refine ⟨(hk j hj8).2.resolve_left h0, ⟨z, g1, g2, fun m hm => ?_⟩, fun h1 => ?_⟩
    · show _ ↔ decide (m < c ∧ btX_ (M.1 (135 + 12 * J j) 9) (nI m) = 1) = false
      rw [decide_eq_false_iff_not]
      exact ⟨fun y z => ((g5 m hm).mp z.2) y, fun y => Decidable.not_not.mp (fun z => y ⟨hm, (g5 m hm).mpr z⟩)⟩
    · obtain ⟨k1, k2, k3, k4, k5, k6⟩ := g6 h1
      have e : ex j = Classical.choose k5 := dif_pos k5
      have es := Classical.choose_spec k5
      rw [← e] at es
      refine ⟨rfl, rfl, es.2, fun hn => ?_, fun e2 he => ?_⟩
      · rcases k6 with k6 | ⟨k7, k8, k9⟩
        · exact k6.2
        · have : cn j = some (Classical.choose k9) := dif_pos ⟨k8, k9⟩
          exact absurd (this.symm.trans hn) (by simp)
      · rcases k6 with k6 | ⟨k7, k8, k9⟩
        · have : cn j = none := dif_neg (fun y => y.1 k6.2)
          exact absurd (this.symm.trans he) (by simp)
        · have : cn j = some (Classical.choose k9) := dif_pos ⟨k8, k9⟩
          have e3 : Classical.choose k9 = e2 := Option.some.inj (this.symm.trans he)
          have cs := Classical.choose_spec k9
          rw [e3] at cs
          exact ⟨k8, cs.2⟩
  · have h1 : M.1 12 j = 1 := h1
    obtain ⟨z, g1, g2, g3, g4, g5, g6, g7⟩ := hj j hj8 (by rw [h1]; decide)
    obtain ⟨k1, k2, k3, ⟨x, l, k4, k5, k6, k7⟩, -⟩ := g6 h1
    exact ⟨x, l, k3.trans k4, k5, k6, k7⟩
  · refine ⟨fun j hj8 => ⟨?_, ?_, fun i hi => ?_⟩, ⟨?_, ?_, ?_, r1, fun i hi => ?_⟩, ⟨?_, ?_, ?_, r7, fun i hi => ?_⟩, ?_, ?_⟩
    · rw [gI_sI, if_neg (by omega)]; exact (hk j hj8).1
    · rw [gI_sI, if_neg (by omega)]
    · rw [gI_sI, if_neg (by omega)]
    · rw [gI_sI, if_neg (by omega)]; exact r2
    · rw [gI_sI, if_neg (by omega)]; exact r3
    · rw [gI_sI, if_neg (by omega)]; exact r4
    · rw [gI_sI, if_neg (by omega)]
    · rw [gI_sI, if_neg (by omega)]; exact r8
    · rw [gI_sI, if_neg (by omega)]; exact r9
    · rw [gI_sI, if_neg (by omega)]; exact r10
    · rw [gI_sI, if_neg (by omega)]
    · rw [gI_sI, if_pos ⟨rfl, rfl⟩]; rfl
    · show 0 ≤ 1000; omega
  · refine ⟨fun j hj8 => ⟨?_, fun h1 => ?_, fun h2 i hi => ?_⟩, ⟨?_, r1, fun i hi => ?_⟩, ⟨?_, r7, fun i hi => ?_⟩, ?_, ?_⟩
    · rw [gI_sI, if_neg (by omega)]
    · have h1 : M.1 12 j = 1 := h1
      obtain ⟨z, g1, g2, g3, g4, g5, g6, g7⟩ := hj j hj8 (by rw [h1]; decide)
      rw [gI_sI, if_neg (by omega)]; exact (g6 h1).2.2.1.symm
    · have h2 : M.1 12 j = 2 := h2
      obtain ⟨z, g1, g2, g3, g4, g5, g6, g7⟩ := hj j hj8 (by rw [h2]; decide)
      rw [gI_sI, if_neg (by omega)]; exact (g7 h2 i hi).symm
    · rw [gI_sI, if_neg (by omega)]; exact r5
    · rw [gI_sI, if_neg (by omega)]; exact (r6 i hi).symm
    · rw [gI_sI, if_neg (by omega)]; exact r11
    · rw [gI_sI, if_neg (by omega)]; exact (r12 i hi).symm
    · rw [gI_sI, if_pos ⟨rfl, rfl⟩]; rfl
    · show 0 ≤ 1000; omega

end
section
/-! behind a call: the tables are one again -/
theorem JT_of {E : se_} {J : Nat → Nat} {c : Nat} {s : sgA_} {N : mm_} (hX : JX_ E J c s N) (hR : JR_ E c s N) (hW : WL_ E s) (hD : DX_ J s N) (hDR : DR_ s N) (hkd : ∀ j, j < 8 → s.1 j = 0 ∨ s.1 j = 1 ∨ s.1 j = 2 ∨ s.1 j = 3) (hp : ∀ j, j < 8 → ¬ s.1 j = 0 → ∃ z, z ≤ 12 ∧ N.1 18 j = nI z ∧ N.2.1 (135 + 12 * J j) 2 = pwT_ (pa_ N j) 0 z ∧ ∀ p, p < z → ¬ sgX_ (pa_ N j p) = 0) : JT_ J c N ∧ RT_ N := by
  obtain ⟨d1, ⟨d2, d3, d4, d5, d6⟩, ⟨d7, d8, d9, d10, d11⟩, -, -⟩ := hD
  obtain ⟨q1, ⟨q2, q3, q4⟩, ⟨q5, q6, q7⟩, -, -⟩ := hDR
  refine ⟨⟨fun j hj => ?_, fun j hj h0 => ?_⟩, s.2.2.2.1.1, s.2.2.2.2.1.1, d5, d2, d3, d4, q2, fun i hi => (d6 i hi).trans (q4 i hi).symm, d10, d7, d8, d9, q5, fun i hi => (d11 i hi).trans (q7 i hi).symm⟩
  · rw [(d1 j hj).1, (q1 j hj).1]
    exact ⟨rfl, hkd j hj⟩
  · rw [(q1 j hj).1] at h0
    obtain ⟨z, p1, p2, p3, p4⟩ := hp j hj h0
    obtain ⟨x1, x2, x3⟩ := hX j hj h0
    obtain ⟨y1, ⟨z2, y2, y3, y4⟩, y5⟩ := hR j hj h0
    obtain rfl : z = z2 := (nI_eq (by omega) (by omega)).mp (p2.symm.trans y3)
    refine ⟨z, p1, p2, p3, p4, fun m hm => ?_, fun h1 => ?_, fun h2 i hi => ?_⟩
    · rw [x2 m hm]
      have := y4 m hm
      cases hb : E.2.2.2.2.2.2.2.1 j m with
      | true => exact ⟨fun _ y => by have := this.mp y; rw [hb] at this; exact absurd this (by decide), fun _ => rfl⟩
      | false => exact ⟨fun y => absurd y (by decide), fun y => absurd (this.mpr hb) y⟩
    · rw [(q1 j hj).1] at h1
      obtain ⟨k1, k2, k3, k4, k5⟩ := x3 h1
      obtain ⟨l1, l2, l3, l4, l5⟩ := y5 h1
      obtain ⟨a, l, w1, w2, w3, w4⟩ := hW j hj h1
      have m15 := (q1 j hj).2.1 h1
      refine ⟨k1.trans l1.symm, k2.trans l2.symm, ((d1 j hj).2.1).trans m15.symm, ⟨a, l, m15.trans w1, l2.trans w2, w3, w4⟩, ⟨_, k3, l3⟩, ?_⟩
      cases hc : E.2.2.2.2.2.2.1 j with
      | none => exact Or.inl ⟨k4 hc, l4 hc⟩
      | some e => exact Or.inr ⟨(k5 e hc).1, (l5 e hc).1, e, (k5 e hc).2, (l5 e hc).2⟩
    · rw [(q1 j hj).1] at h2
      exact ((d1 j hj).2.2 i hi).trans ((q1 j hj).2.2 h2 i hi).symm

end
section
/-! the class's start at a tied memory -/
theorem ftq_ {b : Bool} {x : Int32} (h : (x = 1 ∧ b = true) ∨ (x = 0 ∧ b = false)) : x = 0 ↔ b = false := by
  rcases h with ⟨rfl, rfl⟩ | ⟨rfl, rfl⟩
  · exact ⟨fun y => absurd y (by decide), fun y => absurd y (by decide)⟩
  · exact ⟨fun _ => rfl, fun _ => rfl⟩
theorem start_X {G : gg_} (hG : gd_ G) (e : Nat) {E : se_} {s : sgA_} {J : Nat → Nat} {S c m : Nat} {M : mm_} {x y w z nn : Int32} {P : Nat → Int32} (hc : mt_ M c) (hb : mb2_ M) (hv : vq_ M) (hq : jq_ M J S) (hd : ∀ i j, i < 8 → j < 8 → J i = J j → i = j) (e1 : E.1 = c) (e2 : ∀ m, m < c → E.2.1 m = M.2.1 46 m) (e3 : ∀ m, m < c → wK_ (E.2.2.1 m) ∧ hd_ (48 + 5 * m) M (cqX_ (E.2.2.1 m) 0 0) ∧ 3 * snX_ (E.2.2.1 m) + 1 ≤ 80 ∧ sd_ M m (tm_ (E.2.2.1 m)) ∧ (tc_ (tm_ (E.2.2.1 m))).length ≤ 40 ∧ wfR_ true 3 true (tm_ (E.2.2.1 m))) (e4 : (z = 1 ∧ E.2.2.2.2.2.2.2.2 = true) ∨ (z = 0 ∧ E.2.2.2.2.2.2.2.2 = false)) (hX : JX_ E J c s M) (hiv : iv2_ s = 0) (hD : DX_ J s (sI_ M 247 1 0)) (h10 : zoX_ (M.1 247 10)) (hm : m < c) (hP : ∀ i, i < 3 → (sp1_ M nn x y w).1 250 i = P i) : cm_ G yX4_start cX4_start 3 (some .int) (e + 61) [.ref (G.1 247), .int (nI m), .int z] (sp1_ M nn x y w) (rI_ (CLQ_ J (sp1_ M nn x y w) (inA_ E 10 m P s))) := by
  have hJ : ∀ j, j < 8 → J j < 9 := fun j hj => (hq.1 j hj).1
  have o : ∀ a i, ¬ a = 250 → (sp1_ M nn x y w).1 a i = M.1 a i := fun a i h => by unfold sp1_; rw [gI_sI, if_neg (by omega), gI_sI, if_neg (by omega), gI_sI, if_neg (by omega)]
  have o2 : (sp1_ M nn x y w).2 = M.2 := rfl
  generalize sp1_ M nn x y w = A at o o2 hP ⊢
  have o9 : ∀ a i, ¬ a = 250 → ¬ (a = 247 ∧ i = 9) → (sI_ A 247 9 z).1 a i = M.1 a i := fun a i h1 h2 => by rw [gI_sI, if_neg h2, o a i h1]
  have o29 : (sI_ A 247 9 z).2 = M.2 := o2
  have hz : zoX_ z := e4.elim (fun y => Or.inr y.1) (fun y => Or.inl y.1)
  refine c4_startT G hG e A E J S c m P s z hz ?_ hm hiv ?_ ?_ hP (by rw [o _ _ (by decide)]; exact h10)
  · refine ⟨⟨hc.1, by rw [o9 45 2 (by decide) (by omega)]; exact hc.2⟩, fun i hi => by rw [o29]; exact hb i hi, fun i hi => by rw [o29]; exact hv i hi, by unfold jq_ at hq ⊢; rw [o29]; exact hq, hd, e1, fun i hi => by rw [o29]; exact (e2 i hi).symm, fun i hi => ?_, by rw [gI_sI, if_pos ⟨rfl, rfl⟩]; exact ftq_ e4⟩
    obtain ⟨f1, f2, f3, f4, f5, f6⟩ := e3 i hi
    have := hc.1
    exact ⟨f1.1, (wfR_x true _ f1.1 f6).1, hd_cg (fun a x h1 h2 => o9 a x (by omega) (by omega)) (fun x => by rw [o29]) f2, by omega⟩
  · exact DX_cg hJ (fun a i h => by
      by_cases q : a = 247 ∧ i = 1
      · rw [gI_sI, if_pos q, gI_sI, if_pos q]
      · rw [gI_sI, if_neg q, gI_sI, if_neg q, o a i (by omega)]) hD
  · exact JX_fa hJ o2 (fun a i h => o a i (by unfold faX_ at h; omega)) (KM_rf s) hX

end
section
/-! the reference's play at a tied memory -/
theorem play_R {G : gg_} (hG : gd_ G) (d : Nat) {E : se_} {s : sgA_} {c m q3 : Nat} {M : mm_} {x y w z : Int32} {P : Nat → Int32} (hc : c ≤ 16) (h9 : M.1 0 9 = nI c) (e1 : E.1 = c) (e2 : ∀ m, m < c → NK_ (E.2.1 m) (M.2.1 5 m) (M.1 6 m)) (e3 : ∀ m, m < c → wK_ (E.2.2.1 m) ∧ sd_ M m (tm_ (E.2.2.1 m)) ∧ (tc_ (tm_ (E.2.2.1 m))).length ≤ 40 ∧ wfR_ true 3 true (tm_ (E.2.2.1 m))) (e4 : (z = 0 ∧ E.2.2.2.2.2.2.2.2 = true) ∨ (z = 1 ∧ E.2.2.2.2.2.2.2.2 = false)) (hR : JR_ E c s M) (hW : WL_ E s) (hiv : iv2_ s = 0) (hD : DR_ s (sI_ M 0 40 0)) (hm : m < c) (hq3 : q3 ≤ 3) (e6 : M.1 6 m = nI q3) (hP : ∀ i, i < 3 → P i = if i < q3 then (if i = 0 then x else if i = 1 then y else w) else 0) : cm_ G yX12_play cX12_play 6 (some .int) (d + 7) [.ref (G.1 0), .int (nI m), .int x, .int y, .int w, .int z] M (rI_ (PLQ_ E c M (inA_ E 10 m P s))) := by
  have k : ∀ a i, ¬ (a = 0 ∧ i = 42) → (sI_ M 0 42 z).1 a i = M.1 a i := fun a i h => by rw [gI_sI, if_neg h]
  refine c12_playT G hG d M E c m q3 P s x y w z ?_ hm hq3 e6 (e4.elim (fun y => Or.inl y.1) (fun y => Or.inr y.1)) hP hiv hD hR hW ?_
  · refine ⟨by rw [k _ _ (by omega)]; exact h9, hc, e1, fun i hi => by rw [k _ _ (by omega)]; exact e2 i hi, fun i hi => ?_, ?_⟩
    · obtain ⟨f1, f2, f3, f4⟩ := e3 i hi
      exact ⟨f1.1, (wfR_x true _ f1.1 f4).1, f1.2, ⟨by rw [k _ _ (by omega)]; exact f2.1, fun j q hj => by rw [k _ _ (by omega)]; exact f2.2 j q hj⟩, f3⟩
    · rw [gI_sI, if_pos ⟨rfl, rfl⟩]
      rcases e4 with ⟨rfl, h⟩ | ⟨rfl, h⟩
      · rw [h]; exact ⟨fun _ => rfl, fun _ => rfl⟩
      · rw [h]; exact ⟨fun y => absurd y (by decide), fun y => absurd y (by decide)⟩
  · exact in_q (fun i hi => by rw [e1] at hi; exact (e3 i hi).1.1) 10 m P s (by rw [e1]; exact hm)

end
section
/-! behind a call of both programs -/
theorem KM_in {E : se_} (hw : ∀ m, m < E.1 → wfX_ true (E.2.2.1 m)) {m : Nat} {P : Nat → Int32} {s : sgA_} (hm : m < E.1) : KM_ s (inA_ E 10 m P s).2 := in_R KM_rf KM_tr (fun m p d P v j s => KM_pj m p d P v j s) (fun _ _ _ => Or.inl rfl) hw 10 m P s hm
theorem call_back {E : se_} {s : sgA_} {J : Nat → Nat} {c : Nat} {M A N1 N2 : mm_} {o : io2_} {r1 r2 : Int32} (hJ : ∀ j, j < 8 → J j < 9) (hT : JT_ J c M) (hX : JX_ E J c s M) (hD : DX_ J s (sI_ M 247 1 0)) (hKM : KM_ s o.2) (hA2 : A.2 = M.2) (hAo : ∀ a i, ¬ a = 250 → A.1 a i = M.1 a i) (h1 : CLQ_ J A o r1 N1) (h2 : PLQ_ E c N1 o r2 N2) (hq : q12_ o.1) : r1 = r2 ∧ N2.1 247 0 = N2.1 0 41 ∧ N2.1 247 1 = N2.1 0 40 ∧ JT_ J c N2 ∧ RT_ N2 := by
  obtain ⟨a1, a2, a3, a4, a5⟩ := h1
  obtain ⟨b1, b2, b3, b4, b5, b6⟩ := h2
  have n2 : ∀ a i, 34 ≤ a → N2.1 a i = N1.1 a i := fun a i h => b2 a i (by unfold pzR_; omega) (by unfold mR_; omega)
  have f12 : N2.2 = M.2 := b1.trans (a1.trans hA2)
  have fI : ∀ a i, faX_ a i → (34 ≤ a ∨ a = 17 ∨ a = 18) → N2.1 a i = M.1 a i := fun a i h h3 => by
    have e : N2.1 a i = N1.1 a i := b2 a i (by unfold pzR_; omega) (by unfold mR_; omega)
    rw [e, a2 a i h, hAo a i (by unfold faX_ at h; omega)]
  have d2 : DX_ J o.2 N2 := DX_cg hJ (fun a i h => n2 a i (by omega)) a4
  have sk : ∀ j, j < 8 → s.1 j = M.1 12 j := fun j hj => by
    have := hJ j hj
    have h := (hD.1 j hj).1
    rw [gI_sI, if_neg (by omega)] at h
    rw [← h]; exact (hT.1 j hj).1
  have x2 : JX_ E J c o.2 N2 := by
    intro j hj h0
    have hs2 : o.2.1 j = s.1 j := (hKM j hj).resolve_right h0
    rw [hs2] at h0 ⊢
    have hJj := hJ j hj
    obtain ⟨c1, c2, c3⟩ := hX j hj h0
    have e : ∀ i, ¬ i = 0 → ¬ i = 7 → N2.1 (135 + 12 * J j) i = M.1 (135 + 12 * J j) i := fun i z1 z2 => fI _ i (by unfold faX_; omega) (by omega)
    have xc : ∀ k e, kcX_ k → 34 ≤ k → XCo_ k e M → XCo_ k e N2 := fun k e hk h34 g => ⟨g.1, g.2.1, g.2.2.1, hd_cg (fun a i z1 z2 => fI a i (by unfold kcX_ at hk; unfold faX_; omega) (by omega)) (fun i => by rw [f12]) g.2.2.2.1, g.2.2.2.2⟩
    refine ⟨c1, fun m hm => by rw [e 9 (by omega) (by omega)]; exact c2 m hm, fun h1 => ?_⟩
    obtain ⟨k1, k2, k3, k4, k5⟩ := c3 h1
    refine ⟨by rw [e 1 (by omega) (by omega)]; exact k1, by rw [e 6 (by omega) (by omega)]; exact k2, xc _ _ (kcX_e hJj) (by omega) k3, fun z => by rw [e 5 (by omega) (by omega)]; exact k4 z, fun e2 z => ?_⟩
    obtain ⟨l1, l2⟩ := k5 e2 z
    exact ⟨by rw [e 5 (by omega) (by omega)]; exact l1, xc _ _ (kcX_c hJj) (by omega) l2⟩
  have hkd : ∀ j, j < 8 → o.2.1 j = 0 ∨ o.2.1 j = 1 ∨ o.2.1 j = 2 ∨ o.2.1 j = 3 := fun j hj => by
    rcases hKM j hj with y | y
    · rw [y, sk j hj]; exact (hT.1 j hj).2
    · exact Or.inl y
  have jt := JT_of x2 b4 b5 d2 b3 hkd (fun j hj h0 => by
    have hs2 : o.2.1 j = s.1 j := (hKM j hj).resolve_right h0
    rw [hs2, sk j hj] at h0
    obtain ⟨z, g1, g2, g3, g4, -⟩ := hT.2 j hj h0
    have hpa : pa_ N2 j = pa_ M j := by funext p; exact fI 17 _ (by unfold faX_; omega) (by omega)
    exact ⟨z, g1, by rw [fI 18 j (by unfold faX_; omega) (by omega)]; exact g2, by rw [f12, hpa]; exact g3, by rw [hpa]; exact g4⟩)
  refine ⟨?_, ?_, ?_, jt⟩
  · cases ho : o.1 with
    | inl v => rw [ho] at a5 b6; exact a5.1.trans b6.1.symm
    | inr q => rw [ho] at a5 b6; exact a5.1.trans (b6 (hq q ho)).1.symm
  · rw [n2 247 0 (by omega)]
    cases ho : o.1 with
    | inl v => rw [ho] at a5 b6; exact a5.2.trans b6.2.symm
    | inr q => rw [ho] at a5 b6; exact a5.2.1.trans (b6 (hq q ho)).2.symm
  · rw [d2.2.2.2.1, b3.2.2.2.1]

end
section
/-! the tables of jobs: what keeps them tied -/
theorem bt_l (x : Int32) {p : Nat} (hp : p < 16) : btX_ x (nI p) = 1 ↔ x.toBitVec.getLsbD p = true := by
  have e1 : ∀ p, p < 16 → ((nI p).toUInt32 &&& Int32.toUInt32 31).toBitVec.toNat % 32 = p := by decide +kernel
  have a1 : (btX_ x (nI p)).toBitVec = (x.toBitVec >>> p) &&& 1#32 := by
    unfold btX_
    rw [Int32.toBitVec_and]
    have a2 : (x.toUInt32 >>> ((nI p).toUInt32 &&& Int32.toUInt32 31)).toInt32.toBitVec = x.toBitVec >>> p := by
      show (x.toUInt32 >>> ((nI p).toUInt32 &&& Int32.toUInt32 31)).toBitVec = x.toBitVec >>> p
      rw [UInt32.toBitVec_shiftRight, BitVec.ushiftRight_eq']
      congr 1
      rw [BitVec.toNat_umod]
      exact e1 p hp
    rw [a2]
    rfl
  rw [← Int32.toBitVec_inj, a1]
  show (x.toBitVec >>> p) &&& 1#32 = 1#32 ↔ _
  constructor
  · intro h
    have := congrArg (fun v => v.getLsbD 0) h
    simpa using this
  · intro h
    apply BitVec.eq_of_getLsbD_eq
    intro i hi
    simp only [BitVec.getLsbD_and, BitVec.getLsbD_ushiftRight, BitVec.getLsbD_one]
    by_cases q : i = 0
    · subst q; simp [h]
    · simp [q]
theorem bt_or (x : Int32) {m k : Nat} (hm : m < 16) (hk : k < 16) : btX_ (x ||| (1 <<< (nI m &&& 31))) (nI k) = 1 ↔ (btX_ x (nI k) = 1 ∨ m = k) := by
  have e : ∀ m, m < 16 → ∀ k, k < 16 → ((1 : Int32) <<< (nI m &&& 31)).toBitVec.getLsbD k = decide (m = k) := by decide +kernel
  rw [bt_l _ hk, bt_l _ hk, Int32.toBitVec_or, BitVec.getLsbD_or, e m hm k hk]
  simp
theorem bt_z {m : Nat} (hm : m < 16) : ¬ btX_ 0 (nI m) = 1 := by
  rw [bt_l _ hm]; simp
theorem me_bits {c k m : Nat} (hm : m < 16) : ∀ (u i : Nat) (M : mm_), i + u ≤ 16 → (btX_ ((me1_ c k u i M).1 k 9) (nI m) = 1 ↔ (btX_ (M.1 k 9) (nI m) = 1 ∨ (i ≤ m ∧ m < i + u ∧ ¬ ftX_ (M.2.1 k 2) (kf_ M c (nI m)) = 0)))
  | 0, i, M, _ => ⟨fun h => Or.inl h, fun h => h.elim id (fun y => by omega)⟩
  | u + 1, i, M, hi => by
    rw [me1_, me_bits hm u (i + 1) _ (by omega), mee_L]
    have hkf : kf_ (mee_ M k (nI i) (kf_ M c (nI i))) c (nI m) = kf_ M c (nI m) := by unfold kf_; rw [mee_L]
    rw [hkf]
    unfold mee_
    by_cases q : ftX_ (M.2.1 k 2) (kf_ M c (nI i)) = 0
    · rw [if_pos q]
      constructor
      · rintro (h | ⟨h1, h2, h3⟩)
        · exact Or.inl h
        · exact Or.inr ⟨by omega, by omega, h3⟩
      · rintro (h | ⟨h1, h2, h3⟩)
        · exact Or.inl h
        · refine Or.inr ⟨?_, by omega, h3⟩
          by_cases e : i = m
          · subst e; exact absurd q h3
          · omega
    · rw [if_neg q, gI_sI, if_pos ⟨rfl, rfl⟩, bt_or _ (by omega) hm]
      constructor
      · rintro ((h | h) | ⟨h1, h2, h3⟩)
        · exact Or.inl h
        · subst h; exact Or.inr ⟨by omega, by omega, q⟩
        · exact Or.inr ⟨by omega, by omega, h3⟩
      · rintro (h | ⟨h1, h2, h3⟩)
        · exact Or.inl (Or.inl h)
        · by_cases e : i = m
          · exact Or.inl (Or.inr e)
          · exact Or.inr ⟨by omega, by omega, h3⟩
theorem pw_cg {f g : Nat → Int32} {s t : Nat} : ∀ z, (∀ x, x < z → f (s + x) = g (t + x)) → pwT_ f s z = pwT_ g t z
  | 0, _ => rfl
  | z + 1, h => by rw [pwT_, pwT_, pw_cg z (fun x hx => h x (by omega)), h z (by omega)]
/-- a pattern and a name fit as the class's word and key do -/
theorem ft_key {f : Nat → Int32} {z : Nat} {K a : Int64} {p : Int32} (hz : z ≤ 12) (hne : ∀ x, x < z → ¬ sgX_ (f x) = 0) (h : NK_ K a p) : ft_ f z a = ftX_ (pwT_ f 0 z) K := by
  obtain ⟨g, k, L, j, h1, h2, h3, rfl, rfl, -⟩ := h
  rw [fit_T hz h2 h1 h3 (fun x hx => by rw [Nat.zero_add]; exact hne x hx)]
  congr 1
  funext x
  rw [Nat.zero_add]
/-- bits of methods that are not yet there are off -/
def HB_ (J : Nat → Nat) (c : Nat) (M : mm_) : Prop := ∀ j, j < 8 → ¬ M.1 12 j = 0 → ∀ m, c ≤ m → m < 16 → ¬ btX_ (M.1 (135 + 12 * J j) 9) (nI m) = 1
/-- the reference's cells of job j -/
def jcQ_ (j a i : Nat) : Prop := ((a = 12 ∨ a = 13 ∨ a = 14 ∨ a = 15 ∨ a = 16 ∨ a = 18) ∧ i = j) ∨ (a = 17 ∧ 12 * j ≤ i ∧ i < 12 * j + 12) ∨ (a = 20 ∧ 48 * j ≤ i ∧ i < 48 * j + 48) ∨ (a = 4 ∧ (i = 16 + 2 * j ∨ i = 17 + 2 * j)) ∨ (a = 2 ∧ 1024 + 128 * j ≤ i ∧ i < 1152 + 128 * j)
def jKr_ (j : Nat) (M N : mm_) : Prop := (∀ a i, jcQ_ j a i → N.1 a i = M.1 a i) ∧ ∀ i, 1024 + 128 * j ≤ i → i < 1152 + 128 * j → N.2.1 3 i = M.2.1 3 i
def jKx_ (k : Nat) (M N : mm_) : Prop := (∀ a i, k ≤ a → a ≤ k + 11 → ¬ (a = k ∧ i = 9) → N.1 a i = M.1 a i) ∧ ∀ a i, k ≤ a → a ≤ k + 11 → N.2.1 a i = M.2.1 a i
theorem jKr_tr {j : Nat} {M N O : mm_} (h1 : jKr_ j M N) (h2 : jKr_ j N O) : jKr_ j M O := ⟨fun a i z => (h2.1 a i z).trans (h1.1 a i z), fun i z1 z2 => (h2.2 i z1 z2).trans (h1.2 i z1 z2)⟩
theorem jKx_tr {k : Nat} {M N O : mm_} (h1 : jKx_ k M N) (h2 : jKx_ k N O) : jKx_ k M O := ⟨fun a i z1 z2 z3 => (h2.1 a i z1 z2 z3).trans (h1.1 a i z1 z2 z3), fun a i z1 z2 => (h2.2 a i z1 z2).trans (h1.2 a i z1 z2)⟩
theorem jKx_hR {k : Nat} {M N : mm_} (hk : 34 ≤ k) (h : hR_ M N) : jKx_ k M N := ⟨fun a i z1 z2 _ => h.2.2.1 a i (by omega), fun a i z1 z2 => h.2.2.2 a i (by omega)⟩
theorem jKr_hX {j : Nat} {M N : mm_} (h : hX_ M N) : jKr_ j M N := ⟨fun a i z => h.1 a i (by unfold jcQ_ at z; omega), fun i z1 z2 => h.2 3 i (by omega)⟩
/-- the bits by the class's word and keys -/
theorem JT1_bits {J : Nat → Nat} {c j m : Nat} {M : mm_} {K : Int64} {p : Int32} (h : JT1_ J c M j) (hm : m < c) (hK : NK_ K (M.2.1 5 m) p) : btX_ (M.1 (135 + 12 * J j) 9) (nI m) = 1 ↔ ¬ ftX_ (M.2.1 (135 + 12 * J j) 2) K = 0 := by
  obtain ⟨z, h1, h2, h3, h4, h5, -⟩ := h
  rw [h5 m hm, h3, ft_key h1 h4 hK]
theorem JT1_cg {J J2 : Nat → Nat} {c c2 j : Nat} {M N : mm_} (hj : j < 8) (hJ : J2 j = J j) (hX : jKx_ (135 + 12 * J j) M N) (hR : jKr_ j M N) (K : Nat → Int64) (hK : ∀ m, m < c2 → ∃ p, NK_ (K m) (N.2.1 5 m) p) (h9 : ∀ m, m < c2 → (btX_ (N.1 (135 + 12 * J j) 9) (nI m) = 1 ↔ ¬ ftX_ (M.2.1 (135 + 12 * J j) 2) (K m) = 0)) (h : JT1_ J c M j) : JT1_ J2 c2 N j := by
  obtain ⟨z, g1, g2, g3, g4, g5, g6, g7⟩ := h
  have x1 : ∀ i, ¬ i = 9 → N.1 (135 + 12 * J j) i = M.1 (135 + 12 * J j) i := fun i hi => hX.1 _ i (by omega) (by omega) (by omega)
  have r1 : ∀ a, (a = 12 ∨ a = 13 ∨ a = 14 ∨ a = 15 ∨ a = 16 ∨ a = 18) → N.1 a j = M.1 a j := fun a ha => hR.1 a j (by unfold jcQ_; omega)
  have pq : ∀ x, x < z → pa_ N j x = pa_ M j x := fun x hx => hR.1 17 _ (by unfold jcQ_; omega)
  have pw : pwT_ (pa_ N j) 0 z = pwT_ (pa_ M j) 0 z := pw_cg z (fun x hx => by rw [Nat.zero_add]; exact pq x hx)
  have ne : ∀ p, p < z → ¬ sgX_ (pa_ N j p) = 0 := fun p hp => by rw [pq p hp]; exact g4 p hp
  have xc : ∀ e q, (q = 1 ∨ q = 6) → XCo_ (135 + 12 * J j + q) e M → XCo_ (135 + 12 * J j + q) e N := fun e q hq g => ⟨g.1, g.2.1, g.2.2.1, hd_cg (fun a i z1 z2 => hX.1 a i (by omega) (by omega) (by omega)) (fun i => hX.2 _ i (by omega) (by omega)) g.2.2.2.1, g.2.2.2.2⟩
  have rc : ∀ e q, (q = 16 ∨ q = 17) → RCo_ (q + 2 * j) e M → RCo_ (q + 2 * j) e N := fun e q hq g => ⟨g.1, g.2.1, g.2.2.1, sd_cg g.2.2.2.1 (by have := g.2.2.2.2; omega) (hR.1 4 _ (by unfold jcQ_; omega)) (fun i hi => hR.1 2 _ (by unfold jcQ_; omega)) (fun i hi => hR.2 _ (by omega) (by omega)), g.2.2.2.2⟩
  unfold JT1_
  rw [hJ]
  refine ⟨z, g1, (r1 18 (by omega)).trans g2, by rw [hX.2 _ 2 (by omega) (by omega), pw]; exact g3, ne, fun m hm => ?_, fun h1 => ?_, fun h2 i hi => ?_⟩
  · obtain ⟨p, hp⟩ := hK m hm
    rw [h9 m hm, ft_key g1 ne hp, pw, g3]
  · rw [r1 12 (by omega)] at h1
    obtain ⟨k1, k2, k3, k4, ⟨e, k5, k6⟩, k7⟩ := g6 h1
    rw [x1 1 (by omega), x1 6 (by omega), x1 7 (by omega), x1 5 (by omega), r1 13 (by omega), r1 14 (by omega), r1 15 (by omega), r1 16 (by omega)]
    refine ⟨k1, k2, k3, k4, ⟨e, xc e 1 (by omega) k5, rc e 16 (by omega) k6⟩, ?_⟩
    rcases k7 with k7 | ⟨k8, k9, e2, k10, k11⟩
    · exact Or.inl k7
    · exact Or.inr ⟨k8, k9, e2, xc e2 6 (by omega) k10, rc e2 17 (by omega) k11⟩
  · rw [r1 12 (by omega)] at h2
    rw [hX.1 _ i (by omega) (by omega) (by omega), hR.1 20 _ (by unfold jcQ_; omega)]
    exact g7 h2 i hi
/-- each job has ended, or is what it was, or is new -/
theorem JT_sub {J J2 : Nat → Nat} {c : Nat} {M N : mm_} (hT : JT_ J c M) (hB : HB_ J c M) (hK : ∀ m, m < c → ∃ K p, NK_ K (M.2.1 5 m) p) (h5 : ∀ m, m < c → N.2.1 5 m = M.2.1 5 m) (h : ∀ j, j < 8 → (N.1 (135 + 12 * J2 j) 0 = 0 ∧ N.1 12 j = 0) ∨ (¬ M.1 12 j = 0 ∧ J2 j = J j ∧ jKx_ (135 + 12 * J j) M N ∧ N.1 (135 + 12 * J j) 9 = M.1 (135 + 12 * J j) 9 ∧ jKr_ j M N) ∨ (N.1 (135 + 12 * J2 j) 0 = N.1 12 j ∧ (N.1 12 j = 1 ∨ N.1 12 j = 2 ∨ N.1 12 j = 3) ∧ JT1_ J2 c N j ∧ ∀ m, c ≤ m → m < 16 → ¬ btX_ (N.1 (135 + 12 * J2 j) 9) (nI m) = 1)) : JT_ J2 c N ∧ HB_ J2 c N := by
  classical
  have hK2 : ∃ K : Nat → Int64, ∀ m, m < c → ∃ p, NK_ (K m) (M.2.1 5 m) p := ⟨fun m => if y : m < c then Classical.choose (hK m y) else 0, fun m hm => by
    have := Classical.choose_spec (hK m hm)
    simp only [dif_pos hm]
    exact this⟩
  obtain ⟨K, hK⟩ := hK2
  refine ⟨⟨fun j hj => ?_, fun j hj h0 => ?_⟩, fun j hj h0 => ?_⟩
  · rcases h j hj with ⟨h1, h2⟩ | ⟨h1, h2, h3, h4, h5⟩ | ⟨h1, h2, -⟩
    · rw [h1, h2]; exact ⟨rfl, Or.inl rfl⟩
    · rw [h2, h3.1 _ 0 (by omega) (by omega) (by omega), h5.1 12 j (by unfold jcQ_; omega)]
      exact hT.1 j hj
    · exact ⟨h1, Or.inr h2⟩
  · rcases h j hj with ⟨h1, h2⟩ | ⟨h1, h2, h3, h4, hr⟩ | ⟨h1, h2, h3, -⟩
    · exact absurd h2 h0
    · have g := hT.2 j hj h1
      exact JT1_cg hj h2 h3 hr K (fun m hm => by rw [h5 m hm]; exact hK m hm) (fun m hm => by
        obtain ⟨p, hp⟩ := hK m hm
        rw [h4]; exact JT1_bits g hm hp) g
    · exact h3
  · rcases h j hj with ⟨h1, h2⟩ | ⟨h1, h2, h3, h4, hr⟩ | ⟨h1, h2, h3, h4⟩
    · exact absurd h2 h0
    · rw [h2, h4]; exact hB j hj h1
    · exact h4

end
section
/-! the tables behind a command -/
def jKf_ (k : Nat) (M N : mm_) : Prop := ∀ a i, k ≤ a → a ≤ k + 11 → N.1 a i = M.1 a i ∧ N.2.1 a i = M.2.1 a i
theorem jKf_tr {k : Nat} {M N O : mm_} (h1 : jKf_ k M N) (h2 : jKf_ k N O) : jKf_ k M O := fun a i z1 z2 => ⟨(h2 a i z1 z2).1.trans (h1 a i z1 z2).1, (h2 a i z1 z2).2.trans (h1 a i z1 z2).2⟩
theorem jKf_hR {k : Nat} {M N : mm_} (hk : 34 ≤ k) (h : hR_ M N) : jKf_ k M N := fun a i z1 z2 => ⟨h.2.2.1 a i (by omega), h.2.2.2 a i (by omega)⟩
theorem jKf_x {k : Nat} {M N : mm_} (h : jKf_ k M N) : jKx_ k M N := ⟨fun a i z1 z2 _ => (h a i z1 z2).1, fun a i z1 z2 => (h a i z1 z2).2⟩
theorem jKf_cz {k q : Nat} {M N : mm_} (hk : 135 ≤ k) (h : czX_ q M N) (hq : k + 11 < q ∨ q + 11 < k) : jKf_ k M N := fun a i z1 z2 => ⟨h.2.1 a i (by omega) (by omega) (by omega) (by omega), h.2.2 a i (by omega) (by omega) (by omega)⟩
theorem jKf_fi {k : Nat} {M : mm_} {f w : Int32} (hk : 135 ≤ k) : jKf_ k M (fiX_ M f w) := fun a i z1 z2 => by
  unfold fiX_
  split
  · exact ⟨by rw [gI_sI, if_neg (by omega), gI_sI, if_neg (by omega)], rfl⟩
  · exact ⟨rfl, rfl⟩
theorem fi_22 {M : mm_} {f w : Int32} : (fiX_ M f w).2 = M.2 := by unfold fiX_; split <;> rfl
/-- the reference's tables but of one job -/
def rfr_ (b : Nat) (M N : mm_) : Prop := ∀ j, j < 8 → N.1 12 j = M.1 12 j ∧ (¬ j = b → jKr_ j M N)
theorem rfr_tr {b : Nat} {M N O : mm_} (h1 : rfr_ b M N) (h2 : rfr_ b N O) : rfr_ b M O := fun j hj => ⟨((h2 j hj).1).trans (h1 j hj).1, fun z => jKr_tr ((h1 j hj).2 z) ((h2 j hj).2 z)⟩
theorem rf_ph {b : Nat} {M N : mm_} (h : ph_ b M N) : rfr_ b M N := fun j hj => ⟨h.1 12 j (by omega) (by omega) (by omega) (by omega) (by omega) (by omega) (by omega) (by omega) (by omega), fun hb => ⟨fun a i z => by
  unfold jcQ_ at z
  exact h.1 a i (by omega) (by omega) (by omega) (by omega) (by omega) (by omega) (by omega) (by omega) (by omega), fun i z1 z2 => h.2.1 3 i (by omega) (by omega) (by omega) (by omega)⟩⟩
theorem rf_pf {b : Nat} {M N : mm_} (h : pf_ M N) : rfr_ b M N := fun j hj => ⟨h.1 12 j (by omega) (by omega) (by omega) (by omega) (by omega) (by omega), fun hb => ⟨fun a i z => by
  unfold jcQ_ at z
  exact h.1 a i (by omega) (by omega) (by omega) (by omega) (by omega) (by omega), fun i z1 z2 => h.2.1 3 i (by omega) (by omega) (by omega)⟩⟩
theorem rf_0 {b : Nat} {M N : mm_} (h1 : ∀ a i, ¬ a = 0 → N.1 a i = M.1 a i) (h2 : ∀ a i, ¬ a = 0 → N.2.1 a i = M.2.1 a i) : rfr_ b M N := fun j hj => ⟨h1 12 j (by omega), fun hb => ⟨fun a i z => by
  unfold jcQ_ at z
  exact h1 a i (by omega), fun i _ _ => h2 3 i (by omega)⟩⟩
theorem fa_o {M : mm_} {f w : Int32} {a i : Nat} (h : ¬ a = 0) : (fa_ M f w).1 a i = M.1 a i := fa_at (fun y => h y.1)
theorem fa_22 {M : mm_} {f w : Int32} : (fa_ M f w).2 = M.2 := by unfold fa_; split <;> rfl
/-- nothing of the jobs has changed -/
theorem cmd_no {J : Nat → Nat} {c b : Nat} {M N1 N2 : mm_} (hJ : ∀ j, j < 8 → J j < 9) (hT : JT_ J c M) (hb : b = 8 ∨ M.1 12 b = 0) (hr : rfr_ b N1 N2) (hX : hX_ M N1) (hR : hR_ N1 N2) (hk : ∀ j, j < 8 → jKf_ (135 + 12 * J j) M N1) : ∀ j, j < 8 → (N2.1 (135 + 12 * J j) 0 = 0 ∧ N2.1 12 j = 0) ∨ (¬ M.1 12 j = 0 ∧ J j = J j ∧ jKx_ (135 + 12 * J j) M N2 ∧ N2.1 (135 + 12 * J j) 9 = M.1 (135 + 12 * J j) 9 ∧ jKr_ j M N2) ∨ (N2.1 (135 + 12 * J j) 0 = N2.1 12 j ∧ (N2.1 12 j = 1 ∨ N2.1 12 j = 2 ∨ N2.1 12 j = 3) ∧ JT1_ J c N2 j ∧ ∀ m, c ≤ m → m < 16 → ¬ btX_ (N2.1 (135 + 12 * J j) 9) (nI m) = 1) := fun j hj => by
  have k2 := jKf_tr (hk j hj) (jKf_hR (by omega) hR)
  by_cases q : M.1 12 j = 0
  · refine Or.inl ⟨?_, ?_⟩
    · rw [(k2 _ 0 (by omega) (by omega)).1, (hT.1 j hj).1, q]
    · rw [(hr j hj).1, hX.1 12 j (by omega), q]
  · exact Or.inr (Or.inl ⟨q, rfl, jKf_x k2, (k2 _ 9 (by omega) (by omega)).1, jKr_tr (jKr_hX hX) ((hr j hj).2 (fun y => by subst y; exact hb.elim (fun y => by omega) q))⟩)
/-- a new job b -/
theorem new_job {J : Nat → Nat} {c b S z : Nat} {M A N1 N2 : mm_} {kd : Int32} {f : Nat → Int32} {s : Nat} (hS : S < 9) (hJ : ∀ i, i < 8 → J i < 9 ∧ ¬ J i = S) (hd : ∀ i j, i < 8 → j < 8 → J i = J j → i = j) (hq : jq_ M J S) (hc : c ≤ 16) (hT : JT_ J c M) (hB : HB_ J c M) (hNK : ∀ m, m < c → NK_ (M.2.1 46 m) (M.2.1 5 m) (M.1 6 m)) (hcz : czX_ (135 + 12 * S) M A) (hN1 : N1 = bgn_ A J S c b) (hb : b < 8) (hX : hX_ M N1) (hR : hR_ N1 N2) (h5 : ∀ m, m < c → N2.2.1 5 m = N1.2.1 5 m) (hr : ∀ j, j < 8 → ¬ j = b → N2.1 12 j = N1.1 12 j ∧ jKr_ j N1 N2) (hk1 : N2.1 12 b = kd) (hk2 : A.1 (135 + 12 * S) 0 = kd) (hk3 : kd = 1 ∨ kd = 2 ∨ kd = 3) (h9 : A.1 (135 + 12 * S) 9 = 0) (hz : z ≤ 12) (h18 : N2.1 18 b = nI z) (h17 : ∀ x, x < z → N2.1 17 (12 * b + x) = f (s + x)) (hpw : A.2.1 (135 + 12 * S) 2 = pwT_ f s z) (hne : ∀ x, x < z → ¬ sgX_ (f (s + x)) = 0)
    (hw : kd = 1 → A.1 (135 + 12 * S) 1 = N2.1 13 b ∧ A.1 (135 + 12 * S) 6 = N2.1 14 b ∧ A.1 (135 + 12 * S) 7 = N2.1 15 b ∧ (∃ a l, N2.1 15 b = nI a ∧ N2.1 14 b = nI l ∧ a < l ∧ l ≤ 99) ∧ (∃ e, XCo_ (135 + 12 * S + 1) e A ∧ RCo_ (16 + 2 * b) e N2) ∧ ((A.1 (135 + 12 * S) 5 = 0 ∧ N2.1 16 b = 0) ∨ (¬ A.1 (135 + 12 * S) 5 = 0 ∧ ¬ N2.1 16 b = 0 ∧ ∃ e, XCo_ (135 + 12 * S + 6) e A ∧ RCo_ (17 + 2 * b) e N2)))
    (hm : kd = 2 → ∀ i, i < 48 → A.1 (135 + 12 * S + 11) i = N2.1 20 (48 * b + i)) : ∃ J2 S2, jq_ N2 J2 S2 ∧ jdX_ J2 S2 ∧ JT_ J2 c N2 ∧ HB_ J2 c N2 := by
  have b1 : ∀ a i, ¬ (a = 135 + 12 * S ∧ i = 9) → N1.1 a i = A.1 a i := fun a i h => by rw [hN1]; unfold bgn_; rw [me_o c 0 _ a i h]; rfl
  have b2 : ∀ a i, N1.2.1 a i = A.2.1 a i := fun a i => by rw [hN1]; unfold bgn_; rw [me_2]; rfl
  have b3 : ∀ a i, N1.2.2 a i = if a = 134 ∧ i = b then some (135 + 12 * S) else if a = 133 ∧ i = 1 then some (135 + 12 * J b) else A.2.2 a i := fun a i => by rw [hN1]; unfold bgn_; rw [me_2]; rfl
  let J2 : Nat → Nat := fun x => if x = b then S else J x
  have jb : J2 b = S := if_pos rfl
  have jo : ∀ j, ¬ j = b → J2 j = J j := fun j h => if_neg h
  -- the new row, from A to N2
  have xk : jKx_ (135 + 12 * S) A N2 := jKx_tr ⟨fun a i z1 z2 z3 => b1 a i z3, fun a i _ _ => b2 a i⟩ (jKx_hR (by omega) hR)
  have x1 : ∀ i, ¬ i = 9 → N2.1 (135 + 12 * S) i = A.1 (135 + 12 * S) i := fun i hi => xk.1 _ i (by omega) (by omega) (by omega)
  have xc : ∀ e q, (q = 1 ∨ q = 6) → XCo_ (135 + 12 * S + q) e A → XCo_ (135 + 12 * S + q) e N2 := fun e q hq g => ⟨g.1, g.2.1, g.2.2.1, hd_cg (fun a i z1 z2 => xk.1 a i (by omega) (by omega) (by omega)) (fun i => xk.2 _ i (by omega) (by omega)) g.2.2.2.1, g.2.2.2.2⟩
  have pw : pwT_ (pa_ N2 b) 0 z = pwT_ f s z := pw_cg z (fun x hx => by rw [Nat.zero_add]; exact h17 x hx)
  have ne : ∀ x, x < z → ¬ sgX_ (pa_ N2 b x) = 0 := fun x hx => by
    have : pa_ N2 b x = f (s + x) := h17 x hx
    rw [this]; exact hne x hx
  have bits : ∀ m, m < 16 → (btX_ (N2.1 (135 + 12 * S) 9) (nI m) = 1 ↔ (m < c ∧ ¬ ftX_ (pwT_ f s z) (M.2.1 46 m) = 0)) := fun m hm => by
    rw [hR.2.2.1 _ 9 (by omega), hN1]
    unfold bgn_
    rw [me_bits hm c 0 _ (by omega), gI_sR, gI_sR, h9, gL_sR, gL_sR, hpw]
    constructor
    · rintro (h | ⟨-, h1, h2⟩)
      · exact absurd h (bt_z hm)
      · have e : kf_ (sR_ (sR_ A 133 1 (some (135 + 12 * J b))) 134 b (some (135 + 12 * S))) c (nI m) = M.2.1 46 m := by
          unfold kf_
          rw [if_pos ⟨Int32.not_lt.mp (nI_n0 m (by omega)), nI_lt (by omega) (by omega)⟩, nI_clamp (by omega), gL_sR, gL_sR]
          exact hcz.2.2 46 m (by omega) (by omega) (by omega)
        rw [e] at h2
        exact ⟨by omega, h2⟩
    · rintro ⟨h1, h2⟩
      have e : kf_ (sR_ (sR_ A 133 1 (some (135 + 12 * J b))) 134 b (some (135 + 12 * S))) c (nI m) = M.2.1 46 m := by
        unfold kf_
        rw [if_pos ⟨Int32.not_lt.mp (nI_n0 m (by omega)), nI_lt (by omega) (by omega)⟩, nI_clamp (by omega), gL_sR, gL_sR]
        exact hcz.2.2 46 m (by omega) (by omega) (by omega)
      rw [e]
      exact Or.inr ⟨by omega, by omega, h2⟩
  have e5 : ∀ m, m < c → N2.2.1 5 m = M.2.1 5 m := fun m hm => (h5 m hm).trans (hX.2 5 m (by omega))
  refine ⟨J2, J b, ⟨fun i hi => ?_, (hJ b hb).1, ?_⟩, ⟨fun i hi => ?_, fun i j hi hj e => ?_⟩, JT_sub hT hB (fun m hm => ⟨_, _, hNK m hm⟩) e5 (fun j hj => ?_)⟩
  · by_cases e : i = b
    · subst e
      rw [jb, hR.1, b3, if_pos ⟨rfl, rfl⟩]
      exact ⟨hS, rfl⟩
    · rw [jo i e, hR.1, b3, if_neg (by omega), if_neg (by omega), hcz.1 134 i (by omega)]
      exact ⟨(hJ i hi).1, (hq.1 i hi).2⟩
  · rw [hR.1, b3, if_neg (by omega), if_pos ⟨rfl, rfl⟩]
  · by_cases e : i = b
    · subst e; rw [jb]; exact fun y => (hJ i hi).2 y.symm
    · rw [jo i e]; exact fun y => e (hd i b hi hb y)
  · by_cases e1 : i = b
    · by_cases e2 : j = b
      · omega
      · subst e1; rw [jb, jo j e2] at e; exact absurd e.symm (hJ j hj).2
    · by_cases e2 : j = b
      · subst e2; rw [jb, jo i e1] at e; exact absurd e (hJ i hi).2
      · rw [jo i e1, jo j e2] at e; exact hd i j hi hj e
  · by_cases e : j = b
    · subst e
      refine Or.inr (Or.inr ?_)
      rw [jb, hk1, x1 0 (by omega), hk2]
      refine ⟨rfl, hk3, ?_, fun m h1 h2 y => by have := (bits m h2).mp y; omega⟩
      unfold JT1_
      rw [jb, hk1, x1 1 (by omega), x1 6 (by omega), x1 7 (by omega), x1 5 (by omega)]
      refine ⟨z, hz, h18, by rw [xk.2 _ 2 (by omega) (by omega), pw]; exact hpw, ne, fun m hm => ?_, fun h1 => ?_, fun h2 i hi => ?_⟩
      · rw [bits m (by omega), e5 m hm, ft_key hz ne (hNK m hm), pw]
        exact ⟨fun y => y.2, fun y => ⟨hm, y⟩⟩
      · obtain ⟨w1, w2, w3, w4, ⟨e, w5, w6⟩, w7⟩ := hw h1
        refine ⟨w1, w2, w3, w4, ⟨e, xc e 1 (by omega) w5, w6⟩, ?_⟩
        rcases w7 with w7 | ⟨w8, w9, e2, w10, w11⟩
        · exact Or.inl w7
        · exact Or.inr ⟨w8, w9, e2, xc e2 6 (by omega) w10, w11⟩
      · rw [xk.1 _ i (by omega) (by omega) (by omega)]
        exact hm h2 i hi
    · have hJj := hJ j hj
      have k2 : jKf_ (135 + 12 * J j) M N2 := jKf_tr (jKf_cz (by omega) hcz (by omega)) (jKf_tr (fun a i z1 z2 => ⟨b1 a i (by omega), b2 a i⟩) (jKf_hR (by omega) hR))
      obtain ⟨r1, r2⟩ := hr j hj e
      rw [jo j e]
      by_cases q : M.1 12 j = 0
      · refine Or.inl ⟨?_, ?_⟩
        · rw [(k2 _ 0 (by omega) (by omega)).1, (hT.1 j hj).1, q]
        · rw [r1, hX.1 12 j (by omega), q]
      · exact Or.inr (Or.inl ⟨q, rfl, jKf_x k2, (k2 _ 9 (by omega) (by omega)).1, jKr_tr (jKr_hX hX) r2⟩)
/-- the reference's new job -/
theorem nj_17 {M : mm_} {b z : Nat} {kd : Int32} {x : Nat} (hx : x < z) (hz : z ≤ 12) : (nj_ M b z kd).1 17 (12 * b + x) = M.1 19 x := by
  have pj : ∀ (R : mm_) j, x < j → (pj_ R b j).1 17 (12 * b + x) = R.1 19 x := by
    intro R j
    induction j with
    | zero => intro h; omega
    | succ j ih =>
      intro h
      rw [pj_, gI_sI]
      by_cases e : x = j
      · subst e; rw [if_pos ⟨rfl, rfl⟩]
      · rw [if_neg (by omega)]; exact ih (by omega)
  unfold nj_
  rw [zj_I _ _ _ (by omega), pj _ _ hx, gI_sI, if_neg (by omega), gI_sI, if_neg (by omega), gI_sI, if_neg (by omega), gI_sI, if_neg (by omega), gI_sI, if_neg (by omega)]
theorem nj_20 {M : mm_} {b z : Nat} {kd : Int32} {i : Nat} (hi : i < 48) : (nj_ M b z kd).1 20 (48 * b + i) = 0 := by
  have zj : ∀ (R : mm_) j, i < j → (zj_ R b j).1 20 (48 * b + i) = 0 := by
    intro R j
    induction j with
    | zero => intro h; omega
    | succ j ih =>
      intro h
      rw [zj_, gI_sI]
      by_cases e : i = j
      · subst e; rw [if_pos ⟨rfl, rfl⟩]
      · rw [if_neg (by omega)]; exact ih (by omega)
  unfold nj_
  exact zj _ 48 hi
theorem pj_17 {M : mm_} {b x : Nat} : ∀ j, ¬ (12 * b ≤ x ∧ x < 12 * b + j) → (pj_ M b j).1 17 x = M.1 17 x
  | 0, _ => rfl
  | j + 1, h => by rw [pj_, gI_sI, if_neg (by omega), pj_17 j (by omega)]
theorem zj_20 {M : mm_} {b x : Nat} : ∀ j, ¬ (48 * b ≤ x ∧ x < 48 * b + j) → (zj_ M b j).1 20 x = M.1 20 x
  | 0, _ => rfl
  | j + 1, h => by rw [zj_, gI_sI, if_neg (by omega), zj_20 j (by omega)]
theorem nj_15 {M : mm_} {b z : Nat} {kd : Int32} : (nj_ M b z kd).1 15 b = 0 := by
  unfold nj_
  rw [zj_I _ _ _ (by omega), pj_I _ _ _ (by omega), gI_sI, if_neg (by omega), gI_sI, if_neg (by omega), gI_sI, if_neg (by omega), gI_sI, if_pos ⟨rfl, rfl⟩]
theorem nj_Kr {M : mm_} {b z j : Nat} {kd : Int32} (hz : z ≤ 12) (hj : ¬ j = b) : (nj_ M b z kd).1 12 j = M.1 12 j ∧ jKr_ j M (nj_ M b z kd) := by
  refine ⟨nj_o (by omega) (by omega) (by omega), fun a i h => ?_, fun i _ _ => by rw [nj_R2]⟩
  unfold jcQ_ at h
  by_cases h17 : a = 17
  · subst h17
    unfold nj_
    rw [zj_I _ _ _ (by omega), pj_17 _ (by omega), gI_sI, if_neg (by omega), gI_sI, if_neg (by omega), gI_sI, if_neg (by omega), gI_sI, if_neg (by omega), gI_sI, if_neg (by omega)]
  · by_cases h20 : a = 20
    · subst h20
      unfold nj_
      rw [zj_20 _ (by omega), pj_I _ _ _ (by omega), gI_sI, if_neg (by omega), gI_sI, if_neg (by omega), gI_sI, if_neg (by omega), gI_sI, if_neg (by omega), gI_sI, if_neg (by omega)]
    · exact nj_o h20 h17 (by omega)

end
