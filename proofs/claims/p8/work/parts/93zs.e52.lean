/-! the class's counted, exactly -/
/-- job j is a monitor, and m a method -/
def cnB_ (J : Nat → Nat) (c : Nat) (M : mm_) (j m : Int32) : Prop := ∃ i m2, i < 8 ∧ j = nI i ∧ m2 < c ∧ m = nI m2 ∧ M.1 (135 + 12 * J i) 0 = 2
theorem cnB_k {J : Nat → Nat} {c i : Nat} {M : mm_} {m : Int32} (hi : i < 8) (h : cnB_ J c M (nI i) m) : M.1 (135 + 12 * J i) 0 = 2 := by
  obtain ⟨i2, m2, h1, h2, h3, h4, h5⟩ := h
  obtain rfl : i = i2 := (nI_eq (by omega) (by omega)).mp h2
  exact h5
theorem cnB_m {J : Nat → Nat} {c : Nat} {M : mm_} {j m : Int32} (hc : c ≤ 16) (h : cnB_ J c M j m) : ¬ mH_ c m = 0 := by
  obtain ⟨i2, m2, h1, h2, h3, rfl, h5⟩ := h
  unfold mH_
  rw [if_pos ⟨nI_le (a := 0) (b := m2) (by omega) (by omega), nI_lt (a := m2) (b := c) h3 (by omega)⟩]
  decide
theorem has0 {J : Nat → Nat} {i : Nat} {M : mm_} (h : jH_ M J i = 0) (z : M.1 (135 + 12 * J i) 0 = 2) : False := by
  unfold jH_ at h
  rw [z] at h
  exact absurd h (by decide)
theorem cnB_j {J : Nat → Nat} {c : Nat} {M : mm_} {j m : Int32} (hj : j < 0 ∨ 8 ≤ j) : ¬ cnB_ J c M j m := by
  rintro ⟨i2, m2, h1, rfl, -⟩
  rcases hj with y | y
  · exact absurd ((nI_ltI (a := i2) (b := 0) (by omega) (by decide)).mp y) (by omega)
  · exact absurd ((nI_leI (a := 8) (b := i2) (by decide) (by omega)).mp y) (by omega)
set_option maxRecDepth 100000 in
set_option maxHeartbeats 600000 in
theorem c11_countedE (G : gg_) (hG : gd_ G) (d : Nat) (M : mm_) (J : Nat → Nat) (S : Nat) (hq : jq_ M J S) (c : Nat) (hc : mt_ M c) (j m w : Int32) : cmx_ G yX11_counted cX11_counted 4 (some .int) (d + 6) [.ref (G.1 34), .int j, .int m, .int w] M (rI_ (fun r N => N = M ∧ ∃ i m2 w2, i < 8 ∧ j = nI i ∧ m2 < c ∧ m = nI m2 ∧ w2 < 3 ∧ w = nI w2 ∧ M.1 (135 + 12 * J i) 0 = 2 ∧ r = M.1 (135 + 12 * J i + 11) (m2 * 3 + w2))) (fun E => (E = "java/lang/IndexOutOfBoundsException" ∧ ¬ cnB_ J c M j m) ∨ (E = "java/lang/IllegalArgumentException" ∧ cnB_ J c M j m ∧ (w < 0 ∨ 3 ≤ w))) := by
  refine cmx_of hG (by decide) (Nat.le_of_ble_eq_true rfl) (fun C X Z => ?_)
  by_cases hj : 0 ≤ j ∧ j < 8
  · obtain ⟨i, hi, ei⟩ := ix_ (x := j) (n := 8) (by decide) (Int32.not_lt.mpr hj.1) (Int32.not_le.mpr hj.2)
    subst ei
    refine w_aload_n X dX11_counted_0 rfl rfl ?_
    refine g11_44 X dX11_counted_1 s_34 rfl ?_
    refine w_iload_n X dX11_counted_4 rfl rfl ?_
    refine w_v1fI X dX11_counted_5 k11_179 rfl s_133 (c3_has G hG _ _ J S hq i hi) (Nat.le_of_ble_eq_true rfl) ?_
    refine w_if_eq (tgt := 37) X dX11_counted_8 (by decide) (fun h8 => ?_) (fun h8 => ?_)
    · exact w_throwI X Z (by omega) dX11_counted_37 dX11_counted_40 dX11_counted_41 dX11_counted_44 (Or.inl ⟨rfl, fun y => absurd (cnB_k hi y) (fun z => has0 h8 z)⟩)
    · refine w_aload_n X dX11_counted_11 rfl rfl ?_
      refine g11_44 X dX11_counted_12 s_34 rfl ?_
      refine w_iload_n X dX11_counted_15 rfl rfl ?_
      refine w_v1fR X dX11_counted_16 k11_167 rfl s_133 (c3_at G hG _ _ J S hq i hi) (Nat.le_of_ble_eq_true rfl) ?_
      refine g11_171 X dX11_counted_19 (jq_jd hq hi).1 rfl ?_
      refine w_iconst (v := 2) X dX11_counted_22 (by decide) ?_
      refine w_icmp_ne (tgt := 37) X dX11_counted_23 (by decide) (fun h23 => ?_) (fun h23 => ?_)
      · exact w_throwI X Z (by omega) dX11_counted_37 dX11_counted_40 dX11_counted_41 dX11_counted_44 (Or.inl ⟨rfl, fun y => h23 (cnB_k hi y)⟩)
      · refine w_aload_n X dX11_counted_26 rfl rfl ?_
        refine g11_37 X dX11_counted_27 s_34 rfl ?_
        refine w_iload_n X dX11_counted_30 rfl rfl ?_
        refine w_v1fI X dX11_counted_31 k11_135 rfl s_45 (c5_has G hG _ _ c hc _) (Nat.le_of_ble_eq_true rfl) ?_
        refine w_if_ne (tgt := 45) X dX11_counted_34 (by decide) (fun h34 => ?_) (fun h34 => ?_)
        · obtain ⟨m2, hm2, em⟩ := ix_ (n := c) (by have := hc.1; omega) (Int32.not_lt.mpr (mH_1 h34).1) (Int32.not_le.mpr (mH_1 h34).2)
          have hin : cnB_ J c M (nI i) m := ⟨i, m2, hi, rfl, hm2, em, h23⟩
          refine w_iload_n X dX11_counted_45 rfl rfl ?_
          refine w_if_lt (tgt := 54) X dX11_counted_46 (by decide) (fun h46 => ?_) (fun h46 => ?_)
          · exact w_throwA X Z (by omega) dX11_counted_54 dX11_counted_57 dX11_counted_58 dX11_counted_61 (Or.inr ⟨rfl, hin, Or.inl h46⟩)
          · refine w_iload_n X dX11_counted_49 rfl rfl ?_
            refine w_iconst (v := 3) X dX11_counted_50 (by decide) ?_
            refine w_icmp_lt (tgt := 62) X dX11_counted_51 (by decide) (fun h51 => ?_) (fun h51 => ?_)
            · obtain ⟨w2, hw2, ew⟩ := ix_ (n := 3) (by decide) h46 (Int32.not_le.mpr h51)
              refine w_aload_n X dX11_counted_62 rfl rfl ?_
              refine g11_44 X dX11_counted_63 s_34 rfl ?_
              refine w_iload_n X dX11_counted_66 rfl rfl ?_
              refine w_v1fR X dX11_counted_67 k11_167 rfl s_133 (c3_at G hG _ _ J S hq i hi) (Nat.le_of_ble_eq_true rfl) ?_
              refine g11_180 X dX11_counted_70 (jq_jd hq hi).1 rfl ?_
              refine w_iload_n X dX11_counted_73 rfl rfl ?_
              refine w_iconst (v := 3) X dX11_counted_74 (by decide) ?_
              refine w_imul X dX11_counted_75 ?_
              refine w_iload_n X dX11_counted_76 rfl rfl ?_
              refine w_iadd X dX11_counted_77 ?_
              rw [em, ew, nI_mp]
              refine w_ialoadN X dX11_counted_78 (jq_jd hq hi).2.1 rfl (⟨by have := hc.1; omega, by decide⟩) ?_
              exact w_irX X Z dX11_counted_79 ⟨_, rfl, rfl, i, m2, w2, hi, rfl, hm2, rfl, hw2, rfl, h23, rfl⟩
            · exact w_throwA X Z (by omega) dX11_counted_54 dX11_counted_57 dX11_counted_58 dX11_counted_61 (Or.inr ⟨rfl, hin, Or.inr (Int32.not_lt.mp h51)⟩)
        · exact w_throwI X Z (by omega) dX11_counted_37 dX11_counted_40 dX11_counted_41 dX11_counted_44 (Or.inl ⟨rfl, fun y => cnB_m hc.1 y h34⟩)
  · have hj2 : j < 0 ∨ 8 ≤ j := by
      by_cases z : j < 0
      · exact Or.inl z
      · exact Or.inr (Int32.not_lt.mp (fun y => hj ⟨Int32.not_lt.mp z, y⟩))
    refine w_aload_n X dX11_counted_0 rfl rfl ?_
    refine g11_44 X dX11_counted_1 s_34 rfl ?_
    refine w_iload_n X dX11_counted_4 rfl rfl ?_
    refine w_v1fI X dX11_counted_5 k11_179 rfl s_133 (c3_hasO G hG _ _ J S hq _ hj2) (Nat.le_of_ble_eq_true rfl) ?_
    refine w_if_eq (tgt := 37) X dX11_counted_8 (by decide) (fun h8 => ?_) (fun h8 => absurd (rfl) h8)
    exact w_throwI X Z (by omega) dX11_counted_37 dX11_counted_40 dX11_counted_41 dX11_counted_44 (Or.inl ⟨rfl, cnB_j hj2⟩)
