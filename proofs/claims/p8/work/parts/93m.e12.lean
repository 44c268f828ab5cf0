/-! Machine: invokeNamed, exactly -/
theorem pp_pos {M : mm_} {h : Nat} (hp : 0 < h) : ppX_ M h = (M.1 261 (h - 1), sI_ M 247 8 (nI (h - 1))) := by unfold ppX_; rw [if_neg (by omega)]
theorem c4_popE (G : gg_) (hG : gd_ G) (d : Nat) (M : mm_) (h : Nat) (hh : M.1 247 8 = nI h) (h2 : h ≤ 220) (h1 : 1 ≤ h) : cm_ G yX4_pop cX4_pop 1 (some .int) d [.ref (G.1 247)] M (rI_ (fun v N => v = M.1 261 (h - 1) ∧ N = sI_ M 247 8 (nI (h - 1)))) := by
  refine cm_post (c4_pop G hG d M h hh h2) (fun v N z => ?_)
  rw [pp_pos (by omega)] at z
  exact ⟨_, z.1, rfl, z.2⟩
/-- of the j arguments g are taken into the row R, whose places from q on are set -/
def IS_ (M : mm_) (h j R g q : Nat) (N : mm_) : Prop := N.2 = M.2 ∧ N.1 247 8 = nI (h - g) ∧ (∀ a i, ¬ (a = 247 ∧ i = 8) → ¬ (a = R ∧ i < 3) → N.1 a i = M.1 a i) ∧ ∀ i, q ≤ i → i < 3 → N.1 R i = if i < j then M.1 261 (h - j + i) else 0
theorem IS_rf {M : mm_} {h j R : Nat} (hh : M.1 247 8 = nI h) : IS_ M h j R 0 3 M := ⟨rfl, hh, fun _ _ _ _ => rfl, fun i h1 h2 => by omega⟩
theorem IS_z {M N : mm_} {h j R g q : Nat} (hR : 249 ≤ R ∧ R ≤ 260) (hq : q < 3) (hj : j ≤ q) (a : IS_ M h j R g (q + 1) N) : IS_ M h j R g q (sI_ N R q 0) := by
  obtain ⟨a1, a2, a3, a4⟩ := a
  refine ⟨a1, by rw [gI_sI, if_neg (by omega)]; exact a2, fun b i z1 z2 => by rw [gI_sI, if_neg (by omega)]; exact a3 b i z1 z2, fun i h1 h2 => ?_⟩
  by_cases e : i = q
  · rw [gI_sI, if_pos ⟨rfl, e⟩, if_neg (by omega)]
  · rw [gI_sI, if_neg (fun z => e z.2)]; exact a4 i (by omega) h2
theorem IS_p {M N N2 : mm_} {h j R g q : Nat} {v : Int32} (hR : 249 ≤ R ∧ R ≤ 260) (hq : q < 3) (hj : q + 1 + g = j) (hh : j ≤ h) (a : IS_ M h j R g (q + 1) N) (z : v = N.1 261 (h - g - 1) ∧ N2 = sI_ N 247 8 (nI (h - g - 1))) : IS_ M h j R (g + 1) q (sI_ N2 R q v) := by
  obtain ⟨a1, a2, a3, a4⟩ := a
  obtain ⟨e1, rfl⟩ := z
  refine ⟨a1, by rw [gI_sI, if_neg (by omega), gI_sI, if_pos ⟨rfl, rfl⟩]; congr 1, fun b i z1 z2 => by rw [gI_sI, if_neg (by omega), gI_sI, if_neg (by omega)]; exact a3 b i z1 z2, fun i h1 h2 => ?_⟩
  by_cases e : i = q
  · rw [gI_sI, if_pos ⟨rfl, e⟩, if_pos (by omega), e1, a3 _ _ (by omega) (by omega), show h - g - 1 = h - j + i by omega]
  · rw [gI_sI, if_neg (fun z => e z.2), gI_sI, if_neg (by omega)]; exact a4 i (by omega) h2
def IA_ (M : mm_) (h j r : Nat) (N : mm_) : Prop := IS_ M h j (249 + (r + 1)) j 0 N
set_option maxRecDepth 100000 in
set_option maxHeartbeats 800000 in
theorem c4_invokeNamedE (G : gg_) (hG : gd_ G) (d c r : Nat) (hr : r ≤ 10) (M : mm_) (hc : mt_ M c) (hV : vq_ M) (key : Int64) (j : Nat) (hj : poX_ key = nI j) (hj3 : j ≤ 3) (h : Nat) (hh : M.1 247 8 = nI h) (hjh : j ≤ h) (hh2 : h ≤ 220) (QN : mm_ → Prop) (h1 : ∀ N, IA_ M h j r N → fd1_ N c key c 0 = -1 → QN (flX_ N (-4))) (h2 : ∀ N m, IA_ M h j r N → m < c → fd1_ N c key c 0 = nI m → ∃ QI : Int32 → mm_ → Prop, cm_ G yX4_invoke cX4_invoke 6 (some .int) d [.ref (G.1 247), .int (nI m), .int (nI (r + 1))] N (rI_ QI) ∧ ∀ v N1, QI v N1 → (∃ g, g ≤ 220 ∧ N1.1 247 8 = nI g ∧ (N1.1 247 10 = 0 → QN (puX_ N1 g v))) ∧ (¬ N1.1 247 10 = 0 → QN (sI_ N1 247 11 v))) : cm_ G yX4_invokeNamed cX4_invokeNamed 8 none (d + 1) [.ref (G.1 247), .long key, .int (nI (r + 1))] M (rV_ QN) := by
  refine cm_of hG (by decide) (Nat.le_of_ble_eq_true rfl) (fun C X => ?_)
  have t53 : ∀ (a0 a1 a2 a3 a4 : Option Value) (N : mm_), IA_ M h j r N → wq_ C G (qe_ C G (rV_ QN)) 53 [some (.ref (G.1 247)), some (.long key), a0, some (.int (nI (r + 1))), a1, a2, a3, a4] [] N := by
    intro a0 a1 a2 a3 a4 N hP
    have hcN : mt_ N c := ⟨hc.1, by rw [hP.2.2.1 45 2 (by omega) (by omega)]; exact hc.2⟩
    refine w_aload_n X dX4_invokeNamed_53 rfl rfl ?_
    refine g4_9 X dX4_invokeNamed_54 s_247 rfl ?_
    refine w_lload_n X dX4_invokeNamed_57 rfl rfl ?_
    refine w_v1fI X dX4_invokeNamed_58 k4_136 rfl s_45 (c5_find G hG _ _ c hcN _) (Nat.le_of_ble_eq_true rfl) ?_
    refine w_istore X dX4_invokeNamed_61 (by decide) ?_
    rcases fd1_in (M := N) (c := c) (y := key) c 0 with hf | ⟨m, hm, hf⟩
    · refine w_iload X dX4_invokeNamed_63 rfl ?_
      refine w_iconst (v := -1) X dX4_invokeNamed_65 (by decide) ?_
      rw [hf]
      refine w_icmp_ne (tgt := 76) X dX4_invokeNamed_66 (by decide) (fun h66 => absurd rfl h66) (fun h66 => ?_)
      refine w_aload_n X dX4_invokeNamed_69 rfl rfl ?_
      refine w_bipush (v := -4) X dX4_invokeNamed_70 (by decide) ?_
      refine w_v1fV X dX4_invokeNamed_72 k4_108 rfl s_247 (c4_fail G hG _ _ _) (Nat.le_of_ble_eq_true rfl) ?_
      exact w_vrR X dX4_invokeNamed_75 (h1 N hP hf)
    · refine w_iload X dX4_invokeNamed_63 rfl ?_
      refine w_iconst (v := -1) X dX4_invokeNamed_65 (by decide) ?_
      rw [hf]
      refine w_icmp_ne (tgt := 76) X dX4_invokeNamed_66 (by decide) (fun h66 => ?_) (fun h66 => absurd h66 (nI_ne1 m (by have := hc.1; omega)))
      obtain ⟨QI, hI1, hI2⟩ := h2 N m hP (by omega) hf
      refine w_aload_n X dX4_invokeNamed_76 rfl rfl ?_
      refine w_iload X dX4_invokeNamed_77 rfl ?_
      refine w_iload_n X dX4_invokeNamed_79 rfl rfl ?_
      refine w_v2rI X dX4_invokeNamed_80 k4_51 rfl s_247 (hI1) (Nat.le_of_ble_eq_true rfl) (fun r80 N80 h80 => ?_)
      refine w_istore X dX4_invokeNamed_83 (by decide) ?_
      refine w_aload_n X dX4_invokeNamed_85 rfl rfl ?_
      refine g4_58 X dX4_invokeNamed_86 s_247 rfl ?_
      refine w_if_eq (tgt := 101) X dX4_invokeNamed_89 (by decide) (fun h89 => ?_) (fun h89 => ?_)
      · obtain ⟨⟨g, hg1, hg2, hg3⟩, -⟩ := hI2 _ _ h80
        refine w_aload_n X dX4_invokeNamed_101 rfl rfl ?_
        refine w_iload X dX4_invokeNamed_102 rfl ?_
        refine w_v1fV X dX4_invokeNamed_104 k4_102 rfl s_247 (c4_push G hG _ _ g hg2 hg1 _) (Nat.le_of_ble_eq_true rfl) ?_
        exact w_vrR X dX4_invokeNamed_107 (hg3 h89)
      · refine w_aload_n X dX4_invokeNamed_92 rfl rfl ?_
        refine w_iload X dX4_invokeNamed_93 rfl ?_
        refine p4_88 X dX4_invokeNamed_95 s_247 rfl ?_
        refine w_goto (tgt := 107) X dX4_invokeNamed_98 (by decide) ?_
        exact w_vrR X dX4_invokeNamed_107 ((hI2 _ _ h80).2 h89)
  have hmin : (if (11 : Int32) < nI (r + 1) then 11 else nI (r + 1)) = nI (r + 1) := if_neg (fun z => absurd z (Int32.not_lt.mpr (nI_le (a := r + 1) (b := 11) (by omega) (by decide))))
  refine w_aload_n X dX4_invokeNamed_0 rfl rfl ?_
  refine g4_28 X dX4_invokeNamed_1 s_247 rfl ?_
  refine w_iload_n X dX4_invokeNamed_4 rfl rfl ?_
  refine w_bipush (v := 11) X dX4_invokeNamed_5 (by decide) ?_
  refine w_minI X dX4_invokeNamed_7 mw4_125 (Nat.le_of_ble_eq_true rfl) ?_
  rw [hmin]
  refine w_aaload X dX4_invokeNamed_10 s_248 rfl rfl (⟨by omega, by decide⟩) (hV (r + 1) (by omega)) ?_
  refine w_astore X dX4_invokeNamed_11 (by decide) ?_
  refine w_lload_n X dX4_invokeNamed_13 rfl rfl ?_
  refine w_s1fI X dX4_invokeNamed_14 k4_130 (c6_parametersOf G hG _ _ _) (Nat.le_of_ble_eq_true rfl) ?_
  rw [hj]
  refine w_istore X dX4_invokeNamed_17 (by decide) ?_
  obtain rfl | rfl | rfl | rfl : j = 0 ∨ j = 1 ∨ j = 2 ∨ j = 3 := by omega
  · refine w_iconst (v := 2) X dX4_invokeNamed_19 (by decide) ?_
    refine w_istore X dX4_invokeNamed_20 (by decide) ?_
    refine w_iload X dX4_invokeNamed_22 rfl ?_
    refine w_if_lt (tgt := 53) X dX4_invokeNamed_24 (by decide) (fun h24 => absurd h24 (by decide)) (fun h24 => ?_)
    refine w_aload X dX4_invokeNamed_27 rfl ?_
    refine w_iload X dX4_invokeNamed_29 rfl ?_
    refine w_iload X dX4_invokeNamed_31 rfl ?_
    refine w_iload X dX4_invokeNamed_33 rfl ?_
    refine w_icmp_ge (tgt := 45) X dX4_invokeNamed_35 (by decide) (fun h35 => ?_) (fun h35 => absurd (by decide) h35)
    refine w_iconst (v := 0) X dX4_invokeNamed_45 (by decide) ?_
    refine w_iastoreN X dX4_invokeNamed_46 (vr_row _ (by omega)) rfl (⟨by decide, by decide⟩) ?_
    refine w_iinc (v := -1) X dX4_invokeNamed_47 rfl (by decide) (by decide) ?_
    refine w_goto (tgt := 22) X dX4_invokeNamed_50 (by decide) ?_
    refine w_iload X dX4_invokeNamed_22 rfl ?_
    refine w_if_lt (tgt := 53) X dX4_invokeNamed_24 (by decide) (fun h24 => absurd h24 (by decide)) (fun h24 => ?_)
    refine w_aload X dX4_invokeNamed_27 rfl ?_
    refine w_iload X dX4_invokeNamed_29 rfl ?_
    refine w_iload X dX4_invokeNamed_31 rfl ?_
    refine w_iload X dX4_invokeNamed_33 rfl ?_
    refine w_icmp_ge (tgt := 45) X dX4_invokeNamed_35 (by decide) (fun h35 => ?_) (fun h35 => absurd (by decide) h35)
    refine w_iconst (v := 0) X dX4_invokeNamed_45 (by decide) ?_
    rw [show (2 : Int32) + -1 = nI 1 from rfl]
    refine w_iastoreN X dX4_invokeNamed_46 (vr_row _ (by omega)) rfl (⟨by decide, by decide⟩) ?_
    refine w_iinc (v := -1) X dX4_invokeNamed_47 rfl (by decide) (by decide) ?_
    refine w_goto (tgt := 22) X dX4_invokeNamed_50 (by decide) ?_
    refine w_iload X dX4_invokeNamed_22 rfl ?_
    refine w_if_lt (tgt := 53) X dX4_invokeNamed_24 (by decide) (fun h24 => absurd h24 (by decide)) (fun h24 => ?_)
    refine w_aload X dX4_invokeNamed_27 rfl ?_
    refine w_iload X dX4_invokeNamed_29 rfl ?_
    refine w_iload X dX4_invokeNamed_31 rfl ?_
    refine w_iload X dX4_invokeNamed_33 rfl ?_
    refine w_icmp_ge (tgt := 45) X dX4_invokeNamed_35 (by decide) (fun h35 => ?_) (fun h35 => absurd (by decide) h35)
    refine w_iconst (v := 0) X dX4_invokeNamed_45 (by decide) ?_
    rw [show nI 1 + -1 = nI 0 from rfl]
    refine w_iastoreN X dX4_invokeNamed_46 (vr_row _ (by omega)) rfl (⟨by decide, by decide⟩) ?_
    refine w_iinc (v := -1) X dX4_invokeNamed_47 rfl (by decide) (by decide) ?_
    refine w_goto (tgt := 22) X dX4_invokeNamed_50 (by decide) ?_
    refine w_iload X dX4_invokeNamed_22 rfl ?_
    refine w_if_lt (tgt := 53) X dX4_invokeNamed_24 (by decide) (fun h24 => ?_) (fun h24 => absurd (by decide) h24)
    exact t53 _ _ _ _ _ _ (IS_z (q := 0) (by omega) (by omega) (by omega) (IS_z (q := 1) (by omega) (by omega) (by omega) (IS_z (q := 2) (by omega) (by omega) (by omega) (IS_rf (j := 0) (R := 249 + (r + 1)) hh))))
  · refine w_iconst (v := 2) X dX4_invokeNamed_19 (by decide) ?_
    refine w_istore X dX4_invokeNamed_20 (by decide) ?_
    refine w_iload X dX4_invokeNamed_22 rfl ?_
    refine w_if_lt (tgt := 53) X dX4_invokeNamed_24 (by decide) (fun h24 => absurd h24 (by decide)) (fun h24 => ?_)
    refine w_aload X dX4_invokeNamed_27 rfl ?_
    refine w_iload X dX4_invokeNamed_29 rfl ?_
    refine w_iload X dX4_invokeNamed_31 rfl ?_
    refine w_iload X dX4_invokeNamed_33 rfl ?_
    refine w_icmp_ge (tgt := 45) X dX4_invokeNamed_35 (by decide) (fun h35 => ?_) (fun h35 => absurd (by decide) h35)
    refine w_iconst (v := 0) X dX4_invokeNamed_45 (by decide) ?_
    refine w_iastoreN X dX4_invokeNamed_46 (vr_row _ (by omega)) rfl (⟨by decide, by decide⟩) ?_
    refine w_iinc (v := -1) X dX4_invokeNamed_47 rfl (by decide) (by decide) ?_
    refine w_goto (tgt := 22) X dX4_invokeNamed_50 (by decide) ?_
    refine w_iload X dX4_invokeNamed_22 rfl ?_
    refine w_if_lt (tgt := 53) X dX4_invokeNamed_24 (by decide) (fun h24 => absurd h24 (by decide)) (fun h24 => ?_)
    refine w_aload X dX4_invokeNamed_27 rfl ?_
    refine w_iload X dX4_invokeNamed_29 rfl ?_
    refine w_iload X dX4_invokeNamed_31 rfl ?_
    refine w_iload X dX4_invokeNamed_33 rfl ?_
    refine w_icmp_ge (tgt := 45) X dX4_invokeNamed_35 (by decide) (fun h35 => ?_) (fun h35 => absurd (by decide) h35)
    refine w_iconst (v := 0) X dX4_invokeNamed_45 (by decide) ?_
    rw [show (2 : Int32) + -1 = nI 1 from rfl]
    refine w_iastoreN X dX4_invokeNamed_46 (vr_row _ (by omega)) rfl (⟨by decide, by decide⟩) ?_
    refine w_iinc (v := -1) X dX4_invokeNamed_47 rfl (by decide) (by decide) ?_
    refine w_goto (tgt := 22) X dX4_invokeNamed_50 (by decide) ?_
    refine w_iload X dX4_invokeNamed_22 rfl ?_
    refine w_if_lt (tgt := 53) X dX4_invokeNamed_24 (by decide) (fun h24 => absurd h24 (by decide)) (fun h24 => ?_)
    refine w_aload X dX4_invokeNamed_27 rfl ?_
    refine w_iload X dX4_invokeNamed_29 rfl ?_
    refine w_iload X dX4_invokeNamed_31 rfl ?_
    refine w_iload X dX4_invokeNamed_33 rfl ?_
    refine w_icmp_ge (tgt := 45) X dX4_invokeNamed_35 (by decide) (fun h35 => absurd h35 (by decide)) (fun h35 => ?_)
    refine w_aload_n X dX4_invokeNamed_38 rfl rfl ?_
    have q0 := (IS_z (q := 1) (by omega) (by omega) (by omega) (IS_z (q := 2) (by omega) (by omega) (by omega) (IS_rf (j := 1) (R := 249 + (r + 1)) hh)))
    refine w_v0rI X dX4_invokeNamed_39 k4_91 rfl s_247 (c4_popE G hG _ _ (h - 0) q0.2.1 (by omega) (by omega)) (Nat.le_of_ble_eq_true rfl) (fun v0 N0 z0 => ?_)
    refine w_goto (tgt := 46) X dX4_invokeNamed_42 (by decide) ?_
    rw [show nI 1 + -1 = nI 0 from rfl]
    refine w_iastoreN X dX4_invokeNamed_46 (vr_row _ (by omega)) rfl (⟨by decide, by decide⟩) ?_
    refine w_iinc (v := -1) X dX4_invokeNamed_47 rfl (by decide) (by decide) ?_
    refine w_goto (tgt := 22) X dX4_invokeNamed_50 (by decide) ?_
    refine w_iload X dX4_invokeNamed_22 rfl ?_
    refine w_if_lt (tgt := 53) X dX4_invokeNamed_24 (by decide) (fun h24 => ?_) (fun h24 => absurd (by decide) h24)
    exact t53 _ _ _ _ _ _ (IS_p (q := 0) (by omega) (by omega) (by omega) (by omega) q0 z0)
  · refine w_iconst (v := 2) X dX4_invokeNamed_19 (by decide) ?_
    refine w_istore X dX4_invokeNamed_20 (by decide) ?_
    refine w_iload X dX4_invokeNamed_22 rfl ?_
    refine w_if_lt (tgt := 53) X dX4_invokeNamed_24 (by decide) (fun h24 => absurd h24 (by decide)) (fun h24 => ?_)
    refine w_aload X dX4_invokeNamed_27 rfl ?_
    refine w_iload X dX4_invokeNamed_29 rfl ?_
    refine w_iload X dX4_invokeNamed_31 rfl ?_
    refine w_iload X dX4_invokeNamed_33 rfl ?_
    refine w_icmp_ge (tgt := 45) X dX4_invokeNamed_35 (by decide) (fun h35 => ?_) (fun h35 => absurd (by decide) h35)
    refine w_iconst (v := 0) X dX4_invokeNamed_45 (by decide) ?_
    refine w_iastoreN X dX4_invokeNamed_46 (vr_row _ (by omega)) rfl (⟨by decide, by decide⟩) ?_
    refine w_iinc (v := -1) X dX4_invokeNamed_47 rfl (by decide) (by decide) ?_
    refine w_goto (tgt := 22) X dX4_invokeNamed_50 (by decide) ?_
    refine w_iload X dX4_invokeNamed_22 rfl ?_
    refine w_if_lt (tgt := 53) X dX4_invokeNamed_24 (by decide) (fun h24 => absurd h24 (by decide)) (fun h24 => ?_)
    refine w_aload X dX4_invokeNamed_27 rfl ?_
    refine w_iload X dX4_invokeNamed_29 rfl ?_
    refine w_iload X dX4_invokeNamed_31 rfl ?_
    refine w_iload X dX4_invokeNamed_33 rfl ?_
    refine w_icmp_ge (tgt := 45) X dX4_invokeNamed_35 (by decide) (fun h35 => absurd h35 (by decide)) (fun h35 => ?_)
    refine w_aload_n X dX4_invokeNamed_38 rfl rfl ?_
    have q1 := (IS_z (q := 2) (by omega) (by omega) (by omega) (IS_rf (j := 2) (R := 249 + (r + 1)) hh))
    refine w_v0rI X dX4_invokeNamed_39 k4_91 rfl s_247 (c4_popE G hG _ _ (h - 0) q1.2.1 (by omega) (by omega)) (Nat.le_of_ble_eq_true rfl) (fun v1 N1 z1 => ?_)
    refine w_goto (tgt := 46) X dX4_invokeNamed_42 (by decide) ?_
    rw [show (2 : Int32) + -1 = nI 1 from rfl]
    refine w_iastoreN X dX4_invokeNamed_46 (vr_row _ (by omega)) rfl (⟨by decide, by decide⟩) ?_
    refine w_iinc (v := -1) X dX4_invokeNamed_47 rfl (by decide) (by decide) ?_
    refine w_goto (tgt := 22) X dX4_invokeNamed_50 (by decide) ?_
    refine w_iload X dX4_invokeNamed_22 rfl ?_
    refine w_if_lt (tgt := 53) X dX4_invokeNamed_24 (by decide) (fun h24 => absurd h24 (by decide)) (fun h24 => ?_)
    refine w_aload X dX4_invokeNamed_27 rfl ?_
    refine w_iload X dX4_invokeNamed_29 rfl ?_
    refine w_iload X dX4_invokeNamed_31 rfl ?_
    refine w_iload X dX4_invokeNamed_33 rfl ?_
    refine w_icmp_ge (tgt := 45) X dX4_invokeNamed_35 (by decide) (fun h35 => absurd h35 (by decide)) (fun h35 => ?_)
    refine w_aload_n X dX4_invokeNamed_38 rfl rfl ?_
    have q0 := (IS_p (q := 1) (by omega) (by omega) (by omega) (by omega) q1 z1)
    refine w_v0rI X dX4_invokeNamed_39 k4_91 rfl s_247 (c4_popE G hG _ _ (h - 1) q0.2.1 (by omega) (by omega)) (Nat.le_of_ble_eq_true rfl) (fun v0 N0 z0 => ?_)
    refine w_goto (tgt := 46) X dX4_invokeNamed_42 (by decide) ?_
    rw [show nI 1 + -1 = nI 0 from rfl]
    refine w_iastoreN X dX4_invokeNamed_46 (vr_row _ (by omega)) rfl (⟨by decide, by decide⟩) ?_
    refine w_iinc (v := -1) X dX4_invokeNamed_47 rfl (by decide) (by decide) ?_
    refine w_goto (tgt := 22) X dX4_invokeNamed_50 (by decide) ?_
    refine w_iload X dX4_invokeNamed_22 rfl ?_
    refine w_if_lt (tgt := 53) X dX4_invokeNamed_24 (by decide) (fun h24 => ?_) (fun h24 => absurd (by decide) h24)
    exact t53 _ _ _ _ _ _ (IS_p (q := 0) (by omega) (by omega) (by omega) (by omega) q0 z0)
  · refine w_iconst (v := 2) X dX4_invokeNamed_19 (by decide) ?_
    refine w_istore X dX4_invokeNamed_20 (by decide) ?_
    refine w_iload X dX4_invokeNamed_22 rfl ?_
    refine w_if_lt (tgt := 53) X dX4_invokeNamed_24 (by decide) (fun h24 => absurd h24 (by decide)) (fun h24 => ?_)
    refine w_aload X dX4_invokeNamed_27 rfl ?_
    refine w_iload X dX4_invokeNamed_29 rfl ?_
    refine w_iload X dX4_invokeNamed_31 rfl ?_
    refine w_iload X dX4_invokeNamed_33 rfl ?_
    refine w_icmp_ge (tgt := 45) X dX4_invokeNamed_35 (by decide) (fun h35 => absurd h35 (by decide)) (fun h35 => ?_)
    refine w_aload_n X dX4_invokeNamed_38 rfl rfl ?_
    have q2 := (IS_rf (j := 3) (R := 249 + (r + 1)) hh)
    refine w_v0rI X dX4_invokeNamed_39 k4_91 rfl s_247 (c4_popE G hG _ _ (h - 0) q2.2.1 (by omega) (by omega)) (Nat.le_of_ble_eq_true rfl) (fun v2 N2 z2 => ?_)
    refine w_goto (tgt := 46) X dX4_invokeNamed_42 (by decide) ?_
    refine w_iastoreN X dX4_invokeNamed_46 (vr_row _ (by omega)) rfl (⟨by decide, by decide⟩) ?_
    refine w_iinc (v := -1) X dX4_invokeNamed_47 rfl (by decide) (by decide) ?_
    refine w_goto (tgt := 22) X dX4_invokeNamed_50 (by decide) ?_
    refine w_iload X dX4_invokeNamed_22 rfl ?_
    refine w_if_lt (tgt := 53) X dX4_invokeNamed_24 (by decide) (fun h24 => absurd h24 (by decide)) (fun h24 => ?_)
    refine w_aload X dX4_invokeNamed_27 rfl ?_
    refine w_iload X dX4_invokeNamed_29 rfl ?_
    refine w_iload X dX4_invokeNamed_31 rfl ?_
    refine w_iload X dX4_invokeNamed_33 rfl ?_
    refine w_icmp_ge (tgt := 45) X dX4_invokeNamed_35 (by decide) (fun h35 => absurd h35 (by decide)) (fun h35 => ?_)
    refine w_aload_n X dX4_invokeNamed_38 rfl rfl ?_
    have q1 := (IS_p (q := 2) (by omega) (by omega) (by omega) (by omega) q2 z2)
    refine w_v0rI X dX4_invokeNamed_39 k4_91 rfl s_247 (c4_popE G hG _ _ (h - 1) q1.2.1 (by omega) (by omega)) (Nat.le_of_ble_eq_true rfl) (fun v1 N1 z1 => ?_)
    refine w_goto (tgt := 46) X dX4_invokeNamed_42 (by decide) ?_
    rw [show (2 : Int32) + -1 = nI 1 from rfl]
    refine w_iastoreN X dX4_invokeNamed_46 (vr_row _ (by omega)) rfl (⟨by decide, by decide⟩) ?_
    refine w_iinc (v := -1) X dX4_invokeNamed_47 rfl (by decide) (by decide) ?_
    refine w_goto (tgt := 22) X dX4_invokeNamed_50 (by decide) ?_
    refine w_iload X dX4_invokeNamed_22 rfl ?_
    refine w_if_lt (tgt := 53) X dX4_invokeNamed_24 (by decide) (fun h24 => absurd h24 (by decide)) (fun h24 => ?_)
    refine w_aload X dX4_invokeNamed_27 rfl ?_
    refine w_iload X dX4_invokeNamed_29 rfl ?_
    refine w_iload X dX4_invokeNamed_31 rfl ?_
    refine w_iload X dX4_invokeNamed_33 rfl ?_
    refine w_icmp_ge (tgt := 45) X dX4_invokeNamed_35 (by decide) (fun h35 => absurd h35 (by decide)) (fun h35 => ?_)
    refine w_aload_n X dX4_invokeNamed_38 rfl rfl ?_
    have q0 := (IS_p (q := 1) (by omega) (by omega) (by omega) (by omega) q1 z1)
    refine w_v0rI X dX4_invokeNamed_39 k4_91 rfl s_247 (c4_popE G hG _ _ (h - 2) q0.2.1 (by omega) (by omega)) (Nat.le_of_ble_eq_true rfl) (fun v0 N0 z0 => ?_)
    refine w_goto (tgt := 46) X dX4_invokeNamed_42 (by decide) ?_
    rw [show nI 1 + -1 = nI 0 from rfl]
    refine w_iastoreN X dX4_invokeNamed_46 (vr_row _ (by omega)) rfl (⟨by decide, by decide⟩) ?_
    refine w_iinc (v := -1) X dX4_invokeNamed_47 rfl (by decide) (by decide) ?_
    refine w_goto (tgt := 22) X dX4_invokeNamed_50 (by decide) ?_
    refine w_iload X dX4_invokeNamed_22 rfl ?_
    refine w_if_lt (tgt := 53) X dX4_invokeNamed_24 (by decide) (fun h24 => ?_) (fun h24 => absurd (by decide) h24)
    exact t53 _ _ _ _ _ _ (IS_p (q := 0) (by omega) (by omega) (by omega) (by omega) q0 z0)
