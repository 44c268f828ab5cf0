/-! readCommand -/
/-- nothing but the reader's cells, the Texts' number and the Job k has changed -/
def czX_ (k : Nat) (M N : mm_) : Prop := (∀ a i, a ≠ 39 → N.2.2 a i = M.2.2 a i) ∧ (∀ a i, a ≠ 37 → a ≠ 38 → a ≠ 39 → (a < k ∨ k + 11 < a) → N.1 a i = M.1 a i) ∧ (∀ a i, a ≠ 37 → a ≠ 38 → (a < k ∨ k + 11 < a) → N.2.1 a i = M.2.1 a i)
theorem czX_tr {k : Nat} {A B D : mm_} (h : czX_ k A B) (g : czX_ k B D) : czX_ k A D := ⟨fun a i h1 => (g.1 a i h1).trans (h.1 a i h1), fun a i h1 h2 h3 h4 => (g.2.1 a i h1 h2 h3 h4).trans (h.2.1 a i h1 h2 h3 h4), fun a i h1 h2 h3 => (g.2.2 a i h1 h2 h3).trans (h.2.2 a i h1 h2 h3)⟩
theorem czX_cw {k : Nat} {M N : mm_} (h : cw_ k M N) : czX_ k M N := ⟨h.1, fun a i h1 _ h3 h4 => h.2.1 a i h1 h3 h4, h.2.2⟩
theorem czX_38 {k i : Nat} {M : mm_} {v : Int32} : czX_ k M (sI_ M 38 i v) := ⟨fun _ _ _ => rfl, fun a j _ h _ _ => by rw [gI_sI, if_neg (fun z => h z.1)], fun _ _ _ _ _ => rfl⟩
theorem czX_tp {k n : Nat} {M N : mm_} (hk : 135 ≤ k) (h : czX_ k M N) (ht : tpX_ M n) : tpX_ N n := ⟨ht.1, by rw [h.2.1 35 1 (by omega) (by omega) (by omega) (by omega)]; exact ht.2⟩
theorem czX_tb {k : Nat} {M N : mm_} (hk : 135 ≤ k) (h : czX_ k M N) : tb_ N = tb_ M := by
  funext x
  unfold tb_
  rw [h.2.1 35 1 (by omega) (by omega) (by omega) (by omega), h.2.1 36 _ (by omega) (by omega) (by omega) (by omega)]
theorem rnw_I (M : mm_) (k a i : Nat) : (rnw_ M k).1 a i = if a = k + 11 ∧ i < 48 then 0 else (sI_ (sI_ (sI_ (sI_ (sI_ M k 0 0) k 5 0) k 6 99) k 7 0) k 9 0).1 a i := rfl
theorem rnw_37 {M : mm_} {k : Nat} (hk : 135 ≤ k) (a i : Nat) (ha : a < 135) : (rnw_ M k).1 a i = M.1 a i := by
  rw [rnw_I, if_neg (by omega)]
  simp only [gI_sI]
  rw [if_neg (by omega), if_neg (by omega), if_neg (by omega), if_neg (by omega), if_neg (by omega)]
theorem cw_rn {k : Nat} {M : mm_} : cw_ k M (rnw_ M k) := by
  refine ⟨fun _ _ _ => rfl, fun a i _ _ h => ?_, fun _ _ _ _ _ => rfl⟩
  rw [rnw_I, if_neg (by omega)]
  simp only [gI_sI]
  rw [if_neg (by omega), if_neg (by omega), if_neg (by omega), if_neg (by omega), if_neg (by omega)]
/-- as a Job is once it is renewed -/
def rnf_ (k : Nat) (A : mm_) : Prop := A.1 k 0 = 0 ∧ A.1 k 5 = 0 ∧ A.1 k 6 = 99 ∧ A.1 k 7 = 0 ∧ A.1 k 9 = 0 ∧ ∀ j, j < 48 → A.1 (k + 11) j = 0
theorem rnf_rn {k : Nat} {M : mm_} : rnf_ k (rnw_ M k) := by
  refine ⟨?_, ?_, ?_, ?_, ?_, fun j hj => by rw [rnw_I, if_pos ⟨rfl, hj⟩]⟩ <;> rw [rnw_I, if_neg (by omega)] <;> simp [gI_sI]
theorem rnf_37 {k : Nat} {A B : mm_} (hk : 135 ≤ k) (h : rnf_ k A) (g : c37_ A B) : rnf_ k B := by
  obtain ⟨h1, h2, h3, h4, h5, h6⟩ := h
  exact ⟨by rw [g.2.1 _ _ (by omega)]; exact h1, by rw [g.2.1 _ _ (by omega)]; exact h2, by rw [g.2.1 _ _ (by omega)]; exact h3, by rw [g.2.1 _ _ (by omega)]; exact h4, by rw [g.2.1 _ _ (by omega)]; exact h5, fun j hj => by rw [g.2.1 _ _ (by omega)]; exact h6 j hj⟩
theorem vb_1 {T : Int32 → Int32} {p : Nat} {V : Int32 × Option Nat} (e : vbT_ T p = V) (h : V.1 = 1) : ∃ a, V.2 = some a := by
  unfold vbT_ at e
  by_cases h1 : tkwT_ T 1 p = true
  · rw [if_pos h1] at e; exact ⟨_, by rw [← e]⟩
  · rw [if_neg h1] at e
    by_cases h2 : tkwT_ T 2 p = true
    · rw [if_pos h2] at e; rw [← e] at h; exact absurd (show (2 : Int32) = 1 from h) (by decide)
    · rw [if_neg h2] at e
      by_cases h3 : tkwT_ T 3 p = true
      · rw [if_pos h3] at e; rw [← e] at h; exact absurd (show (3 : Int32) = 1 from h) (by decide)
      · rw [if_neg h3] at e
        by_cases h4 : tkwT_ T 4 p = true
        · rw [if_pos h4] at e; rw [← e] at h; exact absurd (show (4 : Int32) = 1 from h) (by decide)
        · rw [if_neg h4] at e
          by_cases h5 : tkwT_ T 5 p = true
          · rw [if_pos h5] at e; rw [← e] at h; exact absurd (show (5 : Int32) = 1 from h) (by decide)
          · rw [if_neg h5] at e; rw [← e] at h; exact absurd (show (5 : Int32) = 1 from h) (by decide)
/-- what is read behind the verb v, from A to B -/
def RV_ (k : Nat) (A : mm_) (V : Int32 × Option Nat) (B : mm_) : Prop := (V.1 = 4 ∧ ∃ R, nu1_ 200 (nuA_ A) 0 = R ∧ B = ew_ (sI_ (nuB_ R.1 (A.1 37 1) R.2 99) 38 0 R.2.toInt32)) ∨ (V.1 = 1 ∧ ∃ p, V.2 = some p ∧ RW_ k A p B) ∨ (V.1 = 5 ∧ B = A) ∨ (¬ V.1 = 4 ∧ ¬ V.1 = 1 ∧ ¬ V.1 = 5 ∧ ∃ P, pa1_ 13 0 0 (pa0_ A) = P ∧ B = sL_ (ew_ P.2) k 2 P.1)
def RC_ (k : Nat) (M : mm_) (v : Int32) (N : mm_) : Prop := czX_ k M N ∧ ∃ (p : Nat) (V : Int32 × Option Nat) (A B : mm_), skP_ (tb_ M) 200 0 = p ∧ vbT_ (tb_ M) p = V ∧ v = V.1 ∧ cw_ k M A ∧ LS_ V.2 A ∧ rnf_ k A ∧ czX_ k A B ∧ RV_ k A V B ∧ N = sI_ (xE_ B) k 0 v
set_option maxRecDepth 100000 in
set_option maxHeartbeats 600000 in
theorem c10_readCommand (G : gg_) (hG : gd_ G) (d : Nat) (M : mm_) (n : Nat) (ht : tpX_ M n) (k : Nat) (hj : jd_ k) : cm_ G yX10_readCommand cX10_readCommand 3 (some .int) (d + 907) [.ref (G.1 38), .ref (G.1 k)] M (rI_ (RC_ k M)) := by
  refine cm_of hG (by decide) (Nat.le_of_ble_eq_true rfl) (fun C X => ?_)
  obtain ⟨hk1, hk2⟩ := jd_kb hj
  obtain ⟨T, hT⟩ : ∃ T, tb_ M = T := ⟨_, rfl⟩
  obtain ⟨p, hp⟩ : ∃ p, skP_ T 200 0 = p := ⟨_, rfl⟩
  have hpn : p ≤ n := by
    rw [← hp, ← hT]
    exact skP_le (tb_n ht) 200 0 (Nat.zero_le _)
  obtain ⟨V, hV⟩ : ∃ x, vbT_ T p = x := ⟨_, rfl⟩
  refine w_aload_n X dX10_readCommand_0 rfl rfl ?_
  refine g10_7 X dX10_readCommand_1 s_38 rfl ?_
  refine w_v0fV X dX10_readCommand_4 k10_25 rfl s_37 (c7_begin G hG (d + 906) _) (Nat.le_of_ble_eq_true rfl) ?_
  have c1 : c37_ M (sI_ (sI_ (sI_ M 37 1 0) 37 2 0) 37 3 (-1)) := c37_tr (c37_tr c37_I c37_I) c37_I
  have b1 := bg_1 M
  have b2 := bg_2 M
  generalize (sI_ (sI_ (sI_ M 37 1 0) 37 2 0) 37 3 (-1)) = N1 at c1 b1 b2 ⊢
  refine w_aload_n X dX10_readCommand_7 rfl rfl ?_
  refine g10_7 X dX10_readCommand_8 s_38 rfl ?_
  refine w_v0fV X dX10_readCommand_11 k10_69 rfl s_37 (c7_skipBlanks G hG (d + 904) N1 n (c37_tp c1 ht)) (Nat.le_of_ble_eq_true rfl) ?_
  have l2 := LS_sk (T := T) 200 (some 0) N1 ((c37_tb c1).trans hT) ⟨b2, b1⟩
  rw [Option.map_some, hp] at l2
  have c2 := c37_tr c1 (c37_sk 200 N1)
  generalize sk1_ 200 N1 = N2 at l2 c2 ⊢
  refine w_aload_n X dX10_readCommand_14 rfl rfl ?_
  refine w_v0fV X dX10_readCommand_15 k10_72 rfl hj.1 (c2_renew G hG (d + 905) N2 k hj) (Nat.le_of_ble_eq_true rfl) ?_
  have c3 : cw_ k M (rnw_ N2 k) := cw_tr (cw_37 c2) cw_rn
  have f3 : rnf_ k (rnw_ N2 k) := rnf_rn
  have l3 : LS_ (some p) (rnw_ N2 k) := LS_37x l2 (rnw_37 hk1 37 1 (by decide)) (rnw_37 hk1 37 2 (by decide))
  generalize rnw_ N2 k = N3 at c3 f3 l3 ⊢
  refine w_aload_n X dX10_readCommand_18 rfl rfl ?_
  refine w_v0fI X dX10_readCommand_19 k10_77 rfl s_38 (c10_verb G hG (d + 901) N3 n (cw_tp hk1 c3 ht)) (Nat.le_of_ble_eq_true rfl) ?_
  have e4 := LS_vb l3
  rw [(cw_tb hk1 c3).trans hT, hV] at e4
  have c4 : cw_ k M (vb_ N3).2 := cw_tr c3 (cw_37 c37_vb)
  have f4 : rnf_ k (vb_ N3).2 := rnf_37 hk1 f3 c37_vb
  rw [e4.1]
  obtain ⟨-, l4⟩ := e4
  generalize (vb_ N3).2 = A at c4 f4 l4 ⊢
  have tA := (cw_tb hk1 c4).trans hT
  have htA := cw_tp hk1 c4 ht
  have fin : ∀ B : mm_, czX_ k A B → RV_ k A V B → wq_ C G (qe_ C G (rI_ (RC_ k M))) 77 [some (.ref (G.1 38)), some (.ref (G.1 k)), some (.int V.1)] [] B := by
    intro B cB rB
    have htB := czX_tp hk1 cB htA
    have cX : czX_ k M (sI_ (xE_ B) k 0 V.1) := czX_tr (czX_cw c4) (czX_tr cB (czX_cw (cw_tr (cw_37 c37_xE) cw_I)))
    refine w_aload_n X dX10_readCommand_77 rfl rfl ?_
    refine w_v0fV X dX10_readCommand_78 k10_49 rfl s_38 (c10_expectEnd G hG (d + 904) _ n htB) (Nat.le_of_ble_eq_true rfl) ?_
    refine w_aload_n X dX10_readCommand_81 rfl rfl ?_
    refine w_iload_n X dX10_readCommand_82 rfl rfl ?_
    refine p10_99 X dX10_readCommand_83 hj.1 rfl ?_
    refine w_iload_n X dX10_readCommand_86 rfl rfl ?_
    refine w_irR X dX10_readCommand_87 ⟨cX, p, V, A, B, ?_, ?_, rfl, c4, l4, f4, cB, rB, rfl⟩
    · rw [hT]; exact hp
    · rw [hT]; exact hV
  refine w_istore_n X dX10_readCommand_22 rfl (by decide) ?_
  refine w_iload_n X dX10_readCommand_23 rfl rfl ?_
  refine w_iconst (v := 4) X dX10_readCommand_24 (by decide) ?_
  refine w_icmp_ne (tgt := 51) X dX10_readCommand_25 (by decide) (fun h25 => ?_) (fun h25 => ?_)
  · refine w_iload_n X dX10_readCommand_51 rfl rfl ?_
    refine w_iconst (v := 1) X dX10_readCommand_52 (by decide) ?_
    refine w_icmp_ne (tgt := 64) X dX10_readCommand_53 (by decide) (fun h53 => ?_) (fun h53 => ?_)
    · refine w_iload_n X dX10_readCommand_64 rfl rfl ?_
      refine w_iconst (v := 5) X dX10_readCommand_65 (by decide) ?_
      refine w_icmp_eq (tgt := 77) X dX10_readCommand_66 (by decide) (fun h66 => ?_) (fun h66 => ?_)
      · exact fin _ (czX_cw cw_rf) (Or.inr (Or.inr (Or.inl ⟨h66, rfl⟩)))
      · obtain ⟨P9, hP9⟩ : ∃ x, pa1_ 13 0 0 (pa0_ A) = x := ⟨_, rfl⟩
        have cP9 : c37_ A P9.2 := by
          rw [← hP9]
          exact c37_tr c37_p0 (c37_pa _ _ _ _)
        refine w_aload_n X dX10_readCommand_69 rfl rfl ?_
        refine w_aload_n X dX10_readCommand_70 rfl rfl ?_
        refine w_v0fL X dX10_readCommand_71 k10_93 rfl s_38 (c10_pattern G hG (d + 902) A n htA) (Nat.le_of_ble_eq_true rfl) ?_
        rw [hP9]
        refine p10_96 X dX10_readCommand_74 hj.1 rfl ?_
        exact fin _ (czX_cw (cw_tr (cw_37 (c37_tr cP9 c37_ew)) cw_L)) (Or.inr (Or.inr (Or.inr ⟨h25, h53, h66, P9, hP9, rfl⟩)))
    · obtain ⟨p9, hV9⟩ := vb_1 hV h53
      have l9 : LS_ (some p9) A := by
        rw [← hV9]
        exact l4
      have hp9 : p9 ≤ n := by
        have z := qin_vb ht hpn
        rw [hT, hV] at z
        exact z p9 hV9
      refine w_aload_n X dX10_readCommand_56 rfl rfl ?_
      refine w_aload_n X dX10_readCommand_57 rfl rfl ?_
      refine w_v1rV X dX10_readCommand_58 k10_89 rfl s_38 (c10_readWatch G hG d A n htA k hj p9 hp9 l9) (Nat.le_of_ble_eq_true rfl) (fun N58 h58 => ?_)
      refine w_goto (tgt := 77) X dX10_readCommand_61 (by decide) ?_
      exact fin _ (czX_cw h58.1) (Or.inr (Or.inl ⟨h53, p9, hV9, h58⟩))
  · obtain ⟨R9, hR9⟩ : ∃ x, nu1_ 200 (nuA_ A) 0 = x := ⟨_, rfl⟩
    have cR9 : c37_ A R9.1 := by
      rw [← hR9]
      exact c37_tr c37_nA (c37_nu _ _ _)
    have cN9 : czX_ k A (sI_ (nuB_ R9.1 (A.1 37 1) R9.2 99) 38 0 R9.2.toInt32) := czX_tr (czX_cw (cw_37 (c37_tr cR9 c37_nB))) czX_38
    have htN := czX_tp hk1 cN9 htA
    refine w_aload_n X dX10_readCommand_28 rfl rfl ?_
    refine w_aload_n X dX10_readCommand_29 rfl rfl ?_
    refine g10_7 X dX10_readCommand_30 s_38 rfl ?_
    refine w_bipush (v := 99) X dX10_readCommand_33 (by decide) ?_
    refine w_v1fI X dX10_readCommand_35 k10_80 rfl s_37 (c7_number G hG (d + 904) A n htA 99 R9 hR9) (Nat.le_of_ble_eq_true rfl) ?_
    refine p10_84 X dX10_readCommand_38 s_38 rfl ?_
    refine w_aload_n X dX10_readCommand_41 rfl rfl ?_
    refine g10_7 X dX10_readCommand_42 s_38 rfl ?_
    refine w_v0fV X dX10_readCommand_45 k10_86 rfl s_37 (c7_endWord G hG (d + 903) _ n (c37_tp c37_rf htN)) (Nat.le_of_ble_eq_true rfl) ?_
    refine w_goto (tgt := 77) X dX10_readCommand_48 (by decide) ?_
    exact fin _ (czX_tr cN9 (czX_cw (cw_37 c37_ew))) (Or.inl ⟨h25, R9, hR9, rfl⟩)
