section
/-! Texts: its small methods -/
/-- nothing but the reader's own cell has changed -/
def c37_ (M N : mm_) : Prop := N.2.2 = M.2.2 ∧ (∀ a i, a ≠ 37 → N.1 a i = M.1 a i) ∧ (∀ a i, a ≠ 37 → N.2.1 a i = M.2.1 a i)
theorem c37_rf {M : mm_} : c37_ M M := ⟨rfl, fun _ _ _ => rfl, fun _ _ _ => rfl⟩
theorem c37_tr {A B D : mm_} (h : c37_ A B) (g : c37_ B D) : c37_ A D := ⟨g.1.trans h.1, fun a i h1 => (g.2.1 a i h1).trans (h.2.1 a i h1), fun a i h1 => (g.2.2 a i h1).trans (h.2.2 a i h1)⟩
theorem c37_I {M : mm_} {i : Nat} {v : Int32} : c37_ M (sI_ M 37 i v) := ⟨rfl, fun a j h => by rw [gI_sI, if_neg (fun z => h z.1)], fun _ _ _ => rfl⟩
theorem c37_L {M : mm_} {i : Nat} {v : Int64} : c37_ M (sL_ M 37 i v) := ⟨rfl, fun _ _ _ => rfl, fun a j h => by rw [gL_sL, if_neg (fun z => h z.1)]⟩
theorem c37_fi {M : mm_} {f w : Int32} : c37_ M (fiX_ M f w) := by
  unfold fiX_; split
  · exact c37_tr c37_I c37_I
  · exact c37_rf
theorem c37_ep {M : mm_} {c : Int32} : c37_ M (ep_ M c) := by
  unfold ep_; split
  · exact c37_I
  · exact c37_tr c37_fi c37_I
theorem c37_sk : ∀ (u : Nat) (M : mm_), c37_ M (sk1_ u M)
  | 0, _ => c37_rf
  | u + 1, M => by
    rw [sk1_]; split
    · exact c37_rf
    · exact c37_tr c37_I (c37_sk u _)
theorem c37_ew {M : mm_} : c37_ M (ew_ M) := by
  unfold ew_
  refine c37_tr ?_ (c37_sk _ _)
  split
  · exact c37_rf
  · split
    · exact c37_fi
    · exact c37_rf
theorem c37_nu : ∀ (u : Nat) (M : mm_) (v : Int64), c37_ M (nu1_ u M v).1
  | 0, _, _ => c37_rf
  | u + 1, M, v => by
    rw [nu1_]; split
    · exact c37_rf
    · exact c37_tr c37_I (c37_nu u _ _)
theorem c37_nA {M : mm_} : c37_ M (nuA_ M) := by
  unfold nuA_; split
  · exact c37_fi
  · exact c37_rf
theorem c37_nB {M : mm_} {p w : Int32} {v : Int64} : c37_ M (nuB_ M p v w) := by
  unfold nuB_; split
  · exact c37_rf
  · exact c37_fi
theorem c37_sr {M : mm_} {r : Nat × Int32 × Int64} : c37_ M (srO_ M r) := c37_tr (c37_tr c37_L c37_I) c37_I
theorem c37_tN {M : mm_} : c37_ M (tN_ M) := by
  have e : c37_ M (if M.1 37 5 = 0 then fiX_ M 1 (M.1 37 1) else M) := by
    split
    · exact c37_fi
    · exact c37_rf
  unfold tN_
  refine c37_tr ?_ c37_I
  split
  · exact e
  · exact c37_tr e c37_fi
theorem c37_tk {M : mm_} {i : Nat} : c37_ M (tkM_ M i) := c37_tr c37_I (c37_sk _ _)
theorem c37_tp {M N : mm_} {n : Nat} (h : c37_ M N) (ht : tpX_ M n) : tpX_ N n := ⟨ht.1, by rw [h.2.1 35 1 (by decide)]; exact ht.2⟩
theorem c37_tb {M N : mm_} (h : c37_ M N) : tb_ N = tb_ M := by
  funext x
  unfold tb_
  rw [h.2.1 35 1 (by decide), h.2.1 36 _ (by decide)]
theorem c37_cr {M N : mm_} {k : Nat} (h : c37_ M N) : cr_ k M N := ⟨fun a i _ => by rw [h.1], fun a i h1 _ _ => h.2.1 a i h1, fun a i h1 _ => h.2.2 a i h1⟩
theorem LS_pe {p : Nat} {M : mm_} (h : LS_ (some p) M) : pe_ M = tb_ M (nI p) := by unfold pe_; rw [if_pos h.1, h.2]
theorem LS_n {M : mm_} {v : Int32} (h : LS_ none M) : LS_ none (sI_ M 37 1 v) := h
theorem LS_fi {M : mm_} {p : Nat} {f w : Int32} (h : LS_ (some p) M) (hf : ¬ f = 0) : LS_ none (fiX_ M f w) := by
  unfold fiX_
  rw [if_pos h.1]
  exact hf
theorem LS_fn {M : mm_} {f w : Int32} (h : LS_ none M) : LS_ none (fiX_ M f w) := by
  rw [fi_F h]; exact h
/-- expect -/
def qe2_ (T : Int32 → Int32) (c : Int32) (q : Option Nat) : Option Nat := match q with
  | none => none
  | some p => if T (nI p) = c then some (p + 1) else none
theorem LS_ep {q : Option Nat} {M : mm_} {c : Int32} (h : LS_ q M) : LS_ (qe2_ (tb_ M) c q) (ep_ M c) := by
  unfold ep_
  cases q with
  | none =>
    rw [fi_F h]
    split <;> exact h
  | some p =>
    rw [LS_pe h]
    unfold qe2_
    simp only
    by_cases z : tb_ M (nI p) = c
    · rw [if_pos z, if_pos z, h.2, nI_1]; exact ⟨h.1, rfl⟩
    · rw [if_neg z, if_neg z]; exact LS_n (LS_fi h (by decide))
def pm_ (M : mm_) : Int32 × mm_ := if 48 ≤ pe_ M ∧ pe_ M ≤ 51 then (pe_ M - 48, sI_ M 37 1 (M.1 37 1 + 1)) else (0, fiX_ M 1 (M.1 37 1))
theorem c37_pm {M : mm_} : c37_ M (pm_ M).2 := by
  unfold pm_; split
  · exact c37_I
  · exact c37_fi
def qp_ (T : Int32 → Int32) (q : Option Nat) : Option Nat := match q with
  | none => none
  | some p => if 48 ≤ T (nI p) ∧ T (nI p) ≤ 51 then some (p + 1) else none
theorem LS_pm {q : Option Nat} {M : mm_} (h : LS_ q M) : LS_ (qp_ (tb_ M) q) (pm_ M).2 := by
  unfold pm_
  cases q with
  | none =>
    rw [pe_F h, if_neg (by decide)]
    exact LS_fn h
  | some p =>
    rw [LS_pe h]
    unfold qp_
    simp only
    by_cases z : 48 ≤ tb_ M (nI p) ∧ tb_ M (nI p) ≤ 51
    · rw [if_pos z, if_pos z, h.2, nI_1]; exact ⟨h.1, rfl⟩
    · rw [if_neg z, if_neg z]; exact LS_fi h (by decide)
def xE_ (M : mm_) : mm_ := if pe_ M = -1 then M else fiX_ M 1 (M.1 37 1)
theorem c37_xE {M : mm_} : c37_ M (xE_ M) := by
  unfold xE_; split
  · exact c37_rf
  · exact c37_fi
def qE_ (T : Int32 → Int32) (q : Option Nat) : Option Nat := match q with
  | none => none
  | some p => if T (nI p) = -1 then some p else none
theorem LS_xE {q : Option Nat} {M : mm_} (h : LS_ q M) : LS_ (qE_ (tb_ M) q) (xE_ M) := by
  unfold xE_
  cases q with
  | none =>
    rw [pe_F h, if_pos rfl]
    exact h
  | some p =>
    rw [LS_pe h]
    unfold qE_
    simp only
    by_cases z : tb_ M (nI p) = -1
    · rw [if_pos z, if_pos z]; exact h
    · rw [if_neg z, if_neg z]; exact LS_fi h (by decide)
/-- blanks are passed -/
def skP_ (T : Int32 → Int32) : Nat → Nat → Nat
  | 0, p => p
  | u + 1, p => if bl_ (T (nI p)) = 0 then p else skP_ T u (p + 1)
theorem LS_sk {T : Int32 → Int32} : ∀ (u : Nat) (q : Option Nat) (M : mm_), tb_ M = T → LS_ q M → LS_ (q.map (skP_ T u)) (sk1_ u M)
  | 0, none, _, _, h => h
  | 0, some _, _, _, h => h
  | u + 1, none, M, _, h => by
    rw [sk1_, pe_F h, if_pos (by decide)]
    exact h
  | u + 1, some p, M, hT, h => by
    rw [sk1_, LS_pe h]
    show LS_ (some (skP_ T (u + 1) p)) _
    rw [skP_, ← hT]
    by_cases z : bl_ (tb_ M (nI p)) = 0
    · rw [if_pos z, if_pos z]; exact h
    · rw [if_neg z, if_neg z, h.2, nI_1]
      have := LS_sk (T := T) u (some (p + 1)) (sI_ M 37 1 (nI (p + 1))) (by rw [← hT]; rfl) ⟨h.1, rfl⟩
      rw [← hT] at this
      exact this
theorem skP_le {T : Int32 → Int32} {n : Nat} (hT : T (nI n) = -1) : ∀ (u p : Nat), p ≤ n → skP_ T u p ≤ n
  | 0, _, h => h
  | u + 1, p, h => by
    rw [skP_]
    by_cases z : bl_ (T (nI p)) = 0
    · rw [if_pos z]; exact h
    · rw [if_neg z]
      refine skP_le hT u (p + 1) ?_
      rcases Nat.lt_or_ge p n with y | y
      · exact y
      · exact absurd (by rw [show p = n by omega, hT]; decide) z
/-- a word's end -/
def qw_ (T : Int32 → Int32) (q : Option Nat) : Option Nat := match q with
  | none => none
  | some p => if T (nI p) = -1 then some p else if bl_ (T (nI p)) = 0 then none else some (skP_ T 200 p)
theorem LS_ew {q : Option Nat} {M : mm_} (h : LS_ q M) : LS_ (qw_ (tb_ M) q) (ew_ M) := by
  unfold ew_
  cases q with
  | none =>
    rw [pe_F h, if_pos rfl]
    exact LS_sk 200 none M rfl h
  | some p =>
    rw [LS_pe h]
    unfold qw_
    simp only
    by_cases z : tb_ M (nI p) = -1
    · rw [if_pos z, if_pos z]
      have := LS_sk 200 (some p) M rfl h
      rw [show (some p).map (skP_ (tb_ M) 200) = some p by show some (skP_ (tb_ M) 200 p) = _; rw [skP_, z, if_pos (by decide)]] at this
      exact this
    · rw [if_neg z, if_neg z]
      by_cases y : bl_ (tb_ M (nI p)) = 0
      · rw [if_pos y, if_pos y]
        exact LS_sk 200 none _ rfl (LS_fi h (by decide))
      · rw [if_neg y, if_neg y]
        exact LS_sk 200 (some p) M rfl h
def vb_ (M : mm_) : Int32 × mm_ := if tkw_ M 1 = true then (1, tkM_ M 1) else if tkw_ M 2 = true then (2, tkM_ M 2) else if tkw_ M 3 = true then (3, tkM_ M 3) else if tkw_ M 4 = true then (4, tkM_ M 4) else if tkw_ M 5 = true then (5, tkM_ M 5) else (5, fiX_ M 1 (M.1 37 1))
def po2_ (M : mm_) : Int32 × mm_ := if tkw_ M 6 = true then (0, tkM_ M 6) else if tkw_ M 7 = true then (1, tkM_ M 7) else if tkw_ M 8 = true then (2, tkM_ M 8) else (2, fiX_ M 1 (M.1 37 1))
theorem c37_vb {M : mm_} : c37_ M (vb_ M).2 := by
  unfold vb_
  split
  · exact c37_tk
  · split
    · exact c37_tk
    · split
      · exact c37_tk
      · split
        · exact c37_tk
        · split
          · exact c37_tk
          · exact c37_fi
theorem c37_po {M : mm_} : c37_ M (po2_ M).2 := by
  unfold po2_
  split
  · exact c37_tk
  · split
    · exact c37_tk
    · split
      · exact c37_tk
      · exact c37_fi
def lm1_ (M : mm_) (r : mm_ × Int64) : mm_ := if r.2.toInt32 = 0 then fiX_ (nuB_ r.1 (M.1 37 1) r.2 99) 2 (M.1 37 1) else nuB_ r.1 (M.1 37 1) r.2 99
theorem c37_lm {M : mm_} {r : mm_ × Int64} (h : c37_ M r.1) : c37_ M (lm1_ M r) := by
  unfold lm1_; split
  · exact c37_tr (c37_tr h c37_nB) c37_fi
  · exact c37_tr h c37_nB
def pa1_ : Nat → Nat → Int64 → mm_ → Int64 × mm_
  | 0, _, w, M => (w, M)
  | u + 1, j, w, M => if sgX_ (pe_ M) = 0 then (w, M) else if j = 12 then (w, fiX_ M 3 (M.1 37 1)) else pa1_ u (j + 1) (wi_ w (nI j) (sgX_ (pe_ M))) (sI_ M 37 1 (M.1 37 1 + 1))
def pa0_ (M : mm_) : mm_ := if pe_ M = -1 then fiX_ M 1 (M.1 37 1) else M
theorem c37_pa : ∀ (u j : Nat) (w : Int64) (M : mm_), c37_ M (pa1_ u j w M).2
  | 0, _, _, _ => c37_rf
  | u + 1, j, w, M => by
    rw [pa1_]; split
    · exact c37_rf
    · split
      · exact c37_fi
      · exact c37_tr c37_I (c37_pa u _ _ _)
theorem c37_p0 {M : mm_} : c37_ M (pa0_ M) := by
  unfold pa0_; split
  · exact c37_fi
  · exact c37_rf
set_option maxRecDepth 100000 in
set_option maxHeartbeats 600000 in
theorem c10_parameters (G : gg_) (hG : gd_ G) (d : Nat) (M : mm_) (n : Nat) (ht : tpX_ M n) : cm_ G yX10_parameters cX10_parameters 2 (some .int) (d + 2) [.ref (G.1 38)] M (fI_ (pm_ M).1 (pm_ M).2) := by
  refine cm_of hG (by decide) (Nat.le_of_ble_eq_true rfl) (fun C X => ?_)
  refine w_aload_n X dX10_parameters_0 rfl rfl ?_
  refine g10_7 X dX10_parameters_1 s_38 rfl ?_
  refine w_v0fI X dX10_parameters_4 k10_58 rfl s_37 (c7_peek G hG _ _ n ht) (Nat.le_of_ble_eq_true rfl) ?_
  refine w_istore_n X dX10_parameters_7 rfl (by decide) ?_
  refine w_iload_n X dX10_parameters_8 rfl rfl ?_
  refine w_bipush (v := 48) X dX10_parameters_9 (by decide) ?_
  refine w_icmp_lt (tgt := 20) X dX10_parameters_11 (by decide) (fun h11 => ?_) (fun h11 => ?_)
  · refine w_aload_n X dX10_parameters_20 rfl rfl ?_
    refine g10_7 X dX10_parameters_21 s_38 rfl ?_
    refine w_iconst (v := 1) X dX10_parameters_24 (by decide) ?_
    refine w_aload_n X dX10_parameters_25 rfl rfl ?_
    refine g10_7 X dX10_parameters_26 s_38 rfl ?_
    refine g10_61 X dX10_parameters_29 s_37 rfl ?_
    refine w_v2fV X dX10_parameters_32 k10_65 rfl s_37 (c7_fail G hG _ _ _ _) (Nat.le_of_ble_eq_true rfl) ?_
    refine w_iconst (v := 0) X dX10_parameters_35 (by decide) ?_
    refine w_irF X dX10_parameters_36 ?_ ?_ <;> unfold pm_ <;> rw [if_neg (fun z => absurd z.1 (Int32.not_le.mpr h11))]
  · refine w_iload_n X dX10_parameters_14 rfl rfl ?_
    refine w_bipush (v := 51) X dX10_parameters_15 (by decide) ?_
    refine w_icmp_le (tgt := 37) X dX10_parameters_17 (by decide) (fun h17 => ?_) (fun h17 => ?_)
    · refine w_aload_n X dX10_parameters_37 rfl rfl ?_
      refine g10_7 X dX10_parameters_38 s_38 rfl ?_
      refine w_dup X dX10_parameters_41 rfl ?_
      refine g10_61 X dX10_parameters_42 s_37 rfl ?_
      refine w_iconst (v := 1) X dX10_parameters_45 (by decide) ?_
      refine w_iadd X dX10_parameters_46 ?_
      refine p10_61 X dX10_parameters_47 s_37 rfl ?_
      refine w_iload_n X dX10_parameters_50 rfl rfl ?_
      refine w_bipush (v := 48) X dX10_parameters_51 (by decide) ?_
      refine w_isub X dX10_parameters_53 ?_
      refine w_irF X dX10_parameters_54 ?_ ?_ <;> unfold pm_ <;> rw [if_pos ⟨Int32.not_lt.mp h11, h17⟩]
    · refine w_aload_n X dX10_parameters_20 rfl rfl ?_
      refine g10_7 X dX10_parameters_21 s_38 rfl ?_
      refine w_iconst (v := 1) X dX10_parameters_24 (by decide) ?_
      refine w_aload_n X dX10_parameters_25 rfl rfl ?_
      refine g10_7 X dX10_parameters_26 s_38 rfl ?_
      refine g10_61 X dX10_parameters_29 s_37 rfl ?_
      refine w_v2fV X dX10_parameters_32 k10_65 rfl s_37 (c7_fail G hG _ _ _ _) (Nat.le_of_ble_eq_true rfl) ?_
      refine w_iconst (v := 0) X dX10_parameters_35 (by decide) ?_
      refine w_irF X dX10_parameters_36 ?_ ?_ <;> unfold pm_ <;> rw [if_neg (fun z => h17 z.2)]
set_option maxRecDepth 100000 in
set_option maxHeartbeats 600000 in
theorem c10_expectEnd (G : gg_) (hG : gd_ G) (d : Nat) (M : mm_) (n : Nat) (ht : tpX_ M n) : cm_ G yX10_expectEnd cX10_expectEnd 1 none (d + 2) [.ref (G.1 38)] M (fV_ (xE_ M)) := by
  refine cm_of hG (by decide) (Nat.le_of_ble_eq_true rfl) (fun C X => ?_)
  refine w_aload_n X dX10_expectEnd_0 rfl rfl ?_
  refine g10_7 X dX10_expectEnd_1 s_38 rfl ?_
  refine w_v0fI X dX10_expectEnd_4 k10_58 rfl s_37 (c7_peek G hG _ _ n ht) (Nat.le_of_ble_eq_true rfl) ?_
  refine w_iconst (v := -1) X dX10_expectEnd_7 (by decide) ?_
  refine w_icmp_eq (tgt := 26) X dX10_expectEnd_8 (by decide) (fun h8 => ?_) (fun h8 => ?_)
  · refine w_vrF X dX10_expectEnd_26 ?_
    unfold xE_
    rw [if_pos h8]
  · refine w_aload_n X dX10_expectEnd_11 rfl rfl ?_
    refine g10_7 X dX10_expectEnd_12 s_38 rfl ?_
    refine w_iconst (v := 1) X dX10_expectEnd_15 (by decide) ?_
    refine w_aload_n X dX10_expectEnd_16 rfl rfl ?_
    refine g10_7 X dX10_expectEnd_17 s_38 rfl ?_
    refine g10_61 X dX10_expectEnd_20 s_37 rfl ?_
    refine w_v2fV X dX10_expectEnd_23 k10_65 rfl s_37 (c7_fail G hG _ _ _ _) (Nat.le_of_ble_eq_true rfl) ?_
    refine w_vrF X dX10_expectEnd_26 ?_
    unfold xE_
    rw [if_neg h8]
set_option maxRecDepth 100000 in
set_option maxHeartbeats 600000 in
theorem c10_verb (G : gg_) (hG : gd_ G) (d : Nat) (M : mm_) (n : Nat) (ht : tpX_ M n) : cm_ G yX10_verb cX10_verb 1 (some .int) (d + 5) [.ref (G.1 38)] M (fI_ (vb_ M).1 (vb_ M).2) := by
  refine cm_of hG (by decide) (Nat.le_of_ble_eq_true rfl) (fun C X => ?_)
  by_cases k0 : tkw_ M 1 = true
  · refine w_aload_n X dX10_verb_0 rfl rfl ?_
    refine g10_7 X dX10_verb_1 s_38 rfl ?_
    refine w_ldcS (i := 1) (tx := "watch") X dX10_verb_4 (by decide) ?_
    refine w_v1fI X dX10_verb_6 k10_104 rfl s_37 (c7_takes G hG _ _ n ht 1 (by decide)) (Nat.le_of_ble_eq_true rfl) ?_
    rw [if_pos k0, if_pos k0]
    refine w_if_eq (tgt := 14) X dX10_verb_9 (by decide) (fun h9 => absurd h9 (by decide)) (fun h9 => ?_)
    refine w_iconst (v := 1) X dX10_verb_12 (by decide) ?_
    refine w_irF X dX10_verb_13 ?_ ?_ <;> unfold vb_ <;> rw [if_pos k0]
  · refine w_aload_n X dX10_verb_0 rfl rfl ?_
    refine g10_7 X dX10_verb_1 s_38 rfl ?_
    refine w_ldcS (i := 1) (tx := "watch") X dX10_verb_4 (by decide) ?_
    refine w_v1fI X dX10_verb_6 k10_104 rfl s_37 (c7_takes G hG _ _ n ht 1 (by decide)) (Nat.le_of_ble_eq_true rfl) ?_
    rw [if_neg k0, if_neg k0]
    refine w_if_eq (tgt := 14) X dX10_verb_9 (by decide) (fun h9 => ?_) (fun h9 => absurd (rfl) h9)
    by_cases k1 : tkw_ M 2 = true
    · refine w_aload_n X dX10_verb_14 rfl rfl ?_
      refine g10_7 X dX10_verb_15 s_38 rfl ?_
      refine w_ldcS (i := 2) (tx := "monitor") X dX10_verb_18 (by decide) ?_
      refine w_v1fI X dX10_verb_20 k10_104 rfl s_37 (c7_takes G hG _ _ n ht 2 (by decide)) (Nat.le_of_ble_eq_true rfl) ?_
      rw [if_pos k1, if_pos k1]
      refine w_if_eq (tgt := 28) X dX10_verb_23 (by decide) (fun h23 => absurd h23 (by decide)) (fun h23 => ?_)
      refine w_iconst (v := 2) X dX10_verb_26 (by decide) ?_
      refine w_irF X dX10_verb_27 ?_ ?_ <;> unfold vb_ <;> rw [if_neg k0, if_pos k1]
    · refine w_aload_n X dX10_verb_14 rfl rfl ?_
      refine g10_7 X dX10_verb_15 s_38 rfl ?_
      refine w_ldcS (i := 2) (tx := "monitor") X dX10_verb_18 (by decide) ?_
      refine w_v1fI X dX10_verb_20 k10_104 rfl s_37 (c7_takes G hG _ _ n ht 2 (by decide)) (Nat.le_of_ble_eq_true rfl) ?_
      rw [if_neg k1, if_neg k1]
      refine w_if_eq (tgt := 28) X dX10_verb_23 (by decide) (fun h23 => ?_) (fun h23 => absurd (rfl) h23)
      by_cases k2 : tkw_ M 3 = true
      · refine w_aload_n X dX10_verb_28 rfl rfl ?_
        refine g10_7 X dX10_verb_29 s_38 rfl ?_
        refine w_ldcS (i := 3) (tx := "keep") X dX10_verb_32 (by decide) ?_
        refine w_v1fI X dX10_verb_34 k10_104 rfl s_37 (c7_takes G hG _ _ n ht 3 (by decide)) (Nat.le_of_ble_eq_true rfl) ?_
        rw [if_pos k2, if_pos k2]
        refine w_if_eq (tgt := 42) X dX10_verb_37 (by decide) (fun h37 => absurd h37 (by decide)) (fun h37 => ?_)
        refine w_iconst (v := 3) X dX10_verb_40 (by decide) ?_
        refine w_irF X dX10_verb_41 ?_ ?_ <;> unfold vb_ <;> rw [if_neg k0, if_neg k1, if_pos k2]
      · refine w_aload_n X dX10_verb_28 rfl rfl ?_
        refine g10_7 X dX10_verb_29 s_38 rfl ?_
        refine w_ldcS (i := 3) (tx := "keep") X dX10_verb_32 (by decide) ?_
        refine w_v1fI X dX10_verb_34 k10_104 rfl s_37 (c7_takes G hG _ _ n ht 3 (by decide)) (Nat.le_of_ble_eq_true rfl) ?_
        rw [if_neg k2, if_neg k2]
        refine w_if_eq (tgt := 42) X dX10_verb_37 (by decide) (fun h37 => ?_) (fun h37 => absurd (rfl) h37)
        by_cases k3 : tkw_ M 4 = true
        · refine w_aload_n X dX10_verb_42 rfl rfl ?_
          refine g10_7 X dX10_verb_43 s_38 rfl ?_
          refine w_ldcS (i := 4) (tx := "kill") X dX10_verb_46 (by decide) ?_
          refine w_v1fI X dX10_verb_48 k10_104 rfl s_37 (c7_takes G hG _ _ n ht 4 (by decide)) (Nat.le_of_ble_eq_true rfl) ?_
          rw [if_pos k3, if_pos k3]
          refine w_if_eq (tgt := 56) X dX10_verb_51 (by decide) (fun h51 => absurd h51 (by decide)) (fun h51 => ?_)
          refine w_iconst (v := 4) X dX10_verb_54 (by decide) ?_
          refine w_irF X dX10_verb_55 ?_ ?_ <;> unfold vb_ <;> rw [if_neg k0, if_neg k1, if_neg k2, if_pos k3]
        · refine w_aload_n X dX10_verb_42 rfl rfl ?_
          refine g10_7 X dX10_verb_43 s_38 rfl ?_
          refine w_ldcS (i := 4) (tx := "kill") X dX10_verb_46 (by decide) ?_
          refine w_v1fI X dX10_verb_48 k10_104 rfl s_37 (c7_takes G hG _ _ n ht 4 (by decide)) (Nat.le_of_ble_eq_true rfl) ?_
          rw [if_neg k3, if_neg k3]
          refine w_if_eq (tgt := 56) X dX10_verb_51 (by decide) (fun h51 => ?_) (fun h51 => absurd (rfl) h51)
          by_cases k4 : tkw_ M 5 = true
          · refine w_aload_n X dX10_verb_56 rfl rfl ?_
            refine g10_7 X dX10_verb_57 s_38 rfl ?_
            refine w_ldcS (i := 5) (tx := "reset") X dX10_verb_60 (by decide) ?_
            refine w_v1fI X dX10_verb_62 k10_104 rfl s_37 (c7_takes G hG _ _ n ht 5 (by decide)) (Nat.le_of_ble_eq_true rfl) ?_
            rw [if_pos k4, if_pos k4]
            refine w_if_ne (tgt := 83) X dX10_verb_65 (by decide) (fun h65 => ?_) (fun h65 => absurd h65 (by decide))
            refine w_iconst (v := 5) X dX10_verb_83 (by decide) ?_
            refine w_irF X dX10_verb_84 ?_ ?_ <;> unfold vb_ <;> rw [if_neg k0, if_neg k1, if_neg k2, if_neg k3, if_pos k4]
          · refine w_aload_n X dX10_verb_56 rfl rfl ?_
            refine g10_7 X dX10_verb_57 s_38 rfl ?_
            refine w_ldcS (i := 5) (tx := "reset") X dX10_verb_60 (by decide) ?_
            refine w_v1fI X dX10_verb_62 k10_104 rfl s_37 (c7_takes G hG _ _ n ht 5 (by decide)) (Nat.le_of_ble_eq_true rfl) ?_
            rw [if_neg k4, if_neg k4]
            refine w_if_ne (tgt := 83) X dX10_verb_65 (by decide) (fun h65 => absurd rfl h65) (fun h65 => ?_)
            refine w_aload_n X dX10_verb_68 rfl rfl ?_
            refine g10_7 X dX10_verb_69 s_38 rfl ?_
            refine w_iconst (v := 1) X dX10_verb_72 (by decide) ?_
            refine w_aload_n X dX10_verb_73 rfl rfl ?_
            refine g10_7 X dX10_verb_74 s_38 rfl ?_
            refine g10_61 X dX10_verb_77 s_37 rfl ?_
            refine w_v2fV X dX10_verb_80 k10_65 rfl s_37 (c7_fail G hG _ _ _ _) (Nat.le_of_ble_eq_true rfl) ?_
            refine w_iconst (v := 5) X dX10_verb_83 (by decide) ?_
            refine w_irF X dX10_verb_84 ?_ ?_ <;> unfold vb_ <;> rw [if_neg k0, if_neg k1, if_neg k2, if_neg k3, if_neg k4]
set_option maxRecDepth 100000 in
set_option maxHeartbeats 600000 in
theorem c10_point (G : gg_) (hG : gd_ G) (d : Nat) (M : mm_) (n : Nat) (ht : tpX_ M n) : cm_ G yX10_point cX10_point 1 (some .int) (d + 5) [.ref (G.1 38)] M (fI_ (po2_ M).1 (po2_ M).2) := by
  refine cm_of hG (by decide) (Nat.le_of_ble_eq_true rfl) (fun C X => ?_)
  by_cases k0 : tkw_ M 6 = true
  · refine w_aload_n X dX10_point_0 rfl rfl ?_
    refine g10_7 X dX10_point_1 s_38 rfl ?_
    refine w_ldcS (i := 6) (tx := "enter") X dX10_point_4 (by decide) ?_
    refine w_v1fI X dX10_point_6 k10_104 rfl s_37 (c7_takes G hG _ _ n ht 6 (by decide)) (Nat.le_of_ble_eq_true rfl) ?_
    rw [if_pos k0, if_pos k0]
    refine w_if_eq (tgt := 14) X dX10_point_9 (by decide) (fun h9 => absurd h9 (by decide)) (fun h9 => ?_)
    refine w_iconst (v := 0) X dX10_point_12 (by decide) ?_
    refine w_irF X dX10_point_13 ?_ ?_ <;> unfold po2_ <;> rw [if_pos k0]
  · refine w_aload_n X dX10_point_0 rfl rfl ?_
    refine g10_7 X dX10_point_1 s_38 rfl ?_
    refine w_ldcS (i := 6) (tx := "enter") X dX10_point_4 (by decide) ?_
    refine w_v1fI X dX10_point_6 k10_104 rfl s_37 (c7_takes G hG _ _ n ht 6 (by decide)) (Nat.le_of_ble_eq_true rfl) ?_
    rw [if_neg k0, if_neg k0]
    refine w_if_eq (tgt := 14) X dX10_point_9 (by decide) (fun h9 => ?_) (fun h9 => absurd (rfl) h9)
    by_cases k1 : tkw_ M 7 = true
    · refine w_aload_n X dX10_point_14 rfl rfl ?_
      refine g10_7 X dX10_point_15 s_38 rfl ?_
      refine w_ldcS (i := 7) (tx := "return") X dX10_point_18 (by decide) ?_
      refine w_v1fI X dX10_point_20 k10_104 rfl s_37 (c7_takes G hG _ _ n ht 7 (by decide)) (Nat.le_of_ble_eq_true rfl) ?_
      rw [if_pos k1, if_pos k1]
      refine w_if_eq (tgt := 28) X dX10_point_23 (by decide) (fun h23 => absurd h23 (by decide)) (fun h23 => ?_)
      refine w_iconst (v := 1) X dX10_point_26 (by decide) ?_
      refine w_irF X dX10_point_27 ?_ ?_ <;> unfold po2_ <;> rw [if_neg k0, if_pos k1]
    · refine w_aload_n X dX10_point_14 rfl rfl ?_
      refine g10_7 X dX10_point_15 s_38 rfl ?_
      refine w_ldcS (i := 7) (tx := "return") X dX10_point_18 (by decide) ?_
      refine w_v1fI X dX10_point_20 k10_104 rfl s_37 (c7_takes G hG _ _ n ht 7 (by decide)) (Nat.le_of_ble_eq_true rfl) ?_
      rw [if_neg k1, if_neg k1]
      refine w_if_eq (tgt := 28) X dX10_point_23 (by decide) (fun h23 => ?_) (fun h23 => absurd (rfl) h23)
      by_cases k2 : tkw_ M 8 = true
      · refine w_aload_n X dX10_point_28 rfl rfl ?_
        refine g10_7 X dX10_point_29 s_38 rfl ?_
        refine w_ldcS (i := 8) (tx := "throw") X dX10_point_32 (by decide) ?_
        refine w_v1fI X dX10_point_34 k10_104 rfl s_37 (c7_takes G hG _ _ n ht 8 (by decide)) (Nat.le_of_ble_eq_true rfl) ?_
        rw [if_pos k2, if_pos k2]
        refine w_if_ne (tgt := 55) X dX10_point_37 (by decide) (fun h37 => ?_) (fun h37 => absurd h37 (by decide))
        refine w_iconst (v := 2) X dX10_point_55 (by decide) ?_
        refine w_irF X dX10_point_56 ?_ ?_ <;> unfold po2_ <;> rw [if_neg k0, if_neg k1, if_pos k2]
      · refine w_aload_n X dX10_point_28 rfl rfl ?_
        refine g10_7 X dX10_point_29 s_38 rfl ?_
        refine w_ldcS (i := 8) (tx := "throw") X dX10_point_32 (by decide) ?_
        refine w_v1fI X dX10_point_34 k10_104 rfl s_37 (c7_takes G hG _ _ n ht 8 (by decide)) (Nat.le_of_ble_eq_true rfl) ?_
        rw [if_neg k2, if_neg k2]
        refine w_if_ne (tgt := 55) X dX10_point_37 (by decide) (fun h37 => absurd rfl h37) (fun h37 => ?_)
        refine w_aload_n X dX10_point_40 rfl rfl ?_
        refine g10_7 X dX10_point_41 s_38 rfl ?_
        refine w_iconst (v := 1) X dX10_point_44 (by decide) ?_
        refine w_aload_n X dX10_point_45 rfl rfl ?_
        refine g10_7 X dX10_point_46 s_38 rfl ?_
        refine g10_61 X dX10_point_49 s_37 rfl ?_
        refine w_v2fV X dX10_point_52 k10_65 rfl s_37 (c7_fail G hG _ _ _ _) (Nat.le_of_ble_eq_true rfl) ?_
        refine w_iconst (v := 2) X dX10_point_55 (by decide) ?_
        refine w_irF X dX10_point_56 ?_ ?_ <;> unfold po2_ <;> rw [if_neg k0, if_neg k1, if_neg k2]
set_option maxRecDepth 100000 in
set_option maxHeartbeats 600000 in
theorem c10_limit (G : gg_) (hG : gd_ G) (d : Nat) (M : mm_) (n : Nat) (ht : tpX_ M n) (r : mm_ × Int64) (hr : nu1_ 200 (nuA_ M) 0 = r) : cm_ G yX10_limit cX10_limit 3 (some .int) (d + 4) [.ref (G.1 38)] M (fI_ r.2.toInt32 (ew_ (lm1_ M r))) := by
  refine cm_of hG (by decide) (Nat.le_of_ble_eq_true rfl) (fun C X => ?_)
  have hc : c37_ M r.1 := by rw [← hr]; exact c37_tr c37_nA (c37_nu _ _ _)
  refine w_aload_n X dX10_limit_0 rfl rfl ?_
  refine g10_7 X dX10_limit_1 s_38 rfl ?_
  refine g10_61 X dX10_limit_4 s_37 rfl ?_
  refine w_istore_n X dX10_limit_7 rfl (by decide) ?_
  refine w_aload_n X dX10_limit_8 rfl rfl ?_
  refine g10_7 X dX10_limit_9 s_38 rfl ?_
  refine w_bipush (v := 99) X dX10_limit_12 (by decide) ?_
  refine w_v1fI X dX10_limit_14 k10_80 rfl s_37 (c7_number G hG _ _ n ht _ r hr) (Nat.le_of_ble_eq_true rfl) ?_
  refine w_istore_n X dX10_limit_17 rfl (by decide) ?_
  refine w_iload_n X dX10_limit_18 rfl rfl ?_
  refine w_if_ne (tgt := 31) X dX10_limit_19 (by decide) (fun h19 => ?_) (fun h19 => ?_)
  · refine w_aload_n X dX10_limit_31 rfl rfl ?_
    refine g10_7 X dX10_limit_32 s_38 rfl ?_
    refine w_v0fV X dX10_limit_35 k10_86 rfl s_37 (c7_endWord G hG _ _ n (c37_tp (by first | exact c37_tr hc c37_nB | exact c37_tr (c37_tr hc c37_nB) c37_fi) ht)) (Nat.le_of_ble_eq_true rfl) ?_
    refine w_iload_n X dX10_limit_38 rfl rfl ?_
    refine w_irF X dX10_limit_39 rfl ?_
    unfold lm1_
    rw [if_neg h19]
  · refine w_aload_n X dX10_limit_22 rfl rfl ?_
    refine g10_7 X dX10_limit_23 s_38 rfl ?_
    refine w_iconst (v := 2) X dX10_limit_26 (by decide) ?_
    refine w_iload_n X dX10_limit_27 rfl rfl ?_
    refine w_v2fV X dX10_limit_28 k10_65 rfl s_37 (c7_fail G hG _ _ _ _) (Nat.le_of_ble_eq_true rfl) ?_
    refine w_aload_n X dX10_limit_31 rfl rfl ?_
    refine g10_7 X dX10_limit_32 s_38 rfl ?_
    refine w_v0fV X dX10_limit_35 k10_86 rfl s_37 (c7_endWord G hG _ _ n (c37_tp (by first | exact c37_tr hc c37_nB | exact c37_tr (c37_tr hc c37_nB) c37_fi) ht)) (Nat.le_of_ble_eq_true rfl) ?_
    refine w_iload_n X dX10_limit_38 rfl rfl ?_
    refine w_irF X dX10_limit_39 rfl ?_
    unfold lm1_
    rw [if_pos h19]
set_option maxRecDepth 100000 in
set_option maxHeartbeats 600000 in
theorem c10_pattern (G : gg_) (hG : gd_ G) (d : Nat) (M : mm_) (n : Nat) (ht : tpX_ M n) : cm_ G yX10_pattern cX10_pattern 4 (some .long) (d + 4) [.ref (G.1 38)] M (fL_ (pa1_ 13 0 0 (pa0_ M)).1 (ew_ (pa1_ 13 0 0 (pa0_ M)).2)) := by
  refine cm_of hG (by decide) (Nat.le_of_ble_eq_true rfl) (fun C X => ?_)
  have lp : ∀ (u j : Nat) (w : Int64) (N : mm_), j + u = 13 → tpX_ N n → pa1_ u j w N = pa1_ 13 0 0 (pa0_ M) → wq_ C G (qe_ C G (fL_ (pa1_ 13 0 0 (pa0_ M)).1 (ew_ (pa1_ 13 0 0 (pa0_ M)).2))) 30 [some (.ref (G.1 38)), some (.long w), none, some (.int (nI j))] [] N := by
    intro u
    induction u with
    | zero =>
      intro j w N h1 hN h3
      rw [pa1_] at h3
      refine w_iload_n X dX10_pattern_30 rfl rfl ?_
      refine w_bipush (v := 12) X dX10_pattern_31 (by decide) ?_
      refine w_icmp_gt (tgt := 108) X dX10_pattern_33 (by decide) (fun h33 => ?_) (fun h33 => absurd (by rw [show j = 13 by omega]; decide) h33)
      refine w_aload_n X dX10_pattern_108 rfl rfl ?_
      refine g10_7 X dX10_pattern_109 s_38 rfl ?_
      refine w_v0fV X dX10_pattern_112 k10_86 rfl s_37 (c7_endWord G hG _ _ n hN) (Nat.le_of_ble_eq_true rfl) ?_
      refine w_lload_n X dX10_pattern_115 rfl rfl ?_
      refine w_lrF X dX10_pattern_116 ?_ ?_ <;> rw [← h3]
    | succ u ih =>
      intro j w N h1 hN h3
      refine w_iload_n X dX10_pattern_30 rfl rfl ?_
      refine w_bipush (v := 12) X dX10_pattern_31 (by decide) ?_
      refine w_icmp_gt (tgt := 108) X dX10_pattern_33 (by decide) (fun h33 => absurd h33 (Int32.not_lt.mpr (nI_le (a := j) (b := 12) (by omega) (by decide)))) (fun h33 => ?_)
      refine w_aload_n X dX10_pattern_36 rfl rfl ?_
      refine g10_7 X dX10_pattern_37 s_38 rfl ?_
      refine w_v0fI X dX10_pattern_40 k10_58 rfl s_37 (c7_peek G hG _ _ n hN) (Nat.le_of_ble_eq_true rfl) ?_
      refine w_s1fI X dX10_pattern_43 k10_152 (c6_sign G hG _ _ _) (Nat.le_of_ble_eq_true rfl) ?_
      refine w_if_eq (tgt := 108) X dX10_pattern_46 (by decide) (fun h46 => ?_) (fun h46 => ?_)
      · refine w_aload_n X dX10_pattern_108 rfl rfl ?_
        refine g10_7 X dX10_pattern_109 s_38 rfl ?_
        refine w_v0fV X dX10_pattern_112 k10_86 rfl s_37 (c7_endWord G hG _ _ n hN) (Nat.le_of_ble_eq_true rfl) ?_
        refine w_lload_n X dX10_pattern_115 rfl rfl ?_
        refine w_lrF X dX10_pattern_116 ?_ ?_ <;> rw [← h3, pa1_, if_pos h46]
      · rw [pa1_, if_neg h46] at h3
        by_cases h12 : j = 12
        · rw [if_pos h12] at h3
          refine w_iload_n X dX10_pattern_49 rfl rfl ?_
          refine w_bipush (v := 12) X dX10_pattern_50 (by decide) ?_
          refine w_icmp_ne (tgt := 73) X dX10_pattern_52 (by decide) (fun h52 => absurd (by rw [h12]; rfl) h52) (fun h52 => ?_)
          refine w_aload_n X dX10_pattern_55 rfl rfl ?_
          refine g10_7 X dX10_pattern_56 s_38 rfl ?_
          refine w_iconst (v := 3) X dX10_pattern_59 (by decide) ?_
          refine w_aload_n X dX10_pattern_60 rfl rfl ?_
          refine g10_7 X dX10_pattern_61 s_38 rfl ?_
          refine g10_61 X dX10_pattern_64 s_37 rfl ?_
          refine w_v2fV X dX10_pattern_67 k10_65 rfl s_37 (c7_fail G hG _ _ _ _) (Nat.le_of_ble_eq_true rfl) ?_
          refine w_goto (tgt := 102) X dX10_pattern_70 (by decide) ?_
          refine w_iinc (v := 1) X dX10_pattern_102 rfl (by decide) (by decide) ?_
          refine w_goto (tgt := 30) X dX10_pattern_105 (by decide) ?_
          rw [nI_1]
          exact ih (j + 1) w _ (by omega) (c37_tp c37_fi hN) (by rw [show u = 0 by omega, pa1_]; exact h3)
        · rw [if_neg h12] at h3
          refine w_iload_n X dX10_pattern_49 rfl rfl ?_
          refine w_bipush (v := 12) X dX10_pattern_50 (by decide) ?_
          refine w_icmp_ne (tgt := 73) X dX10_pattern_52 (by decide) (fun h52 => ?_) (fun h52 => absurd ((nI_inj (by omega) (by decide)).mp (h52.trans (by decide : (12 : Int32) = nI 12))) h12)
          refine w_lload_n X dX10_pattern_73 rfl rfl ?_
          refine w_iload_n X dX10_pattern_74 rfl rfl ?_
          refine w_aload_n X dX10_pattern_75 rfl rfl ?_
          refine g10_7 X dX10_pattern_76 s_38 rfl ?_
          refine w_v0fI X dX10_pattern_79 k10_58 rfl s_37 (c7_peek G hG _ _ n hN) (Nat.le_of_ble_eq_true rfl) ?_
          refine w_s1fI X dX10_pattern_82 k10_152 (c6_sign G hG _ _ _) (Nat.le_of_ble_eq_true rfl) ?_
          refine w_s3fL X dX10_pattern_85 k10_155 (c6_with G hG _ _ _ _ _) (Nat.le_of_ble_eq_true rfl) ?_
          refine w_lstore_n X dX10_pattern_88 rfl (by decide) ?_
          refine w_aload_n X dX10_pattern_89 rfl rfl ?_
          refine g10_7 X dX10_pattern_90 s_38 rfl ?_
          refine w_dup X dX10_pattern_93 rfl ?_
          refine g10_61 X dX10_pattern_94 s_37 rfl ?_
          refine w_iconst (v := 1) X dX10_pattern_97 (by decide) ?_
          refine w_iadd X dX10_pattern_98 ?_
          refine p10_61 X dX10_pattern_99 s_37 rfl ?_
          refine w_iinc (v := 1) X dX10_pattern_102 rfl (by decide) (by decide) ?_
          refine w_goto (tgt := 30) X dX10_pattern_105 (by decide) ?_
          rw [nI_1]
          exact ih (j + 1) _ _ (by omega) (c37_tp c37_I hN) h3
  refine w_lconst (v := 0) X dX10_pattern_0 (by decide) ?_
  refine w_lstore_n X dX10_pattern_1 rfl (by decide) ?_
  refine w_iconst (v := 0) X dX10_pattern_2 (by decide) ?_
  refine w_istore_n X dX10_pattern_3 rfl (by decide) ?_
  refine w_aload_n X dX10_pattern_4 rfl rfl ?_
  refine g10_7 X dX10_pattern_5 s_38 rfl ?_
  refine w_v0fI X dX10_pattern_8 k10_58 rfl s_37 (c7_peek G hG _ _ n ht) (Nat.le_of_ble_eq_true rfl) ?_
  refine w_iconst (v := -1) X dX10_pattern_11 (by decide) ?_
  refine w_icmp_ne (tgt := 30) X dX10_pattern_12 (by decide) (fun h12 => ?_) (fun h12 => ?_)
  · exact lp 13 0 0 _ (by omega) ht (by unfold pa0_; rw [if_neg h12])
  · refine w_aload_n X dX10_pattern_15 rfl rfl ?_
    refine g10_7 X dX10_pattern_16 s_38 rfl ?_
    refine w_iconst (v := 1) X dX10_pattern_19 (by decide) ?_
    refine w_aload_n X dX10_pattern_20 rfl rfl ?_
    refine g10_7 X dX10_pattern_21 s_38 rfl ?_
    refine g10_61 X dX10_pattern_24 s_37 rfl ?_
    refine w_v2fV X dX10_pattern_27 k10_65 rfl s_37 (c7_fail G hG _ _ _ _) (Nat.le_of_ble_eq_true rfl) ?_
    exact lp 13 0 0 _ (by omega) (c37_tp c37_fi ht) (by unfold pa0_; rw [if_pos h12])

end
section
/-! readMethod -/
theorem LS_tN {p a : Nat} {M : mm_} (h : LS_ (some p) M) (h4 : M.1 37 4 = nI a) (ha : a ≤ 300) : LS_ (if M.1 37 5 = 0 then none else if a ≤ 12 then some (p + a) else none) (tN_ M) := by
  unfold tN_
  by_cases h5 : M.1 37 5 = 0
  · rw [if_pos h5, if_pos h5]
    have e := LS_fi (f := 1) (w := M.1 37 1) h (by decide)
    refine LS_n ?_
    split
    · exact e
    · exact LS_fn e
  · rw [if_neg h5, if_neg h5]
    by_cases h12 : a ≤ 12
    · rw [if_pos h12, if_pos (by rw [h4]; exact nI_le (a := a) (b := 12) h12 (by decide)), h4, h.2, nI_add]
      exact ⟨h.1, rfl⟩
    · rw [if_neg h12, if_neg (by rw [h4]; exact nI_ge (a := 12) (b := a) (by omega) (by omega))]
      refine LS_n ?_
      exact LS_fi h (by decide)
def pv_ (T : Int32 → Int32) (q : Option Nat) : Int32 := match q with
  | none => 0
  | some p => if 48 ≤ T (nI p) ∧ T (nI p) ≤ 51 then T (nI p) - 48 else 0
theorem LS_pv {q : Option Nat} {M : mm_} (h : LS_ q M) : (pm_ M).1 = pv_ (tb_ M) q := by
  unfold pm_
  cases q with
  | none => rw [pe_F h, if_neg (by decide)]; rfl
  | some p =>
    rw [LS_pe h]
    unfold pv_
    simp only
    split <;> rfl
def qin_ (n : Nat) (q : Option Nat) : Prop := ∀ p, q = some p → p ≤ n
theorem qin_e {n : Nat} {q : Option Nat} {M : mm_} {c : Int32} (ht : tpX_ M n) (hc : ¬ c = -1) (h : qin_ n q) : qin_ n (qe2_ (tb_ M) c q) := by
  intro p hp
  have := ht.1
  cases q with
  | none => cases hp
  | some a =>
    unfold qe2_ at hp
    simp only at hp
    by_cases z : tb_ M (nI a) = c
    · rw [if_pos z] at hp
      cases hp
      have h1 := h a rfl
      exact tb_lt ht (by omega) (by rw [z]; exact hc)
    · rw [if_neg z] at hp
      cases hp
theorem qin_p {n : Nat} {q : Option Nat} {M : mm_} (ht : tpX_ M n) (h : qin_ n q) : qin_ n (qp_ (tb_ M) q) := by
  intro p hp
  have := ht.1
  cases q with
  | none => cases hp
  | some a =>
    unfold qp_ at hp
    simp only at hp
    by_cases z : 48 ≤ tb_ M (nI a) ∧ tb_ M (nI a) ≤ 51
    · rw [if_pos z] at hp
      cases hp
      have h1 := h a rfl
      exact tb_lt ht (by omega) (fun y => by rw [y] at z; exact absurd z.1 (by decide))
    · rw [if_neg z] at hp
      cases hp
theorem qin_w {n : Nat} {q : Option Nat} {M : mm_} (ht : tpX_ M n) (h : qin_ n q) : qin_ n (qw_ (tb_ M) q) := by
  intro p hp
  cases q with
  | none => cases hp
  | some a =>
    unfold qw_ at hp
    simp only at hp
    split at hp
    · rw [← Option.some.inj hp]; exact h a rfl
    · split at hp
      · cases hp
      · rw [← Option.some.inj hp]; exact skP_le (tb_n ht) 200 a (h a rfl)
theorem hd_37 {k : Nat} {M N : mm_} {C : List cq2_} (hk : kb_ k) (h : c37_ M N) (g : hd_ k M C) : hd_ k N C := by
  unfold kb_ at hk
  refine ⟨by rw [h.2.1 _ _ (by omega)]; exact g.1, fun j q hq => ?_⟩
  obtain ⟨a1, a2, a3, a4⟩ := g.2 j q hq
  exact ⟨by rw [h.2.1 _ _ (by omega)]; exact a1, by rw [h.2.2 _ _ (by omega)]; exact a2, fun z => by rw [h.2.1 _ _ (by omega)]; exact a3 z, by rw [h.2.1 _ _ (by omega)]; exact a4⟩
/-- the row at the text's beginning, and where the reader stands behind the method's name, behind '(', the number, ')', '=' -/
def mr_ (T : Int32 → Int32) : Nat × Int32 × Int64 := srT_ T (nI 0) 200 0 0 0
theorem srO_4 (M : mm_) (r : Nat × Int32 × Int64) : (srO_ M r).1 37 4 = nI r.1 := rfl
theorem srO_5 (M : mm_) (r : Nat × Int32 × Int64) : (srO_ M r).1 37 5 = (if r.2.1 = 1 ∧ ¬ tb_ M (M.1 37 1) = 46 ∧ ¬ tb_ M (M.1 37 1 + nI r.1 - 1) = 46 then 1 else 0) := rfl
theorem srO_2 (M : mm_) (r : Nat × Int32 × Int64) : (srO_ M r).1 37 2 = M.1 37 2 := rfl
theorem srO_1 (M : mm_) (r : Nat × Int32 × Int64) : (srO_ M r).1 37 1 = M.1 37 1 := rfl
theorem srO_L (M : mm_) (r : Nat × Int32 × Int64) : (srO_ M r).2.1 37 6 = r.2.2 := rfl
theorem bg_1 (M : mm_) : (sI_ (sI_ (sI_ M 37 1 0) 37 2 0) 37 3 (-1)).1 37 1 = nI 0 := rfl
theorem bg_2 (M : mm_) : (sI_ (sI_ (sI_ M 37 1 0) 37 2 0) 37 3 (-1)).1 37 2 = 0 := rfl
def mq1_ (T : Int32 → Int32) : Option Nat := if (if (mr_ T).2.1 = 1 ∧ ¬ T (nI 0) = 46 ∧ ¬ T (nI 0 + nI (mr_ T).1 - 1) = 46 then (1 : Int32) else 0) = 0 then none else if (mr_ T).1 ≤ 12 then some (0 + (mr_ T).1) else none
def mq2_ (T : Int32 → Int32) : Option Nat := qe2_ T 40 (mq1_ T)
def mq5_ (T : Int32 → Int32) : Option Nat := qe2_ T 61 (qe2_ T 41 (qp_ T (mq2_ T)))
/-- the method's body -/
def mx_ (T : Int32 → Int32) : px2_ := pe2_ T (pv_ T (mq2_ T)) true (mq5_ T)
def RM_ (k n : Nat) (M : mm_) (key : Int64) (N : mm_) : Prop := cr_ k M N ∧ LS_ (qE_ (tb_ M) (qx_ (mx_ (tb_ M)))) N ∧ (∃ L, L ≤ 26 ∧ N.1 k 4 = nI L) ∧ key = ky_ (mr_ (tb_ M)).2.2 (pv_ (tb_ M) (mq2_ (tb_ M))) ∧ ∀ x, mx_ (tb_ M) = some x → hd_ k N (cqX_ x.1 0 0) ∧ 3 * snX_ x.1 + 1 ≤ 80
set_option maxRecDepth 100000 in
set_option maxHeartbeats 600000 in
theorem c10_readMethod (G : gg_) (hG : gd_ G) (d : Nat) (M : mm_) (n : Nat) (ht : tpX_ M n) (k : Nat) (hk0 : cdX_ k) : cm_ G yX10_readMethod cX10_readMethod 5 (some .long) (d + 906) [.ref (G.1 38), .ref (G.1 k)] M (rL_ (RM_ k n M)) := by
  refine cm_of hG (by decide) (Nat.le_of_ble_eq_true rfl) (fun C X => ?_)
  have hk := cd_kb hk0
  have hn2 := ht.1
  have hm1 : (mr_ (tb_ M)).1 ≤ n := by
    unfold mr_
    exact Nat.le_trans (Nat.le_of_eq (Nat.zero_add _).symm) (srT_le (T := tb_ M) (n := n) (p := 0) (by rw [tb_n ht]; decide) 200 0 0 0 (Nat.zero_le _)).2
  generalize hR : mr_ (tb_ M) = R at hm1
  have i1 : qin_ n (mq1_ (tb_ M)) := by
    intro p hp
    unfold mq1_ at hp
    rw [hR] at hp
    by_cases z : (if R.2.1 = 1 ∧ ¬ tb_ M (nI 0) = 46 ∧ ¬ tb_ M (nI 0 + nI R.1 - 1) = 46 then (1 : Int32) else 0) = 0
    · rw [if_pos z] at hp; cases hp
    · rw [if_neg z] at hp
      by_cases y : R.1 ≤ 12
      · rw [if_pos y] at hp; rw [← Option.some.inj hp]; omega
      · rw [if_neg y] at hp; cases hp
  generalize hQ1 : mq1_ (tb_ M) = Q1 at i1
  have i7 : qin_ n (qe2_ (tb_ M) 61 (qe2_ (tb_ M) 41 (qp_ (tb_ M) (qe2_ (tb_ M) 40 Q1)))) := qin_e ht (by decide) (qin_e ht (by decide) (qin_p ht (qin_e ht (by decide) i1)))
  have hmx : mx_ (tb_ M) = pe2_ (tb_ M) (pv_ (tb_ M) (qe2_ (tb_ M) 40 Q1)) true (qe2_ (tb_ M) 61 (qe2_ (tb_ M) 41 (qp_ (tb_ M) (qe2_ (tb_ M) 40 Q1)))) := by
    unfold mx_ mq5_ mq2_
    rw [hQ1]
  have hpv : pv_ (tb_ M) (mq2_ (tb_ M)) = pv_ (tb_ M) (qe2_ (tb_ M) 40 Q1) := by
    unfold mq2_
    rw [hQ1]
  refine w_aload_n X dX10_readMethod_0 rfl rfl ?_
  refine g10_7 X dX10_readMethod_1 s_38 rfl ?_
  refine w_v0fV X dX10_readMethod_4 k10_25 rfl s_37 (c7_begin G hG (d + 905) _) (Nat.le_of_ble_eq_true rfl) ?_
  have c1 : c37_ M (sI_ (sI_ (sI_ M 37 1 0) 37 2 0) 37 3 (-1)) := c37_tr (c37_tr c37_I c37_I) c37_I
  have b1 := bg_1 M
  have b2 := bg_2 M
  generalize (sI_ (sI_ (sI_ M 37 1 0) 37 2 0) 37 3 (-1)) = N1 at c1 b1 b2 ⊢
  have hr : sr1_ N1 (N1.1 37 1) 200 0 0 0 = R := by
    rw [← hR]
    unfold mr_
    rw [sr1_T, b1, c37_tb c1]
  refine w_aload_n X dX10_readMethod_7 rfl rfl ?_
  refine g10_7 X dX10_readMethod_8 s_38 rfl ?_
  refine w_v0fV X dX10_readMethod_11 k10_30 rfl s_37 (c7_scanRow G hG (d + 904) N1 n (c37_tp c1 ht) R hr) (Nat.le_of_ble_eq_true rfl) ?_
  have h4 := srO_4 N1 R
  have h5 := srO_5 N1 R
  have h6 := srO_L N1 R
  rw [b1, c37_tb c1] at h5
  have c2 : c37_ M (srO_ N1 R) := c37_tr c1 c37_sr
  have l2 : LS_ (some 0) (srO_ N1 R) := ⟨(srO_2 _ _).trans b2, (srO_1 _ _).trans b1⟩
  generalize srO_ N1 R = N2 at h4 h5 h6 c2 l2 ⊢
  refine w_aload_n X dX10_readMethod_14 rfl rfl ?_
  refine g10_7 X dX10_readMethod_15 s_38 rfl ?_
  refine w_v0fL X dX10_readMethod_18 k10_33 rfl s_37 (c7_takeName G hG (d + 904) N2) (Nat.le_of_ble_eq_true rfl) ?_
  rw [h6]
  have l3 := LS_tN l2 h4 (by omega)
  rw [h5] at l3
  have c3 := c37_tr c2 (c37_tN (M := N2))
  generalize tN_ N2 = N3 at l3 c3 ⊢
  have l3b : LS_ Q1 N3 := by
    rw [← hQ1]
    unfold mq1_
    rw [hR]
    exact l3
  clear l3
  refine w_lstore_n X dX10_readMethod_21 rfl (by decide) ?_
  refine w_aload_n X dX10_readMethod_22 rfl rfl ?_
  refine g10_7 X dX10_readMethod_23 s_38 rfl ?_
  refine w_bipush (v := 40) X dX10_readMethod_26 (by decide) ?_
  refine w_v1fV X dX10_readMethod_28 k10_37 rfl s_37 (c7_expect G hG (d + 903) N3 n (c37_tp c3 ht) 40) (Nat.le_of_ble_eq_true rfl) ?_
  have l4 := LS_ep (c := 40) l3b
  rw [c37_tb c3] at l4
  have c4 := c37_tr c3 (c37_ep (M := N3) (c := 40))
  generalize ep_ N3 40 = N4 at l4 c4 ⊢
  refine w_aload_n X dX10_readMethod_31 rfl rfl ?_
  refine w_v0fI X dX10_readMethod_32 k10_41 rfl s_38 (c10_parameters G hG (d + 903) N4 n (c37_tp c4 ht)) (Nat.le_of_ble_eq_true rfl) ?_
  have hv := LS_pv l4
  rw [c37_tb c4] at hv
  rw [hv]
  have l5 := LS_pm l4
  rw [c37_tb c4] at l5
  have c5 := c37_tr c4 (c37_pm (M := N4))
  generalize (pm_ N4).2 = N5 at l5 c5 ⊢
  refine w_istore X dX10_readMethod_35 (by decide) ?_
  refine w_aload_n X dX10_readMethod_37 rfl rfl ?_
  refine g10_7 X dX10_readMethod_38 s_38 rfl ?_
  refine w_bipush (v := 41) X dX10_readMethod_41 (by decide) ?_
  refine w_v1fV X dX10_readMethod_43 k10_37 rfl s_37 (c7_expect G hG (d + 903) N5 n (c37_tp c5 ht) 41) (Nat.le_of_ble_eq_true rfl) ?_
  have l6 := LS_ep (c := 41) l5
  rw [c37_tb c5] at l6
  have c6 := c37_tr c5 (c37_ep (M := N5) (c := 41))
  generalize ep_ N5 41 = N6 at l6 c6 ⊢
  refine w_aload_n X dX10_readMethod_46 rfl rfl ?_
  refine g10_7 X dX10_readMethod_47 s_38 rfl ?_
  refine w_bipush (v := 61) X dX10_readMethod_50 (by decide) ?_
  refine w_v1fV X dX10_readMethod_52 k10_37 rfl s_37 (c7_expect G hG (d + 903) N6 n (c37_tp c6 ht) 61) (Nat.le_of_ble_eq_true rfl) ?_
  have l7 := LS_ep (c := 61) l6
  rw [c37_tb c6] at l7
  have c7 := c37_tr c6 (c37_ep (M := N6) (c := 61))
  generalize ep_ N6 61 = N7 at l7 c7 ⊢
  refine w_aload_n X dX10_readMethod_55 rfl rfl ?_
  refine g10_21 X dX10_readMethod_56 s_38 rfl ?_
  refine w_aload_n X dX10_readMethod_59 rfl rfl ?_
  refine w_iload X dX10_readMethod_60 rfl ?_
  refine w_iconst (v := 1) X dX10_readMethod_62 (by decide) ?_
  refine w_v3rV X dX10_readMethod_63 k10_45 rfl s_39 (c1_read G hG d N7 n (c37_tp c7 ht) k hk0 (pv_ (tb_ M) (qe2_ (tb_ M) 40 Q1)) true _ l7 i7) (Nat.le_of_ble_eq_true rfl) (fun N63 h63 => ?_)
  rw [c37_tb c7] at h63
  rw [← hmx] at h63
  generalize hX : mx_ (tb_ M) = X9 at h63
  obtain ⟨r1, r2, r3, r4⟩ := h63
  refine w_aload_n X dX10_readMethod_66 rfl rfl ?_
  refine w_v0fV X dX10_readMethod_67 k10_49 rfl s_38 (c10_expectEnd G hG (d + 903) N63 n (cr_tp hk r1 (c37_tp c7 ht))) (Nat.le_of_ble_eq_true rfl) ?_
  refine w_lload_n X dX10_readMethod_70 rfl rfl ?_
  refine w_iload X dX10_readMethod_71 rfl ?_
  refine w_s2fL X dX10_readMethod_73 k10_52 (c6_key G hG (d + 905) _ _ _) (Nat.le_of_ble_eq_true rfl) ?_
  have l8 := LS_xE r2
  rw [cr_tb hk r1, c37_tb c7] at l8
  have hk2 := hk
  unfold kb_ at hk2
  refine w_lrR X dX10_readMethod_76 ?_
  unfold RM_
  rw [hX, hpv, hR]
  refine ⟨cr_tr (c37_cr c7) (cr_tr r1 (c37_cr c37_xE)), l8, ?_, rfl, fun x hx => ?_⟩
  · obtain ⟨L9, h1, h2⟩ := r3
    exact ⟨L9, h1, by rw [c37_xE.2.1 _ _ (by omega)]; exact h2⟩
  · obtain ⟨g1, g2, g3⟩ := r4 x hx
    exact ⟨hd_37 hk c37_xE g2, g3⟩

end
section
/-! what words, patterns and limits come to, as functions of the text -/
def tklT_ (T : Int32 → Int32) (i : Nat) (p : Int32) : Nat → Nat → Bool
  | 0, _ => true
  | u + 1, j => if T (p + nI j) = sC_ i j then tklT_ T i p u (j + 1) else false
theorem tkl_T (M : mm_) (i : Nat) (p : Int32) : ∀ (u j : Nat), tkl_ M i p u j = tklT_ (tb_ M) i p u j
  | 0, _ => rfl
  | u + 1, j => by rw [tkl_, tklT_, tkl_T M i p u]
def tkwT_ (T : Int32 → Int32) (i p : Nat) : Bool := tklT_ T i (nI p) (sLen_.getD i 0) 0 && (decide (T (nI p + nI (sLen_.getD i 0)) = -1) || !decide (bl_ (T (nI p + nI (sLen_.getD i 0))) = 0))
theorem LS_tkw {p i : Nat} {M : mm_} (h : LS_ (some p) M) : tkw_ M i = tkwT_ (tb_ M) i p := by
  unfold tkw_ tkwT_
  rw [h.2, tkl_T]
def tkp_ (T : Int32 → Int32) (i p : Nat) : Nat := skP_ T 200 (p + sLen_.getD i 0)
theorem LS_tkM {p i : Nat} {M : mm_} (h : LS_ (some p) M) : LS_ (some (tkp_ (tb_ M) i p)) (tkM_ M i) := by
  unfold tkM_ tkp_
  rw [h.2, nI_add]
  exact LS_sk 200 (some (p + sLen_.getD i 0)) (sI_ M 37 1 (nI (p + sLen_.getD i 0))) rfl ⟨h.1, rfl⟩
theorem sC_ne : ∀ i, i < 9 → ∀ j, j < sLen_.getD i 0 → ¬ sC_ i j = -1 := by decide +kernel
theorem tkl_le {M : mm_} {n p i : Nat} (ht : tpX_ M n) (hi : i < 9) : ∀ (u j : Nat), j + u = sLen_.getD i 0 → p + j ≤ n → tklT_ (tb_ M) i (nI p) u j = true → p + j + u ≤ n
  | 0, _, _, h, _ => h
  | u + 1, j, h1, h2, h3 => by
    have h9 := ht.1
    rw [tklT_] at h3
    by_cases z : tb_ M (nI p + nI j) = sC_ i j
    · rw [if_pos z] at h3
      rw [nI_add] at z
      have := tb_lt ht (by omega : p + j ≤ 300) (by rw [z]; exact sC_ne i hi j (by omega))
      have := tkl_le ht hi u (j + 1) (by omega) (by omega) h3
      omega
    · rw [if_neg z] at h3
      cases h3
theorem tkp_le {M : mm_} {n p i : Nat} (ht : tpX_ M n) (hi : i < 9) (hp : p ≤ n) (h : tkwT_ (tb_ M) i p = true) : tkp_ (tb_ M) i p ≤ n := by
  unfold tkwT_ at h
  rw [Bool.and_eq_true] at h
  have := tkl_le ht hi (sLen_.getD i 0) 0 (by omega) (by omega) h.1
  exact skP_le (tb_n ht) 200 _ (by omega)
def vbT_ (T : Int32 → Int32) (p : Nat) : Int32 × Option Nat := if tkwT_ T 1 p = true then (1, some (tkp_ T 1 p)) else if tkwT_ T 2 p = true then (2, some (tkp_ T 2 p)) else if tkwT_ T 3 p = true then (3, some (tkp_ T 3 p)) else if tkwT_ T 4 p = true then (4, some (tkp_ T 4 p)) else if tkwT_ T 5 p = true then (5, some (tkp_ T 5 p)) else (5, none)
def poT_ (T : Int32 → Int32) (p : Nat) : Int32 × Option Nat := if tkwT_ T 6 p = true then (0, some (tkp_ T 6 p)) else if tkwT_ T 7 p = true then (1, some (tkp_ T 7 p)) else if tkwT_ T 8 p = true then (2, some (tkp_ T 8 p)) else (2, none)
theorem LS_vb {p : Nat} {M : mm_} (h : LS_ (some p) M) : (vb_ M).1 = (vbT_ (tb_ M) p).1 ∧ LS_ (vbT_ (tb_ M) p).2 (vb_ M).2 := by
  unfold vb_ vbT_
  rw [LS_tkw (i := 1) h, LS_tkw (i := 2) h, LS_tkw (i := 3) h, LS_tkw (i := 4) h, LS_tkw (i := 5) h]
  by_cases h1 : tkwT_ (tb_ M) 1 p = true
  · rw [if_pos h1, if_pos h1]; exact ⟨rfl, LS_tkM h⟩
  · rw [if_neg h1, if_neg h1]
    by_cases h2 : tkwT_ (tb_ M) 2 p = true
    · rw [if_pos h2, if_pos h2]; exact ⟨rfl, LS_tkM h⟩
    · rw [if_neg h2, if_neg h2]
      by_cases h3 : tkwT_ (tb_ M) 3 p = true
      · rw [if_pos h3, if_pos h3]; exact ⟨rfl, LS_tkM h⟩
      · rw [if_neg h3, if_neg h3]
        by_cases h4 : tkwT_ (tb_ M) 4 p = true
        · rw [if_pos h4, if_pos h4]; exact ⟨rfl, LS_tkM h⟩
        · rw [if_neg h4, if_neg h4]
          by_cases h5 : tkwT_ (tb_ M) 5 p = true
          · rw [if_pos h5, if_pos h5]; exact ⟨rfl, LS_tkM h⟩
          · rw [if_neg h5, if_neg h5]; exact ⟨rfl, LS_fi h (by decide)⟩
theorem LS_po {p : Nat} {M : mm_} (h : LS_ (some p) M) : (po2_ M).1 = (poT_ (tb_ M) p).1 ∧ LS_ (poT_ (tb_ M) p).2 (po2_ M).2 := by
  unfold po2_ poT_
  rw [LS_tkw (i := 6) h, LS_tkw (i := 7) h, LS_tkw (i := 8) h]
  by_cases h1 : tkwT_ (tb_ M) 6 p = true
  · rw [if_pos h1, if_pos h1]; exact ⟨rfl, LS_tkM h⟩
  · rw [if_neg h1, if_neg h1]
    by_cases h2 : tkwT_ (tb_ M) 7 p = true
    · rw [if_pos h2, if_pos h2]; exact ⟨rfl, LS_tkM h⟩
    · rw [if_neg h2, if_neg h2]
      by_cases h3 : tkwT_ (tb_ M) 8 p = true
      · rw [if_pos h3, if_pos h3]; exact ⟨rfl, LS_tkM h⟩
      · rw [if_neg h3, if_neg h3]; exact ⟨rfl, LS_fi h (by decide)⟩
theorem qin_vb {M : mm_} {n p : Nat} (ht : tpX_ M n) (hp : p ≤ n) : qin_ n (vbT_ (tb_ M) p).2 := by
  intro a ha
  unfold vbT_ at ha
  split at ha
  · rename_i h; cases ha; exact tkp_le ht (by decide) hp h
  · split at ha
    · rename_i h; cases ha; exact tkp_le ht (by decide) hp h
    · split at ha
      · rename_i h; cases ha; exact tkp_le ht (by decide) hp h
      · split at ha
        · rename_i h; cases ha; exact tkp_le ht (by decide) hp h
        · split at ha
          · rename_i h; cases ha; exact tkp_le ht (by decide) hp h
          · cases ha
theorem qin_po {M : mm_} {n p : Nat} (ht : tpX_ M n) (hp : p ≤ n) : qin_ n (poT_ (tb_ M) p).2 := by
  intro a ha
  unfold poT_ at ha
  split at ha
  · rename_i h; cases ha; exact tkp_le ht (by decide) hp h
  · split at ha
    · rename_i h; cases ha; exact tkp_le ht (by decide) hp h
    · split at ha
      · rename_i h; cases ha; exact tkp_le ht (by decide) hp h
      · cases ha
def paT_ (T : Int32 → Int32) : Nat → Nat → Int64 → Nat → Int64 × Option Nat
  | 0, _, w, p => (w, some p)
  | u + 1, j, w, p => if sgX_ (T (nI p)) = 0 then (w, some p) else if j = 12 then (w, none) else paT_ T u (j + 1) (wi_ w (nI j) (sgX_ (T (nI p)))) (p + 1)
def patT_ (T : Int32 → Int32) (q : Option Nat) : Int64 × Option Nat := match q with
  | none => (0, none)
  | some p => if T (nI p) = -1 then (0, none) else paT_ T 13 0 0 p
theorem pa_n {M : mm_} {u j : Nat} {w : Int64} (h : LS_ none M) : pa1_ (u + 1) j w M = (w, M) := by
  rw [pa1_, pe_F h, if_pos (by decide)]
theorem LS_pa1 {T : Int32 → Int32} : ∀ (u j : Nat) (w : Int64) (p : Nat) (M : mm_), tb_ M = T → LS_ (some p) M → (pa1_ u j w M).1 = (paT_ T u j w p).1 ∧ LS_ (paT_ T u j w p).2 (pa1_ u j w M).2
  | 0, _, _, _, _, _, h => ⟨rfl, h⟩
  | u + 1, j, w, p, M, hT, h => by
    rw [pa1_, paT_, LS_pe h, hT]
    by_cases z : sgX_ (T (nI p)) = 0
    · rw [if_pos z, if_pos z]; exact ⟨rfl, h⟩
    · rw [if_neg z, if_neg z]
      by_cases y : j = 12
      · rw [if_pos y, if_pos y]; exact ⟨rfl, LS_fi h (by decide)⟩
      · rw [if_neg y, if_neg y, h.2, nI_1]
        exact LS_pa1 u (j + 1) _ (p + 1) (sI_ M 37 1 (nI (p + 1))) hT ⟨h.1, rfl⟩
theorem LS_pat {q : Option Nat} {M : mm_} (h : LS_ q M) : (pa1_ 13 0 0 (pa0_ M)).1 = (patT_ (tb_ M) q).1 ∧ LS_ (patT_ (tb_ M) q).2 (pa1_ 13 0 0 (pa0_ M)).2 := by
  unfold pa0_
  cases q with
  | none =>
    have e := LS_fn (f := 1) (w := M.1 37 1) h
    rw [pe_F h, if_pos rfl, pa_n e]
    exact ⟨rfl, e⟩
  | some p =>
    rw [LS_pe h]
    unfold patT_
    simp only
    by_cases z : tb_ M (nI p) = -1
    · rw [if_pos z, if_pos z]
      have e := LS_fi (f := 1) (w := M.1 37 1) h (by decide)
      rw [pa_n e]
      exact ⟨rfl, e⟩
    · rw [if_neg z, if_neg z]
      exact LS_pa1 13 0 0 p M rfl h
theorem paT_le {M : mm_} {n : Nat} (ht : tpX_ M n) : ∀ (u j : Nat) (w : Int64) (p : Nat), p ≤ n → qin_ n (paT_ (tb_ M) u j w p).2
  | 0, _, _, p, hp, a, ha => by cases ha; exact hp
  | u + 1, j, w, p, hp, a, ha => by
    have := ht.1
    rw [paT_] at ha
    by_cases z : sgX_ (tb_ M (nI p)) = 0
    · rw [if_pos z] at ha; cases ha; exact hp
    · rw [if_neg z] at ha
      by_cases y : j = 12
      · rw [if_pos y] at ha; cases ha
      · rw [if_neg y] at ha
        exact paT_le ht u (j + 1) _ (p + 1) (tb_lt ht (by omega) (fun x => z (by rw [x]; decide))) a ha
theorem qin_pat {M : mm_} {n : Nat} {q : Option Nat} (ht : tpX_ M n) (h : qin_ n q) : qin_ n (patT_ (tb_ M) q).2 := by
  intro a ha
  cases q with
  | none => cases ha
  | some p =>
    unfold patT_ at ha
    simp only at ha
    split at ha
    · cases ha
    · exact paT_le ht 13 0 0 p (h p rfl) a ha
def lmT_ (T : Int32 → Int32) (q : Option Nat) : Int32 × Option Nat := match q with
  | none => (0, none)
  | some p => if fg_ (T (nI p)) = 0 then (0, none) else ((nuP_ T 200 p 0).2.toInt32, if (nuP_ T 200 p 0).2 ≤ 99 ∧ ¬ (nuP_ T 200 p 0).2.toInt32 = 0 then some (nuP_ T 200 p 0).1 else none)
theorem nu_n {M : mm_} (h : LS_ none M) : nu1_ 200 M 0 = (M, 0) := by
  rw [nu1_, pe_F h, if_pos (by decide)]
theorem lm_n {M N : mm_} (h : LS_ none N) : LS_ none (lm1_ M (N, 0)) := by
  unfold lm1_ nuB_
  simp only
  rw [if_pos (by decide), if_pos (by decide)]
  exact LS_fn h
theorem LS_lm {q : Option Nat} {M : mm_} (h : LS_ q M) : (nu1_ 200 (nuA_ M) 0).2.toInt32 = (lmT_ (tb_ M) q).1 ∧ LS_ (lmT_ (tb_ M) q).2 (lm1_ M (nu1_ 200 (nuA_ M) 0)) := by
  cases q with
  | none =>
    have e : LS_ none (nuA_ M) := by
      unfold nuA_
      rw [pe_F h, if_pos (by decide)]
      exact LS_fn h
    rw [nu_n e]
    exact ⟨rfl, lm_n e⟩
  | some p =>
    unfold lmT_
    simp only
    by_cases z : fg_ (tb_ M (nI p)) = 0
    · have e : LS_ none (nuA_ M) := by
        unfold nuA_
        rw [LS_pe h, if_pos z]
        exact LS_fi h (by decide)
      rw [nu_n e, if_pos z]
      exact ⟨rfl, lm_n e⟩
    · rw [nuG h.1 h.2 (by rw [LS_pe h]; exact z), if_neg z]
      refine ⟨rfl, ?_⟩
      have e : LS_ (some (nuP_ (tb_ M) 200 p 0).1) (sI_ M 37 1 (nI (nuP_ (tb_ M) 200 p 0).1)) := ⟨h.1, rfl⟩
      unfold lm1_ nuB_
      simp only
      rw [show Int32.toInt64 99 = 99 by decide +kernel]
      by_cases y : (nuP_ (tb_ M) 200 p 0).2 ≤ 99
      · rw [if_pos y]
        by_cases x : (nuP_ (tb_ M) 200 p 0).2.toInt32 = 0
        · rw [if_pos x, if_neg (fun w => w.2 x)]
          exact LS_fi e (by decide)
        · rw [if_neg x, if_pos ⟨y, x⟩]
          exact e
      · rw [if_neg y, if_neg (fun w => y w.1)]
        have e2 := LS_fi (f := 2) (w := M.1 37 1) e (by decide)
        split
        · exact LS_fn e2
        · exact e2
/-- is something there to be read -/
def moX_ (T : Int32 → Int32) (q : Option Nat) : Prop := match q with
  | none => False
  | some p => ¬ T (nI p) = -1
theorem LS_mo {q : Option Nat} {M : mm_} (h : LS_ q M) : (¬ pe_ M = -1) ↔ moX_ (tb_ M) q := by
  cases q with
  | none => rw [pe_F h]; exact ⟨fun z => absurd rfl z, fun z => absurd z id⟩
  | some p => rw [LS_pe h]; exact Iff.rfl
theorem LS_37x {q : Option Nat} {M N : mm_} (h : LS_ q M) (h1 : N.1 37 1 = M.1 37 1) (h2 : N.1 37 2 = M.1 37 2) : LS_ q N := by
  cases q with
  | none => show ¬ N.1 37 2 = 0; rw [h2]; exact h
  | some p => exact ⟨h2.trans h.1, h1.trans h.2⟩


end
