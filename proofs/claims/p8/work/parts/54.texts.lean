/-! Texts: its small methods -/
/-- nothing but the reader's own cell has changed -/
def c37_ (M N : mm_) : Prop := N.2.2 = M.2.2 ∧ (∀ a i, a ≠ 37 → N.1 a i = M.1 a i) ∧ (∀ a i, a ≠ 37 → N.2.1 a i = M.2.1 a i)
theorem c37_rf {M : mm_} : c37_ M M := ⟨rfl, fun _ _ _ => rfl, fun _ _ _ => rfl⟩
theorem c37_tr {A B D : mm_} (h : c37_ A B) (g : c37_ B D) : c37_ A D := ⟨g.1.trans h.1, fun a i h1 => (g.2.1 a i h1).trans (h.2.1 a i h1), fun a i h1 => (g.2.2 a i h1).trans (h.2.2 a i h1)⟩
theorem c37_I {M : mm_} {i : Nat} {v : Int32} : c37_ M (sI_ M 37 i v) := ⟨rfl, fun a j h => by rw [gI_sI, if_neg (fun z => h z.1)], fun _ _ _ => rfl⟩
theorem c37_L {M : mm_} {i : Nat} {v : Int64} : c37_ M (sL_ M 37 i v) := ⟨rfl, fun _ _ _ => rfl, fun a j h => by rw [gL_sL, if_neg (fun z => h z.1)]⟩
theorem c37_fi {M : mm_} {f w : Int32} : c37_ M (fiX_ M f w) := by
  unfold fiX_; split
  · exact c37_tr c37_I c37_I
  · exact c37_rf
theorem c37_ep {M : mm_} {c : Int32} : c37_ M (ep_ M c) := by
  unfold ep_; split
  · exact c37_I
  · exact c37_tr c37_fi c37_I
theorem c37_sk : ∀ (u : Nat) (M : mm_), c37_ M (sk1_ u M)
  | 0, _ => c37_rf
  | u + 1, M => by
    rw [sk1_]; split
    · exact c37_rf
    · exact c37_tr c37_I (c37_sk u _)
theorem c37_ew {M : mm_} : c37_ M (ew_ M) := by
  unfold ew_
  refine c37_tr ?_ (c37_sk _ _)
  split
  · exact c37_rf
  · split
    · exact c37_fi
    · exact c37_rf
theorem c37_nu : ∀ (u : Nat) (M : mm_) (v : Int64), c37_ M (nu1_ u M v).1
  | 0, _, _ => c37_rf
  | u + 1, M, v => by
    rw [nu1_]; split
    · exact c37_rf
    · exact c37_tr c37_I (c37_nu u _ _)
theorem c37_nA {M : mm_} : c37_ M (nuA_ M) := by
  unfold nuA_; split
  · exact c37_fi
  · exact c37_rf
theorem c37_nB {M : mm_} {p w : Int32} {v : Int64} : c37_ M (nuB_ M p v w) := by
  unfold nuB_; split
  · exact c37_rf
  · exact c37_fi
theorem c37_sr {M : mm_} {r : Nat × Int32 × Int64} : c37_ M (srO_ M r) := c37_tr (c37_tr c37_L c37_I) c37_I
theorem c37_tN {M : mm_} : c37_ M (tN_ M) := by
  have e : c37_ M (if M.1 37 5 = 0 then fiX_ M 1 (M.1 37 1) else M) := by
    split
    · exact c37_fi
    · exact c37_rf
  unfold tN_
  refine c37_tr ?_ c37_I
  split
  · exact e
  · exact c37_tr e c37_fi
theorem c37_tk {M : mm_} {i : Nat} : c37_ M (tkM_ M i) := c37_tr c37_I (c37_sk _ _)
theorem c37_tp {M N : mm_} {n : Nat} (h : c37_ M N) (ht : tpX_ M n) : tpX_ N n := ⟨ht.1, by rw [h.2.1 35 1 (by decide)]; exact ht.2⟩
theorem c37_tb {M N : mm_} (h : c37_ M N) : tb_ N = tb_ M := by
  funext x
  unfold tb_
  rw [h.2.1 35 1 (by decide), h.2.1 36 _ (by decide)]
theorem c37_cr {M N : mm_} {k : Nat} (h : c37_ M N) : cr_ k M N := ⟨fun a i _ => by rw [h.1], fun a i h1 _ _ => h.2.1 a i h1, fun a i h1 _ => h.2.2 a i h1⟩
theorem LS_pe {p : Nat} {M : mm_} (h : LS_ (some p) M) : pe_ M = tb_ M (nI p) := by unfold pe_; rw [if_pos h.1, h.2]
theorem LS_p {p : Nat} {q : Option Nat} {M : mm_} (h : LS_ q M) : LS_ (match q with | none => none | some _ => some p) (sI_ M 37 1 (nI p)) := by
  cases q with
  | none => exact h
  | some a => exact ⟨h.1, rfl⟩
theorem LS_n {M : mm_} {v : Int32} (h : LS_ none M) : LS_ none (sI_ M 37 1 v) := h
theorem LS_fi {M : mm_} {p : Nat} {f w : Int32} (h : LS_ (some p) M) (hf : ¬ f = 0) : LS_ none (fiX_ M f w) := by
  unfold fiX_
  rw [if_pos h.1]
  exact hf
theorem LS_fn {M : mm_} {f w : Int32} (h : LS_ none M) : LS_ none (fiX_ M f w) := by
  rw [fi_F h]; exact h
/-- expect -/
def qe2_ (T : Int32 → Int32) (c : Int32) (q : Option Nat) : Option Nat := match q with
  | none => none
  | some p => if T (nI p) = c then some (p + 1) else none
theorem LS_ep {q : Option Nat} {M : mm_} {c : Int32} (h : LS_ q M) : LS_ (qe2_ (tb_ M) c q) (ep_ M c) := by
  unfold ep_
  cases q with
  | none =>
    rw [fi_F h]
    split <;> exact h
  | some p =>
    rw [LS_pe h]
    unfold qe2_
    simp only
    by_cases z : tb_ M (nI p) = c
    · rw [if_pos z, if_pos z, h.2, nI_1]; exact ⟨h.1, rfl⟩
    · rw [if_neg z, if_neg z]; exact LS_n (LS_fi h (by decide))
def pm_ (M : mm_) : Int32 × mm_ := if 48 ≤ pe_ M ∧ pe_ M ≤ 51 then (pe_ M - 48, sI_ M 37 1 (M.1 37 1 + 1)) else (0, fiX_ M 1 (M.1 37 1))
theorem c37_pm {M : mm_} : c37_ M (pm_ M).2 := by
  unfold pm_; split
  · exact c37_I
  · exact c37_fi
def qp_ (T : Int32 → Int32) (q : Option Nat) : Option Nat := match q with
  | none => none
  | some p => if 48 ≤ T (nI p) ∧ T (nI p) ≤ 51 then some (p + 1) else none
theorem LS_pm {q : Option Nat} {M : mm_} (h : LS_ q M) : LS_ (qp_ (tb_ M) q) (pm_ M).2 := by
  unfold pm_
  cases q with
  | none =>
    rw [pe_F h, if_neg (by decide)]
    exact LS_fn h
  | some p =>
    rw [LS_pe h]
    unfold qp_
    simp only
    by_cases z : 48 ≤ tb_ M (nI p) ∧ tb_ M (nI p) ≤ 51
    · rw [if_pos z, if_pos z, h.2, nI_1]; exact ⟨h.1, rfl⟩
    · rw [if_neg z, if_neg z]; exact LS_fi h (by decide)
def xE_ (M : mm_) : mm_ := if pe_ M = -1 then M else fiX_ M 1 (M.1 37 1)
theorem c37_xE {M : mm_} : c37_ M (xE_ M) := by
  unfold xE_; split
  · exact c37_rf
  · exact c37_fi
def qE_ (T : Int32 → Int32) (q : Option Nat) : Option Nat := match q with
  | none => none
  | some p => if T (nI p) = -1 then some p else none
theorem LS_xE {q : Option Nat} {M : mm_} (h : LS_ q M) : LS_ (qE_ (tb_ M) q) (xE_ M) := by
  unfold xE_
  cases q with
  | none =>
    rw [pe_F h, if_pos rfl]
    exact h
  | some p =>
    rw [LS_pe h]
    unfold qE_
    simp only
    by_cases z : tb_ M (nI p) = -1
    · rw [if_pos z, if_pos z]; exact h
    · rw [if_neg z, if_neg z]; exact LS_fi h (by decide)
/-- blanks are passed -/
def skP_ (T : Int32 → Int32) : Nat → Nat → Nat
  | 0, p => p
  | u + 1, p => if bl_ (T (nI p)) = 0 then p else skP_ T u (p + 1)
theorem LS_sk {T : Int32 → Int32} : ∀ (u : Nat) (q : Option Nat) (M : mm_), tb_ M = T → LS_ q M → LS_ (q.map (skP_ T u)) (sk1_ u M)
  | 0, none, _, _, h => h
  | 0, some _, _, _, h => h
  | u + 1, none, M, _, h => by
    rw [sk1_, pe_F h, if_pos (by decide)]
    exact h
  | u + 1, some p, M, hT, h => by
    rw [sk1_, LS_pe h]
    show LS_ (some (skP_ T (u + 1) p)) _
    rw [skP_, ← hT]
    by_cases z : bl_ (tb_ M (nI p)) = 0
    · rw [if_pos z, if_pos z]; exact h
    · rw [if_neg z, if_neg z, h.2, nI_1]
      have := LS_sk (T := T) u (some (p + 1)) (sI_ M 37 1 (nI (p + 1))) (by rw [← hT]; rfl) ⟨h.1, rfl⟩
      rw [← hT] at this
      exact this
theorem skP_le {T : Int32 → Int32} {n : Nat} (hT : T (nI n) = -1) : ∀ (u p : Nat), p ≤ n → skP_ T u p ≤ n
  | 0, _, h => h
  | u + 1, p, h => by
    rw [skP_]
    by_cases z : bl_ (T (nI p)) = 0
    · rw [if_pos z]; exact h
    · rw [if_neg z]
      refine skP_le hT u (p + 1) ?_
      rcases Nat.lt_or_ge p n with y | y
      · exact y
      · exact absurd (by rw [show p = n by omega, hT]; decide) z
/-- a word's end -/
def qw_ (T : Int32 → Int32) (q : Option Nat) : Option Nat := match q with
  | none => none
  | some p => if T (nI p) = -1 then some p else if bl_ (T (nI p)) = 0 then none else some (skP_ T 200 p)
theorem LS_ew {q : Option Nat} {M : mm_} (h : LS_ q M) : LS_ (qw_ (tb_ M) q) (ew_ M) := by
  unfold ew_
  cases q with
  | none =>
    rw [pe_F h, if_pos rfl]
    exact LS_sk 200 none M rfl h
  | some p =>
    rw [LS_pe h]
    unfold qw_
    simp only
    by_cases z : tb_ M (nI p) = -1
    · rw [if_pos z, if_pos z]
      have := LS_sk 200 (some p) M rfl h
      rw [show (some p).map (skP_ (tb_ M) 200) = some p by show some (skP_ (tb_ M) 200 p) = _; rw [skP_, z, if_pos (by decide)]] at this
      exact this
    · rw [if_neg z, if_neg z]
      by_cases y : bl_ (tb_ M (nI p)) = 0
      · rw [if_pos y, if_pos y]
        exact LS_sk 200 none _ rfl (LS_fi h (by decide))
      · rw [if_neg y, if_neg y]
        exact LS_sk 200 (some p) M rfl h
def vb_ (M : mm_) : Int32 × mm_ := if tkw_ M 1 = true then (1, tkM_ M 1) else if tkw_ M 2 = true then (2, tkM_ M 2) else if tkw_ M 3 = true then (3, tkM_ M 3) else if tkw_ M 4 = true then (4, tkM_ M 4) else if tkw_ M 5 = true then (5, tkM_ M 5) else (5, fiX_ M 1 (M.1 37 1))
def po2_ (M : mm_) : Int32 × mm_ := if tkw_ M 6 = true then (0, tkM_ M 6) else if tkw_ M 7 = true then (1, tkM_ M 7) else if tkw_ M 8 = true then (2, tkM_ M 8) else (2, fiX_ M 1 (M.1 37 1))
theorem c37_vb {M : mm_} : c37_ M (vb_ M).2 := by
  unfold vb_
  split
  · exact c37_tk
  · split
    · exact c37_tk
    · split
      · exact c37_tk
      · split
        · exact c37_tk
        · split
          · exact c37_tk
          · exact c37_fi
theorem c37_po {M : mm_} : c37_ M (po2_ M).2 := by
  unfold po2_
  split
  · exact c37_tk
  · split
    · exact c37_tk
    · split
      · exact c37_tk
      · exact c37_fi
def lm1_ (M : mm_) (r : mm_ × Int64) : mm_ := if r.2.toInt32 = 0 then fiX_ (nuB_ r.1 (M.1 37 1) r.2 99) 2 (M.1 37 1) else nuB_ r.1 (M.1 37 1) r.2 99
theorem c37_lm {M : mm_} {r : mm_ × Int64} (h : c37_ M r.1) : c37_ M (lm1_ M r) := by
  unfold lm1_; split
  · exact c37_tr (c37_tr h c37_nB) c37_fi
  · exact c37_tr h c37_nB
def pa1_ : Nat → Nat → Int64 → mm_ → Int64 × mm_
  | 0, _, w, M => (w, M)
  | u + 1, j, w, M => if sgX_ (pe_ M) = 0 then (w, M) else if j = 12 then (w, fiX_ M 3 (M.1 37 1)) else pa1_ u (j + 1) (wi_ w (nI j) (sgX_ (pe_ M))) (sI_ M 37 1 (M.1 37 1 + 1))
def pa0_ (M : mm_) : mm_ := if pe_ M = -1 then fiX_ M 1 (M.1 37 1) else M
theorem c37_pa : ∀ (u j : Nat) (w : Int64) (M : mm_), c37_ M (pa1_ u j w M).2
  | 0, _, _, _ => c37_rf
  | u + 1, j, w, M => by
    rw [pa1_]; split
    · exact c37_rf
    · split
      · exact c37_fi
      · exact c37_tr c37_I (c37_pa u _ _ _)
theorem c37_p0 {M : mm_} : c37_ M (pa0_ M) := by
  unfold pa0_; split
  · exact c37_fi
  · exact c37_rf
set_option maxRecDepth 100000 in
set_option maxHeartbeats 600000 in
theorem c10_parameters (G : gg_) (hG : gd_ G) (d : Nat) (M : mm_) (n : Nat) (ht : tpX_ M n) : cm_ G yX10_parameters cX10_parameters 2 (some .int) (d + 2) [.ref (G.1 38)] M (fI_ (pm_ M).1 (pm_ M).2) := by
  refine cm_of hG (by decide) (Nat.le_of_ble_eq_true rfl) (fun C X => ?_)
  refine w_aload_n X dX10_parameters_0 rfl rfl ?_
  refine g10_7 X dX10_parameters_1 s_38 rfl ?_
  refine w_v0fI X dX10_parameters_4 k10_58 rfl s_37 (c7_peek G hG _ _ n ht) (Nat.le_of_ble_eq_true rfl) ?_
  refine w_istore_n X dX10_parameters_7 rfl (by decide) ?_
  refine w_iload_n X dX10_parameters_8 rfl rfl ?_
  refine w_bipush (v := 48) X dX10_parameters_9 (by decide) ?_
  refine w_icmp_lt (tgt := 20) X dX10_parameters_11 (by decide) (fun h11 => ?_) (fun h11 => ?_)
  · refine w_aload_n X dX10_parameters_20 rfl rfl ?_
    refine g10_7 X dX10_parameters_21 s_38 rfl ?_
    refine w_iconst (v := 1) X dX10_parameters_24 (by decide) ?_
    refine w_aload_n X dX10_parameters_25 rfl rfl ?_
    refine g10_7 X dX10_parameters_26 s_38 rfl ?_
    refine g10_61 X dX10_parameters_29 s_37 rfl ?_
    refine w_v2fV X dX10_parameters_32 k10_65 rfl s_37 (c7_fail G hG _ _ _ _) (Nat.le_of_ble_eq_true rfl) ?_
    refine w_iconst (v := 0) X dX10_parameters_35 (by decide) ?_
    refine w_irF X dX10_parameters_36 ?_ ?_ <;> unfold pm_ <;> rw [if_neg (fun z => absurd z.1 (Int32.not_le.mpr h11))]
  · refine w_iload_n X dX10_parameters_14 rfl rfl ?_
    refine w_bipush (v := 51) X dX10_parameters_15 (by decide) ?_
    refine w_icmp_le (tgt := 37) X dX10_parameters_17 (by decide) (fun h17 => ?_) (fun h17 => ?_)
    · refine w_aload_n X dX10_parameters_37 rfl rfl ?_
      refine g10_7 X dX10_parameters_38 s_38 rfl ?_
      refine w_dup X dX10_parameters_41 rfl ?_
      refine g10_61 X dX10_parameters_42 s_37 rfl ?_
      refine w_iconst (v := 1) X dX10_parameters_45 (by decide) ?_
      refine w_iadd X dX10_parameters_46 ?_
      refine p10_61 X dX10_parameters_47 s_37 rfl ?_
      refine w_iload_n X dX10_parameters_50 rfl rfl ?_
      refine w_bipush (v := 48) X dX10_parameters_51 (by decide) ?_
      refine w_isub X dX10_parameters_53 ?_
      refine w_irF X dX10_parameters_54 ?_ ?_ <;> unfold pm_ <;> rw [if_pos ⟨Int32.not_lt.mp h11, h17⟩]
    · refine w_aload_n X dX10_parameters_20 rfl rfl ?_
      refine g10_7 X dX10_parameters_21 s_38 rfl ?_
      refine w_iconst (v := 1) X dX10_parameters_24 (by decide) ?_
      refine w_aload_n X dX10_parameters_25 rfl rfl ?_
      refine g10_7 X dX10_parameters_26 s_38 rfl ?_
      refine g10_61 X dX10_parameters_29 s_37 rfl ?_
      refine w_v2fV X dX10_parameters_32 k10_65 rfl s_37 (c7_fail G hG _ _ _ _) (Nat.le_of_ble_eq_true rfl) ?_
      refine w_iconst (v := 0) X dX10_parameters_35 (by decide) ?_
      refine w_irF X dX10_parameters_36 ?_ ?_ <;> unfold pm_ <;> rw [if_neg (fun z => h17 z.2)]
set_option maxRecDepth 100000 in
set_option maxHeartbeats 600000 in
theorem c10_expectEnd (G : gg_) (hG : gd_ G) (d : Nat) (M : mm_) (n : Nat) (ht : tpX_ M n) : cm_ G yX10_expectEnd cX10_expectEnd 1 none (d + 2) [.ref (G.1 38)] M (fV_ (xE_ M)) := by
  refine cm_of hG (by decide) (Nat.le_of_ble_eq_true rfl) (fun C X => ?_)
  refine w_aload_n X dX10_expectEnd_0 rfl rfl ?_
  refine g10_7 X dX10_expectEnd_1 s_38 rfl ?_
  refine w_v0fI X dX10_expectEnd_4 k10_58 rfl s_37 (c7_peek G hG _ _ n ht) (Nat.le_of_ble_eq_true rfl) ?_
  refine w_iconst (v := -1) X dX10_expectEnd_7 (by decide) ?_
  refine w_icmp_eq (tgt := 26) X dX10_expectEnd_8 (by decide) (fun h8 => ?_) (fun h8 => ?_)
  · refine w_vrF X dX10_expectEnd_26 ?_
    unfold xE_
    rw [if_pos h8]
  · refine w_aload_n X dX10_expectEnd_11 rfl rfl ?_
    refine g10_7 X dX10_expectEnd_12 s_38 rfl ?_
    refine w_iconst (v := 1) X dX10_expectEnd_15 (by decide) ?_
    refine w_aload_n X dX10_expectEnd_16 rfl rfl ?_
    refine g10_7 X dX10_expectEnd_17 s_38 rfl ?_
    refine g10_61 X dX10_expectEnd_20 s_37 rfl ?_
    refine w_v2fV X dX10_expectEnd_23 k10_65 rfl s_37 (c7_fail G hG _ _ _ _) (Nat.le_of_ble_eq_true rfl) ?_
    refine w_vrF X dX10_expectEnd_26 ?_
    unfold xE_
    rw [if_neg h8]
set_option maxRecDepth 100000 in
set_option maxHeartbeats 600000 in
theorem c10_verb (G : gg_) (hG : gd_ G) (d : Nat) (M : mm_) (n : Nat) (ht : tpX_ M n) : cm_ G yX10_verb cX10_verb 1 (some .int) (d + 5) [.ref (G.1 38)] M (fI_ (vb_ M).1 (vb_ M).2) := by
  refine cm_of hG (by decide) (Nat.le_of_ble_eq_true rfl) (fun C X => ?_)
  by_cases k0 : tkw_ M 1 = true
  · refine w_aload_n X dX10_verb_0 rfl rfl ?_
    refine g10_7 X dX10_verb_1 s_38 rfl ?_
    refine w_ldcS (i := 1) (tx := "watch") X dX10_verb_4 (by decide) ?_
    refine w_v1fI X dX10_verb_6 k10_104 rfl s_37 (c7_takes G hG _ _ n ht 1 (by decide)) (Nat.le_of_ble_eq_true rfl) ?_
    rw [if_pos k0, if_pos k0]
    refine w_if_eq (tgt := 14) X dX10_verb_9 (by decide) (fun h9 => absurd h9 (by decide)) (fun h9 => ?_)
    refine w_iconst (v := 1) X dX10_verb_12 (by decide) ?_
    refine w_irF X dX10_verb_13 ?_ ?_ <;> unfold vb_ <;> rw [if_pos k0]
  · refine w_aload_n X dX10_verb_0 rfl rfl ?_
    refine g10_7 X dX10_verb_1 s_38 rfl ?_
    refine w_ldcS (i := 1) (tx := "watch") X dX10_verb_4 (by decide) ?_
    refine w_v1fI X dX10_verb_6 k10_104 rfl s_37 (c7_takes G hG _ _ n ht 1 (by decide)) (Nat.le_of_ble_eq_true rfl) ?_
    rw [if_neg k0, if_neg k0]
    refine w_if_eq (tgt := 14) X dX10_verb_9 (by decide) (fun h9 => ?_) (fun h9 => absurd (rfl) h9)
    by_cases k1 : tkw_ M 2 = true
    · refine w_aload_n X dX10_verb_14 rfl rfl ?_
      refine g10_7 X dX10_verb_15 s_38 rfl ?_
      refine w_ldcS (i := 2) (tx := "monitor") X dX10_verb_18 (by decide) ?_
      refine w_v1fI X dX10_verb_20 k10_104 rfl s_37 (c7_takes G hG _ _ n ht 2 (by decide)) (Nat.le_of_ble_eq_true rfl) ?_
      rw [if_pos k1, if_pos k1]
      refine w_if_eq (tgt := 28) X dX10_verb_23 (by decide) (fun h23 => absurd h23 (by decide)) (fun h23 => ?_)
      refine w_iconst (v := 2) X dX10_verb_26 (by decide) ?_
      refine w_irF X dX10_verb_27 ?_ ?_ <;> unfold vb_ <;> rw [if_neg k0, if_pos k1]
    · refine w_aload_n X dX10_verb_14 rfl rfl ?_
      refine g10_7 X dX10_verb_15 s_38 rfl ?_
      refine w_ldcS (i := 2) (tx := "monitor") X dX10_verb_18 (by decide) ?_
      refine w_v1fI X dX10_verb_20 k10_104 rfl s_37 (c7_takes G hG _ _ n ht 2 (by decide)) (Nat.le_of_ble_eq_true rfl) ?_
      rw [if_neg k1, if_neg k1]
      refine w_if_eq (tgt := 28) X dX10_verb_23 (by decide) (fun h23 => ?_) (fun h23 => absurd (rfl) h23)
      by_cases k2 : tkw_ M 3 = true
      · refine w_aload_n X dX10_verb_28 rfl rfl ?_
        refine g10_7 X dX10_verb_29 s_38 rfl ?_
        refine w_ldcS (i := 3) (tx := "keep") X dX10_verb_32 (by decide) ?_
        refine w_v1fI X dX10_verb_34 k10_104 rfl s_37 (c7_takes G hG _ _ n ht 3 (by decide)) (Nat.le_of_ble_eq_true rfl) ?_
        rw [if_pos k2, if_pos k2]
        refine w_if_eq (tgt := 42) X dX10_verb_37 (by decide) (fun h37 => absurd h37 (by decide)) (fun h37 => ?_)
        refine w_iconst (v := 3) X dX10_verb_40 (by decide) ?_
        refine w_irF X dX10_verb_41 ?_ ?_ <;> unfold vb_ <;> rw [if_neg k0, if_neg k1, if_pos k2]
      · refine w_aload_n X dX10_verb_28 rfl rfl ?_
        refine g10_7 X dX10_verb_29 s_38 rfl ?_
        refine w_ldcS (i := 3) (tx := "keep") X dX10_verb_32 (by decide) ?_
        refine w_v1fI X dX10_verb_34 k10_104 rfl s_37 (c7_takes G hG _ _ n ht 3 (by decide)) (Nat.le_of_ble_eq_true rfl) ?_
        rw [if_neg k2, if_neg k2]
        refine w_if_eq (tgt := 42) X dX10_verb_37 (by decide) (fun h37 => ?_) (fun h37 => absurd (rfl) h37)
        by_cases k3 : tkw_ M 4 = true
        · refine w_aload_n X dX10_verb_42 rfl rfl ?_
          refine g10_7 X dX10_verb_43 s_38 rfl ?_
          refine w_ldcS (i := 4) (tx := "kill") X dX10_verb_46 (by decide) ?_
          refine w_v1fI X dX10_verb_48 k10_104 rfl s_37 (c7_takes G hG _ _ n ht 4 (by decide)) (Nat.le_of_ble_eq_true rfl) ?_
          rw [if_pos k3, if_pos k3]
          refine w_if_eq (tgt := 56) X dX10_verb_51 (by decide) (fun h51 => absurd h51 (by decide)) (fun h51 => ?_)
          refine w_iconst (v := 4) X dX10_verb_54 (by decide) ?_
          refine w_irF X dX10_verb_55 ?_ ?_ <;> unfold vb_ <;> rw [if_neg k0, if_neg k1, if_neg k2, if_pos k3]
        · refine w_aload_n X dX10_verb_42 rfl rfl ?_
          refine g10_7 X dX10_verb_43 s_38 rfl ?_
          refine w_ldcS (i := 4) (tx := "kill") X dX10_verb_46 (by decide) ?_
          refine w_v1fI X dX10_verb_48 k10_104 rfl s_37 (c7_takes G hG _ _ n ht 4 (by decide)) (Nat.le_of_ble_eq_true rfl) ?_
          rw [if_neg k3, if_neg k3]
          refine w_if_eq (tgt := 56) X dX10_verb_51 (by decide) (fun h51 => ?_) (fun h51 => absurd (rfl) h51)
          by_cases k4 : tkw_ M 5 = true
          · refine w_aload_n X dX10_verb_56 rfl rfl ?_
            refine g10_7 X dX10_verb_57 s_38 rfl ?_
            refine w_ldcS (i := 5) (tx := "reset") X dX10_verb_60 (by decide) ?_
            refine w_v1fI X dX10_verb_62 k10_104 rfl s_37 (c7_takes G hG _ _ n ht 5 (by decide)) (Nat.le_of_ble_eq_true rfl) ?_
            rw [if_pos k4, if_pos k4]
            refine w_if_ne (tgt := 83) X dX10_verb_65 (by decide) (fun h65 => ?_) (fun h65 => absurd h65 (by decide))
            refine w_iconst (v := 5) X dX10_verb_83 (by decide) ?_
            refine w_irF X dX10_verb_84 ?_ ?_ <;> unfold vb_ <;> rw [if_neg k0, if_neg k1, if_neg k2, if_neg k3, if_pos k4]
          · refine w_aload_n X dX10_verb_56 rfl rfl ?_
            refine g10_7 X dX10_verb_57 s_38 rfl ?_
            refine w_ldcS (i := 5) (tx := "reset") X dX10_verb_60 (by decide) ?_
            refine w_v1fI X dX10_verb_62 k10_104 rfl s_37 (c7_takes G hG _ _ n ht 5 (by decide)) (Nat.le_of_ble_eq_true rfl) ?_
            rw [if_neg k4, if_neg k4]
            refine w_if_ne (tgt := 83) X dX10_verb_65 (by decide) (fun h65 => absurd rfl h65) (fun h65 => ?_)
            refine w_aload_n X dX10_verb_68 rfl rfl ?_
            refine g10_7 X dX10_verb_69 s_38 rfl ?_
            refine w_iconst (v := 1) X dX10_verb_72 (by decide) ?_
            refine w_aload_n X dX10_verb_73 rfl rfl ?_
            refine g10_7 X dX10_verb_74 s_38 rfl ?_
            refine g10_61 X dX10_verb_77 s_37 rfl ?_
            refine w_v2fV X dX10_verb_80 k10_65 rfl s_37 (c7_fail G hG _ _ _ _) (Nat.le_of_ble_eq_true rfl) ?_
            refine w_iconst (v := 5) X dX10_verb_83 (by decide) ?_
            refine w_irF X dX10_verb_84 ?_ ?_ <;> unfold vb_ <;> rw [if_neg k0, if_neg k1, if_neg k2, if_neg k3, if_neg k4]
set_option maxRecDepth 100000 in
set_option maxHeartbeats 600000 in
theorem c10_point (G : gg_) (hG : gd_ G) (d : Nat) (M : mm_) (n : Nat) (ht : tpX_ M n) : cm_ G yX10_point cX10_point 1 (some .int) (d + 5) [.ref (G.1 38)] M (fI_ (po2_ M).1 (po2_ M).2) := by
  refine cm_of hG (by decide) (Nat.le_of_ble_eq_true rfl) (fun C X => ?_)
  by_cases k0 : tkw_ M 6 = true
  · refine w_aload_n X dX10_point_0 rfl rfl ?_
    refine g10_7 X dX10_point_1 s_38 rfl ?_
    refine w_ldcS (i := 6) (tx := "enter") X dX10_point_4 (by decide) ?_
    refine w_v1fI X dX10_point_6 k10_104 rfl s_37 (c7_takes G hG _ _ n ht 6 (by decide)) (Nat.le_of_ble_eq_true rfl) ?_
    rw [if_pos k0, if_pos k0]
    refine w_if_eq (tgt := 14) X dX10_point_9 (by decide) (fun h9 => absurd h9 (by decide)) (fun h9 => ?_)
    refine w_iconst (v := 0) X dX10_point_12 (by decide) ?_
    refine w_irF X dX10_point_13 ?_ ?_ <;> unfold po2_ <;> rw [if_pos k0]
  · refine w_aload_n X dX10_point_0 rfl rfl ?_
    refine g10_7 X dX10_point_1 s_38 rfl ?_
    refine w_ldcS (i := 6) (tx := "enter") X dX10_point_4 (by decide) ?_
    refine w_v1fI X dX10_point_6 k10_104 rfl s_37 (c7_takes G hG _ _ n ht 6 (by decide)) (Nat.le_of_ble_eq_true rfl) ?_
    rw [if_neg k0, if_neg k0]
    refine w_if_eq (tgt := 14) X dX10_point_9 (by decide) (fun h9 => ?_) (fun h9 => absurd (rfl) h9)
    by_cases k1 : tkw_ M 7 = true
    · refine w_aload_n X dX10_point_14 rfl rfl ?_
      refine g10_7 X dX10_point_15 s_38 rfl ?_
      refine w_ldcS (i := 7) (tx := "return") X dX10_point_18 (by decide) ?_
      refine w_v1fI X dX10_point_20 k10_104 rfl s_37 (c7_takes G hG _ _ n ht 7 (by decide)) (Nat.le_of_ble_eq_true rfl) ?_
      rw [if_pos k1, if_pos k1]
      refine w_if_eq (tgt := 28) X dX10_point_23 (by decide) (fun h23 => absurd h23 (by decide)) (fun h23 => ?_)
      refine w_iconst (v := 1) X dX10_point_26 (by decide) ?_
      refine w_irF X dX10_point_27 ?_ ?_ <;> unfold po2_ <;> rw [if_neg k0, if_pos k1]
    · refine w_aload_n X dX10_point_14 rfl rfl ?_
      refine g10_7 X dX10_point_15 s_38 rfl ?_
      refine w_ldcS (i := 7) (tx := "return") X dX10_point_18 (by decide) ?_
      refine w_v1fI X dX10_point_20 k10_104 rfl s_37 (c7_takes G hG _ _ n ht 7 (by decide)) (Nat.le_of_ble_eq_true rfl) ?_
      rw [if_neg k1, if_neg k1]
      refine w_if_eq (tgt := 28) X dX10_point_23 (by decide) (fun h23 => ?_) (fun h23 => absurd (rfl) h23)
      by_cases k2 : tkw_ M 8 = true
      · refine w_aload_n X dX10_point_28 rfl rfl ?_
        refine g10_7 X dX10_point_29 s_38 rfl ?_
        refine w_ldcS (i := 8) (tx := "throw") X dX10_point_32 (by decide) ?_
        refine w_v1fI X dX10_point_34 k10_104 rfl s_37 (c7_takes G hG _ _ n ht 8 (by decide)) (Nat.le_of_ble_eq_true rfl) ?_
        rw [if_pos k2, if_pos k2]
        refine w_if_ne (tgt := 55) X dX10_point_37 (by decide) (fun h37 => ?_) (fun h37 => absurd h37 (by decide))
        refine w_iconst (v := 2) X dX10_point_55 (by decide) ?_
        refine w_irF X dX10_point_56 ?_ ?_ <;> unfold po2_ <;> rw [if_neg k0, if_neg k1, if_pos k2]
      · refine w_aload_n X dX10_point_28 rfl rfl ?_
        refine g10_7 X dX10_point_29 s_38 rfl ?_
        refine w_ldcS (i := 8) (tx := "throw") X dX10_point_32 (by decide) ?_
        refine w_v1fI X dX10_point_34 k10_104 rfl s_37 (c7_takes G hG _ _ n ht 8 (by decide)) (Nat.le_of_ble_eq_true rfl) ?_
        rw [if_neg k2, if_neg k2]
        refine w_if_ne (tgt := 55) X dX10_point_37 (by decide) (fun h37 => absurd rfl h37) (fun h37 => ?_)
        refine w_aload_n X dX10_point_40 rfl rfl ?_
        refine g10_7 X dX10_point_41 s_38 rfl ?_
        refine w_iconst (v := 1) X dX10_point_44 (by decide) ?_
        refine w_aload_n X dX10_point_45 rfl rfl ?_
        refine g10_7 X dX10_point_46 s_38 rfl ?_
        refine g10_61 X dX10_point_49 s_37 rfl ?_
        refine w_v2fV X dX10_point_52 k10_65 rfl s_37 (c7_fail G hG _ _ _ _) (Nat.le_of_ble_eq_true rfl) ?_
        refine w_iconst (v := 2) X dX10_point_55 (by decide) ?_
        refine w_irF X dX10_point_56 ?_ ?_ <;> unfold po2_ <;> rw [if_neg k0, if_neg k1, if_neg k2]
set_option maxRecDepth 100000 in
set_option maxHeartbeats 600000 in
theorem c10_limit (G : gg_) (hG : gd_ G) (d : Nat) (M : mm_) (n : Nat) (ht : tpX_ M n) (r : mm_ × Int64) (hr : nu1_ 200 (nuA_ M) 0 = r) : cm_ G yX10_limit cX10_limit 3 (some .int) (d + 4) [.ref (G.1 38)] M (fI_ r.2.toInt32 (ew_ (lm1_ M r))) := by
  refine cm_of hG (by decide) (Nat.le_of_ble_eq_true rfl) (fun C X => ?_)
  have hc : c37_ M r.1 := by rw [← hr]; exact c37_tr c37_nA (c37_nu _ _ _)
  refine w_aload_n X dX10_limit_0 rfl rfl ?_
  refine g10_7 X dX10_limit_1 s_38 rfl ?_
  refine g10_61 X dX10_limit_4 s_37 rfl ?_
  refine w_istore_n X dX10_limit_7 rfl (by decide) ?_
  refine w_aload_n X dX10_limit_8 rfl rfl ?_
  refine g10_7 X dX10_limit_9 s_38 rfl ?_
  refine w_bipush (v := 99) X dX10_limit_12 (by decide) ?_
  refine w_v1fI X dX10_limit_14 k10_80 rfl s_37 (c7_number G hG _ _ n ht _ r hr) (Nat.le_of_ble_eq_true rfl) ?_
  refine w_istore_n X dX10_limit_17 rfl (by decide) ?_
  refine w_iload_n X dX10_limit_18 rfl rfl ?_
  refine w_if_ne (tgt := 31) X dX10_limit_19 (by decide) (fun h19 => ?_) (fun h19 => ?_)
  · refine w_aload_n X dX10_limit_31 rfl rfl ?_
    refine g10_7 X dX10_limit_32 s_38 rfl ?_
    refine w_v0fV X dX10_limit_35 k10_86 rfl s_37 (c7_endWord G hG _ _ n (c37_tp (by first | exact c37_tr hc c37_nB | exact c37_tr (c37_tr hc c37_nB) c37_fi) ht)) (Nat.le_of_ble_eq_true rfl) ?_
    refine w_iload_n X dX10_limit_38 rfl rfl ?_
    refine w_irF X dX10_limit_39 rfl ?_
    unfold lm1_
    rw [if_neg h19]
  · refine w_aload_n X dX10_limit_22 rfl rfl ?_
    refine g10_7 X dX10_limit_23 s_38 rfl ?_
    refine w_iconst (v := 2) X dX10_limit_26 (by decide) ?_
    refine w_iload_n X dX10_limit_27 rfl rfl ?_
    refine w_v2fV X dX10_limit_28 k10_65 rfl s_37 (c7_fail G hG _ _ _ _) (Nat.le_of_ble_eq_true rfl) ?_
    refine w_aload_n X dX10_limit_31 rfl rfl ?_
    refine g10_7 X dX10_limit_32 s_38 rfl ?_
    refine w_v0fV X dX10_limit_35 k10_86 rfl s_37 (c7_endWord G hG _ _ n (c37_tp (by first | exact c37_tr hc c37_nB | exact c37_tr (c37_tr hc c37_nB) c37_fi) ht)) (Nat.le_of_ble_eq_true rfl) ?_
    refine w_iload_n X dX10_limit_38 rfl rfl ?_
    refine w_irF X dX10_limit_39 rfl ?_
    unfold lm1_
    rw [if_pos h19]
set_option maxRecDepth 100000 in
set_option maxHeartbeats 600000 in
theorem c10_pattern (G : gg_) (hG : gd_ G) (d : Nat) (M : mm_) (n : Nat) (ht : tpX_ M n) : cm_ G yX10_pattern cX10_pattern 4 (some .long) (d + 4) [.ref (G.1 38)] M (fL_ (pa1_ 13 0 0 (pa0_ M)).1 (ew_ (pa1_ 13 0 0 (pa0_ M)).2)) := by
  refine cm_of hG (by decide) (Nat.le_of_ble_eq_true rfl) (fun C X => ?_)
  have lp : ∀ (u j : Nat) (w : Int64) (N : mm_), j + u = 13 → tpX_ N n → pa1_ u j w N = pa1_ 13 0 0 (pa0_ M) → wq_ C G (qe_ C G (fL_ (pa1_ 13 0 0 (pa0_ M)).1 (ew_ (pa1_ 13 0 0 (pa0_ M)).2))) 30 [some (.ref (G.1 38)), some (.long w), none, some (.int (nI j))] [] N := by
    intro u
    induction u with
    | zero =>
      intro j w N h1 hN h3
      rw [pa1_] at h3
      refine w_iload_n X dX10_pattern_30 rfl rfl ?_
      refine w_bipush (v := 12) X dX10_pattern_31 (by decide) ?_
      refine w_icmp_gt (tgt := 108) X dX10_pattern_33 (by decide) (fun h33 => ?_) (fun h33 => absurd (by rw [show j = 13 by omega]; decide) h33)
      refine w_aload_n X dX10_pattern_108 rfl rfl ?_
      refine g10_7 X dX10_pattern_109 s_38 rfl ?_
      refine w_v0fV X dX10_pattern_112 k10_86 rfl s_37 (c7_endWord G hG _ _ n hN) (Nat.le_of_ble_eq_true rfl) ?_
      refine w_lload_n X dX10_pattern_115 rfl rfl ?_
      refine w_lrF X dX10_pattern_116 ?_ ?_ <;> rw [← h3]
    | succ u ih =>
      intro j w N h1 hN h3
      refine w_iload_n X dX10_pattern_30 rfl rfl ?_
      refine w_bipush (v := 12) X dX10_pattern_31 (by decide) ?_
      refine w_icmp_gt (tgt := 108) X dX10_pattern_33 (by decide) (fun h33 => absurd h33 (Int32.not_lt.mpr (nI_le (a := j) (b := 12) (by omega) (by decide)))) (fun h33 => ?_)
      refine w_aload_n X dX10_pattern_36 rfl rfl ?_
      refine g10_7 X dX10_pattern_37 s_38 rfl ?_
      refine w_v0fI X dX10_pattern_40 k10_58 rfl s_37 (c7_peek G hG _ _ n hN) (Nat.le_of_ble_eq_true rfl) ?_
      refine w_s1fI X dX10_pattern_43 k10_152 (c6_sign G hG _ _ _) (Nat.le_of_ble_eq_true rfl) ?_
      refine w_if_eq (tgt := 108) X dX10_pattern_46 (by decide) (fun h46 => ?_) (fun h46 => ?_)
      · refine w_aload_n X dX10_pattern_108 rfl rfl ?_
        refine g10_7 X dX10_pattern_109 s_38 rfl ?_
        refine w_v0fV X dX10_pattern_112 k10_86 rfl s_37 (c7_endWord G hG _ _ n hN) (Nat.le_of_ble_eq_true rfl) ?_
        refine w_lload_n X dX10_pattern_115 rfl rfl ?_
        refine w_lrF X dX10_pattern_116 ?_ ?_ <;> rw [← h3, pa1_, if_pos h46]
      · rw [pa1_, if_neg h46] at h3
        by_cases h12 : j = 12
        · rw [if_pos h12] at h3
          refine w_iload_n X dX10_pattern_49 rfl rfl ?_
          refine w_bipush (v := 12) X dX10_pattern_50 (by decide) ?_
          refine w_icmp_ne (tgt := 73) X dX10_pattern_52 (by decide) (fun h52 => absurd (by rw [h12]; rfl) h52) (fun h52 => ?_)
          refine w_aload_n X dX10_pattern_55 rfl rfl ?_
          refine g10_7 X dX10_pattern_56 s_38 rfl ?_
          refine w_iconst (v := 3) X dX10_pattern_59 (by decide) ?_
          refine w_aload_n X dX10_pattern_60 rfl rfl ?_
          refine g10_7 X dX10_pattern_61 s_38 rfl ?_
          refine g10_61 X dX10_pattern_64 s_37 rfl ?_
          refine w_v2fV X dX10_pattern_67 k10_65 rfl s_37 (c7_fail G hG _ _ _ _) (Nat.le_of_ble_eq_true rfl) ?_
          refine w_goto (tgt := 102) X dX10_pattern_70 (by decide) ?_
          refine w_iinc (v := 1) X dX10_pattern_102 rfl (by decide) (by decide) ?_
          refine w_goto (tgt := 30) X dX10_pattern_105 (by decide) ?_
          rw [nI_1]
          exact ih (j + 1) w _ (by omega) (c37_tp c37_fi hN) (by rw [show u = 0 by omega, pa1_]; exact h3)
        · rw [if_neg h12] at h3
          refine w_iload_n X dX10_pattern_49 rfl rfl ?_
          refine w_bipush (v := 12) X dX10_pattern_50 (by decide) ?_
          refine w_icmp_ne (tgt := 73) X dX10_pattern_52 (by decide) (fun h52 => ?_) (fun h52 => absurd ((nI_inj (by omega) (by decide)).mp (h52.trans (by decide : (12 : Int32) = nI 12))) h12)
          refine w_lload_n X dX10_pattern_73 rfl rfl ?_
          refine w_iload_n X dX10_pattern_74 rfl rfl ?_
          refine w_aload_n X dX10_pattern_75 rfl rfl ?_
          refine g10_7 X dX10_pattern_76 s_38 rfl ?_
          refine w_v0fI X dX10_pattern_79 k10_58 rfl s_37 (c7_peek G hG _ _ n hN) (Nat.le_of_ble_eq_true rfl) ?_
          refine w_s1fI X dX10_pattern_82 k10_152 (c6_sign G hG _ _ _) (Nat.le_of_ble_eq_true rfl) ?_
          refine w_s3fL X dX10_pattern_85 k10_155 (c6_with G hG _ _ _ _ _) (Nat.le_of_ble_eq_true rfl) ?_
          refine w_lstore_n X dX10_pattern_88 rfl (by decide) ?_
          refine w_aload_n X dX10_pattern_89 rfl rfl ?_
          refine g10_7 X dX10_pattern_90 s_38 rfl ?_
          refine w_dup X dX10_pattern_93 rfl ?_
          refine g10_61 X dX10_pattern_94 s_37 rfl ?_
          refine w_iconst (v := 1) X dX10_pattern_97 (by decide) ?_
          refine w_iadd X dX10_pattern_98 ?_
          refine p10_61 X dX10_pattern_99 s_37 rfl ?_
          refine w_iinc (v := 1) X dX10_pattern_102 rfl (by decide) (by decide) ?_
          refine w_goto (tgt := 30) X dX10_pattern_105 (by decide) ?_
          rw [nI_1]
          exact ih (j + 1) _ _ (by omega) (c37_tp c37_I hN) h3
  refine w_lconst (v := 0) X dX10_pattern_0 (by decide) ?_
  refine w_lstore_n X dX10_pattern_1 rfl (by decide) ?_
  refine w_iconst (v := 0) X dX10_pattern_2 (by decide) ?_
  refine w_istore_n X dX10_pattern_3 rfl (by decide) ?_
  refine w_aload_n X dX10_pattern_4 rfl rfl ?_
  refine g10_7 X dX10_pattern_5 s_38 rfl ?_
  refine w_v0fI X dX10_pattern_8 k10_58 rfl s_37 (c7_peek G hG _ _ n ht) (Nat.le_of_ble_eq_true rfl) ?_
  refine w_iconst (v := -1) X dX10_pattern_11 (by decide) ?_
  refine w_icmp_ne (tgt := 30) X dX10_pattern_12 (by decide) (fun h12 => ?_) (fun h12 => ?_)
  · exact lp 13 0 0 _ (by omega) ht (by unfold pa0_; rw [if_neg h12])
  · refine w_aload_n X dX10_pattern_15 rfl rfl ?_
    refine g10_7 X dX10_pattern_16 s_38 rfl ?_
    refine w_iconst (v := 1) X dX10_pattern_19 (by decide) ?_
    refine w_aload_n X dX10_pattern_20 rfl rfl ?_
    refine g10_7 X dX10_pattern_21 s_38 rfl ?_
    refine g10_61 X dX10_pattern_24 s_37 rfl ?_
    refine w_v2fV X dX10_pattern_27 k10_65 rfl s_37 (c7_fail G hG _ _ _ _) (Nat.le_of_ble_eq_true rfl) ?_
    exact lp 13 0 0 _ (by omega) (c37_tp c37_fi ht) (by unfold pa0_; rw [if_pos h12])
