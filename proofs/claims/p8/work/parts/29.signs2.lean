theorem gI_wa (M : mm_) (n : Nat) (a b c : Int32) (x j : Nat) : (wa_ M n a b c).1 x j = if x = 0 ∧ j = 20 then nI (n + 1) else if x = 9 ∧ j = n then c else if x = 8 ∧ j = n then b else if x = 7 ∧ j = n then a else M.1 x j := rfl
theorem gL_wa (M : mm_) (n : Nat) (a b c : Int32) (x j : Nat) : (wa_ M n a b c).2.1 x j = M.2.1 x j := rfl
theorem gI_pu (M : mm_) (n : Nat) (t : Int32) (v : Int64) (x j : Nat) : (pu_ M n t v).1 x j = if x = 0 ∧ j = 12 then nI (n + 1) else if x = 2 ∧ j = 2048 + n then t else M.1 x j := rfl
theorem gL_pu (M : mm_) (n : Nat) (t : Int32) (v : Int64) (x j : Nat) : (pu_ M n t v).2.1 x j = if x = 3 ∧ j = 2048 + n then v else M.2.1 x j := rfl
theorem gI_op (M : mm_) (n : Nat) (a : Int32) (x j : Nat) : (op_ M n a).1 x j = if x = 0 ∧ j = 22 then nI (n + 1) else if x = 11 ∧ j = n then a else M.1 x j := rfl
theorem gL_op (M : mm_) (n : Nat) (a : Int32) (x j : Nat) : (op_ M n a).2.1 x j = M.2.1 x j := rfl
theorem tz_wa {M : mm_} {n w : Nat} {a b c : Int32} (h : tz_ M n) : tz_ (wa_ M w a b c) n := tz_sI (tz_sI (tz_sI (tz_sI h (by omega)) (by omega)) (by omega)) (by omega)
theorem cd_wa {M : mm_} {l : List sv_} {w : Nat} {a b c : Int32} (h : cd_ M l) : cd_ (wa_ M w a b c) l := cd_sI (cd_sI (cd_sI (cd_sI h (by omega) (by omega)) (by omega) (by omega)) (by omega) (by omega)) (by omega) (by omega)
theorem od_wa {M : mm_} {o : List Nat} {w : Nat} {a b c : Int32} (h : od_ M o) : od_ (wa_ M w a b c) o := od_sI (od_sI (od_sI (od_sI h (by omega) (by omega)) (by omega) (by omega)) (by omega) (by omega)) (by omega) (by omega)
theorem wr_wa {M : mm_} {W : List fr_} {w : Nat} {a b c : Int32} (h : wr_ M W) (hw : W.length ≤ w) : wr_ (wa_ M w a b c) W := wr_sI (wr_sI (wr_sI (wr_sI h (Or.inr hw)) (Or.inr hw)) (Or.inr hw)) (Or.inl (by omega))
theorem pf_wa {M N : mm_} {w : Nat} {a b c : Int32} (h : pf_ M N) : pf_ M (wa_ N w a b c) := pf_sI (pf_sI (pf_sI (pf_sI h (by first | omega | exact at5_ (by omega))) (by first | omega | exact at5_ (by omega))) (by first | omega | exact at5_ (by omega))) (by first | omega | exact at5_ (by omega))
theorem tz_op {M : mm_} {n m : Nat} {a : Int32} (h : tz_ M n) : tz_ (op_ M m a) n := tz_sI (tz_sI h (by omega)) (by omega)
theorem cd_op {M : mm_} {l : List sv_} {m : Nat} {a : Int32} (h : cd_ M l) : cd_ (op_ M m a) l := cd_sI (cd_sI h (by omega) (by omega)) (by omega) (by omega)
theorem wr_op {M : mm_} {W : List fr_} {m : Nat} {a : Int32} (h : wr_ M W) : wr_ (op_ M m a) W := wr_sI (wr_sI h (Or.inl (by omega))) (Or.inl (by omega))
theorem pf_op {M N : mm_} {m : Nat} {a : Int32} (h : pf_ M N) : pf_ M (op_ N m a) := pf_sI (pf_sI h (by first | omega | exact at5_ (by omega))) (by first | omega | exact at5_ (by omega))
/-- an opened bracket: the machine's own words -/
def ob_ (M : mm_) (w k op : Nat) (a b : Int32) : mm_ := sI_ (sL_ (wa_ (sI_ M 0 23 (nI (op + 1))) w a b 0) 10 w (M.2.1 0 24)) 0 5 (nI (k + 1))
def qu_ (k : Nat) (W : List fr_) (e : Term) (nd op : Nat) : ss_ ⊕ (Int32 × Nat) := if nd = 20 then .inr (3, k) else .inl (k + 1, (7, 0, (rt_ 3 W e).2, .null, 0) :: (rt_ 3 W e).1, none, nd + 1, op)
def cm2_ (k : Nat) (W : List fr_) (e : Term) (nd op : Nat) : ss_ ⊕ (Int32 × Nat) := match (rt_ 1 W e).1 with
  | [] => .inr (1, k)
  | f :: r => if f.1 = 8 then .inl (k + 1, (8, f.2.1, sa_ f.2.2.1 (rt_ 1 W e).2, f.2.2.2.1, f.2.2.2.2) :: r, none, nd, op) else .inr (1, k)
def cl_ (k : Nat) (W : List fr_) (e : Term) (nd op : Nat) : ss_ ⊕ (Int32 × Nat) := match (rt_ 1 W e).1 with
  | [] => .inr (1, k)
  | f :: r => if f.1 = 7 then .inl (k + 1, (2, 0, f.2.2.1, (rt_ 1 W e).2, 0) :: r, none, nd, op) else .inr (1, k)
set_option maxRecDepth 100000 in
set_option maxHeartbeats 4000000 in
theorem c12_open_f (G : gg_) (hG : gd_ G) (d : Nat) (M : mm_) (k : Nat) (a b : Int32) (h5 : M.1 0 5 = nI k) (h23 : M.1 0 23 = nI 12) : cm_ G yX12_open cX12_open 3 none (d + 1) [.ref (G.1 0), .int a, .int b] M (fV_ (fa_ M 3 (nI k))) := by
  refine cm_of hG (by decide) (Nat.le_of_ble_eq_true rfl) (fun C X => ?_)
  refine w_aload_n X dX12_open_0 rfl rfl ?_
  refine g12_opened X dX12_open_1 ?_
  try simp only [gI_sI, gI_sL, gL_sI, gL_sL, false_and, and_false, and_self, if_false, if_true, reduceIte, Nat.reduceEqDiff, h5, h23]
  refine w_bipush (v := 12) X dX12_open_4 (by decide) ?_
  refine w_icmp_ne (tgt := 19) X dX12_open_6 (by decide) (fun h6 => absurd rfl h6) (fun h6 => ?_)
  refine w_aload_n X dX12_open_9 rfl rfl ?_
  refine w_iconst (v := 3) X dX12_open_10 (by decide) ?_
  refine w_aload_n X dX12_open_11 rfl rfl ?_
  refine g12_at X dX12_open_12 ?_
  try simp only [gI_sI, gI_sL, gL_sI, gL_sL, false_and, and_false, and_self, if_false, if_true, reduceIte, Nat.reduceEqDiff, h5, h23]
  refine w_v2fV X dX12_open_15 k12_fail rfl rfl (c12_fail G hG _ _ _ _) (Nat.le_of_ble_eq_true rfl) ?_
  exact w_vrF X dX12_open_18 rfl
set_option maxRecDepth 100000 in
set_option maxHeartbeats 4000000 in
theorem c12_open_o (G : gg_) (hG : gd_ G) (d : Nat) (M : mm_) (k w op : Nat) (a b : Int32) (h5 : M.1 0 5 = nI k) (h20 : M.1 0 20 = nI w) (h23 : M.1 0 23 = nI op) (hop : op < 12) (hw : w < 64) : cm_ G yX12_open cX12_open 3 none (d + 1) [.ref (G.1 0), .int a, .int b] M (fV_ (ob_ M w k op a b)) := by
  refine cm_of hG (by decide) (Nat.le_of_ble_eq_true rfl) (fun C X => ?_)
  refine w_aload_n X dX12_open_0 rfl rfl ?_
  refine g12_opened X dX12_open_1 ?_
  try simp only [gI_sI, gI_sL, gL_sI, gL_sL, false_and, and_false, and_self, if_false, if_true, reduceIte, Nat.reduceEqDiff, h5, h20, h23, gI_wa, gL_wa, gI_pu, gL_pu, gI_op, gL_op]
  refine w_bipush (v := 12) X dX12_open_4 (by decide) ?_
  refine w_icmp_ne (tgt := 19) X dX12_open_6 (by decide) (fun h6 => ?_) (fun h6 => absurd h6 (fun q => by have := (nI_eq (b := 12) (by omega) (by omega)).mp q; omega))
  refine w_aload_n X dX12_open_19 rfl rfl ?_
  refine w_dup X dX12_open_20 rfl ?_
  refine g12_opened X dX12_open_21 ?_
  try simp only [gI_sI, gI_sL, gL_sI, gL_sL, false_and, and_false, and_self, if_false, if_true, reduceIte, Nat.reduceEqDiff, h5, h20, h23, gI_wa, gL_wa, gI_pu, gL_pu, gI_op, gL_op]
  refine w_iconst (v := 1) X dX12_open_24 (by decide) ?_
  refine w_iadd X dX12_open_25 ?_
  refine p12_opened X dX12_open_26 ?_
  refine w_aload_n X dX12_open_29 rfl rfl ?_
  refine w_iload_n X dX12_open_30 rfl rfl ?_
  refine w_iload_n X dX12_open_31 rfl rfl ?_
  refine w_iconst (v := 0) X dX12_open_32 (by decide) ?_
  refine w_v3fV X dX12_open_33 k12_wait rfl rfl (c12_wait G hG _ _ w (by simp [sI_, h20]) hw _ _ _) (Nat.le_of_ble_eq_true rfl) ?_
  refine w_aload_n X dX12_open_36 rfl rfl ?_
  refine g12_waitNames X dX12_open_37 ?_
  refine w_aload_n X dX12_open_40 rfl rfl ?_
  refine g12_waiting X dX12_open_41 ?_
  try simp only [gI_sI, gI_sL, gL_sI, gL_sL, false_and, and_false, and_self, if_false, if_true, reduceIte, Nat.reduceEqDiff, h5, h20, h23, gI_wa, gL_wa, gI_pu, gL_pu, gI_op, gL_op]
  refine w_iconst (v := 1) X dX12_open_44 (by decide) ?_
  refine w_isub X dX12_open_45 ?_
  rw [nI_s1]
  refine w_aload_n X dX12_open_46 rfl rfl ?_
  refine g12_rowName X dX12_open_47 ?_
  try simp only [gI_sI, gI_sL, gL_sI, gL_sL, false_and, and_false, and_self, if_false, if_true, reduceIte, Nat.reduceEqDiff, h5, h20, h23, gI_wa, gL_wa, gI_pu, gL_pu, gI_op, gL_op]
  refine w_lastoreN X dX12_open_50 rfl rfl (by omega) ?_
  refine w_aload_n X dX12_open_51 rfl rfl ?_
  refine w_dup X dX12_open_52 rfl ?_
  refine g12_at X dX12_open_53 ?_
  try simp only [gI_sI, gI_sL, gL_sI, gL_sL, false_and, and_false, and_self, if_false, if_true, reduceIte, Nat.reduceEqDiff, h5, h20, h23, gI_wa, gL_wa, gI_pu, gL_pu, gI_op, gL_op]
  refine w_iconst (v := 1) X dX12_open_56 (by decide) ?_
  refine w_iadd X dX12_open_57 ?_
  refine p12_at X dX12_open_58 ?_
  exact w_vrF X dX12_open_61 (by unfold ob_; rw [nI_1, nI_1])
set_option maxRecDepth 100000 in
set_option maxHeartbeats 4000000 in
theorem c12_question (G : gg_) (hG : gd_ G) (d : Nat) (M : mm_) (n k nd op : Nat) (W : List fr_) (e : Term) (h : pr_ M n k W (some e) nd op) (hf : M.1 0 3 = 0) (hk : k < 268435456) : cm_ G yX12_question cX12_question 1 none (d + 4) [.ref (G.1 0)] M (rV_ (px_ M n (qu_ k W e nd op))) := by
  refine cm_of hG (by decide) (Nat.le_of_ble_eq_true rfl) (fun C X => ?_)
  have lq : ∀ (N : mm_) (V : List fr_) (t : Term), ps2_ M n k V (some t) nd op N → nd < 20 → px_ M n (.inl (k + 1, (7, 0, t, .null, 0) :: V, none, nd + 1, op)) (sI_ (pu_ (wa_ (sI_ (sI_ N 0 13 (nI (nd + 1))) 0 22 (nI (os_ V).length)) V.length (nI 7) (nI (cs_ V ++ tc_ t).length) (nI (cs_ V).length)) (cs_ V ++ tc_ t).length 5 0) 0 5 (nI (k + 1))) := by
    intro N V t hN hn
    have hl := pr_len hN.1
    have hf3 : N.1 0 3 = 0 := hN.2.2.1.trans hf
    obtain ⟨⟨h0, h5, hc, h20, hw, ho, h13, h23, hn1, hn2, hop, hop2, hcq⟩, hpf, -, -⟩ := hN
    refine ⟨pf_sI (pf_pu (pf_wa (pf_sI (pf_sI hpf (by first | omega | exact at5_ (by omega))) (by first | omega | exact at5_ (by omega))))) (by first | omega | exact at5_ (by omega)), ⟨tz_sI (tz_pu (tz_wa (tz_sI (tz_sI h0 (by first | omega | exact at5_ (by omega))) (by first | omega | exact at5_ (by omega))))) (by first | omega | exact at5_ (by omega)), by simp [sI_], ?_, by simp [pu_, wa_, sI_, sL_], ?_, ?_, by simp [pu_, wa_, sI_, sL_], by simp [pu_, wa_, sI_, sL_, h23], ?_, by omega, ?_, hop2, trivial⟩, by simp [pu_, wa_, sI_, sL_, hf3]⟩
    · have e1 : cs_ ((7, 0, t, .null, 0) :: V) ++ cu_ none = (cs_ V ++ tc_ t) ++ [(5, 0)] := by simp [cs_, fc_, cu_]
      rw [e1]
      exact cd_sI (cd_pu (cd_wa (cd_sI (cd_sI hc (by omega) (by omega)) (by omega) (by omega)))) (by omega) (by omega)
    · refine ⟨wr_sI (wr_pu (wr_wa (wr_sI (wr_sI hw (Or.inl (by omega))) (Or.inl (by omega))) (Nat.le_refl _))) (Or.inl (by omega)), ⟨by simp, fun q => by simp at q⟩, by simp [pu_, wa_, sI_, sL_], by simp [pu_, wa_, sI_, sL_, fp_], by simp [pu_, wa_, sI_, sL_, fu_], fun q => by simp at q⟩
    · have e2 : os_ ((7, 0, t, .null, 0) :: V) ++ co_ (cs_ ((7, 0, t, .null, 0) :: V)).length none = os_ V := by simp [os_, ff_, co_]
      rw [e2]
      exact od_sI (od_pu (od_wa (od_cut (od_sI ho (by omega) (by omega))))) (by omega) (by omega)
    · simp only [nw_, cn_] at hn1 ⊢
      simp [nf_]
      omega
    · simp only [no_]
      rw [if_neg (by simp)]
      simpa using hop
  by_cases hd20 : nd = 20
  · refine w_aload_n X dX12_question_0 rfl rfl ?_
    refine w_iconst (v := 3) X dX12_question_1 (by decide) ?_
    refine w_v1rV X dX12_question_2 k12_reduceTo rfl rfl (c12_reduceTo G hG _ M n k nd op 3 (by omega) (by omega) W e h) (Nat.le_of_ble_eq_true rfl) (fun N2 h2 => ?_)
    have hle := pr_len h2.1
    have hos := pr_os h2.1
    have h20 := h2.1.2.2.2.1
    have h5 := h2.1.2.1
    have h13 := h2.1.2.2.2.2.2.2.1
    have h12 : N2.1 0 12 = nI (cs_ (rt_ 3 W e).1 ++ tc_ (rt_ 3 W e).2).length := h2.1.2.2.1.1
    have h22 : N2.1 0 22 = nI ((os_ (rt_ 3 W e).1).length + 1) := by have := h2.1.2.2.2.2.2.1.1; simpa [co_] using this
    have h11 : N2.1 11 (os_ (rt_ 3 W e).1).length = nI (cs_ (rt_ 3 W e).1).length := h2.1.2.2.2.2.2.1.2 _ _ (by simp [co_])
    have hf3 : N2.1 0 3 = 0 := h2.2.2.1.trans hf
    have hnd := h.2.2.2.2.2.2.2.2.2.1
    simp only [cu_] at hle
    have e20 : N2.1 0 13 = 20 := by rw [h13, hd20]; rfl
    refine w_aload_n X dX12_question_5 rfl rfl ?_
    refine w_aload_n X dX12_question_6 rfl rfl ?_
    refine g12_at X dX12_question_7 ?_
    try simp only [gI_sI, gI_sL, gL_sI, gL_sL, false_and, and_false, and_self, if_false, if_true, reduceIte, Nat.reduceEqDiff, h5, h13]
    refine w_v1fI X dX12_question_10 k12_count rfl rfl (c12_count G hG _ _ _) (Nat.le_of_ble_eq_true rfl) ?_
    refine w_if_ne (tgt := 17) X dX12_question_13 (by decide) (fun h13x => absurd (if_pos e20) h13x) (fun h13x => ?_)
    refine w_vrR X dX12_question_16 ?_
    rw [show qu_ k W e nd op = _ from if_pos hd20, if_pos e20]
    exact px_fa h2.2.1 hf3
  · refine w_aload_n X dX12_question_0 rfl rfl ?_
    refine w_iconst (v := 3) X dX12_question_1 (by decide) ?_
    refine w_v1rV X dX12_question_2 k12_reduceTo rfl rfl (c12_reduceTo G hG _ M n k nd op 3 (by omega) (by omega) W e h) (Nat.le_of_ble_eq_true rfl) (fun N2 h2 => ?_)
    have hle := pr_len h2.1
    have hos := pr_os h2.1
    have h20 := h2.1.2.2.2.1
    have h5 := h2.1.2.1
    have h13 := h2.1.2.2.2.2.2.2.1
    have h12 : N2.1 0 12 = nI (cs_ (rt_ 3 W e).1 ++ tc_ (rt_ 3 W e).2).length := h2.1.2.2.1.1
    have h22 : N2.1 0 22 = nI ((os_ (rt_ 3 W e).1).length + 1) := by have := h2.1.2.2.2.2.2.1.1; simpa [co_] using this
    have h11 : N2.1 11 (os_ (rt_ 3 W e).1).length = nI (cs_ (rt_ 3 W e).1).length := h2.1.2.2.2.2.2.1.2 _ _ (by simp [co_])
    have hf3 : N2.1 0 3 = 0 := h2.2.2.1.trans hf
    have hnd := h.2.2.2.2.2.2.2.2.2.1
    simp only [cu_] at hle
    have e20 : ¬ N2.1 0 13 = 20 := fun q => hd20 ((nI_eq (b := 20) (by omega) (by omega)).mp (h13.symm.trans q))
    refine w_aload_n X dX12_question_5 rfl rfl ?_
    refine w_aload_n X dX12_question_6 rfl rfl ?_
    refine g12_at X dX12_question_7 ?_
    try simp only [gI_sI, gI_sL, gL_sI, gL_sL, false_and, and_false, and_self, if_false, if_true, reduceIte, Nat.reduceEqDiff, h5, h13, h12, h22, h11, gI_wa, gL_wa, gI_pu, gL_pu, gI_op, gL_op]
    refine w_v1fI X dX12_question_10 k12_count rfl rfl (c12_count G hG _ _ _) (Nat.le_of_ble_eq_true rfl) ?_
    rw [if_neg e20, if_neg e20]
    simp only [h13, nI_1]
    refine w_if_ne (tgt := 17) X dX12_question_13 (by decide) (fun h13x => ?_) (fun h13x => absurd h13x (by decide))
    refine w_aload_n X dX12_question_17 rfl rfl ?_
    refine w_dup X dX12_question_18 rfl ?_
    refine g12_operandCount X dX12_question_19 ?_
    try simp only [gI_sI, gI_sL, gL_sI, gL_sL, false_and, and_false, and_self, if_false, if_true, reduceIte, Nat.reduceEqDiff, h5, h13, h12, h22, h11, gI_wa, gL_wa, gI_pu, gL_pu, gI_op, gL_op]
    refine w_iconst (v := 1) X dX12_question_22 (by decide) ?_
    refine w_isub X dX12_question_23 ?_
    rw [nI_s1]
    refine p12_operandCount X dX12_question_24 ?_
    refine w_aload_n X dX12_question_27 rfl rfl ?_
    refine w_bipush (v := 7) X dX12_question_28 (by decide) ?_
    refine w_aload_n X dX12_question_30 rfl rfl ?_
    refine g12_length X dX12_question_31 ?_
    try simp only [gI_sI, gI_sL, gL_sI, gL_sL, false_and, and_false, and_self, if_false, if_true, reduceIte, Nat.reduceEqDiff, h5, h13, h12, h22, h11, gI_wa, gL_wa, gI_pu, gL_pu, gI_op, gL_op]
    refine w_aload_n X dX12_question_34 rfl rfl ?_
    refine g12_operands X dX12_question_35 ?_
    refine w_aload_n X dX12_question_38 rfl rfl ?_
    refine g12_operandCount X dX12_question_39 ?_
    try simp only [gI_sI, gI_sL, gL_sI, gL_sL, false_and, and_false, and_self, if_false, if_true, reduceIte, Nat.reduceEqDiff, h5, h13, h12, h22, h11, gI_wa, gL_wa, gI_pu, gL_pu, gI_op, gL_op]
    refine w_ialoadN X dX12_question_42 rfl rfl (by omega) ?_
    try simp only [gI_sI, gI_sL, gL_sI, gL_sL, false_and, and_false, and_self, if_false, if_true, reduceIte, Nat.reduceEqDiff, h5, h13, h12, h22, h11, gI_wa, gL_wa, gI_pu, gL_pu, gI_op, gL_op]
    refine w_v3fV X dX12_question_43 k12_wait rfl rfl (c12_wait G hG _ _ (rt_ 3 W e).1.length (by simp [sI_, h20]) (by omega) _ _ _) (Nat.le_of_ble_eq_true rfl) ?_
    refine w_aload_n X dX12_question_46 rfl rfl ?_
    refine w_iconst (v := 5) X dX12_question_47 (by decide) ?_
    refine w_lconst (v := 0) X dX12_question_48 (by decide) ?_
    refine w_v2fV X dX12_question_49 k12_put rfl rfl (c12_put G hG _ _ (cs_ (rt_ 3 W e).1 ++ tc_ (rt_ 3 W e).2).length (by simp [wa_, sI_, h12]) (by omega) _ _) (Nat.le_of_ble_eq_true rfl) ?_
    refine w_aload_n X dX12_question_52 rfl rfl ?_
    refine w_dup X dX12_question_53 rfl ?_
    refine g12_at X dX12_question_54 ?_
    try simp only [gI_sI, gI_sL, gL_sI, gL_sL, false_and, and_false, and_self, if_false, if_true, reduceIte, Nat.reduceEqDiff, h5, h13, h12, h22, h11, gI_wa, gL_wa, gI_pu, gL_pu, gI_op, gL_op]
    refine w_iconst (v := 1) X dX12_question_57 (by decide) ?_
    refine w_iadd X dX12_question_58 ?_
    rw [nI_1]
    refine p12_at X dX12_question_59 ?_
    refine w_vrR X dX12_question_62 ?_
    rw [show qu_ k W e nd op = _ from if_neg hd20]
    exact lq N2 _ _ h2 (by omega)
