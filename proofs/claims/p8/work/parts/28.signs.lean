/-! signs of the parser: what they do to the stack of frames, or the fault that they meet -/
abbrev ss_ : Type := Nat × List fr_ × Option Term × Nat × Nat
def px_ (M : mm_) (n : Nat) : ss_ ⊕ (Int32 × Nat) → mm_ → Prop
  | .inl (k, W, u, nd, op), N => pf_ M N ∧ pr_ N n k W u nd op ∧ N.1 0 3 = 0
  | .inr (f, w), N => pf_ M N ∧ N.1 0 3 = f ∧ N.1 0 4 = nI w
theorem pf_f2 {M N : mm_} {f w : Int32} (h : pf_ M N) (hf : ¬ f = 0 := by decide) : pf_ M (sI_ (sI_ N 0 3 f) 0 4 w) := by
  refine ⟨fun x j b1 b2 b3 b4 b5 b6 => ?_, h.2.1, h.2.2.1, fun y => ?_, fun y => ?_⟩
  · rw [sI_ne _ _ _ _ (by omega), sI_ne _ _ _ _ (by omega)]
    exact h.1 x j b1 b2 b3 b4 b5 b6
  · exact absurd (by simpa [sI_] using y) hf
  · obtain ⟨r, hr, e⟩ := h.2.2.2.2 y
    exact ⟨r, hr, by simpa [sI_] using e⟩
theorem pf_fa {M N : mm_} {f w : Int32} (h : pf_ M N) (hf : ¬ f = 0 := by decide) : pf_ M (fa_ N f w) := by
  unfold fa_
  split
  · exact pf_f2 h hf
  · exact h
theorem px_fa {M N : mm_} {n w : Nat} {f : Int32} (h : pf_ M N) (h0 : N.1 0 3 = 0) (hf : ¬ f = 0 := by decide) : px_ M n (.inr (f, w)) (fa_ N f (nI w)) := by
  refine ⟨pf_fa h hf, ?_, ?_⟩
  · rw [fa_0 h0]; simp [sI_]
  · rw [fa_0 h0]; simp [sI_]
def tp_ : List fr_ → Int32
  | [] => -1
  | f :: _ => nI f.1
theorem la_pr {M : mm_} {n k nd op : Nat} {W : List fr_} {u : Option Term} (h : pr_ M n k W u nd op) : la_ M W.length = tp_ W := by
  have hw := h.2.2.2.2.1
  cases W with
  | nil => rfl
  | cons f r =>
    unfold la_ tp_
    simp only [List.length_cons, Nat.add_sub_cancel]
    rw [if_neg (by omega)]
    exact hw.2.2.1
theorem tp_3 {W : List fr_} {k : Nat} (hk : k ≤ 8) (hW : ∀ f ∈ W, f.1 ≤ 8) : tp_ W = nI k ↔ ∃ f r, W = f :: r ∧ f.1 = k := by
  cases W with
  | nil =>
    constructor
    · intro q
      have : (nI k).toInt = -1 := by rw [← q]; rfl
      rw [nI_toInt (by omega)] at this
      omega
    · rintro ⟨f, r, q, -⟩; cases q
  | cons f r =>
    have h8 := hW f List.mem_cons_self
    constructor
    · intro q; exact ⟨f, r, rfl, (nI_eq (by omega) (by omega)).mp q⟩
    · rintro ⟨f', r', q, e⟩; cases q; rw [← e]; rfl
theorem wr_8 {M : mm_} : ∀ {W : List fr_}, wr_ M W → ∀ f ∈ W, f.1 ≤ 8
  | [], _, f, h => by cases h
  | g :: r, hw, f, h => by
    rcases List.mem_cons.mp h with rfl | h
    · exact hw.2.1.1
    · exact wr_8 hw.1 f h
/-- a frame more, with 'wait' -/
theorem pr_wait {N : mm_} {n k nd op : Nat} {W : List fr_} {e : Term} (L : Nat) (c : Int32) (h : pr_ N n k W (some e) nd op) (hL : L = 3 ∨ L = 4 ∨ L = 5) (hn : nd < 20) : pr_ (sI_ (wa_ (sI_ N 0 13 (nI (nd + 1))) W.length (nI L) 0 c) 0 5 (nI (k + 1))) n (k + 1) ((L, c, e, .null, 0) :: W) none (nd + 1) op := by
  have hl := pr_len h
  obtain ⟨h0, h5, hc, h20, hw, ho, h13, h23, hn1, hn2, hop, hop2, hcq⟩ := h
  have e1 : cs_ ((L, c, e, .null, 0) :: W) ++ cu_ none = cs_ W ++ cu_ (some e) := by rcases hL with rfl | rfl | rfl <;> simp [cs_, fc_, cu_]
  have e2 : os_ ((L, c, e, .null, 0) :: W) ++ co_ (cs_ ((L, c, e, .null, 0) :: W)).length none = os_ W ++ co_ (cs_ W).length (some e) := by rcases hL with rfl | rfl | rfl <;> simp [os_, ff_, co_]
  unfold wa_
  refine ⟨?_, by simp [sI_], ?_, by simp [sI_], ?_, ?_, by simp [sI_], by simp [sI_, h23], ?_, by omega, ?_, hop2, trivial⟩
  · exact tz_sI (tz_sI (tz_sI (tz_sI (tz_sI (tz_sI h0 (by omega)) (by omega)) (by omega)) (by omega)) (by omega)) (by omega)
  · rw [e1]
    exact cd_sI (cd_sI (cd_sI (cd_sI (cd_sI (cd_sI hc (by omega) (by omega)) (by omega) (by omega)) (by omega) (by omega)) (by omega) (by omega)) (by omega) (by omega)) (by omega) (by omega)
  · refine ⟨wr_sI (wr_sI (wr_sI (wr_sI (wr_sI (wr_sI hw (Or.inl (by omega))) (Or.inr (by omega))) (Or.inr (by omega))) (Or.inr (by omega))) (Or.inl (by omega))) (Or.inl (by omega)), ⟨by rcases hL with rfl | rfl | rfl <;> simp, fun q => by exfalso; simp only at q; omega⟩, by simp [sI_], ?_, ?_, fun q => by exfalso; simp only at q; omega⟩
    · rcases hL with rfl | rfl | rfl <;> simp [sI_, fp_] <;> rfl
    · rcases hL with rfl | rfl | rfl <;> simp [sI_, fu_]
  · rw [e2]
    exact od_sI (od_sI (od_sI (od_sI (od_sI (od_sI ho (by omega) (by omega)) (by omega) (by omega)) (by omega) (by omega)) (by omega) (by omega)) (by omega) (by omega)) (by omega) (by omega)
  · simp only [nw_, cn_] at hn1 ⊢
    rcases hL with rfl | rfl | rfl <;> simp [nf_] <;> omega
  · simp only [no_]
    rw [if_neg (by rcases hL with rfl | rfl | rfl <;> simp)]
    simpa using hop
def bt_ (L : Nat) (c : Int32) (k : Nat) (W : List fr_) (e : Term) (nd op : Nat) : ss_ ⊕ (Int32 × Nat) :=
  if L = 3 ∧ tp_ (rt_ (if L = 3 then 4 else L) W e).1 = 3 then .inr (1, k) else if nd = 20 then .inr (3, k) else .inl (k + 1, (L, c, (rt_ (if L = 3 then 4 else L) W e).2, .null, 0) :: (rt_ (if L = 3 then 4 else L) W e).1, none, nd + 1, op)
set_option maxRecDepth 100000 in
set_option maxHeartbeats 4000000 in
theorem c12_between (G : gg_) (hG : gd_ G) (d : Nat) (M : mm_) (n k nd op L : Nat) (c : Int32) (W : List fr_) (e : Term) (h : pr_ M n k W (some e) nd op) (hf : M.1 0 3 = 0) (hk : k < 268435456) (hL : L = 3 ∨ L = 4 ∨ L = 5) : cm_ G yX12_between cX12_between 3 none (d + 4) [.ref (G.1 0), .int (nI L), .int c] M (rV_ (px_ M n (bt_ L c k W e nd op))) := by
  refine cm_of hG (by decide) (Nat.le_of_ble_eq_true rfl) (fun C X => ?_)
  have j33 : ∀ N : mm_, ps2_ M n k (rt_ (if L = 3 then 4 else L) W e).1 (some (rt_ (if L = 3 then 4 else L) W e).2) nd op N → ¬ (L = 3 ∧ tp_ (rt_ (if L = 3 then 4 else L) W e).1 = 3) → wq_ C G (qe_ C G (rV_ (px_ M n (bt_ L c k W e nd op)))) 33 [some (.ref (G.1 0)), some (.int (nI L)), some (.int c)] [] N := by
    intro N hN hq
    have hbt : bt_ L c k W e nd op = _ := if_neg hq
    generalize (rt_ (if L = 3 then 4 else L) W e).1 = V at hN hbt
    generalize (rt_ (if L = 3 then 4 else L) W e).2 = t at hN hbt
    have hle := (pr_len hN.1).2
    have h5 := hN.1.2.1
    have h20 := hN.1.2.2.2.1
    have h13 := hN.1.2.2.2.2.2.2.1
    have hnd := hN.1.2.2.2.2.2.2.2.2.2.1
    have hf3 : N.1 0 3 = 0 := hN.2.2.1.trans hf
    by_cases hd20 : nd = 20
    · have e20 : N.1 0 13 = 20 := by rw [h13, hd20]; rfl
      refine w_aload_n X dX12_between_33 rfl rfl ?_
      refine w_aload_n X dX12_between_34 rfl rfl ?_
      refine g12_at X dX12_between_35 ?_
      try simp only [gI_sI, gI_sL, gL_sI, gL_sL, false_and, and_false, and_self, if_false, if_true, reduceIte, Nat.reduceEqDiff, h5, h13]
      refine w_v1fI X dX12_between_38 k12_count rfl rfl (c12_count G hG _ _ _) (Nat.le_of_ble_eq_true rfl) ?_
      refine w_if_eq (tgt := 61) X dX12_between_41 (by decide) (fun h41 => ?_) (fun h41 => absurd (if_pos e20) h41)
      refine w_vrR X dX12_between_61 ?_
      rw [hbt, if_pos hd20, if_pos e20]
      exact px_fa hN.2.1 hf3
    · have e20 : ¬ N.1 0 13 = 20 := fun q => hd20 ((nI_eq (b := 20) (by omega) (by omega)).mp (h13.symm.trans q))
      refine w_aload_n X dX12_between_33 rfl rfl ?_
      refine w_aload_n X dX12_between_34 rfl rfl ?_
      refine g12_at X dX12_between_35 ?_
      try simp only [gI_sI, gI_sL, gL_sI, gL_sL, false_and, and_false, and_self, if_false, if_true, reduceIte, Nat.reduceEqDiff, h5, h13]
      refine w_v1fI X dX12_between_38 k12_count rfl rfl (c12_count G hG _ _ _) (Nat.le_of_ble_eq_true rfl) ?_
      rw [if_neg e20, if_neg e20]
      simp only [h13, nI_1]
      refine w_if_eq (tgt := 61) X dX12_between_41 (by decide) (fun h41 => absurd h41 (by decide)) (fun h41 => ?_)
      refine w_aload_n X dX12_between_44 rfl rfl ?_
      refine w_iload_n X dX12_between_45 rfl rfl ?_
      refine w_iconst (v := 0) X dX12_between_46 (by decide) ?_
      refine w_iload_n X dX12_between_47 rfl rfl ?_
      refine w_v3fV X dX12_between_48 k12_wait rfl rfl (c12_wait G hG _ _ V.length (by simp [sI_, h20]) (by omega) _ _ _) (Nat.le_of_ble_eq_true rfl) ?_
      refine w_aload_n X dX12_between_51 rfl rfl ?_
      refine w_dup X dX12_between_52 rfl ?_
      refine g12_at X dX12_between_53 ?_
      try simp only [gI_sI, gI_sL, gL_sI, gL_sL, false_and, and_false, and_self, if_false, if_true, reduceIte, Nat.reduceEqDiff, h5, h13]
      refine w_iconst (v := 1) X dX12_between_56 (by decide) ?_
      refine w_iadd X dX12_between_57 ?_
      rw [show (wa_ (sI_ N 0 13 (nI (nd + 1))) V.length (nI L) 0 c).1 0 5 = nI k by simp [wa_, sI_, h5], nI_1]
      refine p12_at X dX12_between_58 ?_
      refine w_vrR X dX12_between_61 ?_
      rw [hbt, if_neg hd20]
      exact ⟨pf_sI (pf_sI (pf_sI (pf_sI (pf_sI (pf_sI hN.2.1 (by first | omega | exact at5_ (by omega))) (by first | omega | exact at5_ (by omega))) (by first | omega | exact at5_ (by omega))) (by first | omega | exact at5_ (by omega))) (by first | omega | exact at5_ (by omega))) (by first | omega | exact at5_ (by omega)), pr_wait L c hN.1 hL (by first | omega | exact at5_ (by omega)), by simp [wa_, sI_, hf3]⟩
  by_cases h3 : L = 3
  · have e4 : (if L = 3 then 4 else L) = 4 := if_pos h3
    refine w_iload_n X dX12_between_0 rfl rfl ?_
    refine w_iconst (v := 3) X dX12_between_1 (by decide) ?_
    refine w_icmp_ne (tgt := 28) X dX12_between_2 (by decide) (fun h2 => absurd (by rw [h3]; rfl) h2) (fun h2 => ?_)
    refine w_aload_n X dX12_between_5 rfl rfl ?_
    refine w_iconst (v := 4) X dX12_between_6 (by decide) ?_
    refine w_v1rV X dX12_between_7 k12_reduceTo rfl rfl (c12_reduceTo G hG _ M n k nd op 4 (by omega) (by omega) W e h) (Nat.le_of_ble_eq_true rfl) (fun N7 h7 => ?_)
    rw [← e4] at h7
    have hle := (pr_len h7.1).2
    have h20 := h7.1.2.2.2.1
    have h5 := h7.1.2.1
    have hf3 : N7.1 0 3 = 0 := h7.2.2.1.trans hf
    refine w_aload_n X dX12_between_10 rfl rfl ?_
    refine w_v0fI X dX12_between_11 k12_last rfl rfl (c12_last G hG _ _ _ h20 (by omega)) (Nat.le_of_ble_eq_true rfl) ?_
    rw [la_pr h7.1]
    refine w_iconst (v := 3) X dX12_between_14 (by decide) ?_
    refine w_icmp_ne (tgt := 33) X dX12_between_15 (by decide) (fun h15 => ?_) (fun h15 => ?_)
    · exact j33 N7 h7 (fun q => h15 q.2)
    · refine w_aload_n X dX12_between_18 rfl rfl ?_
      refine w_iconst (v := 1) X dX12_between_19 (by decide) ?_
      refine w_aload_n X dX12_between_20 rfl rfl ?_
      refine g12_at X dX12_between_21 ?_
      try simp only [gI_sI, gI_sL, gL_sI, gL_sL, false_and, and_false, and_self, if_false, if_true, reduceIte, Nat.reduceEqDiff]
      rw [h5]
      refine w_v2fV X dX12_between_24 k12_fail rfl rfl (c12_fail G hG _ _ _ _) (Nat.le_of_ble_eq_true rfl) ?_
      refine w_vrR X dX12_between_27 ?_
      have hbt : bt_ L c k W e nd op = _ := if_pos ⟨h3, h15⟩
      rw [hbt]
      exact px_fa h7.2.1 hf3
  · have e4 : (if L = 3 then 4 else L) = L := if_neg h3
    refine w_iload_n X dX12_between_0 rfl rfl ?_
    refine w_iconst (v := 3) X dX12_between_1 (by decide) ?_
    refine w_icmp_ne (tgt := 28) X dX12_between_2 (by decide) (fun h2 => ?_) (fun h2 => absurd h2 (fun q => h3 ((nI_eq (b := 3) (by omega) (by omega)).mp q)))
    refine w_aload_n X dX12_between_28 rfl rfl ?_
    refine w_iload_n X dX12_between_29 rfl rfl ?_
    refine w_v1rV X dX12_between_30 k12_reduceTo rfl rfl (c12_reduceTo G hG _ M n k nd op L (by omega) (by omega) W e h) (Nat.le_of_ble_eq_true rfl) (fun N30 h30 => ?_)
    rw [← e4] at h30
    exact j33 N30 h30 (fun q => h3 q.1)
