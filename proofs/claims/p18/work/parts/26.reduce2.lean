section
/-! reduce, reduceTo over the parser's state -/
def ps2_ (M : mm_) (n k : Nat) (W : List fr_) (u : Option Term) (nd op : Nat) (N : mm_) : Prop := pr_ N n k W u nd op ∧ pf_ M N ∧ N.1 0 3 = M.1 0 3 ∧ N.1 0 4 = M.1 0 4
theorem pr_len {M : mm_} {n k nd op : Nat} {W : List fr_} {u : Option Term} (h : pr_ M n k W u nd op) : (cs_ W ++ cu_ u).length ≤ 40 ∧ W.length ≤ 32 := by
  obtain ⟨-, -, -, -, -, -, -, -, h1, h2, h3, h4, -⟩ := h
  have a := cs_le W
  have b := nw_len W
  have c : (cu_ u).length ≤ 2 * cn_ u := by cases u with
    | none => simp [cu_]
    | some e => exact tc_le e
  simp
  omega
theorem oa_len : ∀ (x : Term) (p : Nat), (oa_ p x).length = ac_ x
  | .add a r, p => by simp [oa_, ac_, oa_len r]
  | .arg _, _ | .int _, _ | .long _, _ | .null, _ | .index _, _ | .field _ _ _ _, _ | .static _ _ _, _ | .string _ _, _ | .mirror _, _ | .length _, _ | .elem _ _, _ | .sub _ _, _ | .mul _ _, _ | .div _ _, _ | .rem _ _, _ | .op2 _ _ _, _ | .op1 _ _, _ | .sum _, _ | .result, _ | .thrown, _ | .old _, _ => by simp [oa_, ac_]
theorem os_le {M : mm_} : ∀ {W : List fr_}, wr_ M W → (os_ W).length ≤ nw_ W
  | [], _ => by simp [os_]
  | f :: r, h => by
    have h0 := os_le h.1
    have h1 := h.2.1
    obtain ⟨k, c, a, b, x⟩ := f
    simp only [os_, nw_, List.length_append]
    have h2 : (ff_ (cs_ r).length (k, c, a, b, x)).length ≤ nf_ (k, c, a, b, x) := by
      have hk : k ≤ 8 := h1.1
      rcases (show k = 0 ∨ k = 1 ∨ k = 2 ∨ k = 3 ∨ k = 4 ∨ k = 5 ∨ k = 6 ∨ k = 7 ∨ k = 8 by omega) with rfl | rfl | rfl | rfl | rfl | rfl | rfl | rfl | rfl
      · simp [ff_, nf_]
      · simp [ff_, nf_]
      · simp [ff_, nf_]
      · simp [ff_, nf_]
      · simp [ff_, nf_]
      · simp [ff_, nf_]
      · simp [ff_, nf_]
      · simp [ff_, nf_]
      · have := (h1.2 rfl).2; simp [ff_, nf_, oa_len]; simp at this; omega
    omega
theorem pr_os {M : mm_} {n k nd op : Nat} {W : List fr_} {u : Option Term} (h : pr_ M n k W u nd op) : (os_ W).length ≤ 20 := by
  obtain ⟨-, -, -, -, hw, -, -, -, h1, h2, h3, h4, -⟩ := h
  have := os_le hw
  omega
theorem rf_nt {f : fr_} {e : Term} (h1 : 1 ≤ f.1) (h2 : f.1 ≤ 6) : nt_ (rf_ f e) = nf_ f + nt_ e := by
  obtain ⟨k, c, a, b, x⟩ := f
  have h1 : 1 ≤ k := h1
  have h2 : k ≤ 6 := h2
  rcases (show k = 1 ∨ k = 2 ∨ k = 3 ∨ k = 4 ∨ k = 5 ∨ k = 6 by omega) with rfl | rfl | rfl | rfl | rfl | rfl
  · simp [rf_, nf_, nt_]; omega
  · simp [rf_, nf_, nt_]; omega
  · simp [rf_, nf_, nt_]; omega
  · simp [rf_, nf_, nt_]; omega
  · simp [rf_, nf_, nt_]; omega
  · simp only [rf_, nf_]; split <;> simp [nt_] <;> omega
set_option maxRecDepth 100000 in
set_option maxHeartbeats 4000000 in
theorem c12_reduce (G : gg_) (hG : gd_ G) (d : Nat) (M : mm_) (n k nd op : Nat) (f : fr_) (r : List fr_) (e : Term) (h : pr_ M n k (f :: r) (some e) nd op) (h1 : 1 ≤ f.1) (h6 : f.1 ≤ 6) :
    cm_ G yX12_reduce cX12_reduce 4 none (d + 2) [.ref (G.1 0)] M (rV_ (ps2_ M n k r (some (rf_ f e)) nd op)) := by
  have hl := pr_len h
  have hlo := pr_os h
  have hnt := rf_nt (e := e) h1 h6
  obtain ⟨h0, h5, hc, h20, ⟨hw, -, hk7, hk8, hk9, -⟩, ho, h13, h23, hn, hn2, hop, hop2, hcq⟩ := h
  simp only [cu_, co_, cn_] at hc ho hn hl
  simp only [nw_] at hn
  simp only [List.length_cons] at h20
  have hl2 : r.length + 1 ≤ 32 := by simpa using hl.2
  have hl := hl.1
  have hqq : cq_ (some (rf_ f e)) := by show 1 ≤ nt_ (rf_ f e); rw [hnt]; have : 1 ≤ nt_ e := hcq; omega
  have hno : no_ r = op := by
    rw [← hop]
    simp only [no_]
    rw [if_neg (by omega)]
    rfl
  obtain ⟨kd, c, a, b, x⟩ := f
  have h1' : 1 ≤ kd := h1
  have h6' : kd ≤ 6 := h6
  have ho1 := ho.1
  have hc1 := hc.1
  rcases (show kd = 1 ∨ kd = 2 ∨ (kd = 3 ∨ kd = 4 ∨ kd = 5) ∨ kd = 6 by omega) with rfl | rfl | hb | rfl
  · -- HASH
    have el : cs_ ((1, c, a, b, x) :: r) ++ tc_ e = (cs_ r ++ (7, lN ((tc_ a).length + 1)) :: tc_ a) ++ (8, 0) :: tc_ e := by simp [cs_, fc_]
    have eq : fp_ (cs_ r).length (1, c, a, b, x) = (cs_ r ++ (7, lN ((tc_ a).length + 1)) :: tc_ a).length := by simp [fp_]; omega
    have eo : os_ ((1, c, a, b, x) :: r) ++ [(cs_ ((1, c, a, b, x) :: r)).length] = (os_ r ++ [(cs_ r).length]) ++ [(cs_ ((1, c, a, b, x) :: r)).length] := rfl
    rw [el] at hc hc1
    rw [eo] at ho ho1
    rw [eq] at hk8
    refine cm_post (c12_reduce_1 G hG d M r.length _ _ (os_ r ++ [(cs_ r).length]).length h20 hc1 (by rw [ho1]; simp) hk8 (by omega) (by rw [el] at hl; omega) (by simp [os_, ff_] at hlo; simp; omega) (by simp) (by rw [hk7]; rfl)) (fun v N hv => ?_)
    obtain ⟨rfl, rfl⟩ := hv
    refine ⟨rfl, ⟨tz_sI (tz_sL (tz_sI h0 (by first | omega | exact at5_ (by omega)))) (by first | omega | exact at5_ (by omega)), by simp [sI_, sL_, h5], ?_, by simp [sI_, sL_], wr_sI (wr_sL (wr_sI hw (Or.inl (by first | omega | exact at5_ (by omega)))) (Or.inl (by first | omega | exact at5_ (by omega)))) (Or.inl (by first | omega | exact at5_ (by omega))), od_cut (od_sL (od_sI ho (by first | omega | exact at5_ (by omega)) (by first | omega | exact at5_ (by omega)))), by simp [sI_, sL_, h13], by simp [sI_, sL_, h23], by rw [cn_, hnt]; omega, hn2, hno, hop2, hqq⟩, pf_sI (pf_sL (pf_sI (pf_rf M) (by first | omega | exact at5_ (by omega))) (by simp)) (by first | omega | exact at5_ (by omega)), by simp [sI_, sL_], by simp [sI_, sL_]⟩
    have hp := cd_patch (v := (nI ((cs_ r ++ (7, lN ((tc_ a).length + 1)) :: tc_ a ++ (8, 0) :: tc_ e).length - (cs_ r ++ (7, lN ((tc_ a).length + 1)) :: tc_ a).length - 1)).toInt64) (cd_sI (a := 0) (i := 20) (v := nI r.length) hc (by omega) (by omega))
    have e9 : (nI ((cs_ r ++ (7, lN ((tc_ a).length + 1)) :: tc_ a ++ (8, 0) :: tc_ e).length - (cs_ r ++ (7, lN ((tc_ a).length + 1)) :: tc_ a).length - 1)).toInt64 = lN (tc_ e).length := by
      rw [show (cs_ r ++ (7, lN ((tc_ a).length + 1)) :: tc_ a ++ (8, 0) :: tc_ e).length - (cs_ r ++ (7, lN ((tc_ a).length + 1)) :: tc_ a).length - 1 = (tc_ e).length by simp; omega]
      refine nI_l ?_
      rw [el] at hl
      simp at hl
      omega
    refine cd_sI ?_ (by omega) (by omega)
    rw [e9] at hp ⊢
    have e10 : cs_ r ++ cu_ (some (rf_ (1, c, a, b, x) e)) = (cs_ r ++ (7, lN ((tc_ a).length + 1)) :: tc_ a) ++ (8, lN (tc_ e).length) :: tc_ e := by simp [cu_, rf_, tc_]
    rw [e10]
    exact hp
  · -- ELSE
    have el : cs_ ((2, c, a, b, x) :: r) ++ tc_ e = (cs_ r ++ (tc_ a ++ (5, lN ((tc_ b).length + 1)) :: tc_ b)) ++ (6, 0) :: tc_ e := by simp [cs_, fc_]
    have eq : fp_ (cs_ r).length (2, c, a, b, x) = (cs_ r ++ (tc_ a ++ (5, lN ((tc_ b).length + 1)) :: tc_ b)).length := by simp [fp_]; omega
    have eo : os_ ((2, c, a, b, x) :: r) ++ [(cs_ ((2, c, a, b, x) :: r)).length] = os_ r ++ [(cs_ ((2, c, a, b, x) :: r)).length] := by simp [os_, ff_]
    have e9v : M.1 9 r.length = nI (cs_ r).length := hk9
    rw [el] at hc hc1 hl
    rw [eo] at ho ho1
    rw [eq] at hk8
    refine cm_post (c12_reduce_2 G hG d M r.length _ _ (os_ r).length h20 hc1 (by rw [ho1]; simp) hk8 (by omega) (by omega) (by simp [os_, ff_] at hlo; omega) (by simp) (by rw [hk7]; rfl)) (fun v N hv => ?_)
    obtain ⟨rfl, rfl⟩ := hv
    rw [e9v]
    refine ⟨rfl, ⟨tz_sI (tz_sL (tz_sI h0 (by first | omega | exact at5_ (by omega)))) (by first | omega | exact at5_ (by omega)), by simp [sI_, sL_, h5], ?_, by simp [sI_, sL_], wr_sI (wr_sL (wr_sI hw (Or.inl (by first | omega | exact at5_ (by omega)))) (Or.inl (by first | omega | exact at5_ (by omega)))) (Or.inl (by first | omega | exact at5_ (by omega))), od_new (od_sL (od_sI ho (by first | omega | exact at5_ (by omega)) (by first | omega | exact at5_ (by omega)))), by simp [sI_, sL_, h13], by simp [sI_, sL_, h23], by rw [cn_, hnt]; omega, hn2, hno, hop2, hqq⟩, pf_sI (pf_sL (pf_sI (pf_rf M) (by first | omega | exact at5_ (by omega))) (by simp)) (by first | omega | exact at5_ (by omega)), by simp [sI_, sL_], by simp [sI_, sL_]⟩
    have hp := cd_patch (v := (nI ((cs_ r ++ (tc_ a ++ (5, lN ((tc_ b).length + 1)) :: tc_ b) ++ (6, 0) :: tc_ e).length - (cs_ r ++ (tc_ a ++ (5, lN ((tc_ b).length + 1)) :: tc_ b)).length - 1)).toInt64) (cd_sI (a := 0) (i := 20) (v := nI r.length) hc (by omega) (by omega))
    have e9 : (nI ((cs_ r ++ (tc_ a ++ (5, lN ((tc_ b).length + 1)) :: tc_ b) ++ (6, 0) :: tc_ e).length - (cs_ r ++ (tc_ a ++ (5, lN ((tc_ b).length + 1)) :: tc_ b)).length - 1)).toInt64 = lN (tc_ e).length := by
      rw [show (cs_ r ++ (tc_ a ++ (5, lN ((tc_ b).length + 1)) :: tc_ b) ++ (6, 0) :: tc_ e).length - (cs_ r ++ (tc_ a ++ (5, lN ((tc_ b).length + 1)) :: tc_ b)).length - 1 = (tc_ e).length by simp; omega]
      refine nI_l ?_
      simp at hl
      omega
    refine cd_sI ?_ (by omega) (by omega)
    rw [e9] at hp ⊢
    have e10 : cs_ r ++ cu_ (some (rf_ (2, c, a, b, x) e)) = (cs_ r ++ (tc_ a ++ (5, lN ((tc_ b).length + 1)) :: tc_ b)) ++ (6, lN (tc_ e).length) :: tc_ e := by simp [cu_, rf_, tc_]
    rw [e10]
    exact hp
  · -- a sign between two
    have el : cs_ ((kd, c, a, b, x) :: r) = cs_ r ++ tc_ a := by rcases hb with rfl | rfl | rfl <;> simp [cs_, fc_]
    have eo : os_ ((kd, c, a, b, x) :: r) = os_ r ++ [(cs_ r).length] := by rcases hb with rfl | rfl | rfl <;> simp [os_, ff_]
    have e9v : M.1 9 r.length = c := by rw [hk9]; rcases hb with rfl | rfl | rfl <;> rfl
    have er : rf_ (kd, c, a, b, x) e = .elem (.int c) (.add a e) := by rcases hb with rfl | rfl | rfl <;> rfl
    have e7 : M.1 7 r.length = 3 ∨ M.1 7 r.length = 4 ∨ M.1 7 r.length = 5 := by rw [hk7]; rcases hb with rfl | rfl | rfl <;> simp <;> decide
    rw [el] at hc hc1 hl ho ho1
    rw [eo] at ho ho1 hlo
    refine cm_post (c12_reduce_b G hG d M r.length (fp_ (cs_ r).length (kd, c, a, b, x)) (cs_ r ++ tc_ a ++ tc_ e).length (os_ r ++ [(cs_ r).length]).length h20 hc1 (by rw [ho1]; simp) hk8 (by omega) (by omega) (by simp at hlo; simp; omega) e7) (fun v N hv => ?_)
    obtain ⟨rfl, rfl⟩ := hv
    rw [e9v]
    refine ⟨rfl, ⟨tz_sI (tz_pu (tz_sI h0 (by first | omega | exact at5_ (by omega)))) (by first | omega | exact at5_ (by omega)), by simp [pu_, sI_, sL_, h5], ?_, by simp [pu_, sI_, sL_], wr_sI (wr_pu (wr_sI hw (Or.inl (by first | omega | exact at5_ (by omega))))) (Or.inl (by first | omega | exact at5_ (by omega))), od_cut (od_pu (od_sI ho (by first | omega | exact at5_ (by omega)) (by first | omega | exact at5_ (by omega)))), by simp [pu_, sI_, sL_, h13], by simp [pu_, sI_, sL_, h23], by rw [cn_, hnt]; omega, hn2, hno, hop2, hqq⟩, pf_sI (pf_pu (pf_sI (pf_rf M) (by first | omega | exact at5_ (by omega)))) (by first | omega | exact at5_ (by omega)), by simp [pu_, sI_, sL_], by simp [pu_, sI_, sL_]⟩
    refine cd_sI ?_ (by omega) (by omega)
    have hp := cd_pu (t := 2) (v := c.toInt64) (cd_sI (a := 0) (i := 20) (v := nI r.length) hc (by omega) (by omega))
    rw [er]
    have e10 : cs_ r ++ cu_ (some (.elem (.int c) (.add a e))) = cs_ r ++ tc_ a ++ tc_ e ++ [(2, c.toInt64)] := by simp [cu_, tc_, sg_]
    rw [e10]
    exact hp
  · -- in front of one
    have el : cs_ ((6, c, a, b, x) :: r) = cs_ r := by simp [cs_, fc_]
    have eo : os_ ((6, c, a, b, x) :: r) = os_ r := by simp [os_, ff_]
    have e9v : M.1 9 r.length = c := hk9
    rw [el] at hc hc1 hl ho ho1
    rw [eo] at ho ho1 hlo
    refine cm_post (c12_reduce_6 G hG d M r.length (fp_ (cs_ r).length (6, c, a, b, x)) (cs_ r ++ tc_ e).length (os_ r).length h20 hc1 (by rw [ho1]; simp) hk8 (by omega) (by omega) (by omega) (by rw [hk7]; rfl)) (fun v N hv => ?_)
    obtain ⟨rfl, rfl⟩ := hv
    rw [e9v]
    refine ⟨rfl, ⟨tz_pu (tz_sI h0 (by first | omega | exact at5_ (by omega))), by simp [pu_, sI_, sL_, h5], ?_, by simp [pu_, sI_, sL_], wr_pu (wr_sI hw (Or.inl (by first | omega | exact at5_ (by omega)))), od_pu (od_sI ho (by first | omega | exact at5_ (by omega)) (by first | omega | exact at5_ (by omega))), by simp [pu_, sI_, sL_, h13], by simp [pu_, sI_, sL_, h23], by rw [cn_, hnt]; omega, hn2, hno, hop2, hqq⟩, pf_pu (pf_sI (pf_rf M) (by first | omega | exact at5_ (by omega))), by simp [pu_, sI_, sL_], by simp [pu_, sI_, sL_]⟩
    have hp := cd_pu (t := if c = 45 then 3 else 4) (v := 0) (cd_sI (a := 0) (i := 20) (v := nI r.length) hc (by omega) (by omega))
    have e10 : cs_ r ++ cu_ (some (rf_ (6, c, a, b, x) e)) = cs_ r ++ tc_ e ++ [(if c = 45 then 3 else 4, 0)] := by
      simp only [cu_, rf_]
      split <;> simp [tc_]
    rw [e10]
    exact hp

end
section
/-- frames of level L and closer, up to 6, are put together -/
def rt_ (L : Nat) : List fr_ → Term → List fr_ × Term
  | [], e => ([], e)
  | f :: r, e => if L ≤ f.1 ∧ f.1 ≤ 6 then rt_ L r (rf_ f e) else (f :: r, e)
theorem ps2_tr {M N : mm_} {n k nd op n2 k2 nd2 op2 : Nat} {W W2 : List fr_} {u u2 : Option Term} {O : mm_} (h1 : ps2_ M n k W u nd op N) (h2 : ps2_ N n2 k2 W2 u2 nd2 op2 O) : ps2_ M n2 k2 W2 u2 nd2 op2 O := ⟨h2.1, pf_tr h1.2.1 h2.2.1, h2.2.2.1.trans h1.2.2.1, h2.2.2.2.trans h1.2.2.2⟩
theorem ps2_rf {M : mm_} {n k nd op : Nat} {W : List fr_} {u : Option Term} (h : pr_ M n k W u nd op) : ps2_ M n k W u nd op M := ⟨h, pf_rf M, rfl, rfl⟩
set_option maxRecDepth 100000 in
set_option maxHeartbeats 4000000 in
theorem c12_reduceTo (G : gg_) (hG : gd_ G) (d : Nat) (M : mm_) (n k nd op L : Nat) (hL : 1 ≤ L) (hL2 : L ≤ 8) (W : List fr_) (e : Term) (h : pr_ M n k W (some e) nd op) : cm_ G yX12_reduceTo cX12_reduceTo 2 none (d + 3) [.ref (G.1 0), .int (nI L)] M (rV_ (ps2_ M n k (rt_ L W e).1 (some (rt_ L W e).2) nd op)) := by
  refine cm_of hG (by decide) (Nat.le_of_ble_eq_true rfl) (fun C X => ?_)
  have lp : ∀ (V : List fr_) (t : Term) (N : mm_), ps2_ M n k V (some t) nd op N → rt_ L W e = rt_ L V t → wq_ C G (qe_ C G (rV_ (ps2_ M n k (rt_ L W e).1 (some (rt_ L W e).2) nd op))) 0 [some (.ref (G.1 0)), some (.int (nI L))] [] N := by
    intro V
    induction V with
    | nil =>
      intro t N hN hr
      have h20 : N.1 0 20 = nI 0 := hN.1.2.2.2.1
      refine w_aload_n X dX12_reduceTo_0 rfl rfl ?_
      refine g12_waiting X dX12_reduceTo_1 ?_
      try simp only [gI_sI, gI_sL, gL_sI, gL_sL, false_and, and_false, and_self, if_false, if_true, reduceIte, Nat.reduceEqDiff, h20]
      refine w_if_le (tgt := 45) X dX12_reduceTo_4 (by decide) (fun h4 => ?_) (fun h4 => absurd (by decide) h4)
      exact w_vrR X dX12_reduceTo_45 (by rw [hr]; exact hN)
    | cons f r ih =>
      intro t N hN hr
      have h20 : N.1 0 20 = nI (r.length + 1) := by have := hN.1.2.2.2.1; simpa using this
      have hle := (pr_len hN.1).2
      simp only [List.length_cons] at hle
      have hk7 : N.1 7 r.length = nI f.1 := hN.1.2.2.2.2.1.2.2.1
      have hf8 : f.1 ≤ 8 := hN.1.2.2.2.2.1.2.1.1
      refine w_aload_n X dX12_reduceTo_0 rfl rfl ?_
      refine g12_waiting X dX12_reduceTo_1 ?_
      try simp only [gI_sI, gI_sL, gL_sI, gL_sL, false_and, and_false, and_self, if_false, if_true, reduceIte, Nat.reduceEqDiff, h20, hk7]
      refine w_if_le (tgt := 45) X dX12_reduceTo_4 (by decide) (fun h4 => absurd h4 (nI_nle (by omega) (by omega))) (fun h4 => ?_)
      refine w_aload_n X dX12_reduceTo_7 rfl rfl ?_
      refine g12_waits X dX12_reduceTo_8 ?_
      refine w_aload_n X dX12_reduceTo_11 rfl rfl ?_
      refine g12_waiting X dX12_reduceTo_12 ?_
      try simp only [gI_sI, gI_sL, gL_sI, gL_sL, false_and, and_false, and_self, if_false, if_true, reduceIte, Nat.reduceEqDiff, h20, hk7]
      refine w_iconst (v := 1) X dX12_reduceTo_15 (by decide) ?_
      refine w_isub X dX12_reduceTo_16 ?_
      rw [nI_s1]
      refine w_ialoadN X dX12_reduceTo_17 rfl rfl (by omega) ?_
      try simp only [gI_sI, gI_sL, gL_sI, gL_sL, false_and, and_false, and_self, if_false, if_true, reduceIte, Nat.reduceEqDiff, h20, hk7]
      refine w_iload_n X dX12_reduceTo_18 rfl rfl ?_
      refine w_icmp_lt (tgt := 45) X dX12_reduceTo_19 (by decide) (fun h19 => ?_) (fun h19 => ?_)
      · have e19 : f.1 < L := (nI_ltI (by omega) (by omega)).mp h19
        refine w_vrR X dX12_reduceTo_45 ?_
        rw [hr]
        simp only [rt_]
        rw [if_neg (by omega)]
        exact hN
      · have e19 : L ≤ f.1 := Nat.not_lt.mp (fun q => h19 (nI_lt q (by omega)))
        refine w_aload_n X dX12_reduceTo_22 rfl rfl ?_
        refine g12_waits X dX12_reduceTo_23 ?_
        refine w_aload_n X dX12_reduceTo_26 rfl rfl ?_
        refine g12_waiting X dX12_reduceTo_27 ?_
        try simp only [gI_sI, gI_sL, gL_sI, gL_sL, false_and, and_false, and_self, if_false, if_true, reduceIte, Nat.reduceEqDiff, h20, hk7]
        refine w_iconst (v := 1) X dX12_reduceTo_30 (by decide) ?_
        refine w_isub X dX12_reduceTo_31 ?_
        rw [nI_s1]
        refine w_ialoadN X dX12_reduceTo_32 rfl rfl (by omega) ?_
        try simp only [gI_sI, gI_sL, gL_sI, gL_sL, false_and, and_false, and_self, if_false, if_true, reduceIte, Nat.reduceEqDiff, h20, hk7]
        refine w_bipush (v := 6) X dX12_reduceTo_33 (by decide) ?_
        refine w_icmp_gt (tgt := 45) X dX12_reduceTo_35 (by decide) (fun h35 => ?_) (fun h35 => ?_)
        · have e35 : 6 < f.1 := (nI_ltI (a := 6) (by omega) (by omega)).mp h35
          refine w_vrR X dX12_reduceTo_45 ?_
          rw [hr]
          simp only [rt_]
          rw [if_neg (by omega)]
          exact hN
        · have e35 : f.1 ≤ 6 := Nat.not_lt.mp (fun q => h35 (nI_lt (a := 6) q (by omega)))
          refine w_aload_n X dX12_reduceTo_38 rfl rfl ?_
          refine w_v0rV X dX12_reduceTo_39 k12_reduce rfl rfl (c12_reduce G hG _ N n k nd op f r t hN.1 (by omega) e35) (Nat.le_of_ble_eq_true rfl) (fun N39 h39 => ?_)
          refine w_goto (tgt := 0) X dX12_reduceTo_42 (by decide) ?_
          refine ih (rf_ f t) N39 (ps2_tr hN h39) ?_
          rw [hr]
          simp only [rt_]
          rw [if_pos ⟨e19, e35⟩]
  exact lp W e M (ps2_rf h) rfl
set_option maxRecDepth 100000 in
set_option maxHeartbeats 4000000 in
theorem c12_reduceTo_0 (G : gg_) (hG : gd_ G) (d : Nat) (M : mm_) (n k nd op L : Nat) (hL : 1 ≤ L) (hL2 : L ≤ 8) (W : List fr_) (u : Option Term) (hW : W = [] ∨ ∃ f r, W = f :: r ∧ (f.1 = 0 ∨ 7 ≤ f.1)) (h : pr_ M n k W u nd op) : cm_ G yX12_reduceTo cX12_reduceTo 2 none (d + 3) [.ref (G.1 0), .int (nI L)] M (fV_ M) := by
  refine cm_of hG (by decide) (Nat.le_of_ble_eq_true rfl) (fun C X => ?_)
  rcases hW with rfl | ⟨f, r, rfl, hf⟩
  · have h20 : M.1 0 20 = nI 0 := h.2.2.2.1
    refine w_aload_n X dX12_reduceTo_0 rfl rfl ?_
    refine g12_waiting X dX12_reduceTo_1 ?_
    try simp only [gI_sI, gI_sL, gL_sI, gL_sL, false_and, and_false, and_self, if_false, if_true, reduceIte, Nat.reduceEqDiff, h20]
    refine w_if_le (tgt := 45) X dX12_reduceTo_4 (by decide) (fun h4 => ?_) (fun h4 => absurd (by decide) h4)
    exact w_vrF X dX12_reduceTo_45 rfl
  · have h20 : M.1 0 20 = nI (r.length + 1) := by have := h.2.2.2.1; simpa using this
    have hle := (pr_len h).2
    simp only [List.length_cons] at hle
    have hk7 : M.1 7 r.length = nI f.1 := h.2.2.2.2.1.2.2.1
    have hf8 : f.1 ≤ 8 := h.2.2.2.2.1.2.1.1
    refine w_aload_n X dX12_reduceTo_0 rfl rfl ?_
    refine g12_waiting X dX12_reduceTo_1 ?_
    try simp only [gI_sI, gI_sL, gL_sI, gL_sL, false_and, and_false, and_self, if_false, if_true, reduceIte, Nat.reduceEqDiff, h20, hk7]
    refine w_if_le (tgt := 45) X dX12_reduceTo_4 (by decide) (fun h4 => absurd h4 (nI_nle (by omega) (by omega))) (fun h4 => ?_)
    refine w_aload_n X dX12_reduceTo_7 rfl rfl ?_
    refine g12_waits X dX12_reduceTo_8 ?_
    refine w_aload_n X dX12_reduceTo_11 rfl rfl ?_
    refine g12_waiting X dX12_reduceTo_12 ?_
    try simp only [gI_sI, gI_sL, gL_sI, gL_sL, false_and, and_false, and_self, if_false, if_true, reduceIte, Nat.reduceEqDiff, h20, hk7]
    refine w_iconst (v := 1) X dX12_reduceTo_15 (by decide) ?_
    refine w_isub X dX12_reduceTo_16 ?_
    rw [nI_s1]
    refine w_ialoadN X dX12_reduceTo_17 rfl rfl (by omega) ?_
    try simp only [gI_sI, gI_sL, gL_sI, gL_sL, false_and, and_false, and_self, if_false, if_true, reduceIte, Nat.reduceEqDiff, h20, hk7]
    refine w_iload_n X dX12_reduceTo_18 rfl rfl ?_
    refine w_icmp_lt (tgt := 45) X dX12_reduceTo_19 (by decide) (fun h19 => ?_) (fun h19 => ?_)
    · exact w_vrF X dX12_reduceTo_45 rfl
    · have e19 : L ≤ f.1 := Nat.not_lt.mp (fun q => h19 (nI_lt q (by omega)))
      refine w_aload_n X dX12_reduceTo_22 rfl rfl ?_
      refine g12_waits X dX12_reduceTo_23 ?_
      refine w_aload_n X dX12_reduceTo_26 rfl rfl ?_
      refine g12_waiting X dX12_reduceTo_27 ?_
      try simp only [gI_sI, gI_sL, gL_sI, gL_sL, false_and, and_false, and_self, if_false, if_true, reduceIte, Nat.reduceEqDiff, h20, hk7]
      refine w_iconst (v := 1) X dX12_reduceTo_30 (by decide) ?_
      refine w_isub X dX12_reduceTo_31 ?_
      rw [nI_s1]
      refine w_ialoadN X dX12_reduceTo_32 rfl rfl (by omega) ?_
      try simp only [gI_sI, gI_sL, gL_sI, gL_sL, false_and, and_false, and_self, if_false, if_true, reduceIte, Nat.reduceEqDiff, h20, hk7]
      refine w_bipush (v := 6) X dX12_reduceTo_33 (by decide) ?_
      refine w_icmp_gt (tgt := 45) X dX12_reduceTo_35 (by decide) (fun h35 => ?_) (fun h35 => absurd (nI_lt (a := 6) (by omega) (by omega)) h35)
      exact w_vrF X dX12_reduceTo_45 rfl
set_option maxRecDepth 100000 in
set_option maxHeartbeats 4000000 in
theorem c12_reduceAll (G : gg_) (hG : gd_ G) (d : Nat) (M : mm_) (n k nd op : Nat) (W : List fr_) (e : Term) (h : pr_ M n k W (some e) nd op) : cm_ G yX12_reduceAll cX12_reduceAll 1 none (d + 4) [.ref (G.1 0)] M (rV_ (ps2_ M n k (rt_ 1 W e).1 (some (rt_ 1 W e).2) nd op)) := by
  refine cm_of hG (by decide) (Nat.le_of_ble_eq_true rfl) (fun C X => ?_)
  refine w_aload_n X dX12_reduceAll_0 rfl rfl ?_
  refine w_iconst (v := 1) X dX12_reduceAll_1 (by decide) ?_
  refine w_v1rV X dX12_reduceAll_2 k12_reduceTo rfl rfl (c12_reduceTo G hG _ M n k nd op 1 (by omega) (by omega) W e h) (Nat.le_of_ble_eq_true rfl) (fun N2 h2 => ?_)
  exact w_vrR X dX12_reduceAll_5 h2
set_option maxRecDepth 100000 in
set_option maxHeartbeats 4000000 in
theorem c12_reduceAll_0 (G : gg_) (hG : gd_ G) (d : Nat) (M : mm_) (n k nd op : Nat) (W : List fr_) (u : Option Term) (hW : W = [] ∨ ∃ f r, W = f :: r ∧ (f.1 = 0 ∨ 7 ≤ f.1)) (h : pr_ M n k W u nd op) : cm_ G yX12_reduceAll cX12_reduceAll 1 none (d + 4) [.ref (G.1 0)] M (fV_ M) := by
  refine cm_of hG (by decide) (Nat.le_of_ble_eq_true rfl) (fun C X => ?_)
  refine w_aload_n X dX12_reduceAll_0 rfl rfl ?_
  refine w_iconst (v := 1) X dX12_reduceAll_1 (by decide) ?_
  refine w_v1fV X dX12_reduceAll_2 k12_reduceTo rfl rfl (c12_reduceTo_0 G hG _ M n k nd op 1 (by omega) (by omega) W u hW h) (Nat.le_of_ble_eq_true rfl) ?_
  exact w_vrF X dX12_reduceAll_5 rfl

end
section
/-! signs of the parser: what they do to the stack of frames, or the fault that they meet -/
abbrev ss_ : Type := Nat × List fr_ × Option Term × Nat × Nat
def px_ (M : mm_) (n : Nat) : ss_ ⊕ (Int32 × Nat) → mm_ → Prop
  | .inl (k, W, u, nd, op), N => pf_ M N ∧ pr_ N n k W u nd op ∧ N.1 0 3 = 0
  | .inr (f, w), N => pf_ M N ∧ N.1 0 3 = f ∧ N.1 0 4 = nI w
theorem pf_f2 {M N : mm_} {f w : Int32} (h : pf_ M N) (hf : ¬ f = 0 := by decide) : pf_ M (sI_ (sI_ N 0 3 f) 0 4 w) := by
  refine ⟨fun x j b1 b2 b3 b4 b5 b6 => ?_, h.2.1, h.2.2.1, fun y => ?_, fun y => ?_⟩
  · rw [sI_ne _ _ _ _ (by omega), sI_ne _ _ _ _ (by omega)]
    exact h.1 x j b1 b2 b3 b4 b5 b6
  · exact absurd (by simpa [sI_] using y) hf
  · obtain ⟨r, hr, e⟩ := h.2.2.2.2 y
    exact ⟨r, hr, by simpa [sI_] using e⟩
theorem pf_fa {M N : mm_} {f w : Int32} (h : pf_ M N) (hf : ¬ f = 0 := by decide) : pf_ M (fa_ N f w) := by
  unfold fa_
  split
  · exact pf_f2 h hf
  · exact h
theorem px_fa {M N : mm_} {n w : Nat} {f : Int32} (h : pf_ M N) (h0 : N.1 0 3 = 0) (hf : ¬ f = 0 := by decide) : px_ M n (.inr (f, w)) (fa_ N f (nI w)) := by
  refine ⟨pf_fa h hf, ?_, ?_⟩
  · rw [fa_0 h0]; simp [sI_]
  · rw [fa_0 h0]; simp [sI_]
def tp_ : List fr_ → Int32
  | [] => -1
  | f :: _ => nI f.1
theorem la_pr {M : mm_} {n k nd op : Nat} {W : List fr_} {u : Option Term} (h : pr_ M n k W u nd op) : la_ M W.length = tp_ W := by
  have hw := h.2.2.2.2.1
  cases W with
  | nil => rfl
  | cons f r =>
    unfold la_ tp_
    simp only [List.length_cons, Nat.add_sub_cancel]
    rw [if_neg (by omega)]
    exact hw.2.2.1
theorem tp_3 {W : List fr_} {k : Nat} (hk : k ≤ 8) (hW : ∀ f ∈ W, f.1 ≤ 8) : tp_ W = nI k ↔ ∃ f r, W = f :: r ∧ f.1 = k := by
  cases W with
  | nil =>
    constructor
    · intro q
      have : (nI k).toInt = -1 := by rw [← q]; rfl
      rw [nI_toInt (by omega)] at this
      omega
    · rintro ⟨f, r, q, -⟩; cases q
  | cons f r =>
    have h8 := hW f List.mem_cons_self
    constructor
    · intro q; exact ⟨f, r, rfl, (nI_eq (by omega) (by omega)).mp q⟩
    · rintro ⟨f', r', q, e⟩; cases q; rw [← e]; rfl
theorem wr_8 {M : mm_} : ∀ {W : List fr_}, wr_ M W → ∀ f ∈ W, f.1 ≤ 8
  | [], _, f, h => by cases h
  | g :: r, hw, f, h => by
    rcases List.mem_cons.mp h with rfl | h
    · exact hw.2.1.1
    · exact wr_8 hw.1 f h
/-- a frame more, with 'wait' -/
theorem pr_wait {N : mm_} {n k nd op : Nat} {W : List fr_} {e : Term} (L : Nat) (c : Int32) (h : pr_ N n k W (some e) nd op) (hL : L = 3 ∨ L = 4 ∨ L = 5) (hn : nd < 20) : pr_ (sI_ (wa_ (sI_ N 0 13 (nI (nd + 1))) W.length (nI L) 0 c) 0 5 (nI (k + 1))) n (k + 1) ((L, c, e, .null, 0) :: W) none (nd + 1) op := by
  have hl := pr_len h
  obtain ⟨h0, h5, hc, h20, hw, ho, h13, h23, hn1, hn2, hop, hop2, hcq⟩ := h
  have e1 : cs_ ((L, c, e, .null, 0) :: W) ++ cu_ none = cs_ W ++ cu_ (some e) := by rcases hL with rfl | rfl | rfl <;> simp [cs_, fc_, cu_]
  have e2 : os_ ((L, c, e, .null, 0) :: W) ++ co_ (cs_ ((L, c, e, .null, 0) :: W)).length none = os_ W ++ co_ (cs_ W).length (some e) := by rcases hL with rfl | rfl | rfl <;> simp [os_, ff_, co_]
  unfold wa_
  refine ⟨?_, by simp [sI_], ?_, by simp [sI_], ?_, ?_, by simp [sI_], by simp [sI_, h23], ?_, by omega, ?_, hop2, trivial⟩
  · exact tz_sI (tz_sI (tz_sI (tz_sI (tz_sI (tz_sI h0 (by omega)) (by omega)) (by omega)) (by omega)) (by omega)) (by omega)
  · rw [e1]
    exact cd_sI (cd_sI (cd_sI (cd_sI (cd_sI (cd_sI hc (by omega) (by omega)) (by omega) (by omega)) (by omega) (by omega)) (by omega) (by omega)) (by omega) (by omega)) (by omega) (by omega)
  · refine ⟨wr_sI (wr_sI (wr_sI (wr_sI (wr_sI (wr_sI hw (Or.inl (by omega))) (Or.inr (by omega))) (Or.inr (by omega))) (Or.inr (by omega))) (Or.inl (by omega))) (Or.inl (by omega)), ⟨by rcases hL with rfl | rfl | rfl <;> simp, fun q => by exfalso; simp only at q; omega⟩, by simp [sI_], ?_, ?_, fun q => by exfalso; simp only at q; omega⟩
    · rcases hL with rfl | rfl | rfl <;> simp [sI_, fp_] <;> rfl
    · rcases hL with rfl | rfl | rfl <;> simp [sI_, fu_]
  · rw [e2]
    exact od_sI (od_sI (od_sI (od_sI (od_sI (od_sI ho (by omega) (by omega)) (by omega) (by omega)) (by omega) (by omega)) (by omega) (by omega)) (by omega) (by omega)) (by omega) (by omega)
  · simp only [nw_, cn_] at hn1 ⊢
    rcases hL with rfl | rfl | rfl <;> simp [nf_] <;> omega
  · simp only [no_]
    rw [if_neg (by rcases hL with rfl | rfl | rfl <;> simp)]
    simpa using hop
def bt_ (L : Nat) (c : Int32) (k : Nat) (W : List fr_) (e : Term) (nd op : Nat) : ss_ ⊕ (Int32 × Nat) :=
  if L = 3 ∧ tp_ (rt_ (if L = 3 then 4 else L) W e).1 = 3 then .inr (1, k) else if nd = 20 then .inr (3, k) else .inl (k + 1, (L, c, (rt_ (if L = 3 then 4 else L) W e).2, .null, 0) :: (rt_ (if L = 3 then 4 else L) W e).1, none, nd + 1, op)
set_option maxRecDepth 100000 in
set_option maxHeartbeats 4000000 in
theorem c12_between (G : gg_) (hG : gd_ G) (d : Nat) (M : mm_) (n k nd op L : Nat) (c : Int32) (W : List fr_) (e : Term) (h : pr_ M n k W (some e) nd op) (hf : M.1 0 3 = 0) (hk : k < 268435456) (hL : L = 3 ∨ L = 4 ∨ L = 5) : cm_ G yX12_between cX12_between 3 none (d + 4) [.ref (G.1 0), .int (nI L), .int c] M (rV_ (px_ M n (bt_ L c k W e nd op))) := by
  refine cm_of hG (by decide) (Nat.le_of_ble_eq_true rfl) (fun C X => ?_)
  have j33 : ∀ N : mm_, ps2_ M n k (rt_ (if L = 3 then 4 else L) W e).1 (some (rt_ (if L = 3 then 4 else L) W e).2) nd op N → ¬ (L = 3 ∧ tp_ (rt_ (if L = 3 then 4 else L) W e).1 = 3) → wq_ C G (qe_ C G (rV_ (px_ M n (bt_ L c k W e nd op)))) 33 [some (.ref (G.1 0)), some (.int (nI L)), some (.int c)] [] N := by
    intro N hN hq
    have hbt : bt_ L c k W e nd op = _ := if_neg hq
    generalize (rt_ (if L = 3 then 4 else L) W e).1 = V at hN hbt
    generalize (rt_ (if L = 3 then 4 else L) W e).2 = t at hN hbt
    have hle := (pr_len hN.1).2
    have h5 := hN.1.2.1
    have h20 := hN.1.2.2.2.1
    have h13 := hN.1.2.2.2.2.2.2.1
    have hnd := hN.1.2.2.2.2.2.2.2.2.2.1
    have hf3 : N.1 0 3 = 0 := hN.2.2.1.trans hf
    by_cases hd20 : nd = 20
    · have e20 : N.1 0 13 = 20 := by rw [h13, hd20]; rfl
      refine w_aload_n X dX12_between_33 rfl rfl ?_
      refine w_aload_n X dX12_between_34 rfl rfl ?_
      refine g12_at X dX12_between_35 ?_
      try simp only [gI_sI, gI_sL, gL_sI, gL_sL, false_and, and_false, and_self, if_false, if_true, reduceIte, Nat.reduceEqDiff, h5, h13]
      refine w_v1fI X dX12_between_38 k12_count rfl rfl (c12_count G hG _ _ _) (Nat.le_of_ble_eq_true rfl) ?_
      refine w_if_eq (tgt := 61) X dX12_between_41 (by decide) (fun h41 => ?_) (fun h41 => absurd (if_pos e20) h41)
      refine w_vrR X dX12_between_61 ?_
      rw [hbt, if_pos hd20, if_pos e20]
      exact px_fa hN.2.1 hf3
    · have e20 : ¬ N.1 0 13 = 20 := fun q => hd20 ((nI_eq (b := 20) (by omega) (by omega)).mp (h13.symm.trans q))
      refine w_aload_n X dX12_between_33 rfl rfl ?_
      refine w_aload_n X dX12_between_34 rfl rfl ?_
      refine g12_at X dX12_between_35 ?_
      try simp only [gI_sI, gI_sL, gL_sI, gL_sL, false_and, and_false, and_self, if_false, if_true, reduceIte, Nat.reduceEqDiff, h5, h13]
      refine w_v1fI X dX12_between_38 k12_count rfl rfl (c12_count G hG _ _ _) (Nat.le_of_ble_eq_true rfl) ?_
      rw [if_neg e20, if_neg e20]
      simp only [h13, nI_1]
      refine w_if_eq (tgt := 61) X dX12_between_41 (by decide) (fun h41 => absurd h41 (by decide)) (fun h41 => ?_)
      refine w_aload_n X dX12_between_44 rfl rfl ?_
      refine w_iload_n X dX12_between_45 rfl rfl ?_
      refine w_iconst (v := 0) X dX12_between_46 (by decide) ?_
      refine w_iload_n X dX12_between_47 rfl rfl ?_
      refine w_v3fV X dX12_between_48 k12_wait rfl rfl (c12_wait G hG _ _ V.length (by simp [sI_, h20]) (by omega) _ _ _) (Nat.le_of_ble_eq_true rfl) ?_
      refine w_aload_n X dX12_between_51 rfl rfl ?_
      refine w_dup X dX12_between_52 rfl ?_
      refine g12_at X dX12_between_53 ?_
      try simp only [gI_sI, gI_sL, gL_sI, gL_sL, false_and, and_false, and_self, if_false, if_true, reduceIte, Nat.reduceEqDiff, h5, h13]
      refine w_iconst (v := 1) X dX12_between_56 (by decide) ?_
      refine w_iadd X dX12_between_57 ?_
      rw [show (wa_ (sI_ N 0 13 (nI (nd + 1))) V.length (nI L) 0 c).1 0 5 = nI k by simp [wa_, sI_, h5], nI_1]
      refine p12_at X dX12_between_58 ?_
      refine w_vrR X dX12_between_61 ?_
      rw [hbt, if_neg hd20]
      exact ⟨pf_sI (pf_sI (pf_sI (pf_sI (pf_sI (pf_sI hN.2.1 (by first | omega | exact at5_ (by omega))) (by first | omega | exact at5_ (by omega))) (by first | omega | exact at5_ (by omega))) (by first | omega | exact at5_ (by omega))) (by first | omega | exact at5_ (by omega))) (by first | omega | exact at5_ (by omega)), pr_wait L c hN.1 hL (by first | omega | exact at5_ (by omega)), by simp [wa_, sI_, hf3]⟩
  by_cases h3 : L = 3
  · have e4 : (if L = 3 then 4 else L) = 4 := if_pos h3
    refine w_iload_n X dX12_between_0 rfl rfl ?_
    refine w_iconst (v := 3) X dX12_between_1 (by decide) ?_
    refine w_icmp_ne (tgt := 28) X dX12_between_2 (by decide) (fun h2 => absurd (by rw [h3]; rfl) h2) (fun h2 => ?_)
    refine w_aload_n X dX12_between_5 rfl rfl ?_
    refine w_iconst (v := 4) X dX12_between_6 (by decide) ?_
    refine w_v1rV X dX12_between_7 k12_reduceTo rfl rfl (c12_reduceTo G hG _ M n k nd op 4 (by omega) (by omega) W e h) (Nat.le_of_ble_eq_true rfl) (fun N7 h7 => ?_)
    rw [← e4] at h7
    have hle := (pr_len h7.1).2
    have h20 := h7.1.2.2.2.1
    have h5 := h7.1.2.1
    have hf3 : N7.1 0 3 = 0 := h7.2.2.1.trans hf
    refine w_aload_n X dX12_between_10 rfl rfl ?_
    refine w_v0fI X dX12_between_11 k12_last rfl rfl (c12_last G hG _ _ _ h20 (by omega)) (Nat.le_of_ble_eq_true rfl) ?_
    rw [la_pr h7.1]
    refine w_iconst (v := 3) X dX12_between_14 (by decide) ?_
    refine w_icmp_ne (tgt := 33) X dX12_between_15 (by decide) (fun h15 => ?_) (fun h15 => ?_)
    · exact j33 N7 h7 (fun q => h15 q.2)
    · refine w_aload_n X dX12_between_18 rfl rfl ?_
      refine w_iconst (v := 1) X dX12_between_19 (by decide) ?_
      refine w_aload_n X dX12_between_20 rfl rfl ?_
      refine g12_at X dX12_between_21 ?_
      try simp only [gI_sI, gI_sL, gL_sI, gL_sL, false_and, and_false, and_self, if_false, if_true, reduceIte, Nat.reduceEqDiff]
      rw [h5]
      refine w_v2fV X dX12_between_24 k12_fail rfl rfl (c12_fail G hG _ _ _ _) (Nat.le_of_ble_eq_true rfl) ?_
      refine w_vrR X dX12_between_27 ?_
      have hbt : bt_ L c k W e nd op = _ := if_pos ⟨h3, h15⟩
      rw [hbt]
      exact px_fa h7.2.1 hf3
  · have e4 : (if L = 3 then 4 else L) = L := if_neg h3
    refine w_iload_n X dX12_between_0 rfl rfl ?_
    refine w_iconst (v := 3) X dX12_between_1 (by decide) ?_
    refine w_icmp_ne (tgt := 28) X dX12_between_2 (by decide) (fun h2 => ?_) (fun h2 => absurd h2 (fun q => h3 ((nI_eq (b := 3) (by omega) (by omega)).mp q)))
    refine w_aload_n X dX12_between_28 rfl rfl ?_
    refine w_iload_n X dX12_between_29 rfl rfl ?_
    refine w_v1rV X dX12_between_30 k12_reduceTo rfl rfl (c12_reduceTo G hG _ M n k nd op L (by omega) (by omega) W e h) (Nat.le_of_ble_eq_true rfl) (fun N30 h30 => ?_)
    rw [← e4] at h30
    exact j33 N30 h30 (fun q => h3 q.1)

end
section
theorem gI_wa (M : mm_) (n : Nat) (a b c : Int32) (x j : Nat) : (wa_ M n a b c).1 x j = if x = 0 ∧ j = 20 then nI (n + 1) else if x = 9 ∧ j = n then c else if x = 8 ∧ j = n then b else if x = 7 ∧ j = n then a else M.1 x j := rfl
theorem gL_wa (M : mm_) (n : Nat) (a b c : Int32) (x j : Nat) : (wa_ M n a b c).2.1 x j = M.2.1 x j := rfl
theorem gI_pu (M : mm_) (n : Nat) (t : Int32) (v : Int64) (x j : Nat) : (pu_ M n t v).1 x j = if x = 0 ∧ j = 12 then nI (n + 1) else if x = 2 ∧ j = 2048 + n then t else M.1 x j := rfl
theorem gL_pu (M : mm_) (n : Nat) (t : Int32) (v : Int64) (x j : Nat) : (pu_ M n t v).2.1 x j = if x = 3 ∧ j = 2048 + n then v else M.2.1 x j := rfl
theorem gI_op (M : mm_) (n : Nat) (a : Int32) (x j : Nat) : (op_ M n a).1 x j = if x = 0 ∧ j = 22 then nI (n + 1) else if x = 11 ∧ j = n then a else M.1 x j := rfl
theorem gL_op (M : mm_) (n : Nat) (a : Int32) (x j : Nat) : (op_ M n a).2.1 x j = M.2.1 x j := rfl
theorem tz_wa {M : mm_} {n w : Nat} {a b c : Int32} (h : tz_ M n) : tz_ (wa_ M w a b c) n := tz_sI (tz_sI (tz_sI (tz_sI h (by omega)) (by omega)) (by omega)) (by omega)
theorem cd_wa {M : mm_} {l : List sv_} {w : Nat} {a b c : Int32} (h : cd_ M l) : cd_ (wa_ M w a b c) l := cd_sI (cd_sI (cd_sI (cd_sI h (by omega) (by omega)) (by omega) (by omega)) (by omega) (by omega)) (by omega) (by omega)
theorem od_wa {M : mm_} {o : List Nat} {w : Nat} {a b c : Int32} (h : od_ M o) : od_ (wa_ M w a b c) o := od_sI (od_sI (od_sI (od_sI h (by omega) (by omega)) (by omega) (by omega)) (by omega) (by omega)) (by omega) (by omega)
theorem wr_wa {M : mm_} {W : List fr_} {w : Nat} {a b c : Int32} (h : wr_ M W) (hw : W.length ≤ w) : wr_ (wa_ M w a b c) W := wr_sI (wr_sI (wr_sI (wr_sI h (Or.inr hw)) (Or.inr hw)) (Or.inr hw)) (Or.inl (by omega))
theorem pf_wa {M N : mm_} {w : Nat} {a b c : Int32} (h : pf_ M N) : pf_ M (wa_ N w a b c) := pf_sI (pf_sI (pf_sI (pf_sI h (by first | omega | exact at5_ (by omega))) (by first | omega | exact at5_ (by omega))) (by first | omega | exact at5_ (by omega))) (by first | omega | exact at5_ (by omega))
theorem tz_op {M : mm_} {n m : Nat} {a : Int32} (h : tz_ M n) : tz_ (op_ M m a) n := tz_sI (tz_sI h (by omega)) (by omega)
theorem cd_op {M : mm_} {l : List sv_} {m : Nat} {a : Int32} (h : cd_ M l) : cd_ (op_ M m a) l := cd_sI (cd_sI h (by omega) (by omega)) (by omega) (by omega)
theorem wr_op {M : mm_} {W : List fr_} {m : Nat} {a : Int32} (h : wr_ M W) : wr_ (op_ M m a) W := wr_sI (wr_sI h (Or.inl (by omega))) (Or.inl (by omega))
theorem pf_op {M N : mm_} {m : Nat} {a : Int32} (h : pf_ M N) : pf_ M (op_ N m a) := pf_sI (pf_sI h (by first | omega | exact at5_ (by omega))) (by first | omega | exact at5_ (by omega))
/-- an opened bracket: the machine's own words -/
def ob_ (M : mm_) (w k op : Nat) (a b : Int32) : mm_ := sI_ (sL_ (wa_ (sI_ M 0 23 (nI (op + 1))) w a b 0) 10 w (M.2.1 0 24)) 0 5 (nI (k + 1))
def qu_ (k : Nat) (W : List fr_) (e : Term) (nd op : Nat) : ss_ ⊕ (Int32 × Nat) := if nd = 20 then .inr (3, k) else .inl (k + 1, (7, 0, (rt_ 3 W e).2, .null, 0) :: (rt_ 3 W e).1, none, nd + 1, op)
def cm2_ (k : Nat) (W : List fr_) (e : Term) (nd op : Nat) : ss_ ⊕ (Int32 × Nat) := match (rt_ 1 W e).1 with
  | [] => .inr (1, k)
  | f :: r => if f.1 = 8 then .inl (k + 1, (8, f.2.1, sa_ f.2.2.1 (rt_ 1 W e).2, f.2.2.2.1, f.2.2.2.2) :: r, none, nd, op) else .inr (1, k)
def cl_ (k : Nat) (W : List fr_) (e : Term) (nd op : Nat) : ss_ ⊕ (Int32 × Nat) := match (rt_ 1 W e).1 with
  | [] => .inr (1, k)
  | f :: r => if f.1 = 7 then .inl (k + 1, (2, 0, f.2.2.1, (rt_ 1 W e).2, 0) :: r, none, nd, op) else .inr (1, k)
set_option maxRecDepth 100000 in
set_option maxHeartbeats 4000000 in
theorem c12_open_f (G : gg_) (hG : gd_ G) (d : Nat) (M : mm_) (k : Nat) (a b : Int32) (h5 : M.1 0 5 = nI k) (h23 : M.1 0 23 = nI 12) : cm_ G yX12_open cX12_open 3 none (d + 1) [.ref (G.1 0), .int a, .int b] M (fV_ (fa_ M 3 (nI k))) := by
  refine cm_of hG (by decide) (Nat.le_of_ble_eq_true rfl) (fun C X => ?_)
  refine w_aload_n X dX12_open_0 rfl rfl ?_
  refine g12_opened X dX12_open_1 ?_
  try simp only [gI_sI, gI_sL, gL_sI, gL_sL, false_and, and_false, and_self, if_false, if_true, reduceIte, Nat.reduceEqDiff, h5, h23]
  refine w_bipush (v := 12) X dX12_open_4 (by decide) ?_
  refine w_icmp_ne (tgt := 19) X dX12_open_6 (by decide) (fun h6 => absurd rfl h6) (fun h6 => ?_)
  refine w_aload_n X dX12_open_9 rfl rfl ?_
  refine w_iconst (v := 3) X dX12_open_10 (by decide) ?_
  refine w_aload_n X dX12_open_11 rfl rfl ?_
  refine g12_at X dX12_open_12 ?_
  try simp only [gI_sI, gI_sL, gL_sI, gL_sL, false_and, and_false, and_self, if_false, if_true, reduceIte, Nat.reduceEqDiff, h5, h23]
  refine w_v2fV X dX12_open_15 k12_fail rfl rfl (c12_fail G hG _ _ _ _) (Nat.le_of_ble_eq_true rfl) ?_
  exact w_vrF X dX12_open_18 rfl
set_option maxRecDepth 100000 in
set_option maxHeartbeats 4000000 in
theorem c12_open_o (G : gg_) (hG : gd_ G) (d : Nat) (M : mm_) (k w op : Nat) (a b : Int32) (h5 : M.1 0 5 = nI k) (h20 : M.1 0 20 = nI w) (h23 : M.1 0 23 = nI op) (hop : op < 12) (hw : w < 64) : cm_ G yX12_open cX12_open 3 none (d + 1) [.ref (G.1 0), .int a, .int b] M (fV_ (ob_ M w k op a b)) := by
  refine cm_of hG (by decide) (Nat.le_of_ble_eq_true rfl) (fun C X => ?_)
  refine w_aload_n X dX12_open_0 rfl rfl ?_
  refine g12_opened X dX12_open_1 ?_
  try simp only [gI_sI, gI_sL, gL_sI, gL_sL, false_and, and_false, and_self, if_false, if_true, reduceIte, Nat.reduceEqDiff, h5, h20, h23, gI_wa, gL_wa, gI_pu, gL_pu, gI_op, gL_op]
  refine w_bipush (v := 12) X dX12_open_4 (by decide) ?_
  refine w_icmp_ne (tgt := 19) X dX12_open_6 (by decide) (fun h6 => ?_) (fun h6 => absurd h6 (fun q => by have := (nI_eq (b := 12) (by omega) (by omega)).mp q; omega))
  refine w_aload_n X dX12_open_19 rfl rfl ?_
  refine w_dup X dX12_open_20 rfl ?_
  refine g12_opened X dX12_open_21 ?_
  try simp only [gI_sI, gI_sL, gL_sI, gL_sL, false_and, and_false, and_self, if_false, if_true, reduceIte, Nat.reduceEqDiff, h5, h20, h23, gI_wa, gL_wa, gI_pu, gL_pu, gI_op, gL_op]
  refine w_iconst (v := 1) X dX12_open_24 (by decide) ?_
  refine w_iadd X dX12_open_25 ?_
  refine p12_opened X dX12_open_26 ?_
  refine w_aload_n X dX12_open_29 rfl rfl ?_
  refine w_iload_n X dX12_open_30 rfl rfl ?_
  refine w_iload_n X dX12_open_31 rfl rfl ?_
  refine w_iconst (v := 0) X dX12_open_32 (by decide) ?_
  refine w_v3fV X dX12_open_33 k12_wait rfl rfl (c12_wait G hG _ _ w (by simp [sI_, h20]) hw _ _ _) (Nat.le_of_ble_eq_true rfl) ?_
  refine w_aload_n X dX12_open_36 rfl rfl ?_
  refine g12_waitNames X dX12_open_37 ?_
  refine w_aload_n X dX12_open_40 rfl rfl ?_
  refine g12_waiting X dX12_open_41 ?_
  try simp only [gI_sI, gI_sL, gL_sI, gL_sL, false_and, and_false, and_self, if_false, if_true, reduceIte, Nat.reduceEqDiff, h5, h20, h23, gI_wa, gL_wa, gI_pu, gL_pu, gI_op, gL_op]
  refine w_iconst (v := 1) X dX12_open_44 (by decide) ?_
  refine w_isub X dX12_open_45 ?_
  rw [nI_s1]
  refine w_aload_n X dX12_open_46 rfl rfl ?_
  refine g12_rowName X dX12_open_47 ?_
  try simp only [gI_sI, gI_sL, gL_sI, gL_sL, false_and, and_false, and_self, if_false, if_true, reduceIte, Nat.reduceEqDiff, h5, h20, h23, gI_wa, gL_wa, gI_pu, gL_pu, gI_op, gL_op]
  refine w_lastoreN X dX12_open_50 rfl rfl (by omega) ?_
  refine w_aload_n X dX12_open_51 rfl rfl ?_
  refine w_dup X dX12_open_52 rfl ?_
  refine g12_at X dX12_open_53 ?_
  try simp only [gI_sI, gI_sL, gL_sI, gL_sL, false_and, and_false, and_self, if_false, if_true, reduceIte, Nat.reduceEqDiff, h5, h20, h23, gI_wa, gL_wa, gI_pu, gL_pu, gI_op, gL_op]
  refine w_iconst (v := 1) X dX12_open_56 (by decide) ?_
  refine w_iadd X dX12_open_57 ?_
  refine p12_at X dX12_open_58 ?_
  exact w_vrF X dX12_open_61 (by unfold ob_; rw [nI_1, nI_1])
set_option maxRecDepth 100000 in
set_option maxHeartbeats 4000000 in
theorem c12_question (G : gg_) (hG : gd_ G) (d : Nat) (M : mm_) (n k nd op : Nat) (W : List fr_) (e : Term) (h : pr_ M n k W (some e) nd op) (hf : M.1 0 3 = 0) (hk : k < 268435456) : cm_ G yX12_question cX12_question 1 none (d + 4) [.ref (G.1 0)] M (rV_ (px_ M n (qu_ k W e nd op))) := by
  refine cm_of hG (by decide) (Nat.le_of_ble_eq_true rfl) (fun C X => ?_)
  have lq : ∀ (N : mm_) (V : List fr_) (t : Term), ps2_ M n k V (some t) nd op N → nd < 20 → px_ M n (.inl (k + 1, (7, 0, t, .null, 0) :: V, none, nd + 1, op)) (sI_ (pu_ (wa_ (sI_ (sI_ N 0 13 (nI (nd + 1))) 0 22 (nI (os_ V).length)) V.length (nI 7) (nI (cs_ V ++ tc_ t).length) (nI (cs_ V).length)) (cs_ V ++ tc_ t).length 5 0) 0 5 (nI (k + 1))) := by
    intro N V t hN hn
    have hl := pr_len hN.1
    have hf3 : N.1 0 3 = 0 := hN.2.2.1.trans hf
    obtain ⟨⟨h0, h5, hc, h20, hw, ho, h13, h23, hn1, hn2, hop, hop2, hcq⟩, hpf, -, -⟩ := hN
    refine ⟨pf_sI (pf_pu (pf_wa (pf_sI (pf_sI hpf (by first | omega | exact at5_ (by omega))) (by first | omega | exact at5_ (by omega))))) (by first | omega | exact at5_ (by omega)), ⟨tz_sI (tz_pu (tz_wa (tz_sI (tz_sI h0 (by first | omega | exact at5_ (by omega))) (by first | omega | exact at5_ (by omega))))) (by first | omega | exact at5_ (by omega)), by simp [sI_], ?_, by simp [pu_, wa_, sI_, sL_], ?_, ?_, by simp [pu_, wa_, sI_, sL_], by simp [pu_, wa_, sI_, sL_, h23], ?_, by omega, ?_, hop2, trivial⟩, by simp [pu_, wa_, sI_, sL_, hf3]⟩
    · have e1 : cs_ ((7, 0, t, .null, 0) :: V) ++ cu_ none = (cs_ V ++ tc_ t) ++ [(5, 0)] := by simp [cs_, fc_, cu_]
      rw [e1]
      exact cd_sI (cd_pu (cd_wa (cd_sI (cd_sI hc (by omega) (by omega)) (by omega) (by omega)))) (by omega) (by omega)
    · refine ⟨wr_sI (wr_pu (wr_wa (wr_sI (wr_sI hw (Or.inl (by omega))) (Or.inl (by omega))) (Nat.le_refl _))) (Or.inl (by omega)), ⟨by simp, fun q => by simp at q⟩, by simp [pu_, wa_, sI_, sL_], by simp [pu_, wa_, sI_, sL_, fp_], by simp [pu_, wa_, sI_, sL_, fu_], fun q => by simp at q⟩
    · have e2 : os_ ((7, 0, t, .null, 0) :: V) ++ co_ (cs_ ((7, 0, t, .null, 0) :: V)).length none = os_ V := by simp [os_, ff_, co_]
      rw [e2]
      exact od_sI (od_pu (od_wa (od_cut (od_sI ho (by omega) (by omega))))) (by omega) (by omega)
    · simp only [nw_, cn_] at hn1 ⊢
      simp [nf_]
      omega
    · simp only [no_]
      rw [if_neg (by simp)]
      simpa using hop
  by_cases hd20 : nd = 20
  · refine w_aload_n X dX12_question_0 rfl rfl ?_
    refine w_iconst (v := 3) X dX12_question_1 (by decide) ?_
    refine w_v1rV X dX12_question_2 k12_reduceTo rfl rfl (c12_reduceTo G hG _ M n k nd op 3 (by omega) (by omega) W e h) (Nat.le_of_ble_eq_true rfl) (fun N2 h2 => ?_)
    have hle := pr_len h2.1
    have hos := pr_os h2.1
    have h20 := h2.1.2.2.2.1
    have h5 := h2.1.2.1
    have h13 := h2.1.2.2.2.2.2.2.1
    have h12 : N2.1 0 12 = nI (cs_ (rt_ 3 W e).1 ++ tc_ (rt_ 3 W e).2).length := h2.1.2.2.1.1
    have h22 : N2.1 0 22 = nI ((os_ (rt_ 3 W e).1).length + 1) := by have := h2.1.2.2.2.2.2.1.1; simpa [co_] using this
    have h11 : N2.1 11 (os_ (rt_ 3 W e).1).length = nI (cs_ (rt_ 3 W e).1).length := h2.1.2.2.2.2.2.1.2 _ _ (by simp [co_])
    have hf3 : N2.1 0 3 = 0 := h2.2.2.1.trans hf
    have hnd := h.2.2.2.2.2.2.2.2.2.1
    simp only [cu_] at hle
    have e20 : N2.1 0 13 = 20 := by rw [h13, hd20]; rfl
    refine w_aload_n X dX12_question_5 rfl rfl ?_
    refine w_aload_n X dX12_question_6 rfl rfl ?_
    refine g12_at X dX12_question_7 ?_
    try simp only [gI_sI, gI_sL, gL_sI, gL_sL, false_and, and_false, and_self, if_false, if_true, reduceIte, Nat.reduceEqDiff, h5, h13]
    refine w_v1fI X dX12_question_10 k12_count rfl rfl (c12_count G hG _ _ _) (Nat.le_of_ble_eq_true rfl) ?_
    refine w_if_ne (tgt := 17) X dX12_question_13 (by decide) (fun h13x => absurd (if_pos e20) h13x) (fun h13x => ?_)
    refine w_vrR X dX12_question_16 ?_
    rw [show qu_ k W e nd op = _ from if_pos hd20, if_pos e20]
    exact px_fa h2.2.1 hf3
  · refine w_aload_n X dX12_question_0 rfl rfl ?_
    refine w_iconst (v := 3) X dX12_question_1 (by decide) ?_
    refine w_v1rV X dX12_question_2 k12_reduceTo rfl rfl (c12_reduceTo G hG _ M n k nd op 3 (by omega) (by omega) W e h) (Nat.le_of_ble_eq_true rfl) (fun N2 h2 => ?_)
    have hle := pr_len h2.1
    have hos := pr_os h2.1
    have h20 := h2.1.2.2.2.1
    have h5 := h2.1.2.1
    have h13 := h2.1.2.2.2.2.2.2.1
    have h12 : N2.1 0 12 = nI (cs_ (rt_ 3 W e).1 ++ tc_ (rt_ 3 W e).2).length := h2.1.2.2.1.1
    have h22 : N2.1 0 22 = nI ((os_ (rt_ 3 W e).1).length + 1) := by have := h2.1.2.2.2.2.2.1.1; simpa [co_] using this
    have h11 : N2.1 11 (os_ (rt_ 3 W e).1).length = nI (cs_ (rt_ 3 W e).1).length := h2.1.2.2.2.2.2.1.2 _ _ (by simp [co_])
    have hf3 : N2.1 0 3 = 0 := h2.2.2.1.trans hf
    have hnd := h.2.2.2.2.2.2.2.2.2.1
    simp only [cu_] at hle
    have e20 : ¬ N2.1 0 13 = 20 := fun q => hd20 ((nI_eq (b := 20) (by omega) (by omega)).mp (h13.symm.trans q))
    refine w_aload_n X dX12_question_5 rfl rfl ?_
    refine w_aload_n X dX12_question_6 rfl rfl ?_
    refine g12_at X dX12_question_7 ?_
    try simp only [gI_sI, gI_sL, gL_sI, gL_sL, false_and, and_false, and_self, if_false, if_true, reduceIte, Nat.reduceEqDiff, h5, h13, h12, h22, h11, gI_wa, gL_wa, gI_pu, gL_pu, gI_op, gL_op]
    refine w_v1fI X dX12_question_10 k12_count rfl rfl (c12_count G hG _ _ _) (Nat.le_of_ble_eq_true rfl) ?_
    rw [if_neg e20, if_neg e20]
    simp only [h13, nI_1]
    refine w_if_ne (tgt := 17) X dX12_question_13 (by decide) (fun h13x => ?_) (fun h13x => absurd h13x (by decide))
    refine w_aload_n X dX12_question_17 rfl rfl ?_
    refine w_dup X dX12_question_18 rfl ?_
    refine g12_operandCount X dX12_question_19 ?_
    try simp only [gI_sI, gI_sL, gL_sI, gL_sL, false_and, and_false, and_self, if_false, if_true, reduceIte, Nat.reduceEqDiff, h5, h13, h12, h22, h11, gI_wa, gL_wa, gI_pu, gL_pu, gI_op, gL_op]
    refine w_iconst (v := 1) X dX12_question_22 (by decide) ?_
    refine w_isub X dX12_question_23 ?_
    rw [nI_s1]
    refine p12_operandCount X dX12_question_24 ?_
    refine w_aload_n X dX12_question_27 rfl rfl ?_
    refine w_bipush (v := 7) X dX12_question_28 (by decide) ?_
    refine w_aload_n X dX12_question_30 rfl rfl ?_
    refine g12_length X dX12_question_31 ?_
    try simp only [gI_sI, gI_sL, gL_sI, gL_sL, false_and, and_false, and_self, if_false, if_true, reduceIte, Nat.reduceEqDiff, h5, h13, h12, h22, h11, gI_wa, gL_wa, gI_pu, gL_pu, gI_op, gL_op]
    refine w_aload_n X dX12_question_34 rfl rfl ?_
    refine g12_operands X dX12_question_35 ?_
    refine w_aload_n X dX12_question_38 rfl rfl ?_
    refine g12_operandCount X dX12_question_39 ?_
    try simp only [gI_sI, gI_sL, gL_sI, gL_sL, false_and, and_false, and_self, if_false, if_true, reduceIte, Nat.reduceEqDiff, h5, h13, h12, h22, h11, gI_wa, gL_wa, gI_pu, gL_pu, gI_op, gL_op]
    refine w_ialoadN X dX12_question_42 rfl rfl (by omega) ?_
    try simp only [gI_sI, gI_sL, gL_sI, gL_sL, false_and, and_false, and_self, if_false, if_true, reduceIte, Nat.reduceEqDiff, h5, h13, h12, h22, h11, gI_wa, gL_wa, gI_pu, gL_pu, gI_op, gL_op]
    refine w_v3fV X dX12_question_43 k12_wait rfl rfl (c12_wait G hG _ _ (rt_ 3 W e).1.length (by simp [sI_, h20]) (by omega) _ _ _) (Nat.le_of_ble_eq_true rfl) ?_
    refine w_aload_n X dX12_question_46 rfl rfl ?_
    refine w_iconst (v := 5) X dX12_question_47 (by decide) ?_
    refine w_lconst (v := 0) X dX12_question_48 (by decide) ?_
    refine w_v2fV X dX12_question_49 k12_put rfl rfl (c12_put G hG _ _ (cs_ (rt_ 3 W e).1 ++ tc_ (rt_ 3 W e).2).length (by simp [wa_, sI_, h12]) (by omega) _ _) (Nat.le_of_ble_eq_true rfl) ?_
    refine w_aload_n X dX12_question_52 rfl rfl ?_
    refine w_dup X dX12_question_53 rfl ?_
    refine g12_at X dX12_question_54 ?_
    try simp only [gI_sI, gI_sL, gL_sI, gL_sL, false_and, and_false, and_self, if_false, if_true, reduceIte, Nat.reduceEqDiff, h5, h13, h12, h22, h11, gI_wa, gL_wa, gI_pu, gL_pu, gI_op, gL_op]
    refine w_iconst (v := 1) X dX12_question_57 (by decide) ?_
    refine w_iadd X dX12_question_58 ?_
    rw [nI_1]
    refine p12_at X dX12_question_59 ?_
    refine w_vrR X dX12_question_62 ?_
    rw [show qu_ k W e nd op = _ from if_neg hd20]
    exact lq N2 _ _ h2 (by omega)

end
