/-! reduce, reduceTo over the parser's state -/
def ps2_ (M : mm_) (n k : Nat) (W : List fr_) (u : Option Term) (nd op : Nat) (N : mm_) : Prop := pr_ N n k W u nd op ∧ pf_ M N ∧ N.1 0 3 = M.1 0 3 ∧ N.1 0 4 = M.1 0 4
theorem pr_len {M : mm_} {n k nd op : Nat} {W : List fr_} {u : Option Term} (h : pr_ M n k W u nd op) : (cs_ W ++ cu_ u).length ≤ 40 ∧ W.length ≤ 32 := by
  obtain ⟨-, -, -, -, -, -, -, -, h1, h2, h3, h4, -⟩ := h
  have a := cs_le W
  have b := nw_len W
  have c : (cu_ u).length ≤ 2 * cn_ u := by cases u with
    | none => simp [cu_]
    | some e => exact tc_le e
  simp
  omega
theorem oa_len : ∀ (x : Term) (p : Nat), (oa_ p x).length = ac_ x
  | .add a r, p => by simp [oa_, ac_, oa_len r]
  | .arg _, _ | .int _, _ | .long _, _ | .null, _ | .index _, _ | .field _ _ _ _, _ | .static _ _ _, _ | .string _ _, _ | .mirror _, _ | .length _, _ | .elem _ _, _ | .sub _ _, _ | .mul _ _, _ | .div _ _, _ | .rem _ _, _ | .op2 _ _ _, _ | .op1 _ _, _ | .sum _, _ | .result, _ | .thrown, _ | .old _, _ => by simp [oa_, ac_]
theorem os_le {M : mm_} : ∀ {W : List fr_}, wr_ M W → (os_ W).length ≤ nw_ W
  | [], _ => by simp [os_]
  | f :: r, h => by
    have h0 := os_le h.1
    have h1 := h.2.1
    obtain ⟨k, c, a, b, x⟩ := f
    simp only [os_, nw_, List.length_append]
    have h2 : (ff_ (cs_ r).length (k, c, a, b, x)).length ≤ nf_ (k, c, a, b, x) := by
      have hk : k ≤ 8 := h1.1
      rcases (show k = 0 ∨ k = 1 ∨ k = 2 ∨ k = 3 ∨ k = 4 ∨ k = 5 ∨ k = 6 ∨ k = 7 ∨ k = 8 by omega) with rfl | rfl | rfl | rfl | rfl | rfl | rfl | rfl | rfl
      · simp [ff_, nf_]
      · simp [ff_, nf_]
      · simp [ff_, nf_]
      · simp [ff_, nf_]
      · simp [ff_, nf_]
      · simp [ff_, nf_]
      · simp [ff_, nf_]
      · simp [ff_, nf_]
      · have := (h1.2 rfl).2; simp [ff_, nf_, oa_len]; simp at this; omega
    omega
theorem pr_os {M : mm_} {n k nd op : Nat} {W : List fr_} {u : Option Term} (h : pr_ M n k W u nd op) : (os_ W).length ≤ 20 := by
  obtain ⟨-, -, -, -, hw, -, -, -, h1, h2, h3, h4, -⟩ := h
  have := os_le hw
  omega
theorem rf_nt {f : fr_} {e : Term} (h1 : 1 ≤ f.1) (h2 : f.1 ≤ 6) : nt_ (rf_ f e) = nf_ f + nt_ e := by
  obtain ⟨k, c, a, b, x⟩ := f
  have h1 : 1 ≤ k := h1
  have h2 : k ≤ 6 := h2
  rcases (show k = 1 ∨ k = 2 ∨ k = 3 ∨ k = 4 ∨ k = 5 ∨ k = 6 by omega) with rfl | rfl | rfl | rfl | rfl | rfl
  · simp [rf_, nf_, nt_]; omega
  · simp [rf_, nf_, nt_]; omega
  · simp [rf_, nf_, nt_]; omega
  · simp [rf_, nf_, nt_]; omega
  · simp [rf_, nf_, nt_]; omega
  · simp only [rf_, nf_]; split <;> simp [nt_] <;> omega
theorem rf_1 (c : Int32) (a b e : Term) (x : Int64) : rf_ (1, c, a, b, x) e = .rem a e := rfl
set_option maxRecDepth 100000 in
set_option maxHeartbeats 4000000 in
theorem c12_reduce (G : gg_) (hG : gd_ G) (d : Nat) (M : mm_) (n k nd op : Nat) (f : fr_) (r : List fr_) (e : Term) (h : pr_ M n k (f :: r) (some e) nd op) (h1 : 1 ≤ f.1) (h6 : f.1 ≤ 6) :
    cm_ G yX12_reduce cX12_reduce 4 none (d + 2) [.ref (G.1 0)] M (rV_ (ps2_ M n k r (some (rf_ f e)) nd op)) := by
  have hl := pr_len h
  have hlo := pr_os h
  have hnt := rf_nt (e := e) h1 h6
  obtain ⟨h0, h5, hc, h20, ⟨hw, -, hk7, hk8, hk9, -⟩, ho, h13, h23, hn, hn2, hop, hop2, hcq⟩ := h
  simp only [cu_, co_, cn_] at hc ho hn hl
  simp only [nw_] at hn
  simp only [List.length_cons] at h20
  have hl2 : r.length + 1 ≤ 32 := by simpa using hl.2
  have hl := hl.1
  have hqq : cq_ (some (rf_ f e)) := by show 1 ≤ nt_ (rf_ f e); rw [hnt]; have : 1 ≤ nt_ e := hcq; omega
  have hno : no_ r = op := by
    rw [← hop]
    simp only [no_]
    rw [if_neg (by omega)]
    rfl
  obtain ⟨kd, c, a, b, x⟩ := f
  have h1' : 1 ≤ kd := h1
  have h6' : kd ≤ 6 := h6
  have ho1 := ho.1
  have hc1 := hc.1
  rcases (show kd = 1 ∨ kd = 2 ∨ (kd = 3 ∨ kd = 4 ∨ kd = 5) ∨ kd = 6 by omega) with rfl | rfl | hb | rfl
  · -- HASH
    have el : cs_ ((1, c, a, b, x) :: r) ++ tc_ e = (cs_ r ++ (7, lN ((tc_ a).length + 1)) :: tc_ a) ++ (8, 0) :: tc_ e := by simp [cs_, fc_]
    have eq : fp_ (cs_ r).length (1, c, a, b, x) = (cs_ r ++ (7, lN ((tc_ a).length + 1)) :: tc_ a).length := by simp [fp_]; omega
    have eo : os_ ((1, c, a, b, x) :: r) ++ [(cs_ ((1, c, a, b, x) :: r)).length] = (os_ r ++ [(cs_ r).length]) ++ [(cs_ ((1, c, a, b, x) :: r)).length] := rfl
    rw [el] at hc hc1
    rw [eo] at ho ho1
    rw [eq] at hk8
    refine cm_post (c12_reduce_1 G hG d M r.length _ _ (os_ r ++ [(cs_ r).length]).length h20 hc1 (by rw [ho1]; simp) hk8 (by omega) (by rw [el] at hl; omega) (by simp [os_, ff_] at hlo; simp; omega) (by simp) (by rw [hk7]; rfl)) (fun v N hv => ?_)
    obtain ⟨rfl, rfl⟩ := hv
    refine ⟨rfl, ⟨tz_sI (tz_sL (tz_sI h0 (by first | omega | exact at5_ (by omega)))) (by first | omega | exact at5_ (by omega)), by simp [sI_, sL_, h5], ?_, by simp [sI_, sL_], wr_sI (wr_sL (wr_sI hw (Or.inl (by first | omega | exact at5_ (by omega)))) (Or.inl (by first | omega | exact at5_ (by omega)))) (Or.inl (by first | omega | exact at5_ (by omega))), od_cut (od_sL (od_sI ho (by first | omega | exact at5_ (by omega)) (by first | omega | exact at5_ (by omega)))), by simp [sI_, sL_, h13], by simp [sI_, sL_, h23], by rw [cn_, hnt]; omega, hn2, hno, hop2, hqq⟩, pf_sI (pf_sL (pf_sI (pf_rf M) (by first | omega | exact at5_ (by omega))) (by simp)) (by first | omega | exact at5_ (by omega)), by simp [sI_, sL_], by simp [sI_, sL_]⟩
    have hp := cd_patch (v := (nI ((cs_ r ++ (7, lN ((tc_ a).length + 1)) :: tc_ a ++ (8, 0) :: tc_ e).length - (cs_ r ++ (7, lN ((tc_ a).length + 1)) :: tc_ a).length - 1)).toInt64) (cd_sI (a := 0) (i := 20) (v := nI r.length) hc (by omega) (by omega))
    have e9 : (nI ((cs_ r ++ (7, lN ((tc_ a).length + 1)) :: tc_ a ++ (8, 0) :: tc_ e).length - (cs_ r ++ (7, lN ((tc_ a).length + 1)) :: tc_ a).length - 1)).toInt64 = lN (tc_ e).length := by
      rw [show (cs_ r ++ (7, lN ((tc_ a).length + 1)) :: tc_ a ++ (8, 0) :: tc_ e).length - (cs_ r ++ (7, lN ((tc_ a).length + 1)) :: tc_ a).length - 1 = (tc_ e).length by simp; omega]
      refine nI_l ?_
      rw [el] at hl
      simp at hl
      omega
    refine cd_sI ?_ (by omega) (by omega)
    rw [e9] at hp ⊢
    have e10 : cs_ r ++ cu_ (some (rf_ (1, c, a, b, x) e)) = (cs_ r ++ (7, lN ((tc_ a).length + 1)) :: tc_ a) ++ (8, lN (tc_ e).length) :: tc_ e := by simp [cu_, rf_, tc_]
    rw [e10]
    exact hp
  · -- ELSE
    have el : cs_ ((2, c, a, b, x) :: r) ++ tc_ e = (cs_ r ++ (tc_ a ++ (5, lN ((tc_ b).length + 1)) :: tc_ b)) ++ (6, 0) :: tc_ e := by simp [cs_, fc_]
    have eq : fp_ (cs_ r).length (2, c, a, b, x) = (cs_ r ++ (tc_ a ++ (5, lN ((tc_ b).length + 1)) :: tc_ b)).length := by simp [fp_]; omega
    have eo : os_ ((2, c, a, b, x) :: r) ++ [(cs_ ((2, c, a, b, x) :: r)).length] = os_ r ++ [(cs_ ((2, c, a, b, x) :: r)).length] := by simp [os_, ff_]
    have e9v : M.1 9 r.length = nI (cs_ r).length := hk9
    rw [el] at hc hc1 hl
    rw [eo] at ho ho1
    rw [eq] at hk8
    refine cm_post (c12_reduce_2 G hG d M r.length _ _ (os_ r).length h20 hc1 (by rw [ho1]; simp) hk8 (by omega) (by omega) (by simp [os_, ff_] at hlo; omega) (by simp) (by rw [hk7]; rfl)) (fun v N hv => ?_)
    obtain ⟨rfl, rfl⟩ := hv
    rw [e9v]
    refine ⟨rfl, ⟨tz_sI (tz_sL (tz_sI h0 (by first | omega | exact at5_ (by omega)))) (by first | omega | exact at5_ (by omega)), by simp [sI_, sL_, h5], ?_, by simp [sI_, sL_], wr_sI (wr_sL (wr_sI hw (Or.inl (by first | omega | exact at5_ (by omega)))) (Or.inl (by first | omega | exact at5_ (by omega)))) (Or.inl (by first | omega | exact at5_ (by omega))), od_new (od_sL (od_sI ho (by first | omega | exact at5_ (by omega)) (by first | omega | exact at5_ (by omega)))), by simp [sI_, sL_, h13], by simp [sI_, sL_, h23], by rw [cn_, hnt]; omega, hn2, hno, hop2, hqq⟩, pf_sI (pf_sL (pf_sI (pf_rf M) (by first | omega | exact at5_ (by omega))) (by simp)) (by first | omega | exact at5_ (by omega)), by simp [sI_, sL_], by simp [sI_, sL_]⟩
    have hp := cd_patch (v := (nI ((cs_ r ++ (tc_ a ++ (5, lN ((tc_ b).length + 1)) :: tc_ b) ++ (6, 0) :: tc_ e).length - (cs_ r ++ (tc_ a ++ (5, lN ((tc_ b).length + 1)) :: tc_ b)).length - 1)).toInt64) (cd_sI (a := 0) (i := 20) (v := nI r.length) hc (by omega) (by omega))
    have e9 : (nI ((cs_ r ++ (tc_ a ++ (5, lN ((tc_ b).length + 1)) :: tc_ b) ++ (6, 0) :: tc_ e).length - (cs_ r ++ (tc_ a ++ (5, lN ((tc_ b).length + 1)) :: tc_ b)).length - 1)).toInt64 = lN (tc_ e).length := by
      rw [show (cs_ r ++ (tc_ a ++ (5, lN ((tc_ b).length + 1)) :: tc_ b) ++ (6, 0) :: tc_ e).length - (cs_ r ++ (tc_ a ++ (5, lN ((tc_ b).length + 1)) :: tc_ b)).length - 1 = (tc_ e).length by simp; omega]
      refine nI_l ?_
      simp at hl
      omega
    refine cd_sI ?_ (by omega) (by omega)
    rw [e9] at hp ⊢
    have e10 : cs_ r ++ cu_ (some (rf_ (2, c, a, b, x) e)) = (cs_ r ++ (tc_ a ++ (5, lN ((tc_ b).length + 1)) :: tc_ b)) ++ (6, lN (tc_ e).length) :: tc_ e := by simp [cu_, rf_, tc_]
    rw [e10]
    exact hp
  · -- a sign between two
    have el : cs_ ((kd, c, a, b, x) :: r) = cs_ r ++ tc_ a := by rcases hb with rfl | rfl | rfl <;> simp [cs_, fc_]
    have eo : os_ ((kd, c, a, b, x) :: r) = os_ r ++ [(cs_ r).length] := by rcases hb with rfl | rfl | rfl <;> simp [os_, ff_]
    have e9v : M.1 9 r.length = c := by rw [hk9]; rcases hb with rfl | rfl | rfl <;> rfl
    have er : rf_ (kd, c, a, b, x) e = .elem (.int c) (.add a e) := by rcases hb with rfl | rfl | rfl <;> rfl
    have e7 : M.1 7 r.length = 3 ∨ M.1 7 r.length = 4 ∨ M.1 7 r.length = 5 := by rw [hk7]; rcases hb with rfl | rfl | rfl <;> simp <;> decide
    rw [el] at hc hc1 hl ho ho1
    rw [eo] at ho ho1 hlo
    refine cm_post (c12_reduce_b G hG d M r.length (fp_ (cs_ r).length (kd, c, a, b, x)) (cs_ r ++ tc_ a ++ tc_ e).length (os_ r ++ [(cs_ r).length]).length h20 hc1 (by rw [ho1]; simp) hk8 (by omega) (by omega) (by simp at hlo; simp; omega) e7) (fun v N hv => ?_)
    obtain ⟨rfl, rfl⟩ := hv
    rw [e9v]
    refine ⟨rfl, ⟨tz_sI (tz_pu (tz_sI h0 (by first | omega | exact at5_ (by omega)))) (by first | omega | exact at5_ (by omega)), by simp [pu_, sI_, sL_, h5], ?_, by simp [pu_, sI_, sL_], wr_sI (wr_pu (wr_sI hw (Or.inl (by first | omega | exact at5_ (by omega))))) (Or.inl (by first | omega | exact at5_ (by omega))), od_cut (od_pu (od_sI ho (by first | omega | exact at5_ (by omega)) (by first | omega | exact at5_ (by omega)))), by simp [pu_, sI_, sL_, h13], by simp [pu_, sI_, sL_, h23], by rw [cn_, hnt]; omega, hn2, hno, hop2, hqq⟩, pf_sI (pf_pu (pf_sI (pf_rf M) (by first | omega | exact at5_ (by omega)))) (by first | omega | exact at5_ (by omega)), by simp [pu_, sI_, sL_], by simp [pu_, sI_, sL_]⟩
    refine cd_sI ?_ (by omega) (by omega)
    have hp := cd_pu (t := 2) (v := c.toInt64) (cd_sI (a := 0) (i := 20) (v := nI r.length) hc (by omega) (by omega))
    rw [er]
    have e10 : cs_ r ++ cu_ (some (.elem (.int c) (.add a e))) = cs_ r ++ tc_ a ++ tc_ e ++ [(2, c.toInt64)] := by simp [cu_, tc_, sg_]
    rw [e10]
    exact hp
  · -- in front of one
    have el : cs_ ((6, c, a, b, x) :: r) = cs_ r := by simp [cs_, fc_]
    have eo : os_ ((6, c, a, b, x) :: r) = os_ r := by simp [os_, ff_]
    have e9v : M.1 9 r.length = c := hk9
    rw [el] at hc hc1 hl ho ho1
    rw [eo] at ho ho1 hlo
    refine cm_post (c12_reduce_6 G hG d M r.length (fp_ (cs_ r).length (6, c, a, b, x)) (cs_ r ++ tc_ e).length (os_ r).length h20 hc1 (by rw [ho1]; simp) hk8 (by omega) (by omega) (by omega) (by rw [hk7]; rfl)) (fun v N hv => ?_)
    obtain ⟨rfl, rfl⟩ := hv
    rw [e9v]
    refine ⟨rfl, ⟨tz_pu (tz_sI h0 (by first | omega | exact at5_ (by omega))), by simp [pu_, sI_, sL_, h5], ?_, by simp [pu_, sI_, sL_], wr_pu (wr_sI hw (Or.inl (by first | omega | exact at5_ (by omega)))), od_pu (od_sI ho (by first | omega | exact at5_ (by omega)) (by first | omega | exact at5_ (by omega))), by simp [pu_, sI_, sL_, h13], by simp [pu_, sI_, sL_, h23], by rw [cn_, hnt]; omega, hn2, hno, hop2, hqq⟩, pf_pu (pf_sI (pf_rf M) (by first | omega | exact at5_ (by omega))), by simp [pu_, sI_, sL_], by simp [pu_, sI_, sL_]⟩
    have hp := cd_pu (t := if c = 45 then 3 else 4) (v := 0) (cd_sI (a := 0) (i := 20) (v := nI r.length) hc (by omega) (by omega))
    have e10 : cs_ r ++ cu_ (some (rf_ (6, c, a, b, x) e)) = cs_ r ++ tc_ e ++ [(if c = 45 then 3 else 4, 0)] := by
      simp only [cu_, rf_]
      split <;> simp [tc_]
    rw [e10]
    exact hp
