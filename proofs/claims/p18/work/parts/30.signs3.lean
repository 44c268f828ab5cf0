section
set_option maxRecDepth 100000 in
set_option maxHeartbeats 4000000 in
theorem c12_comma (G : gg_) (hG : gd_ G) (d : Nat) (M : mm_) (n k nd op : Nat) (W : List fr_) (e : Term) (h : pr_ M n k W (some e) nd op) (hf : M.1 0 3 = 0) (hk : k < 268435456) : cm_ G yX12_comma cX12_comma 1 none (d + 5) [.ref (G.1 0)] M (rV_ (px_ M n (cm2_ k W e nd op))) := by
  refine cm_of hG (by decide) (Nat.le_of_ble_eq_true rfl) (fun C X => ?_)
  have lq : ∀ (N : mm_) (c : Int32) (a b t : Term) (x : Int64) (r : List fr_), ps2_ M n k ((8, c, a, b, x) :: r) (some t) nd op N → px_ M n (.inl (k + 1, (8, c, sa_ a t, b, x) :: r, none, nd, op)) (sI_ (sI_ N 9 r.length (nI (ac_ a + 1))) 0 5 (nI (k + 1))) := by
    intro N c a b t x r hN
    have hf3 : N.1 0 3 = 0 := hN.2.2.1.trans hf
    obtain ⟨⟨h0, h5, hc, h20, ⟨hw, ⟨-, ha⟩, hk7, hk8, hk9, hk10⟩, ho, h13, h23, hn1, hn2, hop, hop2, hcq⟩, hpf, -, -⟩ := hN
    obtain ⟨ha1, ha2⟩ := ha rfl
    simp only at ha1 ha2
    have ht1 : 1 ≤ nt_ t := hcq
    have e1 : cs_ ((8, c, sa_ a t, b, x) :: r) ++ cu_ none = cs_ ((8, c, a, b, x) :: r) ++ cu_ (some t) := by simp [cs_, fc_, cu_, tc_sa a t ha1]
    have e2 : os_ ((8, c, sa_ a t, b, x) :: r) ++ co_ (cs_ ((8, c, sa_ a t, b, x) :: r)).length none = os_ ((8, c, a, b, x) :: r) ++ co_ (cs_ ((8, c, a, b, x) :: r)).length (some t) := by simp [os_, ff_, co_, oa_sa a t _ ha1, cs_, fc_]
    refine ⟨pf_sI (pf_sI hpf (by first | omega | exact at5_ (by omega))) (by first | omega | exact at5_ (by omega)), ⟨tz_sI (tz_sI h0 (by first | omega | exact at5_ (by omega))) (by first | omega | exact at5_ (by omega)), by simp [sI_], ?_, by simpa [sI_] using h20, ?_, ?_, by simp [sI_, h13], by simp [sI_, h23], ?_, hn2, by simpa [no_] using hop, hop2, trivial⟩, by simp [sI_, hf3]⟩
    · rw [e1]
      exact cd_sI (cd_sI hc (by omega) (by omega)) (by omega) (by omega)
    · refine ⟨wr_sI (wr_sI hw (Or.inr (Nat.le_refl _))) (Or.inl (by omega)), ⟨by simp, fun _ => ⟨ao_sa a t ha1, ?_⟩⟩, by simpa [sI_] using hk7, by simpa [sI_, fp_] using hk8, by simp [sI_, fu_, ac_sa a t ha1], fun _ => hk10 rfl⟩
      rw [ac_sa a t ha1, nt_sa a t ha1]
      omega
    · rw [e2]
      exact od_sI (od_sI ho (by omega) (by omega)) (by omega) (by omega)
    · simp only [nw_, cn_] at hn1 ⊢
      simp [nf_, nt_sa a t ha1] at hn1 ⊢
      omega
  refine w_aload_n X dX12_comma_0 rfl rfl ?_
  refine w_v0rV X dX12_comma_1 k12_reduceAll rfl rfl (c12_reduceAll G hG _ M n k nd op W e h) (Nat.le_of_ble_eq_true rfl) (fun N1 h1 => ?_)
  have hle := pr_len h1.1
  have h20 := h1.1.2.2.2.1
  have h5 := h1.1.2.1
  have hf3 : N1.1 0 3 = 0 := h1.2.2.1.trans hf
  refine w_aload_n X dX12_comma_4 rfl rfl ?_
  refine w_v0fI X dX12_comma_5 k12_last rfl rfl (c12_last G hG _ _ _ h20 (by omega)) (Nat.le_of_ble_eq_true rfl) ?_
  rw [la_pr h1.1]
  refine w_bipush (v := 8) X dX12_comma_8 (by decide) ?_
  refine w_icmp_eq (tgt := 23) X dX12_comma_10 (by decide) (fun h10 => ?_) (fun h10 => ?_)
  · have hq : ∃ f r, (rt_ 1 W e).1 = f :: r ∧ f.1 = 8 := (tp_3 (k := 8) (by omega) (wr_8 h1.1.2.2.2.2.1)).mp h10
    obtain ⟨⟨kd, c, a, b, x⟩, r, hV, hkd⟩ := hq
    have hkd : kd = 8 := hkd
    subst hkd
    rw [hV] at h1
    have h20 : N1.1 0 20 = nI (r.length + 1) := by have := h1.1.2.2.2.1; simpa using this
    have hk9 : N1.1 9 r.length = nI (ac_ a) := h1.1.2.2.2.2.1.2.2.2.2.1
    simp only [hV, List.length_cons] at hle
    refine w_aload_n X dX12_comma_23 rfl rfl ?_
    refine g12_waitValues X dX12_comma_24 ?_
    refine w_aload_n X dX12_comma_27 rfl rfl ?_
    refine g12_waiting X dX12_comma_28 ?_
    try simp only [gI_sI, gI_sL, gL_sI, gL_sL, false_and, and_false, and_self, if_false, if_true, reduceIte, Nat.reduceEqDiff, h5, h20, hk9]
    refine w_iconst (v := 1) X dX12_comma_31 (by decide) ?_
    refine w_isub X dX12_comma_32 ?_
    rw [nI_s1]
    refine w_dup2 X dX12_comma_33 rfl rfl ?_
    refine w_ialoadN X dX12_comma_34 rfl rfl (by omega) ?_
    try simp only [gI_sI, gI_sL, gL_sI, gL_sL, false_and, and_false, and_self, if_false, if_true, reduceIte, Nat.reduceEqDiff, h5, h20, hk9]
    refine w_iconst (v := 1) X dX12_comma_35 (by decide) ?_
    refine w_iadd X dX12_comma_36 ?_
    rw [nI_1]
    refine w_iastoreN X dX12_comma_37 rfl rfl (by omega) ?_
    refine w_aload_n X dX12_comma_38 rfl rfl ?_
    refine w_dup X dX12_comma_39 rfl ?_
    refine g12_at X dX12_comma_40 ?_
    try simp only [gI_sI, gI_sL, gL_sI, gL_sL, false_and, and_false, and_self, if_false, if_true, reduceIte, Nat.reduceEqDiff, h5, h20, hk9]
    refine w_iconst (v := 1) X dX12_comma_43 (by decide) ?_
    refine w_iadd X dX12_comma_44 ?_
    rw [nI_1]
    refine p12_at X dX12_comma_45 ?_
    refine w_vrR X dX12_comma_48 ?_
    have hbt : cm2_ k W e nd op = .inl (k + 1, (8, c, sa_ a (rt_ 1 W e).2, b, x) :: r, none, nd, op) := by unfold cm2_; rw [hV]; rfl
    rw [hbt]
    exact lq N1 c a b _ x r h1
  · have hbt : cm2_ k W e nd op = .inr (1, k) := by
      unfold cm2_
      cases hV : (rt_ 1 W e).1 with
      | nil => rfl
      | cons f r =>
        simp only
        rw [if_neg (fun q => h10 (by rw [hV]; exact congrArg nI q))]
    refine w_aload_n X dX12_comma_13 rfl rfl ?_
    refine w_iconst (v := 1) X dX12_comma_14 (by decide) ?_
    refine w_aload_n X dX12_comma_15 rfl rfl ?_
    refine g12_at X dX12_comma_16 ?_
    try simp only [gI_sI, gI_sL, gL_sI, gL_sL, false_and, and_false, and_self, if_false, if_true, reduceIte, Nat.reduceEqDiff, h5]
    refine w_v2fV X dX12_comma_19 k12_fail rfl rfl (c12_fail G hG _ _ _ _) (Nat.le_of_ble_eq_true rfl) ?_
    refine w_vrR X dX12_comma_22 ?_
    rw [hbt]
    exact px_fa h1.2.1 hf3
set_option maxRecDepth 100000 in
set_option maxHeartbeats 4000000 in
theorem c12_colon (G : gg_) (hG : gd_ G) (d : Nat) (M : mm_) (n k nd op : Nat) (W : List fr_) (e : Term) (h : pr_ M n k W (some e) nd op) (hf : M.1 0 3 = 0) (hk : k < 268435456) : cm_ G yX12_colon cX12_colon 3 none (d + 5) [.ref (G.1 0)] M (rV_ (px_ M n (cl_ k W e nd op))) := by
  refine cm_of hG (by decide) (Nat.le_of_ble_eq_true rfl) (fun C X => ?_)
  have lq : ∀ (N : mm_) (c : Int32) (a b t : Term) (x : Int64) (r : List fr_), ps2_ M n k ((7, c, a, b, x) :: r) (some t) nd op N → px_ M n (.inl (k + 1, (2, 0, a, t, 0) :: r, none, nd, op)) (sI_ (sL_ (pu_ (wa_ (sI_ (sI_ N 0 20 (nI r.length)) 0 22 (nI (os_ r).length)) r.length 2 (nI (cs_ ((7, c, a, b, x) :: r) ++ tc_ t).length) (nI (cs_ r).length)) (cs_ ((7, c, a, b, x) :: r) ++ tc_ t).length 6 0) 3 (2048 + (cs_ r ++ tc_ a).length) (nI ((cs_ ((7, c, a, b, x) :: r) ++ tc_ t).length + 1 - (cs_ r ++ tc_ a).length - 1)).toInt64) 0 5 (nI (k + 1))) := by
    intro N c a b t x r hN
    have hl := (pr_len hN.1).1
    have hf3 : N.1 0 3 = 0 := hN.2.2.1.trans hf
    obtain ⟨⟨h0, h5, hc, h20, ⟨hw, -, hk7, hk8, hk9, -⟩, ho, h13, h23, hn1, hn2, hop, hop2, hcq⟩, hpf, -, -⟩ := hN
    simp only [cu_] at hc hl
    have e0 : (cs_ ((7, c, a, b, x) :: r) ++ tc_ t) = (cs_ r ++ tc_ a) ++ (5, 0) :: tc_ t := by simp [cs_, fc_]
    refine ⟨pf_sI (pf_sL (pf_pu (pf_wa (pf_sI (pf_sI hpf (by first | omega | exact at5_ (by omega))) (by first | omega | exact at5_ (by omega))))) (by first | omega | exact at5_ (by omega))) (by first | omega | exact at5_ (by omega)), ⟨tz_sI (tz_sL (tz_pu (tz_wa (tz_sI (tz_sI h0 (by first | omega | exact at5_ (by omega))) (by first | omega | exact at5_ (by omega)))))) (by first | omega | exact at5_ (by omega)), by simp [sI_], ?_, by simp [pu_, wa_, sI_, sL_], ?_, ?_, by simp [pu_, wa_, sI_, sL_, h13], by simp [pu_, wa_, sI_, sL_, h23], ?_, hn2, by simpa [no_] using hop, hop2, trivial⟩, by simp [pu_, wa_, sI_, sL_, hf3]⟩
    · have e9 : (nI ((cs_ ((7, c, a, b, x) :: r) ++ tc_ t).length + 1 - (cs_ r ++ tc_ a).length - 1)).toInt64 = lN ((tc_ t).length + 1) := by
        rw [show (cs_ ((7, c, a, b, x) :: r) ++ tc_ t).length + 1 - (cs_ r ++ tc_ a).length - 1 = (tc_ t).length + 1 by rw [e0]; simp; omega]
        refine nI_l ?_
        rw [e0] at hl
        simp at hl
        omega
      rw [e9]
      have e1 : cs_ ((2, 0, a, t, 0) :: r) ++ cu_ none = (cs_ r ++ tc_ a) ++ (5, lN ((tc_ t).length + 1)) :: (tc_ t ++ [(6, 0)]) := by simp [cs_, fc_, cu_]
      rw [e1]
      have hp := cd_pu (t := 6) (v := 0) (cd_wa (w := r.length) (a := 2) (b := nI (cs_ ((7, c, a, b, x) :: r) ++ tc_ t).length) (c := nI (cs_ r).length) (cd_sI (a := 0) (i := 22) (v := nI (os_ r).length) (cd_sI (a := 0) (i := 20) (v := nI r.length) hc (by omega) (by omega)) (by omega) (by omega)))
      have e2 : (cs_ ((7, c, a, b, x) :: r) ++ tc_ t) ++ [(6, 0)] = (cs_ r ++ tc_ a) ++ (5, 0) :: (tc_ t ++ [(6, 0)]) := by rw [e0]; simp
      rw [e2] at hp
      exact cd_sI (cd_patch hp) (by omega) (by omega)
    · refine ⟨wr_sI (wr_sL (wr_pu (wr_wa (wr_sI (wr_sI hw (Or.inl (by omega))) (Or.inl (by omega))) (Nat.le_refl _))) (Or.inl (by omega))) (Or.inl (by omega)), ⟨by simp, fun q => by simp at q⟩, by simp [pu_, wa_, sI_, sL_]; rfl, ?_, by simp [pu_, wa_, sI_, sL_, fu_], fun q => by simp at q⟩
      rw [e0]
      simp [pu_, wa_, sI_, sL_, fp_]
      congr 1
      omega
    · have e2 : os_ ((2, 0, a, t, 0) :: r) ++ co_ (cs_ ((2, 0, a, t, 0) :: r)).length none = os_ r := by simp [os_, ff_, co_]
      have e3 : os_ ((7, c, a, b, x) :: r) ++ co_ (cs_ ((7, c, a, b, x) :: r)).length (some t) = os_ r ++ [(cs_ ((7, c, a, b, x) :: r)).length] := by simp [os_, ff_, co_]
      rw [e2]
      rw [e3] at ho
      exact od_sI (od_sL (od_pu (od_wa (od_cut (od_sI ho (by omega) (by omega)))))) (by omega) (by omega)
    · simp only [nw_, cn_] at hn1 ⊢
      simp [nf_] at hn1 ⊢
      omega
  refine w_aload_n X dX12_colon_0 rfl rfl ?_
  refine w_v0rV X dX12_colon_1 k12_reduceAll rfl rfl (c12_reduceAll G hG _ M n k nd op W e h) (Nat.le_of_ble_eq_true rfl) (fun N1 h1 => ?_)
  have hle := pr_len h1.1
  have h20 := h1.1.2.2.2.1
  have h5 := h1.1.2.1
  have hf3 : N1.1 0 3 = 0 := h1.2.2.1.trans hf
  refine w_aload_n X dX12_colon_4 rfl rfl ?_
  refine w_v0fI X dX12_colon_5 k12_last rfl rfl (c12_last G hG _ _ _ h20 (by omega)) (Nat.le_of_ble_eq_true rfl) ?_
  rw [la_pr h1.1]
  refine w_bipush (v := 7) X dX12_colon_8 (by decide) ?_
  refine w_icmp_eq (tgt := 23) X dX12_colon_10 (by decide) (fun h10 => ?_) (fun h10 => ?_)
  · have hq : ∃ f r, (rt_ 1 W e).1 = f :: r ∧ f.1 = 7 := (tp_3 (k := 7) (by omega) (wr_8 h1.1.2.2.2.2.1)).mp h10
    obtain ⟨⟨kd, c, a, b, x⟩, r, hV, hkd⟩ := hq
    have hkd : kd = 7 := hkd
    subst hkd
    have hbt : cl_ k W e nd op = .inl (k + 1, (2, 0, a, (rt_ 1 W e).2, 0) :: r, none, nd, op) := by unfold cl_; rw [hV]; rfl
    have hos := pr_os h1.1
    generalize (rt_ 1 W e).2 = t at h1 hbt hle
    rw [hV] at h1 hos
    have h20 : N1.1 0 20 = nI (r.length + 1) := by have := h1.1.2.2.2.1; simpa using this
    have hk9 : N1.1 9 r.length = nI (cs_ r).length := h1.1.2.2.2.2.1.2.2.2.2.1
    have hk8 : N1.1 8 r.length = nI (cs_ r ++ tc_ a).length := by rw [h1.1.2.2.2.2.1.2.2.2.1]; simp [fp_]
    have h12 : N1.1 0 12 = nI (cs_ ((7, c, a, b, x) :: r) ++ tc_ t).length := h1.1.2.2.1.1
    have h22 : N1.1 0 22 = nI ((os_ r).length + 1) := by have := h1.1.2.2.2.2.2.1.1; simpa [co_, os_, ff_] using this
    simp only [hV, List.length_cons, cu_] at hle
    have hql : (cs_ r ++ tc_ a).length < (cs_ ((7, c, a, b, x) :: r) ++ tc_ t).length + 1 := by simp [cs_, fc_]; omega
    simp [os_, ff_] at hos
    refine w_aload_n X dX12_colon_23 rfl rfl ?_
    refine w_dup X dX12_colon_24 rfl ?_
    refine g12_waiting X dX12_colon_25 ?_
    try simp only [gI_sI, gI_sL, gL_sI, gL_sL, false_and, and_false, and_self, if_false, if_true, reduceIte, Nat.reduceEqDiff, h5, h20, hk9, hk8, h12, h22, gI_wa, gL_wa, gI_pu, gL_pu, gI_op, gL_op]
    refine w_iconst (v := 1) X dX12_colon_28 (by decide) ?_
    refine w_isub X dX12_colon_29 ?_
    rw [nI_s1]
    refine p12_waiting X dX12_colon_30 ?_
    refine w_aload_n X dX12_colon_33 rfl rfl ?_
    refine g12_waitPlaces X dX12_colon_34 ?_
    refine w_aload_n X dX12_colon_37 rfl rfl ?_
    refine g12_waiting X dX12_colon_38 ?_
    try simp only [gI_sI, gI_sL, gL_sI, gL_sL, false_and, and_false, and_self, if_false, if_true, reduceIte, Nat.reduceEqDiff, h5, h20, hk9, hk8, h12, h22, gI_wa, gL_wa, gI_pu, gL_pu, gI_op, gL_op]
    refine w_ialoadN X dX12_colon_41 rfl rfl (by omega) ?_
    try simp only [gI_sI, gI_sL, gL_sI, gL_sL, false_and, and_false, and_self, if_false, if_true, reduceIte, Nat.reduceEqDiff, h5, h20, hk9, hk8, h12, h22, gI_wa, gL_wa, gI_pu, gL_pu, gI_op, gL_op]
    refine w_istore_n X dX12_colon_42 rfl (by decide) ?_
    refine w_aload_n X dX12_colon_43 rfl rfl ?_
    refine g12_waitValues X dX12_colon_44 ?_
    refine w_aload_n X dX12_colon_47 rfl rfl ?_
    refine g12_waiting X dX12_colon_48 ?_
    try simp only [gI_sI, gI_sL, gL_sI, gL_sL, false_and, and_false, and_self, if_false, if_true, reduceIte, Nat.reduceEqDiff, h5, h20, hk9, hk8, h12, h22, gI_wa, gL_wa, gI_pu, gL_pu, gI_op, gL_op]
    refine w_ialoadN X dX12_colon_51 rfl rfl (by omega) ?_
    try simp only [gI_sI, gI_sL, gL_sI, gL_sL, false_and, and_false, and_self, if_false, if_true, reduceIte, Nat.reduceEqDiff, h5, h20, hk9, hk8, h12, h22, gI_wa, gL_wa, gI_pu, gL_pu, gI_op, gL_op]
    refine w_istore_n X dX12_colon_52 rfl (by decide) ?_
    refine w_aload_n X dX12_colon_53 rfl rfl ?_
    refine w_dup X dX12_colon_54 rfl ?_
    refine g12_operandCount X dX12_colon_55 ?_
    try simp only [gI_sI, gI_sL, gL_sI, gL_sL, false_and, and_false, and_self, if_false, if_true, reduceIte, Nat.reduceEqDiff, h5, h20, hk9, hk8, h12, h22, gI_wa, gL_wa, gI_pu, gL_pu, gI_op, gL_op]
    refine w_iconst (v := 1) X dX12_colon_58 (by decide) ?_
    refine w_isub X dX12_colon_59 ?_
    rw [nI_s1]
    refine p12_operandCount X dX12_colon_60 ?_
    refine w_aload_n X dX12_colon_63 rfl rfl ?_
    refine w_iconst (v := 2) X dX12_colon_64 (by decide) ?_
    refine w_aload_n X dX12_colon_65 rfl rfl ?_
    refine g12_length X dX12_colon_66 ?_
    try simp only [gI_sI, gI_sL, gL_sI, gL_sL, false_and, and_false, and_self, if_false, if_true, reduceIte, Nat.reduceEqDiff, h5, h20, hk9, hk8, h12, h22, gI_wa, gL_wa, gI_pu, gL_pu, gI_op, gL_op]
    refine w_iload_n X dX12_colon_69 rfl rfl ?_
    refine w_v3fV X dX12_colon_70 k12_wait rfl rfl (c12_wait G hG _ _ r.length (by simp [sI_]) (by omega) _ _ _) (Nat.le_of_ble_eq_true rfl) ?_
    refine w_aload_n X dX12_colon_73 rfl rfl ?_
    refine w_bipush (v := 6) X dX12_colon_74 (by decide) ?_
    refine w_lconst (v := 0) X dX12_colon_76 (by decide) ?_
    refine w_v2fV X dX12_colon_77 k12_put rfl rfl (c12_put G hG _ _ (cs_ ((7, c, a, b, x) :: r) ++ tc_ t).length (by simp [wa_, sI_, h12]) (by omega) _ _) (Nat.le_of_ble_eq_true rfl) ?_
    refine w_aload_n X dX12_colon_80 rfl rfl ?_
    refine g12_values X dX12_colon_81 ?_
    refine w_bipush (v := 32) X dX12_colon_84 (by decide) ?_
    refine w_s1fI X dX12_colon_86 k12_rowOf (c12_rowOf G hG _ _ _) (Nat.le_of_ble_eq_true rfl) ?_
    refine w_iload_n X dX12_colon_89 rfl rfl ?_
    refine w_iadd X dX12_colon_90 ?_
    rw [nI_2048]
    refine w_aload_n X dX12_colon_91 rfl rfl ?_
    refine g12_length X dX12_colon_92 ?_
    try simp only [gI_sI, gI_sL, gL_sI, gL_sL, false_and, and_false, and_self, if_false, if_true, reduceIte, Nat.reduceEqDiff, h5, h20, hk9, hk8, h12, h22, gI_wa, gL_wa, gI_pu, gL_pu, gI_op, gL_op]
    refine w_iload_n X dX12_colon_95 rfl rfl ?_
    refine w_isub X dX12_colon_96 ?_
    refine w_iconst (v := 1) X dX12_colon_97 (by decide) ?_
    refine w_isub X dX12_colon_98 ?_
    rw [nI_d _ _ hql]
    refine w_i2l X dX12_colon_99 ?_
    refine w_lastoreN X dX12_colon_100 rfl rfl (by omega) ?_
    refine w_aload_n X dX12_colon_101 rfl rfl ?_
    refine w_dup X dX12_colon_102 rfl ?_
    refine g12_at X dX12_colon_103 ?_
    try simp only [gI_sI, gI_sL, gL_sI, gL_sL, false_and, and_false, and_self, if_false, if_true, reduceIte, Nat.reduceEqDiff, h5, h20, hk9, hk8, h12, h22, gI_wa, gL_wa, gI_pu, gL_pu, gI_op, gL_op]
    refine w_iconst (v := 1) X dX12_colon_106 (by decide) ?_
    refine w_iadd X dX12_colon_107 ?_
    rw [nI_1]
    refine p12_at X dX12_colon_108 ?_
    refine w_vrR X dX12_colon_111 ?_
    rw [hbt]
    exact lq N1 c a b t x r h1
  · have hbt : cl_ k W e nd op = .inr (1, k) := by
      unfold cl_
      cases hV : (rt_ 1 W e).1 with
      | nil => rfl
      | cons f r =>
        simp only
        rw [if_neg (fun q => h10 (by rw [hV]; exact congrArg nI q))]
    refine w_aload_n X dX12_colon_13 rfl rfl ?_
    refine w_iconst (v := 1) X dX12_colon_14 (by decide) ?_
    refine w_aload_n X dX12_colon_15 rfl rfl ?_
    refine g12_at X dX12_colon_16 ?_
    try simp only [gI_sI, gI_sL, gL_sI, gL_sL, false_and, and_false, and_self, if_false, if_true, reduceIte, Nat.reduceEqDiff, h5]
    refine w_v2fV X dX12_colon_19 k12_fail rfl rfl (c12_fail G hG _ _ _ _) (Nat.le_of_ble_eq_true rfl) ?_
    refine w_vrR X dX12_colon_22 ?_
    rw [hbt]
    exact px_fa h1.2.1 hf3

end
section
theorem nt_le : ∀ e : Term, nt_ e ≤ (tc_ e).length
  | .int _ => by simp [tc_, nt_]
  | .index _ => by simp [tc_, nt_]
  | .length e => by have := nt_le e; simp [tc_, nt_]; omega
  | .sum e => by have := nt_le e; simp [tc_, nt_]; omega
  | .elem _ x => by have := nt_le x; simp [tc_, nt_]; omega
  | .mul a (.div b c) => by have := nt_le a; have := nt_le b; have := nt_le c; simp [tc_, nt_]; omega
  | .rem a b => by have := nt_le a; have := nt_le b; simp [tc_, nt_]; omega
  | .sub _ x => by have := nt_le x; simp [tc_, nt_]; omega
  | .add a r => by have := nt_le a; have := nt_le r; simp [tc_, nt_]; omega
  | .arg _ | .long _ | .null | .field _ _ _ _ | .static _ _ _ | .string _ _ | .mirror _ | .div _ _ | .op2 _ _ _ | .op1 _ _ | .result | .thrown | .old _ => by simp [nt_]
  | .mul _ (.arg _) | .mul _ (.int _) | .mul _ (.long _) | .mul _ .null | .mul _ (.index _) | .mul _ (.field _ _ _ _) | .mul _ (.static _ _ _) | .mul _ (.string _ _) | .mul _ (.mirror _) | .mul _ (.length _) | .mul _ (.elem _ _) | .mul _ (.add _ _) | .mul _ (.sub _ _) | .mul _ (.mul _ _) | .mul _ (.rem _ _) | .mul _ (.op2 _ _ _) | .mul _ (.op1 _ _) | .mul _ (.sum _) | .mul _ .result | .mul _ .thrown | .mul _ (.old _) => by simp [nt_]
/-- a closed bracket; of an invocation: its name and its arguments -/
def cz_ (k : Nat) (W : List fr_) (e : Term) (nd op : Nat) : ss_ ⊕ (Int32 × Nat) := match (rt_ 1 W e).1 with
  | [] => .inr (1, k)
  | f :: r => if f.1 = 0 then .inl (k + 1, r, some (rt_ 1 W e).2, nd, op - 1) else if f.1 = 8 then .inl (k + 1, r, some (.sub (.long f.2.2.2.2) (sa_ f.2.2.1 (rt_ 1 W e).2)), nd, op - 1) else .inr (1, k)
/-- the invocation's cells behind its closing -/
def iv_ (N : mm_) (w k op p ln oc : Nat) (m : Nat) (x : Int64) : mm_ := sI_ (pu_ (op_ (sI_ (sI_ (sI_ N 0 20 (nI w)) 0 23 (nI (op - 1))) 0 22 (nI oc)) oc (nI p)) ln 9 ((x <<< ((2 : Int32).toInt64 &&& 63)) ||| (nI m).toInt64)) 0 5 (nI (k + 1))
theorem px_iv {M N : mm_} {n k nd op : Nat} {c : Int32} {a b y : Term} {x : Int64} {r : List fr_} {u : Option Term} (hN : ps2_ M n k ((8, c, a, b, x) :: r) u nd op N) (hf : M.1 0 3 = 0) (hk : k < 268435456) (hc : cs_ r ++ tc_ y = cs_ ((8, c, a, b, x) :: r) ++ cu_ u) (hny : nt_ y = nt_ a + cn_ u) : px_ M n (.inl (k + 1, r, some (.sub (.long x) y), nd, op - 1)) (iv_ N r.length k op (cs_ r).length (cs_ r ++ tc_ y).length (os_ r).length (ac_ y) x) := by
  have hf3 : N.1 0 3 = 0 := hN.2.2.1.trans hf
  have hl := (pr_len hN.1).1
  obtain ⟨⟨h0, h5, hcd, h20, ⟨hw, -, hk7, hk8, hk9, hk10⟩, ho, h13, h23, hn1, hn2, hop, hop2, hcq⟩, hpf, -, -⟩ := hN
  rw [← hc] at hcd hl
  have hop1 : no_ r + 1 = op := by simpa [no_] using hop
  unfold iv_
  refine ⟨pf_sI (pf_pu (pf_op (pf_sI (pf_sI (pf_sI hpf (by first | omega | exact at5_ (by omega))) (by first | omega | exact at5_ (by omega))) (by first | omega | exact at5_ (by omega))))) (by first | omega | exact at5_ (by omega)), ⟨tz_sI (tz_pu (tz_op (tz_sI (tz_sI (tz_sI h0 (by first | omega | exact at5_ (by omega))) (by first | omega | exact at5_ (by omega))) (by first | omega | exact at5_ (by omega))))) (by first | omega | exact at5_ (by omega)), by simp [sI_], ?_, by simp [pu_, op_, sI_, sL_], ?_, ?_, by simp [pu_, op_, sI_, sL_, h13], by simp [pu_, op_, sI_, sL_], ?_, hn2, by omega, by omega, ?_⟩, by simp [pu_, op_, sI_, sL_, hf3]⟩
  · have e1 : cs_ r ++ cu_ (some (.sub (.long x) y)) = (cs_ r ++ tc_ y) ++ [(9, (x <<< ((2 : Int32).toInt64 &&& 63)) ||| (nI (ac_ y)).toInt64)] := by simp [cu_, tc_, kv_]
    rw [e1]
    exact cd_sI (cd_pu (cd_op (cd_sI (cd_sI (cd_sI hcd (by omega) (by omega)) (by omega) (by omega)) (by omega) (by omega)))) (by omega) (by omega)
  · exact wr_sI (wr_pu (wr_op (wr_sI (wr_sI (wr_sI hw (Or.inl (by omega))) (Or.inl (by omega))) (Or.inl (by omega))))) (Or.inl (by omega))
  · have e2 : os_ r ++ co_ (cs_ r).length (some (.sub (.long x) y)) = os_ r ++ [(cs_ r).length] := rfl
    rw [e2]
    refine od_sI (od_pu (od_op ⟨by simp [sI_], fun i z hi => ?_⟩)) (by omega) (by omega)
    rw [sI_ne _ _ _ _ (by omega), sI_ne _ _ _ _ (by omega), sI_ne _ _ _ _ (by omega)]
    exact ho.2 i z (by rw [os_, List.append_assoc, List.getElem?_append_left (List.getElem?_eq_some_iff.mp hi).1]; exact hi)
  · simp only [nw_, cn_] at hn1 ⊢
    simp [nf_, nt_, hny, cn_] at hn1 ⊢
    omega
  · show 1 ≤ nt_ (.sub (.long x) y)
    simp [nt_]
set_option maxRecDepth 100000 in
set_option maxHeartbeats 4000000 in
theorem c12_close (G : gg_) (hG : gd_ G) (d : Nat) (M : mm_) (n k nd op : Nat) (W : List fr_) (e : Term) (h : pr_ M n k W (some e) nd op) (hf : M.1 0 3 = 0) (hk : k < 268435456) : cm_ G yX12_close cX12_close 3 none (d + 5) [.ref (G.1 0)] M (rV_ (px_ M n (cz_ k W e nd op))) := by
  refine cm_of hG (by decide) (Nat.le_of_ble_eq_true rfl) (fun C X => ?_)
  have lp : ∀ (N : mm_) (c : Int32) (a b t : Term) (x : Int64) (r : List fr_), ps2_ M n k ((0, c, a, b, x) :: r) (some t) nd op N → px_ M n (.inl (k + 1, r, some t, nd, op - 1)) (sI_ (sI_ (sI_ N 0 20 (nI r.length)) 0 23 (nI (op - 1))) 0 5 (nI (k + 1))) := by
    intro N c a b t x r hN
    have hf3 : N.1 0 3 = 0 := hN.2.2.1.trans hf
    obtain ⟨⟨h0, h5, hc, h20, ⟨hw, -, hk7, hk8, hk9, -⟩, ho, h13, h23, hn1, hn2, hop, hop2, hcq⟩, hpf, -, -⟩ := hN
    have hop1 : no_ r + 1 = op := by simpa [no_] using hop
    have e1 : cs_ ((0, c, a, b, x) :: r) = cs_ r := by simp [cs_, fc_]
    have e2 : os_ ((0, c, a, b, x) :: r) = os_ r := by simp [os_, ff_]
    rw [e1] at hc ho
    rw [e2] at ho
    refine ⟨pf_sI (pf_sI (pf_sI hpf (by first | omega | exact at5_ (by omega))) (by first | omega | exact at5_ (by omega))) (by first | omega | exact at5_ (by omega)), ⟨tz_sI (tz_sI (tz_sI h0 (by first | omega | exact at5_ (by omega))) (by first | omega | exact at5_ (by omega))) (by first | omega | exact at5_ (by omega)), by simp [sI_], cd_sI (cd_sI (cd_sI hc (by first | omega | exact at5_ (by omega)) (by first | omega | exact at5_ (by omega))) (by first | omega | exact at5_ (by omega)) (by first | omega | exact at5_ (by omega))) (by first | omega | exact at5_ (by omega)) (by first | omega | exact at5_ (by omega)), by simp [sI_], wr_sI (wr_sI (wr_sI hw (Or.inl (by first | omega | exact at5_ (by omega)))) (Or.inl (by first | omega | exact at5_ (by omega)))) (Or.inl (by first | omega | exact at5_ (by omega))), od_sI (od_sI (od_sI ho (by first | omega | exact at5_ (by omega)) (by first | omega | exact at5_ (by omega))) (by first | omega | exact at5_ (by omega)) (by first | omega | exact at5_ (by omega))) (by first | omega | exact at5_ (by omega)) (by first | omega | exact at5_ (by omega)), by simp [sI_, h13], by simp [sI_], ?_, hn2, by omega, by omega, hcq⟩, by simp [sI_, hf3]⟩
    simp only [nw_] at hn1 ⊢
    simp [nf_] at hn1
    omega
  refine w_aload_n X dX12_close_0 rfl rfl ?_
  refine w_v0rV X dX12_close_1 k12_reduceAll rfl rfl (c12_reduceAll G hG _ M n k nd op W e h) (Nat.le_of_ble_eq_true rfl) (fun N1 h1 => ?_)
  have hle := pr_len h1.1
  have h20 := h1.1.2.2.2.1
  have h5 := h1.1.2.1
  have hf3 : N1.1 0 3 = 0 := h1.2.2.1.trans hf
  refine w_aload_n X dX12_close_4 rfl rfl ?_
  refine w_v0fI X dX12_close_5 k12_last rfl rfl (c12_last G hG _ _ _ h20 (by omega)) (Nat.le_of_ble_eq_true rfl) ?_
  rw [la_pr h1.1]
  refine w_if_ne (tgt := 44) X dX12_close_8 (by decide) (fun h8 => ?_) (fun h8 => ?_)
  · refine w_aload_n X dX12_close_44 rfl rfl ?_
    refine w_v0fI X dX12_close_45 k12_last rfl rfl (c12_last G hG _ _ _ h20 (by omega)) (Nat.le_of_ble_eq_true rfl) ?_
    rw [la_pr h1.1]
    refine w_bipush (v := 8) X dX12_close_48 (by decide) ?_
    refine w_icmp_ne (tgt := 155) X dX12_close_50 (by decide) (fun h50 => ?_) (fun h50 => ?_)
    · have hbt : cz_ k W e nd op = .inr (1, k) := by
        unfold cz_
        cases hV : (rt_ 1 W e).1 with
        | nil => rfl
        | cons f r =>
          simp only
          rw [if_neg (fun q => h8 (by rw [hV]; exact congrArg nI q)), if_neg (fun q => h50 (by rw [hV]; exact congrArg nI q))]
      refine w_aload_n X dX12_close_155 rfl rfl ?_
      refine w_iconst (v := 1) X dX12_close_156 (by decide) ?_
      refine w_aload_n X dX12_close_157 rfl rfl ?_
      refine g12_at X dX12_close_158 ?_
      try simp only [gI_sI, gI_sL, gL_sI, gL_sL, false_and, and_false, and_self, if_false, if_true, reduceIte, Nat.reduceEqDiff, h5]
      refine w_v2fV X dX12_close_161 k12_fail rfl rfl (c12_fail G hG _ _ _ _) (Nat.le_of_ble_eq_true rfl) ?_
      refine w_vrR X dX12_close_164 ?_
      rw [hbt]
      exact px_fa h1.2.1 hf3
    · have hq : ∃ f r, (rt_ 1 W e).1 = f :: r ∧ f.1 = 8 := (tp_3 (k := 8) (by omega) (wr_8 h1.1.2.2.2.2.1)).mp h50
      obtain ⟨⟨kd, c, a, b, x⟩, r, hV, hkd⟩ := hq
      have hkd : kd = 8 := hkd
      subst hkd
      have hbt : cz_ k W e nd op = .inl (k + 1, r, some (.sub (.long x) (sa_ a (rt_ 1 W e).2)), nd, op - 1) := by unfold cz_; rw [hV]; rfl
      have hos := pr_os h1.1
      generalize (rt_ 1 W e).2 = t at h1 hbt hle
      rw [hV] at h1 hos
      have ha1 : ao_ a := (h1.1.2.2.2.2.1.2.1.2 rfl).1
      have ht1 : 1 ≤ nt_ t := h1.1.2.2.2.2.2.2.2.2.2.2.2.2
      have ht2 := nt_le t
      have e1 : cs_ r ++ tc_ (sa_ a t) = cs_ ((8, c, a, b, x) :: r) ++ cu_ (some t) := by simp [cs_, fc_, cu_, tc_sa a t ha1]
      have h20 : N1.1 0 20 = nI (r.length + 1) := by have := h1.1.2.2.2.1; simpa using this
      have h23 := h1.1.2.2.2.2.2.2.2.1
      have hop1 : no_ r + 1 = op := by have := h1.1.2.2.2.2.2.2.2.2.2.2.1; simpa [no_] using this
      have hop2 := h1.1.2.2.2.2.2.2.2.2.2.2.2.1
      have hk8 : N1.1 8 r.length = nI (cs_ r).length := h1.1.2.2.2.2.1.2.2.2.1
      have hk9 : N1.1 9 r.length = nI (ac_ a) := h1.1.2.2.2.2.1.2.2.2.2.1
      have hk10 : N1.2.1 10 r.length = x := h1.1.2.2.2.2.1.2.2.2.2.2 rfl
      have h12 : N1.1 0 12 = nI (cs_ r ++ tc_ (sa_ a t)).length := by rw [e1]; exact h1.1.2.2.1.1
      have h22 : N1.1 0 22 = nI ((os_ r).length + (ac_ a + 1)) := by
        have := h1.1.2.2.2.2.2.1.1
        rw [this]
        simp [os_, ff_, co_, oa_len]
      rw [hV, ← e1] at hle
      simp only [List.length_cons] at hle
      simp [os_, ff_, oa_len] at hos
      have hne : (cs_ r).length < (cs_ r ++ tc_ (sa_ a t)).length := by rw [tc_sa a t ha1]; simp; omega
      refine w_aload_n X dX12_close_53 rfl rfl ?_
      refine w_dup X dX12_close_54 rfl ?_
      refine g12_waiting X dX12_close_55 ?_
      try simp only [gI_sI, gI_sL, gL_sI, gL_sL, false_and, and_false, and_self, if_false, if_true, reduceIte, Nat.reduceEqDiff, h5, h20, h23, hk8, hk9, hk10, h12, h22, gI_wa, gL_wa, gI_pu, gL_pu, gI_op, gL_op]
      refine w_iconst (v := 1) X dX12_close_58 (by decide) ?_
      refine w_isub X dX12_close_59 ?_
      rw [nI_s1]
      refine p12_waiting X dX12_close_60 ?_
      refine w_aload_n X dX12_close_63 rfl rfl ?_
      refine w_dup X dX12_close_64 rfl ?_
      refine g12_opened X dX12_close_65 ?_
      try simp only [gI_sI, gI_sL, gL_sI, gL_sL, false_and, and_false, and_self, if_false, if_true, reduceIte, Nat.reduceEqDiff, h5, h20, h23, hk8, hk9, hk10, h12, h22, gI_wa, gL_wa, gI_pu, gL_pu, gI_op, gL_op]
      refine w_iconst (v := 1) X dX12_close_68 (by decide) ?_
      refine w_isub X dX12_close_69 ?_
      rw [nI_p op (by omega)]
      refine p12_opened X dX12_close_70 ?_
      refine w_aload_n X dX12_close_73 rfl rfl ?_
      refine g12_waitPlaces X dX12_close_74 ?_
      refine w_aload_n X dX12_close_77 rfl rfl ?_
      refine g12_waiting X dX12_close_78 ?_
      try simp only [gI_sI, gI_sL, gL_sI, gL_sL, false_and, and_false, and_self, if_false, if_true, reduceIte, Nat.reduceEqDiff, h5, h20, h23, hk8, hk9, hk10, h12, h22, gI_wa, gL_wa, gI_pu, gL_pu, gI_op, gL_op]
      refine w_ialoadN X dX12_close_81 rfl rfl (by omega) ?_
      try simp only [gI_sI, gI_sL, gL_sI, gL_sL, false_and, and_false, and_self, if_false, if_true, reduceIte, Nat.reduceEqDiff, h5, h20, h23, hk8, hk9, hk10, h12, h22, gI_wa, gL_wa, gI_pu, gL_pu, gI_op, gL_op]
      refine w_istore_n X dX12_close_82 rfl (by decide) ?_
      refine w_aload_n X dX12_close_83 rfl rfl ?_
      refine g12_length X dX12_close_84 ?_
      try simp only [gI_sI, gI_sL, gL_sI, gL_sL, false_and, and_false, and_self, if_false, if_true, reduceIte, Nat.reduceEqDiff, h5, h20, h23, hk8, hk9, hk10, h12, h22, gI_wa, gL_wa, gI_pu, gL_pu, gI_op, gL_op]
      refine w_iload_n X dX12_close_87 rfl rfl ?_
      refine w_icmp_ne (tgt := 95) X dX12_close_88 (by decide) (fun h88 => ?_) (fun h88 => absurd h88 (fun q => by have := (nI_eq (by omega) (by omega)).mp q; omega))
      refine w_aload_n X dX12_close_95 rfl rfl ?_
      refine g12_waitValues X dX12_close_96 ?_
      refine w_aload_n X dX12_close_99 rfl rfl ?_
      refine g12_waiting X dX12_close_100 ?_
      try simp only [gI_sI, gI_sL, gL_sI, gL_sL, false_and, and_false, and_self, if_false, if_true, reduceIte, Nat.reduceEqDiff, h5, h20, h23, hk8, hk9, hk10, h12, h22, gI_wa, gL_wa, gI_pu, gL_pu, gI_op, gL_op]
      refine w_ialoadN X dX12_close_103 rfl rfl (by omega) ?_
      try simp only [gI_sI, gI_sL, gL_sI, gL_sL, false_and, and_false, and_self, if_false, if_true, reduceIte, Nat.reduceEqDiff, h5, h20, h23, hk8, hk9, hk10, h12, h22, gI_wa, gL_wa, gI_pu, gL_pu, gI_op, gL_op]
      refine w_iconst (v := 1) X dX12_close_104 (by decide) ?_
      refine w_iadd X dX12_close_105 ?_
      rw [nI_1]
      refine w_istore_n X dX12_close_106 rfl (by decide) ?_
      refine w_aload_n X dX12_close_107 rfl rfl ?_
      refine w_aload_n X dX12_close_108 rfl rfl ?_
      refine g12_operandCount X dX12_close_109 ?_
      try simp only [gI_sI, gI_sL, gL_sI, gL_sL, false_and, and_false, and_self, if_false, if_true, reduceIte, Nat.reduceEqDiff, h5, h20, h23, hk8, hk9, hk10, h12, h22, gI_wa, gL_wa, gI_pu, gL_pu, gI_op, gL_op]
      refine w_iload_n X dX12_close_112 rfl rfl ?_
      refine w_isub X dX12_close_113 ?_
      rw [pk_sub (by omega), show (os_ r).length + (ac_ a + 1) - (ac_ a + 1) = (os_ r).length by omega]
      refine p12_operandCount X dX12_close_114 ?_
      refine w_aload_n X dX12_close_117 rfl rfl ?_
      refine w_iload_n X dX12_close_118 rfl rfl ?_
      refine w_v1fV X dX12_close_119 k12_operand rfl rfl (c12_operand G hG _ _ (os_ r).length (by simp [sI_]) (by omega) _) (Nat.le_of_ble_eq_true rfl) ?_
      refine w_aload_n X dX12_close_122 rfl rfl ?_
      refine w_bipush (v := 9) X dX12_close_123 (by decide) ?_
      refine w_aload_n X dX12_close_125 rfl rfl ?_
      refine g12_waitNames X dX12_close_126 ?_
      refine w_aload_n X dX12_close_129 rfl rfl ?_
      refine g12_waiting X dX12_close_130 ?_
      try simp only [gI_sI, gI_sL, gL_sI, gL_sL, false_and, and_false, and_self, if_false, if_true, reduceIte, Nat.reduceEqDiff, h5, h20, h23, hk8, hk9, hk10, h12, h22, gI_wa, gL_wa, gI_pu, gL_pu, gI_op, gL_op]
      refine w_laloadN X dX12_close_133 rfl rfl (by omega) ?_
      try simp only [gI_sI, gI_sL, gL_sI, gL_sL, false_and, and_false, and_self, if_false, if_true, reduceIte, Nat.reduceEqDiff, h5, h20, h23, hk8, hk9, hk10, h12, h22, gI_wa, gL_wa, gI_pu, gL_pu, gI_op, gL_op]
      refine w_iconst (v := 2) X dX12_close_134 (by decide) ?_
      refine w_lshl X dX12_close_135 ?_
      refine w_iload_n X dX12_close_136 rfl rfl ?_
      refine w_i2l X dX12_close_137 ?_
      refine w_lor X dX12_close_138 ?_
      refine w_v2fV X dX12_close_139 k12_put rfl rfl (c12_put G hG _ _ (cs_ r ++ tc_ (sa_ a t)).length (by simp [op_, sI_, h12]) (by omega) _ _) (Nat.le_of_ble_eq_true rfl) ?_
      refine w_aload_n X dX12_close_142 rfl rfl ?_
      refine w_dup X dX12_close_143 rfl ?_
      refine g12_at X dX12_close_144 ?_
      try simp only [gI_sI, gI_sL, gL_sI, gL_sL, false_and, and_false, and_self, if_false, if_true, reduceIte, Nat.reduceEqDiff, h5, h20, h23, hk8, hk9, hk10, h12, h22, gI_wa, gL_wa, gI_pu, gL_pu, gI_op, gL_op]
      refine w_iconst (v := 1) X dX12_close_147 (by decide) ?_
      refine w_iadd X dX12_close_148 ?_
      rw [nI_1]
      refine p12_at X dX12_close_149 ?_
      refine w_goto (tgt := 164) X dX12_close_152 (by decide) ?_
      refine w_vrR X dX12_close_164 ?_
      rw [hbt]
      have hh := px_iv h1 hf hk e1 (by rw [nt_sa a t ha1]; rfl)
      rw [ac_sa a t ha1] at hh
      exact hh
  · have hq : ∃ f r, (rt_ 1 W e).1 = f :: r ∧ f.1 = 0 := (tp_3 (k := 0) (by omega) (wr_8 h1.1.2.2.2.2.1)).mp h8
    obtain ⟨⟨kd, c, a, b, x⟩, r, hV, hkd⟩ := hq
    have hkd : kd = 0 := hkd
    subst hkd
    have hbt : cz_ k W e nd op = .inl (k + 1, r, some (rt_ 1 W e).2, nd, op - 1) := by unfold cz_; rw [hV]; rfl
    generalize (rt_ 1 W e).2 = t at h1 hbt hle
    rw [hV] at h1
    have h20 : N1.1 0 20 = nI (r.length + 1) := by have := h1.1.2.2.2.1; simpa using this
    have h23 := h1.1.2.2.2.2.2.2.2.1
    have hop1 : no_ r + 1 = op := by have := h1.1.2.2.2.2.2.2.2.2.2.2.1; simpa [no_] using this
    have hop2 := h1.1.2.2.2.2.2.2.2.2.2.2.2.1
    refine w_aload_n X dX12_close_11 rfl rfl ?_
    refine w_dup X dX12_close_12 rfl ?_
    refine g12_waiting X dX12_close_13 ?_
    try simp only [gI_sI, gI_sL, gL_sI, gL_sL, false_and, and_false, and_self, if_false, if_true, reduceIte, Nat.reduceEqDiff, h5, h20, h23]
    refine w_iconst (v := 1) X dX12_close_16 (by decide) ?_
    refine w_isub X dX12_close_17 ?_
    rw [nI_s1]
    refine p12_waiting X dX12_close_18 ?_
    refine w_aload_n X dX12_close_21 rfl rfl ?_
    refine w_dup X dX12_close_22 rfl ?_
    refine g12_opened X dX12_close_23 ?_
    try simp only [gI_sI, gI_sL, gL_sI, gL_sL, false_and, and_false, and_self, if_false, if_true, reduceIte, Nat.reduceEqDiff, h5, h20, h23]
    refine w_iconst (v := 1) X dX12_close_26 (by decide) ?_
    refine w_isub X dX12_close_27 ?_
    rw [nI_p op (by omega)]
    refine p12_opened X dX12_close_28 ?_
    refine w_aload_n X dX12_close_31 rfl rfl ?_
    refine w_dup X dX12_close_32 rfl ?_
    refine g12_at X dX12_close_33 ?_
    try simp only [gI_sI, gI_sL, gL_sI, gL_sL, false_and, and_false, and_self, if_false, if_true, reduceIte, Nat.reduceEqDiff, h5, h20, h23]
    refine w_iconst (v := 1) X dX12_close_36 (by decide) ?_
    refine w_iadd X dX12_close_37 ?_
    rw [nI_1]
    refine p12_at X dX12_close_38 ?_
    refine w_goto (tgt := 164) X dX12_close_41 (by decide) ?_
    refine w_vrR X dX12_close_164 ?_
    rw [hbt]
    exact lp N1 c a b t x r h1

end
