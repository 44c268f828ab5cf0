theorem tp_7 {f : fr_} {r : List fr_} {k : Nat} (h : f.1 ≤ 8) (hk : k ≤ 8) : tp_ (f :: r) = nI k ↔ f.1 = k := nI_eq (by omega) (by omega)
set_option maxRecDepth 100000 in
set_option maxHeartbeats 4000000 in
theorem c12_comma (G : gg_) (hG : gd_ G) (d : Nat) (M : mm_) (n k nd op : Nat) (W : List fr_) (e : Term) (h : pr_ M n k W (some e) nd op) (hf : M.1 0 3 = 0) (hk : k < 268435456) : cm_ G yX12_comma cX12_comma 1 none (d + 5) [.ref (G.1 0)] M (rV_ (px_ M n (cm2_ k W e nd op))) := by
  refine cm_of hG (by decide) (Nat.le_of_ble_eq_true rfl) (fun C X => ?_)
  have lq : ∀ (N : mm_) (c : Int32) (a b t : Term) (x : Int64) (r : List fr_), ps2_ M n k ((8, c, a, b, x) :: r) (some t) nd op N → px_ M n (.inl (k + 1, (8, c, sa_ a t, b, x) :: r, none, nd, op)) (sI_ (sI_ N 9 r.length (nI (ac_ a + 1))) 0 5 (nI (k + 1))) := by
    intro N c a b t x r hN
    have hf3 : N.1 0 3 = 0 := hN.2.2.1.trans hf
    obtain ⟨⟨h0, h5, hc, h20, ⟨hw, ⟨-, ha⟩, hk7, hk8, hk9, hk10⟩, ho, h13, h23, hn1, hn2, hop, hop2, hcq⟩, hpf, -, -⟩ := hN
    obtain ⟨ha1, ha2⟩ := ha rfl
    simp only at ha1 ha2
    have ht1 : 1 ≤ nt_ t := hcq
    have e1 : cs_ ((8, c, sa_ a t, b, x) :: r) ++ cu_ none = cs_ ((8, c, a, b, x) :: r) ++ cu_ (some t) := by simp [cs_, fc_, cu_, tc_sa a t ha1]
    have e2 : os_ ((8, c, sa_ a t, b, x) :: r) ++ co_ (cs_ ((8, c, sa_ a t, b, x) :: r)).length none = os_ ((8, c, a, b, x) :: r) ++ co_ (cs_ ((8, c, a, b, x) :: r)).length (some t) := by simp [os_, ff_, co_, oa_sa a t _ ha1, cs_, fc_]
    refine ⟨pf_sI (pf_sI hpf (by first | omega | exact at5_ (by omega))) (by first | omega | exact at5_ (by omega)), ⟨tz_sI (tz_sI h0 (by first | omega | exact at5_ (by omega))) (by first | omega | exact at5_ (by omega)), by simp [sI_], ?_, by simpa [sI_] using h20, ?_, ?_, by simp [sI_, h13], by simp [sI_, h23], ?_, hn2, by simpa [no_] using hop, hop2, trivial⟩, by simp [sI_, hf3]⟩
    · rw [e1]
      exact cd_sI (cd_sI hc (by omega) (by omega)) (by omega) (by omega)
    · refine ⟨wr_sI (wr_sI hw (Or.inr (Nat.le_refl _))) (Or.inl (by omega)), ⟨by simp, fun _ => ⟨ao_sa a t ha1, ?_⟩⟩, by simpa [sI_] using hk7, by simpa [sI_, fp_] using hk8, by simp [sI_, fu_, ac_sa a t ha1], fun _ => hk10 rfl⟩
      rw [ac_sa a t ha1, nt_sa a t ha1]
      omega
    · rw [e2]
      exact od_sI (od_sI ho (by omega) (by omega)) (by omega) (by omega)
    · simp only [nw_, cn_] at hn1 ⊢
      simp [nf_, nt_sa a t ha1] at hn1 ⊢
      omega
  refine w_aload_n X dX12_comma_0 rfl rfl ?_
  refine w_v0rV X dX12_comma_1 k12_reduceAll rfl rfl (c12_reduceAll G hG _ M n k nd op W e h) (Nat.le_of_ble_eq_true rfl) (fun N1 h1 => ?_)
  have hle := pr_len h1.1
  have h20 := h1.1.2.2.2.1
  have h5 := h1.1.2.1
  have hf3 : N1.1 0 3 = 0 := h1.2.2.1.trans hf
  refine w_aload_n X dX12_comma_4 rfl rfl ?_
  refine w_v0fI X dX12_comma_5 k12_last rfl rfl (c12_last G hG _ _ _ h20 (by omega)) (Nat.le_of_ble_eq_true rfl) ?_
  rw [la_pr h1.1]
  refine w_bipush (v := 8) X dX12_comma_8 (by decide) ?_
  refine w_icmp_eq (tgt := 23) X dX12_comma_10 (by decide) (fun h10 => ?_) (fun h10 => ?_)
  · have hq : ∃ f r, (rt_ 1 W e).1 = f :: r ∧ f.1 = 8 := (tp_3 (k := 8) (by omega) (wr_8 h1.1.2.2.2.2.1)).mp h10
    obtain ⟨⟨kd, c, a, b, x⟩, r, hV, hkd⟩ := hq
    have hkd : kd = 8 := hkd
    subst hkd
    rw [hV] at h1
    have h20 : N1.1 0 20 = nI (r.length + 1) := by have := h1.1.2.2.2.1; simpa using this
    have hk9 : N1.1 9 r.length = nI (ac_ a) := h1.1.2.2.2.2.1.2.2.2.2.1
    simp only [hV, List.length_cons] at hle
    refine w_aload_n X dX12_comma_23 rfl rfl ?_
    refine g12_waitValues X dX12_comma_24 ?_
    refine w_aload_n X dX12_comma_27 rfl rfl ?_
    refine g12_waiting X dX12_comma_28 ?_
    try simp only [gI_sI, gI_sL, gL_sI, gL_sL, false_and, and_false, and_self, if_false, if_true, reduceIte, Nat.reduceEqDiff, h5, h20, hk9]
    refine w_iconst (v := 1) X dX12_comma_31 (by decide) ?_
    refine w_isub X dX12_comma_32 ?_
    rw [nI_s1]
    refine w_dup2 X dX12_comma_33 rfl rfl ?_
    refine w_ialoadN X dX12_comma_34 rfl rfl (by omega) ?_
    try simp only [gI_sI, gI_sL, gL_sI, gL_sL, false_and, and_false, and_self, if_false, if_true, reduceIte, Nat.reduceEqDiff, h5, h20, hk9]
    refine w_iconst (v := 1) X dX12_comma_35 (by decide) ?_
    refine w_iadd X dX12_comma_36 ?_
    rw [nI_1]
    refine w_iastoreN X dX12_comma_37 rfl rfl (by omega) ?_
    refine w_aload_n X dX12_comma_38 rfl rfl ?_
    refine w_dup X dX12_comma_39 rfl ?_
    refine g12_at X dX12_comma_40 ?_
    try simp only [gI_sI, gI_sL, gL_sI, gL_sL, false_and, and_false, and_self, if_false, if_true, reduceIte, Nat.reduceEqDiff, h5, h20, hk9]
    refine w_iconst (v := 1) X dX12_comma_43 (by decide) ?_
    refine w_iadd X dX12_comma_44 ?_
    rw [nI_1]
    refine p12_at X dX12_comma_45 ?_
    refine w_vrR X dX12_comma_48 ?_
    have hbt : cm2_ k W e nd op = .inl (k + 1, (8, c, sa_ a (rt_ 1 W e).2, b, x) :: r, none, nd, op) := by unfold cm2_; rw [hV]; rfl
    rw [hbt]
    exact lq N1 c a b _ x r h1
  · have hbt : cm2_ k W e nd op = .inr (1, k) := by
      unfold cm2_
      cases hV : (rt_ 1 W e).1 with
      | nil => rfl
      | cons f r =>
        simp only
        rw [if_neg (fun q => h10 (by rw [hV]; exact congrArg nI q))]
    refine w_aload_n X dX12_comma_13 rfl rfl ?_
    refine w_iconst (v := 1) X dX12_comma_14 (by decide) ?_
    refine w_aload_n X dX12_comma_15 rfl rfl ?_
    refine g12_at X dX12_comma_16 ?_
    try simp only [gI_sI, gI_sL, gL_sI, gL_sL, false_and, and_false, and_self, if_false, if_true, reduceIte, Nat.reduceEqDiff, h5]
    refine w_v2fV X dX12_comma_19 k12_fail rfl rfl (c12_fail G hG _ _ _ _) (Nat.le_of_ble_eq_true rfl) ?_
    refine w_vrR X dX12_comma_22 ?_
    rw [hbt]
    exact px_fa h1.2.1 hf3
set_option maxRecDepth 100000 in
set_option maxHeartbeats 4000000 in
theorem c12_colon (G : gg_) (hG : gd_ G) (d : Nat) (M : mm_) (n k nd op : Nat) (W : List fr_) (e : Term) (h : pr_ M n k W (some e) nd op) (hf : M.1 0 3 = 0) (hk : k < 268435456) : cm_ G yX12_colon cX12_colon 3 none (d + 5) [.ref (G.1 0)] M (rV_ (px_ M n (cl_ k W e nd op))) := by
  refine cm_of hG (by decide) (Nat.le_of_ble_eq_true rfl) (fun C X => ?_)
  have lq : ∀ (N : mm_) (c : Int32) (a b t : Term) (x : Int64) (r : List fr_), ps2_ M n k ((7, c, a, b, x) :: r) (some t) nd op N → px_ M n (.inl (k + 1, (2, 0, a, t, 0) :: r, none, nd, op)) (sI_ (sL_ (pu_ (wa_ (sI_ (sI_ N 0 20 (nI r.length)) 0 22 (nI (os_ r).length)) r.length 2 (nI (cs_ ((7, c, a, b, x) :: r) ++ tc_ t).length) (nI (cs_ r).length)) (cs_ ((7, c, a, b, x) :: r) ++ tc_ t).length 6 0) 3 (2048 + (cs_ r ++ tc_ a).length) (nI ((cs_ ((7, c, a, b, x) :: r) ++ tc_ t).length + 1 - (cs_ r ++ tc_ a).length - 1)).toInt64) 0 5 (nI (k + 1))) := by
    intro N c a b t x r hN
    have hl := (pr_len hN.1).1
    have hf3 : N.1 0 3 = 0 := hN.2.2.1.trans hf
    obtain ⟨⟨h0, h5, hc, h20, ⟨hw, -, hk7, hk8, hk9, -⟩, ho, h13, h23, hn1, hn2, hop, hop2, hcq⟩, hpf, -, -⟩ := hN
    simp only [cu_] at hc hl
    have e0 : (cs_ ((7, c, a, b, x) :: r) ++ tc_ t) = (cs_ r ++ tc_ a) ++ (5, 0) :: tc_ t := by simp [cs_, fc_]
    refine ⟨pf_sI (pf_sL (pf_pu (pf_wa (pf_sI (pf_sI hpf (by first | omega | exact at5_ (by omega))) (by first | omega | exact at5_ (by omega))))) (by first | omega | exact at5_ (by omega))) (by first | omega | exact at5_ (by omega)), ⟨tz_sI (tz_sL (tz_pu (tz_wa (tz_sI (tz_sI h0 (by first | omega | exact at5_ (by omega))) (by first | omega | exact at5_ (by omega)))))) (by first | omega | exact at5_ (by omega)), by simp [sI_], ?_, by simp [pu_, wa_, sI_, sL_], ?_, ?_, by simp [pu_, wa_, sI_, sL_, h13], by simp [pu_, wa_, sI_, sL_, h23], ?_, hn2, by simpa [no_] using hop, hop2, trivial⟩, by simp [pu_, wa_, sI_, sL_, hf3]⟩
    · have e9 : (nI ((cs_ ((7, c, a, b, x) :: r) ++ tc_ t).length + 1 - (cs_ r ++ tc_ a).length - 1)).toInt64 = lN ((tc_ t).length + 1) := by
        rw [show (cs_ ((7, c, a, b, x) :: r) ++ tc_ t).length + 1 - (cs_ r ++ tc_ a).length - 1 = (tc_ t).length + 1 by rw [e0]; simp; omega]
        refine nI_l ?_
        rw [e0] at hl
        simp at hl
        omega
      rw [e9]
      have e1 : cs_ ((2, 0, a, t, 0) :: r) ++ cu_ none = (cs_ r ++ tc_ a) ++ (5, lN ((tc_ t).length + 1)) :: (tc_ t ++ [(6, 0)]) := by simp [cs_, fc_, cu_]
      rw [e1]
      have hp := cd_pu (t := 6) (v := 0) (cd_wa (w := r.length) (a := 2) (b := nI (cs_ ((7, c, a, b, x) :: r) ++ tc_ t).length) (c := nI (cs_ r).length) (cd_sI (a := 0) (i := 22) (v := nI (os_ r).length) (cd_sI (a := 0) (i := 20) (v := nI r.length) hc (by omega) (by omega)) (by omega) (by omega)))
      have e2 : (cs_ ((7, c, a, b, x) :: r) ++ tc_ t) ++ [(6, 0)] = (cs_ r ++ tc_ a) ++ (5, 0) :: (tc_ t ++ [(6, 0)]) := by rw [e0]; simp
      rw [e2] at hp
      exact cd_sI (cd_patch hp) (by omega) (by omega)
    · refine ⟨wr_sI (wr_sL (wr_pu (wr_wa (wr_sI (wr_sI hw (Or.inl (by omega))) (Or.inl (by omega))) (Nat.le_refl _))) (Or.inl (by omega))) (Or.inl (by omega)), ⟨by simp, fun q => by simp at q⟩, by simp [pu_, wa_, sI_, sL_]; rfl, ?_, by simp [pu_, wa_, sI_, sL_, fu_], fun q => by simp at q⟩
      rw [e0]
      simp [pu_, wa_, sI_, sL_, fp_]
      congr 1
      omega
    · have e2 : os_ ((2, 0, a, t, 0) :: r) ++ co_ (cs_ ((2, 0, a, t, 0) :: r)).length none = os_ r := by simp [os_, ff_, co_]
      have e3 : os_ ((7, c, a, b, x) :: r) ++ co_ (cs_ ((7, c, a, b, x) :: r)).length (some t) = os_ r ++ [(cs_ ((7, c, a, b, x) :: r)).length] := by simp [os_, ff_, co_]
      rw [e2]
      rw [e3] at ho
      exact od_sI (od_sL (od_pu (od_wa (od_cut (od_sI ho (by omega) (by omega)))))) (by omega) (by omega)
    · simp only [nw_, cn_] at hn1 ⊢
      simp [nf_] at hn1 ⊢
      omega
  refine w_aload_n X dX12_colon_0 rfl rfl ?_
  refine w_v0rV X dX12_colon_1 k12_reduceAll rfl rfl (c12_reduceAll G hG _ M n k nd op W e h) (Nat.le_of_ble_eq_true rfl) (fun N1 h1 => ?_)
  have hle := pr_len h1.1
  have h20 := h1.1.2.2.2.1
  have h5 := h1.1.2.1
  have hf3 : N1.1 0 3 = 0 := h1.2.2.1.trans hf
  refine w_aload_n X dX12_colon_4 rfl rfl ?_
  refine w_v0fI X dX12_colon_5 k12_last rfl rfl (c12_last G hG _ _ _ h20 (by omega)) (Nat.le_of_ble_eq_true rfl) ?_
  rw [la_pr h1.1]
  refine w_bipush (v := 7) X dX12_colon_8 (by decide) ?_
  refine w_icmp_eq (tgt := 23) X dX12_colon_10 (by decide) (fun h10 => ?_) (fun h10 => ?_)
  · have hq : ∃ f r, (rt_ 1 W e).1 = f :: r ∧ f.1 = 7 := (tp_3 (k := 7) (by omega) (wr_8 h1.1.2.2.2.2.1)).mp h10
    obtain ⟨⟨kd, c, a, b, x⟩, r, hV, hkd⟩ := hq
    have hkd : kd = 7 := hkd
    subst hkd
    have hbt : cl_ k W e nd op = .inl (k + 1, (2, 0, a, (rt_ 1 W e).2, 0) :: r, none, nd, op) := by unfold cl_; rw [hV]; rfl
    have hos := pr_os h1.1
    generalize (rt_ 1 W e).2 = t at h1 hbt hle
    rw [hV] at h1 hos
    have h20 : N1.1 0 20 = nI (r.length + 1) := by have := h1.1.2.2.2.1; simpa using this
    have hk9 : N1.1 9 r.length = nI (cs_ r).length := h1.1.2.2.2.2.1.2.2.2.2.1
    have hk8 : N1.1 8 r.length = nI (cs_ r ++ tc_ a).length := by rw [h1.1.2.2.2.2.1.2.2.2.1]; simp [fp_]
    have h12 : N1.1 0 12 = nI (cs_ ((7, c, a, b, x) :: r) ++ tc_ t).length := h1.1.2.2.1.1
    have h22 : N1.1 0 22 = nI ((os_ r).length + 1) := by have := h1.1.2.2.2.2.2.1.1; simpa [co_, os_, ff_] using this
    simp only [hV, List.length_cons, cu_] at hle
    have hql : (cs_ r ++ tc_ a).length < (cs_ ((7, c, a, b, x) :: r) ++ tc_ t).length + 1 := by simp [cs_, fc_]; omega
    simp [os_, ff_] at hos
    refine w_aload_n X dX12_colon_23 rfl rfl ?_
    refine w_dup X dX12_colon_24 rfl ?_
    refine g12_waiting X dX12_colon_25 ?_
    try simp only [gI_sI, gI_sL, gL_sI, gL_sL, false_and, and_false, and_self, if_false, if_true, reduceIte, Nat.reduceEqDiff, h5, h20, hk9, hk8, h12, h22, gI_wa, gL_wa, gI_pu, gL_pu, gI_op, gL_op]
    refine w_iconst (v := 1) X dX12_colon_28 (by decide) ?_
    refine w_isub X dX12_colon_29 ?_
    rw [nI_s1]
    refine p12_waiting X dX12_colon_30 ?_
    refine w_aload_n X dX12_colon_33 rfl rfl ?_
    refine g12_waitPlaces X dX12_colon_34 ?_
    refine w_aload_n X dX12_colon_37 rfl rfl ?_
    refine g12_waiting X dX12_colon_38 ?_
    try simp only [gI_sI, gI_sL, gL_sI, gL_sL, false_and, and_false, and_self, if_false, if_true, reduceIte, Nat.reduceEqDiff, h5, h20, hk9, hk8, h12, h22, gI_wa, gL_wa, gI_pu, gL_pu, gI_op, gL_op]
    refine w_ialoadN X dX12_colon_41 rfl rfl (by omega) ?_
    try simp only [gI_sI, gI_sL, gL_sI, gL_sL, false_and, and_false, and_self, if_false, if_true, reduceIte, Nat.reduceEqDiff, h5, h20, hk9, hk8, h12, h22, gI_wa, gL_wa, gI_pu, gL_pu, gI_op, gL_op]
    refine w_istore_n X dX12_colon_42 rfl (by decide) ?_
    refine w_aload_n X dX12_colon_43 rfl rfl ?_
    refine g12_waitValues X dX12_colon_44 ?_
    refine w_aload_n X dX12_colon_47 rfl rfl ?_
    refine g12_waiting X dX12_colon_48 ?_
    try simp only [gI_sI, gI_sL, gL_sI, gL_sL, false_and, and_false, and_self, if_false, if_true, reduceIte, Nat.reduceEqDiff, h5, h20, hk9, hk8, h12, h22, gI_wa, gL_wa, gI_pu, gL_pu, gI_op, gL_op]
    refine w_ialoadN X dX12_colon_51 rfl rfl (by omega) ?_
    try simp only [gI_sI, gI_sL, gL_sI, gL_sL, false_and, and_false, and_self, if_false, if_true, reduceIte, Nat.reduceEqDiff, h5, h20, hk9, hk8, h12, h22, gI_wa, gL_wa, gI_pu, gL_pu, gI_op, gL_op]
    refine w_istore_n X dX12_colon_52 rfl (by decide) ?_
    refine w_aload_n X dX12_colon_53 rfl rfl ?_
    refine w_dup X dX12_colon_54 rfl ?_
    refine g12_operandCount X dX12_colon_55 ?_
    try simp only [gI_sI, gI_sL, gL_sI, gL_sL, false_and, and_false, and_self, if_false, if_true, reduceIte, Nat.reduceEqDiff, h5, h20, hk9, hk8, h12, h22, gI_wa, gL_wa, gI_pu, gL_pu, gI_op, gL_op]
    refine w_iconst (v := 1) X dX12_colon_58 (by decide) ?_
    refine w_isub X dX12_colon_59 ?_
    rw [nI_s1]
    refine p12_operandCount X dX12_colon_60 ?_
    refine w_aload_n X dX12_colon_63 rfl rfl ?_
    refine w_iconst (v := 2) X dX12_colon_64 (by decide) ?_
    refine w_aload_n X dX12_colon_65 rfl rfl ?_
    refine g12_length X dX12_colon_66 ?_
    try simp only [gI_sI, gI_sL, gL_sI, gL_sL, false_and, and_false, and_self, if_false, if_true, reduceIte, Nat.reduceEqDiff, h5, h20, hk9, hk8, h12, h22, gI_wa, gL_wa, gI_pu, gL_pu, gI_op, gL_op]
    refine w_iload_n X dX12_colon_69 rfl rfl ?_
    refine w_v3fV X dX12_colon_70 k12_wait rfl rfl (c12_wait G hG _ _ r.length (by simp [sI_]) (by omega) _ _ _) (Nat.le_of_ble_eq_true rfl) ?_
    refine w_aload_n X dX12_colon_73 rfl rfl ?_
    refine w_bipush (v := 6) X dX12_colon_74 (by decide) ?_
    refine w_lconst (v := 0) X dX12_colon_76 (by decide) ?_
    refine w_v2fV X dX12_colon_77 k12_put rfl rfl (c12_put G hG _ _ (cs_ ((7, c, a, b, x) :: r) ++ tc_ t).length (by simp [wa_, sI_, h12]) (by omega) _ _) (Nat.le_of_ble_eq_true rfl) ?_
    refine w_aload_n X dX12_colon_80 rfl rfl ?_
    refine g12_values X dX12_colon_81 ?_
    refine w_bipush (v := 32) X dX12_colon_84 (by decide) ?_
    refine w_s1fI X dX12_colon_86 k12_rowOf (c12_rowOf G hG _ _ _) (Nat.le_of_ble_eq_true rfl) ?_
    refine w_iload_n X dX12_colon_89 rfl rfl ?_
    refine w_iadd X dX12_colon_90 ?_
    rw [nI_2048]
    refine w_aload_n X dX12_colon_91 rfl rfl ?_
    refine g12_length X dX12_colon_92 ?_
    try simp only [gI_sI, gI_sL, gL_sI, gL_sL, false_and, and_false, and_self, if_false, if_true, reduceIte, Nat.reduceEqDiff, h5, h20, hk9, hk8, h12, h22, gI_wa, gL_wa, gI_pu, gL_pu, gI_op, gL_op]
    refine w_iload_n X dX12_colon_95 rfl rfl ?_
    refine w_isub X dX12_colon_96 ?_
    refine w_iconst (v := 1) X dX12_colon_97 (by decide) ?_
    refine w_isub X dX12_colon_98 ?_
    rw [nI_d _ _ hql]
    refine w_i2l X dX12_colon_99 ?_
    refine w_lastoreN X dX12_colon_100 rfl rfl (by omega) ?_
    refine w_aload_n X dX12_colon_101 rfl rfl ?_
    refine w_dup X dX12_colon_102 rfl ?_
    refine g12_at X dX12_colon_103 ?_
    try simp only [gI_sI, gI_sL, gL_sI, gL_sL, false_and, and_false, and_self, if_false, if_true, reduceIte, Nat.reduceEqDiff, h5, h20, hk9, hk8, h12, h22, gI_wa, gL_wa, gI_pu, gL_pu, gI_op, gL_op]
    refine w_iconst (v := 1) X dX12_colon_106 (by decide) ?_
    refine w_iadd X dX12_colon_107 ?_
    rw [nI_1]
    refine p12_at X dX12_colon_108 ?_
    refine w_vrR X dX12_colon_111 ?_
    rw [hbt]
    exact lq N1 c a b t x r h1
  · have hbt : cl_ k W e nd op = .inr (1, k) := by
      unfold cl_
      cases hV : (rt_ 1 W e).1 with
      | nil => rfl
      | cons f r =>
        simp only
        rw [if_neg (fun q => h10 (by rw [hV]; exact congrArg nI q))]
    refine w_aload_n X dX12_colon_13 rfl rfl ?_
    refine w_iconst (v := 1) X dX12_colon_14 (by decide) ?_
    refine w_aload_n X dX12_colon_15 rfl rfl ?_
    refine g12_at X dX12_colon_16 ?_
    try simp only [gI_sI, gI_sL, gL_sI, gL_sL, false_and, and_false, and_self, if_false, if_true, reduceIte, Nat.reduceEqDiff, h5]
    refine w_v2fV X dX12_colon_19 k12_fail rfl rfl (c12_fail G hG _ _ _ _) (Nat.le_of_ble_eq_true rfl) ?_
    refine w_vrR X dX12_colon_22 ?_
    rw [hbt]
    exact px_fa h1.2.1 hf3
