section
/-! the reference's machine: enter, throws, leave, exactly -/
def CPR_ (G : gg_) (d q pt : Nat) (v : Int32) (N : mm_) (Q : mm_ → Prop) : Prop := cm_ G yX12_probe cX12_probe 6 none (d + 3) [.ref (G.1 0), .int (nI q), .int (nI pt), .int v] N (rV_ Q)
def zpR_ (D : Nat) : Nat → Nat → mm_ → mm_
  | 0, _, A => A
  | u + 1, q, A => zpR_ D u (q + 1) (sI_ A 24 (3 * (D + 1) + q) 0)
/-- as an invocation of m begins, at depth D + 1, the k + 1st -/
def enM_ (M : mm_) (D k m q : Nat) : mm_ := zpR_ D (3 - q) q (sI_ (sI_ (sI_ (sI_ M 0 39 (nI (D + 1))) 0 40 (nI (k + 1))) 23 (D + 1) (nI m)) 25 (D + 1) 0)
def TAW_ (G : gg_) (d : Nat) (v : Int32) (Q : mm_ → Prop) : Nat → mm_ → Prop
  | 0, N => N.1 0 39 = nI 0 ∧ Q (sI_ (sI_ N 0 52 1) 0 53 v)
  | D + 1, N => N.1 0 39 = nI (D + 1) ∧ ∃ QP : mm_ → Prop, CPR_ G d (D + 1) 2 v N QP ∧ ∀ N2, QP N2 → N2.1 0 39 = nI (D + 1) ∧ TAW_ G d v Q D (sI_ N2 0 39 (nI D))
def TUW_ (G : gg_) (d : Nat) (v : Int32) (Q : mm_ → Prop) : Nat → mm_ → Prop
  | 0, N => N.1 0 39 = nI 0 ∧ Q (sI_ (sI_ N 0 52 1) 0 53 v)
  | D + 1, N => N.1 0 39 = nI (D + 1) ∧ ∃ T, T < 250 ∧ N.1 0 51 = nI T ∧
    (0 < T → N.1 29 (T - 1) = nI (D + 1) → Q (sI_ (sI_ (sI_ N 0 51 (nI (T - 1))) 0 47 (N.1 28 (T - 1))) 25 (D + 1) (N.1 27 (T - 1)))) ∧
    (T = 0 ∨ ¬ N.1 29 (T - 1) = nI (D + 1) → ∃ QP : mm_ → Prop, CPR_ G d (D + 1) 2 v N QP ∧ ∀ N2, QP N2 → N2.1 0 39 = nI (D + 1) ∧ TUW_ G d v Q D (sI_ N2 0 39 (nI D)))
/-- leaving with h values below -/
def LVW_ (G : gg_) (d : Nat) (Q : mm_ → Prop) (D h : Nat) (M : mm_) : Prop := M.1 0 39 = nI (D + 1) ∧ M.1 0 47 = nI (h + 1) ∧ h < 500 ∧ ∃ QP : mm_ → Prop, CPR_ G d (D + 1) 1 (M.1 26 h) (sI_ M 0 47 (nI h)) QP ∧ ∀ N, QP N → N.1 0 39 = nI (D + 1) ∧ N.1 0 47 = nI h ∧ (D = 0 → Q (sI_ (sI_ (sI_ N 0 39 (nI D)) 0 52 0) 0 53 (M.1 26 h))) ∧ (0 < D → Q (ps_ (sI_ N 0 39 (nI D)) h (M.1 26 h)))
set_option maxRecDepth 100000 in
set_option maxHeartbeats 4000000 in
theorem c12_enterE (G : gg_) (hG : gd_ G) (d : Nat) (M : mm_) (D k m q3 : Nat) (hD : M.1 0 39 = nI D) (hD2 : D ≤ 9) (hk : M.1 0 40 = nI k) (hm : m < 16) (hq3 : q3 ≤ 3) (e3 : M.1 6 m = nI q3) (Q : mm_ → Prop) (hQ : CPR_ G d (D + 1) 0 0 (enM_ M D k m q3) Q) : cm_ G yX12_enter cX12_enter 3 none (d + 4) [.ref (G.1 0), .int (nI m)] M (rV_ Q) := by
  refine cm_of hG (by decide) (Nat.le_of_ble_eq_true rfl) (fun C X => ?_)
  have lp : ∀ (u q : Nat) (N : mm_), q + u = 3 → N.1 0 39 = nI (D + 1) → CPR_ G d (D + 1) 0 0 (zpR_ D u q N) Q → wq_ C G (qe_ C G (rV_ Q)) 47 [some (.ref (G.1 0)), some (.int (nI m)), some (.int (nI q))] [] N := by
    intro u
    induction u with
    | zero =>
      intro q N hu h39 hN
      refine w_iload_n X dX12_enter_47 rfl rfl ?_
      refine w_iconst (v := 3) X dX12_enter_48 (by decide) ?_
      refine w_icmp_ge (tgt := 72) X dX12_enter_49 (by decide) (fun h49 => ?_) (fun h49 => absurd (nI_le (a := 3) (b := q) (by omega) (by omega)) h49)
      refine w_aload_n X dX12_enter_72 rfl rfl ?_
      refine w_aload_n X dX12_enter_73 rfl rfl ?_
      refine g12_depth X dX12_enter_74 ?_
      rw [h39]
      refine w_iconst (v := 0) X dX12_enter_77 (by decide) ?_
      refine w_iconst (v := 0) X dX12_enter_78 (by decide) ?_
      refine w_v3rV X dX12_enter_79 k12_probe rfl rfl (hN) (Nat.le_of_ble_eq_true rfl) (fun N79 h79 => ?_)
      exact w_vrR X dX12_enter_82 h79
    | succ u ih =>
      intro q N hu h39 hN
      refine w_iload_n X dX12_enter_47 rfl rfl ?_
      refine w_iconst (v := 3) X dX12_enter_48 (by decide) ?_
      refine w_icmp_ge (tgt := 72) X dX12_enter_49 (by decide) (fun h49 => absurd h49 (nI_ge (a := q) (b := 3) (by omega) (by decide))) (fun h49 => ?_)
      refine w_aload_n X dX12_enter_52 rfl rfl ?_
      refine g12_runParameters X dX12_enter_53 ?_
      refine w_iconst (v := 3) X dX12_enter_56 (by decide) ?_
      refine w_aload_n X dX12_enter_57 rfl rfl ?_
      refine g12_depth X dX12_enter_58 ?_
      rw [h39]
      refine w_imul X dX12_enter_61 ?_
      refine w_iload_n X dX12_enter_62 rfl rfl ?_
      refine w_iadd X dX12_enter_63 ?_
      rw [show (3 : Int32) * nI (D + 1) + nI q = nI (3 * (D + 1) + q) from nI_m 3 (D + 1) q]
      refine w_iconst (v := 0) X dX12_enter_64 (by decide) ?_
      refine w_iastoreN X dX12_enter_65 rfl rfl (⟨by omega, by decide⟩) ?_
      refine w_iinc (v := 1) X dX12_enter_66 rfl (by decide) (by decide) ?_
      refine w_goto (tgt := 47) X dX12_enter_69 (by decide) ?_
      rw [nI_1]
      exact ih (q + 1) _ (by omega) (by rw [gI_sI, if_neg (by omega)]; exact h39) hN
  refine w_aload_n X dX12_enter_0 rfl rfl ?_
  refine w_dup X dX12_enter_1 rfl ?_
  refine g12_depth X dX12_enter_2 ?_
  rw [hD]
  refine w_iconst (v := 1) X dX12_enter_5 (by decide) ?_
  refine w_iadd X dX12_enter_6 ?_
  rw [nI_1]
  refine p12_depth X dX12_enter_7 ?_
  refine w_aload_n X dX12_enter_10 rfl rfl ?_
  refine w_dup X dX12_enter_11 rfl ?_
  refine g12_invoked X dX12_enter_12 ?_
  rw [gI_sI, if_neg (by omega), hk]
  refine w_iconst (v := 1) X dX12_enter_15 (by decide) ?_
  refine w_iadd X dX12_enter_16 ?_
  rw [nI_1]
  refine p12_invoked X dX12_enter_17 ?_
  refine w_aload_n X dX12_enter_20 rfl rfl ?_
  refine g12_runMethods X dX12_enter_21 ?_
  refine w_aload_n X dX12_enter_24 rfl rfl ?_
  refine g12_depth X dX12_enter_25 ?_
  rw [gI_sI, if_neg (by omega), gI_sI, if_pos ⟨rfl, rfl⟩]
  refine w_iload_n X dX12_enter_28 rfl rfl ?_
  refine w_iastoreN X dX12_enter_29 rfl rfl (⟨by omega, by decide⟩) ?_
  refine w_aload_n X dX12_enter_30 rfl rfl ?_
  refine g12_runPlaces X dX12_enter_31 ?_
  refine w_aload_n X dX12_enter_34 rfl rfl ?_
  refine g12_depth X dX12_enter_35 ?_
  rw [gI_sI, if_neg (by omega), gI_sI, if_neg (by omega), gI_sI, if_pos ⟨rfl, rfl⟩]
  refine w_iconst (v := 0) X dX12_enter_38 (by decide) ?_
  refine w_iastoreN X dX12_enter_39 rfl rfl (⟨by omega, by decide⟩) ?_
  refine w_aload_n X dX12_enter_40 rfl rfl ?_
  refine g12_parameters X dX12_enter_41 ?_
  refine w_iload_n X dX12_enter_44 rfl rfl ?_
  refine w_ialoadN X dX12_enter_45 rfl rfl (⟨by omega, by decide⟩) ?_
  rw [gI_sI, if_neg (by omega), gI_sI, if_neg (by omega), gI_sI, if_neg (by omega), gI_sI, if_neg (by omega), e3]
  refine w_istore_n X dX12_enter_46 rfl (by decide) ?_
  refine lp (3 - q3) q3 _ (by omega) ?_ hQ
  rw [gI_sI, if_neg (by omega), gI_sI, if_neg (by omega), gI_sI, if_neg (by omega), gI_sI, if_pos ⟨rfl, rfl⟩]
set_option maxRecDepth 100000 in
set_option maxHeartbeats 4000000 in
theorem c12_throwAllE (G : gg_) (hG : gd_ G) (d : Nat) (M : mm_) (D : Nat) (hD2 : D ≤ 10) (v : Int32) (Q : mm_ → Prop) (hQ : TAW_ G d v Q D M) : cm_ G yX12_throwAll cX12_throwAll 2 none (d + 4) [.ref (G.1 0), .int v] M (rV_ Q) := by
  refine cm_of hG (by decide) (Nat.le_of_ble_eq_true rfl) (fun C X => ?_)
  have lp : ∀ (u : Nat) (N : mm_), u ≤ 10 → TAW_ G d v Q u N → wq_ C G (qe_ C G (rV_ Q)) 0 [some (.ref (G.1 0)), some (.int v)] [] N := by
    intro u
    induction u with
    | zero =>
      intro N hu hN
      refine w_aload_n X dX12_throwAll_0 rfl rfl ?_
      refine g12_depth X dX12_throwAll_1 ?_
      rw [hN.1]
      refine w_if_le (tgt := 30) X dX12_throwAll_4 (by decide) (fun h4 => ?_) (fun h4 => absurd (by decide) h4)
      refine w_aload_n X dX12_throwAll_30 rfl rfl ?_
      refine w_iconst (v := 1) X dX12_throwAll_31 (by decide) ?_
      refine p12_threw X dX12_throwAll_32 (by first | exact Or.inl rfl | exact Or.inr rfl | assumption) ?_
      refine w_aload_n X dX12_throwAll_35 rfl rfl ?_
      refine w_iload_n X dX12_throwAll_36 rfl rfl ?_
      refine p12_answer X dX12_throwAll_37 ?_
      exact w_vrR X dX12_throwAll_40 hN.2
    | succ u ih =>
      intro N hu hN
      obtain ⟨h39, QP, hP1, hP2⟩ := hN
      refine w_aload_n X dX12_throwAll_0 rfl rfl ?_
      refine g12_depth X dX12_throwAll_1 ?_
      rw [h39]
      refine w_if_le (tgt := 30) X dX12_throwAll_4 (by decide) (fun h4 => absurd h4 (nI_ge (a := 0) (b := u + 1) (by omega) (by omega))) (fun h4 => ?_)
      refine w_aload_n X dX12_throwAll_7 rfl rfl ?_
      refine w_aload_n X dX12_throwAll_8 rfl rfl ?_
      refine g12_depth X dX12_throwAll_9 ?_
      rw [h39]
      refine w_iconst (v := 2) X dX12_throwAll_12 (by decide) ?_
      refine w_iload_n X dX12_throwAll_13 rfl rfl ?_
      refine w_v3rV X dX12_throwAll_14 k12_probe rfl rfl (hP1) (Nat.le_of_ble_eq_true rfl) (fun N14 h14 => ?_)
      refine w_aload_n X dX12_throwAll_17 rfl rfl ?_
      refine w_dup X dX12_throwAll_18 rfl ?_
      refine g12_depth X dX12_throwAll_19 ?_
      rw [(hP2 _ h14).1]
      refine w_iconst (v := 1) X dX12_throwAll_22 (by decide) ?_
      refine w_isub X dX12_throwAll_23 ?_
      rw [nI_s1]
      refine p12_depth X dX12_throwAll_24 ?_
      refine w_goto (tgt := 0) X dX12_throwAll_27 (by decide) ?_
      exact ih _ (by omega) (hP2 _ h14).2
  exact lp D M hD2 hQ
set_option maxRecDepth 100000 in
set_option maxHeartbeats 4000000 in
theorem c12_throwUpE (G : gg_) (hG : gd_ G) (d : Nat) (M : mm_) (D : Nat) (hD2 : D ≤ 10) (v : Int32) (Q : mm_ → Prop) (hQ : TUW_ G d v Q D M) : cm_ G yX12_throwUp cX12_throwUp 2 none (d + 4) [.ref (G.1 0), .int v] M (rV_ Q) := by
  refine cm_of hG (by decide) (Nat.le_of_ble_eq_true rfl) (fun C X => ?_)
  have lp : ∀ (u : Nat) (N : mm_), u ≤ 10 → TUW_ G d v Q u N → wq_ C G (qe_ C G (rV_ Q)) 0 [some (.ref (G.1 0)), some (.int v)] [] N := by
    intro u
    induction u with
    | zero =>
      intro N hu hN
      refine w_aload_n X dX12_throwUp_0 rfl rfl ?_
      refine g12_depth X dX12_throwUp_1 ?_
      rw [hN.1]
      refine w_if_le (tgt := 97) X dX12_throwUp_4 (by decide) (fun h4 => ?_) (fun h4 => absurd (by decide) h4)
      refine w_aload_n X dX12_throwUp_97 rfl rfl ?_
      refine w_iconst (v := 1) X dX12_throwUp_98 (by decide) ?_
      refine p12_threw X dX12_throwUp_99 (by first | exact Or.inl rfl | exact Or.inr rfl | assumption) ?_
      refine w_aload_n X dX12_throwUp_102 rfl rfl ?_
      refine w_iload_n X dX12_throwUp_103 rfl rfl ?_
      refine p12_answer X dX12_throwUp_104 ?_
      exact w_vrR X dX12_throwUp_107 hN.2
    | succ u ih =>
      intro N hu hN
      obtain ⟨h39, T, hT, h51, hT1, hT2⟩ := hN
      have t74 : (T = 0 ∨ ¬ N.1 29 (T - 1) = nI (u + 1)) → wq_ C G (qe_ C G (rV_ Q)) 74 [some (.ref (G.1 0)), some (.int v)] [] N := by
        intro e0
        obtain ⟨QP, hP1, hP2⟩ := hT2 e0
        refine w_aload_n X dX12_throwUp_74 rfl rfl ?_
        refine w_aload_n X dX12_throwUp_75 rfl rfl ?_
        refine g12_depth X dX12_throwUp_76 ?_
        rw [h39]
        refine w_iconst (v := 2) X dX12_throwUp_79 (by decide) ?_
        refine w_iload_n X dX12_throwUp_80 rfl rfl ?_
        refine w_v3rV X dX12_throwUp_81 k12_probe rfl rfl (hP1) (Nat.le_of_ble_eq_true rfl) (fun N81 h81 => ?_)
        refine w_aload_n X dX12_throwUp_84 rfl rfl ?_
        refine w_dup X dX12_throwUp_85 rfl ?_
        refine g12_depth X dX12_throwUp_86 ?_
        rw [(hP2 _ h81).1]
        refine w_iconst (v := 1) X dX12_throwUp_89 (by decide) ?_
        refine w_isub X dX12_throwUp_90 ?_
        rw [nI_s1]
        refine p12_depth X dX12_throwUp_91 ?_
        refine w_goto (tgt := 0) X dX12_throwUp_94 (by decide) ?_
        exact ih _ (by omega) (hP2 _ h81).2
      refine w_aload_n X dX12_throwUp_0 rfl rfl ?_
      refine g12_depth X dX12_throwUp_1 ?_
      rw [h39]
      refine w_if_le (tgt := 97) X dX12_throwUp_4 (by decide) (fun h4 => absurd h4 (nI_ge (a := 0) (b := u + 1) (by omega) (by omega))) (fun h4 => ?_)
      refine w_aload_n X dX12_throwUp_7 rfl rfl ?_
      refine g12_tries X dX12_throwUp_8 ?_
      rw [h51]
      refine w_if_le (tgt := 74) X dX12_throwUp_11 (by decide) (fun h11 => ?_) (fun h11 => ?_)
      · exact t74 (Or.inl (Nat.eq_zero_of_le_zero (Nat.le_of_not_lt (fun y => absurd h11 (nI_ge (a := 0) (b := T) y (by omega))))))
      · have hT0 : 0 < T := Nat.pos_of_ne_zero (fun z => h11 (by rw [z]; decide))
        refine w_aload_n X dX12_throwUp_14 rfl rfl ?_
        refine g12_tryDepths X dX12_throwUp_15 ?_
        refine w_aload_n X dX12_throwUp_18 rfl rfl ?_
        refine g12_tries X dX12_throwUp_19 ?_
        rw [h51]
        refine w_iconst (v := 1) X dX12_throwUp_22 (by decide) ?_
        refine w_isub X dX12_throwUp_23 ?_
        rw [nI_p _ hT0]
        refine w_ialoadN X dX12_throwUp_24 rfl rfl (⟨by omega, by decide⟩) ?_
        refine w_aload_n X dX12_throwUp_25 rfl rfl ?_
        refine g12_depth X dX12_throwUp_26 ?_
        rw [h39]
        refine w_icmp_ne (tgt := 74) X dX12_throwUp_29 (by decide) (fun h29 => ?_) (fun h29 => ?_)
        · exact t74 (Or.inr h29)
        · refine w_aload_n X dX12_throwUp_32 rfl rfl ?_
          refine w_dup X dX12_throwUp_33 rfl ?_
          refine g12_tries X dX12_throwUp_34 ?_
          rw [h51]
          refine w_iconst (v := 1) X dX12_throwUp_37 (by decide) ?_
          refine w_isub X dX12_throwUp_38 ?_
          rw [nI_p _ hT0]
          refine p12_tries X dX12_throwUp_39 ?_
          refine w_aload_n X dX12_throwUp_42 rfl rfl ?_
          refine w_aload_n X dX12_throwUp_43 rfl rfl ?_
          refine g12_tryHeights X dX12_throwUp_44 ?_
          refine w_aload_n X dX12_throwUp_47 rfl rfl ?_
          refine g12_tries X dX12_throwUp_48 ?_
          rw [gI_sI, if_pos ⟨rfl, rfl⟩]
          refine w_ialoadN X dX12_throwUp_51 rfl rfl (⟨by omega, by decide⟩) ?_
          rw [gI_sI, if_neg (by omega)]
          refine p12_height X dX12_throwUp_52 ?_
          refine w_aload_n X dX12_throwUp_55 rfl rfl ?_
          refine g12_runPlaces X dX12_throwUp_56 ?_
          refine w_aload_n X dX12_throwUp_59 rfl rfl ?_
          refine g12_depth X dX12_throwUp_60 ?_
          rw [gI_sI, if_neg (by omega), gI_sI, if_neg (by omega), h39]
          refine w_aload_n X dX12_throwUp_63 rfl rfl ?_
          refine g12_tryPlaces X dX12_throwUp_64 ?_
          refine w_aload_n X dX12_throwUp_67 rfl rfl ?_
          refine g12_tries X dX12_throwUp_68 ?_
          rw [gI_sI, if_neg (by omega), gI_sI, if_pos ⟨rfl, rfl⟩]
          refine w_ialoadN X dX12_throwUp_71 rfl rfl (⟨by omega, by decide⟩) ?_
          rw [gI_sI, if_neg (by omega), gI_sI, if_neg (by omega)]
          refine w_iastoreN X dX12_throwUp_72 rfl rfl (⟨by omega, by decide⟩) ?_
          exact w_vrR X dX12_throwUp_73 (hT1 hT0 h29)
  exact lp D M hD2 hQ
set_option maxRecDepth 100000 in
set_option maxHeartbeats 4000000 in
theorem c12_leaveE (G : gg_) (hG : gd_ G) (d : Nat) (M : mm_) (D h : Nat) (hD : D ≤ 9) (Q : mm_ → Prop) (hQ : LVW_ G d Q D h M) : cm_ G yX12_leave cX12_leave 2 none (d + 4) [.ref (G.1 0)] M (rV_ Q) := by
  refine cm_of hG (by decide) (Nat.le_of_ble_eq_true rfl) (fun C X => ?_)
  obtain ⟨h39, h47, hh, QP, hP1, hP2⟩ := hQ
  refine w_aload_n X dX12_leave_0 rfl rfl ?_
  refine g12_stack X dX12_leave_1 ?_
  refine w_aload_n X dX12_leave_4 rfl rfl ?_
  refine g12_height X dX12_leave_5 ?_
  rw [h47]
  refine w_iconst (v := 1) X dX12_leave_8 (by decide) ?_
  refine w_isub X dX12_leave_9 ?_
  rw [nI_s1]
  refine w_ialoadN X dX12_leave_10 rfl rfl (⟨by omega, by decide⟩) ?_
  refine w_istore_n X dX12_leave_11 rfl (by decide) ?_
  refine w_aload_n X dX12_leave_12 rfl rfl ?_
  refine w_dup X dX12_leave_13 rfl ?_
  refine g12_height X dX12_leave_14 ?_
  rw [h47]
  refine w_iconst (v := 1) X dX12_leave_17 (by decide) ?_
  refine w_isub X dX12_leave_18 ?_
  rw [nI_s1]
  refine p12_height X dX12_leave_19 ?_
  refine w_aload_n X dX12_leave_22 rfl rfl ?_
  refine w_aload_n X dX12_leave_23 rfl rfl ?_
  refine g12_depth X dX12_leave_24 ?_
  rw [gI_sI, if_neg (by omega), h39]
  refine w_iconst (v := 1) X dX12_leave_27 (by decide) ?_
  refine w_iload_n X dX12_leave_28 rfl rfl ?_
  refine w_v3rV X dX12_leave_29 k12_probe rfl rfl (hP1) (Nat.le_of_ble_eq_true rfl) (fun N29 h29 => ?_)
  have h29b := hP2 _ h29
  refine w_aload_n X dX12_leave_32 rfl rfl ?_
  refine w_dup X dX12_leave_33 rfl ?_
  refine g12_depth X dX12_leave_34 ?_
  rw [h29b.1]
  refine w_iconst (v := 1) X dX12_leave_37 (by decide) ?_
  refine w_isub X dX12_leave_38 ?_
  rw [nI_s1]
  refine p12_depth X dX12_leave_39 ?_
  refine w_aload_n X dX12_leave_42 rfl rfl ?_
  refine g12_depth X dX12_leave_43 ?_
  rw [gI_sI, if_pos ⟨rfl, rfl⟩]
  refine w_if_ne (tgt := 62) X dX12_leave_46 (by decide) (fun h46 => ?_) (fun h46 => ?_)
  · refine w_aload_n X dX12_leave_62 rfl rfl ?_
    refine w_iload_n X dX12_leave_63 rfl rfl ?_
    refine w_v1fV X dX12_leave_64 k12_push rfl rfl (c12_push G hG _ _ h (by rw [gI_sI, if_neg (by omega)]; exact h29b.2.1) (by omega) _) (Nat.le_of_ble_eq_true rfl) ?_
    exact w_vrR X dX12_leave_67 (h29b.2.2.2 (Nat.pos_of_ne_zero (fun y => h46 (by rw [y]; rfl))))
  · refine w_aload_n X dX12_leave_49 rfl rfl ?_
    refine w_iconst (v := 0) X dX12_leave_50 (by decide) ?_
    refine p12_threw X dX12_leave_51 (by first | exact Or.inl rfl | exact Or.inr rfl | assumption) ?_
    refine w_aload_n X dX12_leave_54 rfl rfl ?_
    refine w_iload_n X dX12_leave_55 rfl rfl ?_
    refine p12_answer X dX12_leave_56 ?_
    refine w_goto (tgt := 67) X dX12_leave_59 (by decide) ?_
    exact w_vrR X dX12_leave_67 (h29b.2.2.1 ((nI_z (by omega)).mp h46))
def cpR_ (D h : Nat) : Nat → Nat → mm_ → mm_
  | 0, _, A => A
  | u + 1, q, A => cpR_ D h u (q + 1) (sI_ A 24 (3 * D + 3 + q) (A.1 26 (h + q)))
/-- an invocation by name: j arguments, the stack h high below them -/
def IVW_ (G : gg_) (d : Nat) (Q : mm_ → Prop) (c D h k j : Nat) (a : Int64) (A : mm_) : Prop := A.1 0 9 = nI c ∧ c ≤ 16 ∧ A.1 0 39 = nI D ∧ A.1 0 47 = nI h ∧ A.1 0 40 = nI k ∧ k ≤ 1000 ∧ h < 500 ∧
  (fm_ A a (nI j) c 0 < 0 → TUW_ G d (-4) Q D A) ∧
  (∀ m, m < c → fm_ A a (nI j) c 0 = nI m → (D = 10 → TUW_ G d (-2) Q D A) ∧ (D ≤ 9 → k = 1000 → TAW_ G d (-3) Q D A) ∧ (D ≤ 9 → k < 1000 → ∃ q3, q3 ≤ 3 ∧ (cpR_ D h j 0 A).1 6 m = nI q3 ∧ CPR_ G d (D + 1) 0 0 (enM_ (cpR_ D h j 0 A) D k m q3) Q))
theorem fm_inE {M : mm_} {a : Int64} {b : Int32} : ∀ u i, fm_ M a b u i = -1 ∨ ∃ m, i ≤ m ∧ m < i + u ∧ fm_ M a b u i = nI m
  | 0, i => Or.inl rfl
  | u + 1, i => by
    rw [fm_]
    split
    · exact Or.inr ⟨i, by omega, by omega, rfl⟩
    · rcases fm_inE (M := M) (a := a) (b := b) u (i + 1) with z | ⟨m, h0, h1, h2⟩
      · exact Or.inl z
      · exact Or.inr ⟨m, by omega, by omega, h2⟩
theorem cpR_o {D h : Nat} : ∀ (u q : Nat) (A : mm_) (a i : Nat), ¬ a = 24 → (cpR_ D h u q A).1 a i = A.1 a i
  | 0, _, _, _, _, _ => rfl
  | u + 1, q, A, a, i, z => by rw [cpR_, cpR_o u (q + 1) _ a i z, gI_sI, if_neg (fun y => z y.1)]
theorem cpR_2 {D h : Nat} : ∀ (u q : Nat) (A : mm_), (cpR_ D h u q A).2 = A.2
  | 0, _, _ => rfl
  | u + 1, q, A => cpR_2 u (q + 1) _
set_option maxRecDepth 100000 in
set_option maxHeartbeats 4000000 in
theorem c12_invokeE (G : gg_) (hG : gd_ G) (d : Nat) (M : mm_) (c D h k j : Nat) (hD1 : D ≤ 10) (hj3 : j ≤ 3) (what : Int64) (hj : (what &&& 3).toInt32 = nI j) (h47 : M.1 0 47 = nI (h + j)) (Q : mm_ → Prop) (hQ : IVW_ G d Q c D h k j (what >>> ((2 : Int32).toInt64 &&& 63)) (sI_ M 0 47 (nI h))) : cm_ G yX12_invoke cX12_invoke 6 none (d + 5) [.ref (G.1 0), .long what] M (rV_ Q) := by
  obtain ⟨A, hA⟩ : ∃ A, sI_ M 0 47 (nI h) = A := ⟨_, rfl⟩
  rw [hA] at hQ
  obtain ⟨a9, hc, A39, e47, A40, hk2, hh, hQ1, hQ2⟩ := hQ
  refine cm_of hG (by decide) (Nat.le_of_ble_eq_true rfl) (fun C X => ?_)
  have t27 : ∀ (x5 : Option Value) (w : Int32), fm_ A (what >>> ((2 : Int32).toInt64 &&& 63)) (nI j) c 0 = w → wq_ C G (qe_ C G (rV_ Q)) 27 [some (.ref (G.1 0)), some (.long what), none, some (.int (nI j)), some (.int w), x5] [] A := by
    intro x5 w hw
    refine w_iload X dX12_invoke_27 rfl ?_
    refine w_if_ge (tgt := 41) X dX12_invoke_29 (by decide) (fun h29 => ?_) (fun h29 => ?_)
    · have h29n : ¬ w < 0 := Int32.not_lt.mpr h29
      obtain ⟨m, hm0, hm, em⟩ := (fm_inE (M := A) (a := what >>> ((2 : Int32).toInt64 &&& 63)) (b := nI j) c 0).resolve_left (fun z => h29n (by rw [← hw, z]; decide))
      rw [hw] at em
      obtain ⟨k1, k2, k3⟩ := hQ2 m (by omega) (hw.trans em)
      refine w_aload_n X dX12_invoke_41 rfl rfl ?_
      refine g12_depth X dX12_invoke_42 ?_
      rw [A39]
      refine w_bipush (v := 10) X dX12_invoke_45 (by decide) ?_
      refine w_icmp_ne (tgt := 59) X dX12_invoke_47 (by decide) (fun h47 => ?_) (fun h47 => ?_)
      · have hD9 : D ≤ 9 := by
          rcases Nat.lt_or_ge D 10 with z | z
          · omega
          · exact absurd (show nI D = 10 by rw [show D = 10 by omega]; rfl) h47
        refine w_aload_n X dX12_invoke_59 rfl rfl ?_
        refine g12_invoked X dX12_invoke_60 ?_
        rw [A40]
        refine w_sipush (v := 1000) X dX12_invoke_63 (by decide) ?_
        refine w_icmp_ne (tgt := 78) X dX12_invoke_66 (by decide) (fun h66 => ?_) (fun h66 => ?_)
        · refine w_iconst (v := 0) X dX12_invoke_78 (by decide) ?_
          refine w_istore X dX12_invoke_79 (by decide) ?_
          have hk3 : k < 1000 := by
            rcases Nat.lt_or_ge k 1000 with z | z
            · exact z
            · exact absurd (show nI k = 1000 by rw [show k = 1000 by omega]; rfl) h66
          subst em
          have lp : ∀ (u q : Nat) (N : mm_), q + u = j → N.1 0 39 = nI D → N.1 0 47 = nI h → N.1 0 40 = nI k → (∃ q3, q3 ≤ 3 ∧ (cpR_ D h u q N).1 6 m = nI q3 ∧ CPR_ G d (D + 1) 0 0 (enM_ (cpR_ D h u q N) D k m q3) Q) → wq_ C G (qe_ C G (rV_ Q)) 81 [some (.ref (G.1 0)), some (.long what), none, some (.int (nI j)), some (.int (nI m)), some (.int (nI q))] [] N := by
            intro u
            induction u with
            | zero =>
              intro q N hu N39 N47 N40 hN
              obtain ⟨q3, hq3, e3, hN⟩ := hN
              refine w_iload X dX12_invoke_81 rfl ?_
              refine w_iload_n X dX12_invoke_83 rfl rfl ?_
              refine w_icmp_ge (tgt := 121) X dX12_invoke_84 (by decide) (fun h84 => ?_) (fun h84 => absurd (nI_le (a := j) (b := q) (by omega) (by omega)) h84)
              refine w_aload_n X dX12_invoke_121 rfl rfl ?_
              refine w_iload X dX12_invoke_122 rfl ?_
              refine w_v1rV X dX12_invoke_124 k12_enter rfl rfl (c12_enterE G hG _ _ D k m q3 N39 hD9 N40 (by omega) hq3 e3 Q hN) (Nat.le_of_ble_eq_true rfl) (fun N124 h124 => ?_)
              exact w_vrR X dX12_invoke_127 h124
            | succ u ih =>
              intro q N hu N39 N47 N40 hN
              refine w_iload X dX12_invoke_81 rfl ?_
              refine w_iload_n X dX12_invoke_83 rfl rfl ?_
              refine w_icmp_ge (tgt := 121) X dX12_invoke_84 (by decide) (fun h84 => absurd h84 (nI_ge (a := q) (b := j) (by omega) (by omega))) (fun h84 => ?_)
              refine w_aload_n X dX12_invoke_87 rfl rfl ?_
              refine g12_runParameters X dX12_invoke_88 ?_
              refine w_iconst (v := 3) X dX12_invoke_91 (by decide) ?_
              refine w_aload_n X dX12_invoke_92 rfl rfl ?_
              refine g12_depth X dX12_invoke_93 ?_
              rw [N39]
              refine w_imul X dX12_invoke_96 ?_
              refine w_iconst (v := 3) X dX12_invoke_97 (by decide) ?_
              refine w_iadd X dX12_invoke_98 ?_
              refine w_iload X dX12_invoke_99 rfl ?_
              refine w_iadd X dX12_invoke_101 ?_
              rw [show (3 : Int32) * nI D + 3 + nI q = nI (3 * D + 3 + q) by rw [show (3 : Int32) * nI D + 3 = nI (3 * D + 3) from nI_m 3 D 3, nI_add]]
              refine w_aload_n X dX12_invoke_102 rfl rfl ?_
              refine g12_stack X dX12_invoke_103 ?_
              refine w_aload_n X dX12_invoke_106 rfl rfl ?_
              refine g12_height X dX12_invoke_107 ?_
              refine w_iload X dX12_invoke_110 rfl ?_
              rw [N47]
              refine w_iadd X dX12_invoke_112 ?_
              rw [nI_add]
              refine w_ialoadN X dX12_invoke_113 rfl rfl (⟨by omega, by decide⟩) ?_
              refine w_iastoreN X dX12_invoke_114 rfl rfl (⟨by omega, by decide⟩) ?_
              refine w_iinc (v := 1) X dX12_invoke_115 rfl (by decide) (by decide) ?_
              refine w_goto (tgt := 81) X dX12_invoke_118 (by decide) ?_
              rw [nI_1]
              exact ih (q + 1) _ (by omega) (by rw [gI_sI, if_neg (by omega)]; exact N39) (by rw [gI_sI, if_neg (by omega)]; exact N47) (by rw [gI_sI, if_neg (by omega)]; exact N40) hN
          exact lp j 0 A (by omega) A39 e47 A40 (k3 hD9 hk3)
        · have hkx : k = 1000 := (nI_eq (a := k) (b := 1000) (by omega) (by decide)).mp h66
          refine w_aload_n X dX12_invoke_69 rfl rfl ?_
          refine w_bipush (v := -3) X dX12_invoke_70 (by decide) ?_
          refine w_v1rV X dX12_invoke_72 k12_throwAll rfl rfl (c12_throwAllE G hG _ _ D hD1 (-3) Q (k2 hD9 hkx)) (Nat.le_of_ble_eq_true rfl) (fun N72 h72 => ?_)
          refine w_goto (tgt := 127) X dX12_invoke_75 (by decide) ?_
          exact w_vrR X dX12_invoke_127 h72
      · have hDx : D = 10 := (nI_eq (a := D) (b := 10) (by omega) (by decide)).mp h47
        refine w_aload_n X dX12_invoke_50 rfl rfl ?_
        refine w_bipush (v := -2) X dX12_invoke_51 (by decide) ?_
        refine w_v1rV X dX12_invoke_53 k12_throwUp rfl rfl (c12_throwUpE G hG _ _ D hD1 (-2) Q (k1 hDx)) (Nat.le_of_ble_eq_true rfl) (fun N53 h53 => ?_)
        refine w_goto (tgt := 127) X dX12_invoke_56 (by decide) ?_
        exact w_vrR X dX12_invoke_127 h53
    · refine w_aload_n X dX12_invoke_32 rfl rfl ?_
      refine w_bipush (v := -4) X dX12_invoke_33 (by decide) ?_
      refine w_v1rV X dX12_invoke_35 k12_throwUp rfl rfl (c12_throwUpE G hG _ _ D hD1 (-4) Q (hQ1 (by rw [hw]; exact Int32.not_le.mp h29))) (Nat.le_of_ble_eq_true rfl) (fun N35 h35 => ?_)
      refine w_goto (tgt := 127) X dX12_invoke_38 (by decide) ?_
      exact w_vrR X dX12_invoke_127 h35
  refine w_lload_n X dX12_invoke_0 rfl rfl ?_
  refine w_ldc2 X dX12_invoke_1 q12_405 ?_
  refine w_land X dX12_invoke_4 ?_
  refine w_l2i X dX12_invoke_5 ?_
  rw [hj]
  refine w_istore_n X dX12_invoke_6 rfl (by decide) ?_
  refine w_aload_n X dX12_invoke_7 rfl rfl ?_
  refine w_aload_n X dX12_invoke_8 rfl rfl ?_
  refine g12_height X dX12_invoke_9 ?_
  rw [h47]
  refine w_iload_n X dX12_invoke_12 rfl rfl ?_
  refine w_isub X dX12_invoke_13 ?_
  rw [pk_sub (by omega), Nat.add_sub_cancel]
  refine p12_height X dX12_invoke_14 ?_
  rw [hA]
  refine w_aload_n X dX12_invoke_17 rfl rfl ?_
  refine w_lload_n X dX12_invoke_18 rfl rfl ?_
  refine w_iconst (v := 2) X dX12_invoke_19 (by decide) ?_
  refine w_lshr X dX12_invoke_20 ?_
  refine w_iload_n X dX12_invoke_21 rfl rfl ?_
  refine w_v2fI X dX12_invoke_22 k12_findMethod rfl rfl (c12_findMethod G hG _ _ c a9 hc _ _) (Nat.le_of_ble_eq_true rfl) ?_
  refine w_istore X dX12_invoke_25 (by decide) ?_
  exact t27 _ _ rfl

end
