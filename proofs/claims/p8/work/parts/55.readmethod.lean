/-! readMethod -/
theorem LS_tN {p a : Nat} {M : mm_} (h : LS_ (some p) M) (h4 : M.1 37 4 = nI a) (ha : a ≤ 300) : LS_ (if M.1 37 5 = 0 then none else if a ≤ 12 then some (p + a) else none) (tN_ M) := by
  unfold tN_
  by_cases h5 : M.1 37 5 = 0
  · rw [if_pos h5, if_pos h5]
    have e := LS_fi (f := 1) (w := M.1 37 1) h (by decide)
    refine LS_n ?_
    split
    · exact e
    · exact LS_fn e
  · rw [if_neg h5, if_neg h5]
    by_cases h12 : a ≤ 12
    · rw [if_pos h12, if_pos (by rw [h4]; exact nI_le (a := a) (b := 12) h12 (by decide)), h4, h.2, nI_add]
      exact ⟨h.1, rfl⟩
    · rw [if_neg h12, if_neg (by rw [h4]; exact nI_ge (a := 12) (b := a) (by omega) (by omega))]
      refine LS_n ?_
      exact LS_fi h (by decide)
def pv_ (T : Int32 → Int32) (q : Option Nat) : Int32 := match q with
  | none => 0
  | some p => if 48 ≤ T (nI p) ∧ T (nI p) ≤ 51 then T (nI p) - 48 else 0
theorem LS_pv {q : Option Nat} {M : mm_} (h : LS_ q M) : (pm_ M).1 = pv_ (tb_ M) q := by
  unfold pm_
  cases q with
  | none => rw [pe_F h, if_neg (by decide)]; rfl
  | some p =>
    rw [LS_pe h]
    unfold pv_
    simp only
    split <;> rfl
theorem pv_4 (T : Int32 → Int32) (q : Option Nat) : ∃ j : Nat, j < 4 ∧ pv_ T q = nI j := by
  unfold pv_
  cases q with
  | none => exact ⟨0, by omega, rfl⟩
  | some p =>
    simp only
    split
    · rename_i h
      obtain ⟨j, hj, e⟩ := nI_of2 (x := T (nI p)) (M := 51) (n := 51) (by decide) (fun z => absurd (Int32.lt_of_lt_of_le z (by decide : (0 : Int32) ≤ 48)) (Int32.not_lt.mpr h.1)) h.2
      rw [e] at h ⊢
      have hj2 : 48 ≤ j := Nat.le_of_not_lt (fun z => absurd h.1 (nI_ge (a := j) (b := 48) z (by decide)))
      exact ⟨j - 48, by omega, by rw [show (48 : Int32) = nI 48 from rfl, pk_sub hj2]⟩
    · exact ⟨0, by omega, rfl⟩
def qin_ (n : Nat) (q : Option Nat) : Prop := ∀ p, q = some p → p ≤ n
theorem qin_e {n : Nat} {q : Option Nat} {M : mm_} {c : Int32} (ht : tpX_ M n) (hc : ¬ c = -1) (h : qin_ n q) : qin_ n (qe2_ (tb_ M) c q) := by
  intro p hp
  have := ht.1
  cases q with
  | none => cases hp
  | some a =>
    unfold qe2_ at hp
    simp only at hp
    by_cases z : tb_ M (nI a) = c
    · rw [if_pos z] at hp
      cases hp
      have h1 := h a rfl
      exact tb_lt ht (by omega) (by rw [z]; exact hc)
    · rw [if_neg z] at hp
      cases hp
theorem qin_p {n : Nat} {q : Option Nat} {M : mm_} (ht : tpX_ M n) (h : qin_ n q) : qin_ n (qp_ (tb_ M) q) := by
  intro p hp
  have := ht.1
  cases q with
  | none => cases hp
  | some a =>
    unfold qp_ at hp
    simp only at hp
    by_cases z : 48 ≤ tb_ M (nI a) ∧ tb_ M (nI a) ≤ 51
    · rw [if_pos z] at hp
      cases hp
      have h1 := h a rfl
      exact tb_lt ht (by omega) (fun y => by rw [y] at z; exact absurd z.1 (by decide))
    · rw [if_neg z] at hp
      cases hp
theorem qin_w {n : Nat} {q : Option Nat} {M : mm_} (ht : tpX_ M n) (h : qin_ n q) : qin_ n (qw_ (tb_ M) q) := by
  intro p hp
  cases q with
  | none => cases hp
  | some a =>
    unfold qw_ at hp
    simp only at hp
    split at hp
    · rw [← Option.some.inj hp]; exact h a rfl
    · split at hp
      · cases hp
      · rw [← Option.some.inj hp]; exact skP_le (tb_n ht) 200 a (h a rfl)
theorem hd_37 {k : Nat} {M N : mm_} {C : List cq2_} (hk : kb_ k) (h : c37_ M N) (g : hd_ k M C) : hd_ k N C := by
  unfold kb_ at hk
  refine ⟨by rw [h.2.1 _ _ (by omega)]; exact g.1, fun j q hq => ?_⟩
  obtain ⟨a1, a2, a3, a4⟩ := g.2 j q hq
  exact ⟨by rw [h.2.1 _ _ (by omega)]; exact a1, by rw [h.2.2 _ _ (by omega)]; exact a2, fun z => by rw [h.2.1 _ _ (by omega)]; exact a3 z, by rw [h.2.1 _ _ (by omega)]; exact a4⟩
/-- the row at the text's beginning, and where the reader stands behind the method's name, behind '(', the number, ')', '=' -/
def mr_ (T : Int32 → Int32) : Nat × Int32 × Int64 := srT_ T (nI 0) 200 0 0 0
theorem srO_4 (M : mm_) (r : Nat × Int32 × Int64) : (srO_ M r).1 37 4 = nI r.1 := rfl
theorem srO_5 (M : mm_) (r : Nat × Int32 × Int64) : (srO_ M r).1 37 5 = (if r.2.1 = 1 ∧ ¬ tb_ M (M.1 37 1) = 46 ∧ ¬ tb_ M (M.1 37 1 + nI r.1 - 1) = 46 then 1 else 0) := rfl
theorem srO_2 (M : mm_) (r : Nat × Int32 × Int64) : (srO_ M r).1 37 2 = M.1 37 2 := rfl
theorem srO_1 (M : mm_) (r : Nat × Int32 × Int64) : (srO_ M r).1 37 1 = M.1 37 1 := rfl
theorem srO_L (M : mm_) (r : Nat × Int32 × Int64) : (srO_ M r).2.1 37 6 = r.2.2 := rfl
theorem bg_1 (M : mm_) : (sI_ (sI_ (sI_ M 37 1 0) 37 2 0) 37 3 (-1)).1 37 1 = nI 0 := rfl
theorem bg_2 (M : mm_) : (sI_ (sI_ (sI_ M 37 1 0) 37 2 0) 37 3 (-1)).1 37 2 = 0 := rfl
def mq1_ (T : Int32 → Int32) : Option Nat := if (if (mr_ T).2.1 = 1 ∧ ¬ T (nI 0) = 46 ∧ ¬ T (nI 0 + nI (mr_ T).1 - 1) = 46 then (1 : Int32) else 0) = 0 then none else if (mr_ T).1 ≤ 12 then some (0 + (mr_ T).1) else none
def mq2_ (T : Int32 → Int32) : Option Nat := qe2_ T 40 (mq1_ T)
def mq5_ (T : Int32 → Int32) : Option Nat := qe2_ T 61 (qe2_ T 41 (qp_ T (mq2_ T)))
/-- the method's body -/
def mx_ (T : Int32 → Int32) : px2_ := pe2_ T (pv_ T (mq2_ T)) true (mq5_ T)
def RM_ (k n : Nat) (M : mm_) (key : Int64) (N : mm_) : Prop := cr_ k M N ∧ LS_ (qE_ (tb_ M) (qx_ (mx_ (tb_ M)))) N ∧ (∃ L, L ≤ 26 ∧ N.1 k 4 = nI L) ∧ key = ky_ (mr_ (tb_ M)).2.2 (pv_ (tb_ M) (mq2_ (tb_ M))) ∧ ∀ x, mx_ (tb_ M) = some x → hd_ k N (cqX_ x.1 0 0) ∧ 3 * snX_ x.1 + 1 ≤ 80
set_option maxRecDepth 100000 in
set_option maxHeartbeats 600000 in
theorem c10_readMethod (G : gg_) (hG : gd_ G) (d : Nat) (M : mm_) (n : Nat) (ht : tpX_ M n) (k : Nat) (hk0 : cdX_ k) : cm_ G yX10_readMethod cX10_readMethod 5 (some .long) (d + 906) [.ref (G.1 38), .ref (G.1 k)] M (rL_ (RM_ k n M)) := by
  refine cm_of hG (by decide) (Nat.le_of_ble_eq_true rfl) (fun C X => ?_)
  have hk := cd_kb hk0
  have hn2 := ht.1
  have hm1 : (mr_ (tb_ M)).1 ≤ n := by
    unfold mr_
    exact Nat.le_trans (Nat.le_of_eq (Nat.zero_add _).symm) (srT_le (T := tb_ M) (n := n) (p := 0) (by rw [tb_n ht]; decide) 200 0 0 0 (Nat.zero_le _)).2
  generalize hR : mr_ (tb_ M) = R at hm1
  have i1 : qin_ n (mq1_ (tb_ M)) := by
    intro p hp
    unfold mq1_ at hp
    rw [hR] at hp
    by_cases z : (if R.2.1 = 1 ∧ ¬ tb_ M (nI 0) = 46 ∧ ¬ tb_ M (nI 0 + nI R.1 - 1) = 46 then (1 : Int32) else 0) = 0
    · rw [if_pos z] at hp; cases hp
    · rw [if_neg z] at hp
      by_cases y : R.1 ≤ 12
      · rw [if_pos y] at hp; rw [← Option.some.inj hp]; omega
      · rw [if_neg y] at hp; cases hp
  generalize hQ1 : mq1_ (tb_ M) = Q1 at i1
  have i7 : qin_ n (qe2_ (tb_ M) 61 (qe2_ (tb_ M) 41 (qp_ (tb_ M) (qe2_ (tb_ M) 40 Q1)))) := qin_e ht (by decide) (qin_e ht (by decide) (qin_p ht (qin_e ht (by decide) i1)))
  have hmx : mx_ (tb_ M) = pe2_ (tb_ M) (pv_ (tb_ M) (qe2_ (tb_ M) 40 Q1)) true (qe2_ (tb_ M) 61 (qe2_ (tb_ M) 41 (qp_ (tb_ M) (qe2_ (tb_ M) 40 Q1)))) := by
    unfold mx_ mq5_ mq2_
    rw [hQ1]
  have hpv : pv_ (tb_ M) (mq2_ (tb_ M)) = pv_ (tb_ M) (qe2_ (tb_ M) 40 Q1) := by
    unfold mq2_
    rw [hQ1]
  refine w_aload_n X dX10_readMethod_0 rfl rfl ?_
  refine g10_7 X dX10_readMethod_1 s_38 rfl ?_
  refine w_v0fV X dX10_readMethod_4 k10_25 rfl s_37 (c7_begin G hG (d + 905) _) (Nat.le_of_ble_eq_true rfl) ?_
  have c1 : c37_ M (sI_ (sI_ (sI_ M 37 1 0) 37 2 0) 37 3 (-1)) := c37_tr (c37_tr c37_I c37_I) c37_I
  have b1 := bg_1 M
  have b2 := bg_2 M
  generalize (sI_ (sI_ (sI_ M 37 1 0) 37 2 0) 37 3 (-1)) = N1 at c1 b1 b2 ⊢
  have hr : sr1_ N1 (N1.1 37 1) 200 0 0 0 = R := by
    rw [← hR]
    unfold mr_
    rw [sr1_T, b1, c37_tb c1]
  refine w_aload_n X dX10_readMethod_7 rfl rfl ?_
  refine g10_7 X dX10_readMethod_8 s_38 rfl ?_
  refine w_v0fV X dX10_readMethod_11 k10_30 rfl s_37 (c7_scanRow G hG (d + 904) N1 n (c37_tp c1 ht) R hr) (Nat.le_of_ble_eq_true rfl) ?_
  have h4 := srO_4 N1 R
  have h5 := srO_5 N1 R
  have h6 := srO_L N1 R
  rw [b1, c37_tb c1] at h5
  have c2 : c37_ M (srO_ N1 R) := c37_tr c1 c37_sr
  have l2 : LS_ (some 0) (srO_ N1 R) := ⟨(srO_2 _ _).trans b2, (srO_1 _ _).trans b1⟩
  generalize srO_ N1 R = N2 at h4 h5 h6 c2 l2 ⊢
  refine w_aload_n X dX10_readMethod_14 rfl rfl ?_
  refine g10_7 X dX10_readMethod_15 s_38 rfl ?_
  refine w_v0fL X dX10_readMethod_18 k10_33 rfl s_37 (c7_takeName G hG (d + 904) N2) (Nat.le_of_ble_eq_true rfl) ?_
  rw [h6]
  have l3 := LS_tN l2 h4 (by omega)
  rw [h5] at l3
  have c3 := c37_tr c2 (c37_tN (M := N2))
  generalize tN_ N2 = N3 at l3 c3 ⊢
  have l3b : LS_ Q1 N3 := by
    rw [← hQ1]
    unfold mq1_
    rw [hR]
    exact l3
  clear l3
  refine w_lstore_n X dX10_readMethod_21 rfl (by decide) ?_
  refine w_aload_n X dX10_readMethod_22 rfl rfl ?_
  refine g10_7 X dX10_readMethod_23 s_38 rfl ?_
  refine w_bipush (v := 40) X dX10_readMethod_26 (by decide) ?_
  refine w_v1fV X dX10_readMethod_28 k10_37 rfl s_37 (c7_expect G hG (d + 903) N3 n (c37_tp c3 ht) 40) (Nat.le_of_ble_eq_true rfl) ?_
  have l4 := LS_ep (c := 40) l3b
  rw [c37_tb c3] at l4
  have c4 := c37_tr c3 (c37_ep (M := N3) (c := 40))
  generalize ep_ N3 40 = N4 at l4 c4 ⊢
  refine w_aload_n X dX10_readMethod_31 rfl rfl ?_
  refine w_v0fI X dX10_readMethod_32 k10_41 rfl s_38 (c10_parameters G hG (d + 903) N4 n (c37_tp c4 ht)) (Nat.le_of_ble_eq_true rfl) ?_
  have hv := LS_pv l4
  rw [c37_tb c4] at hv
  rw [hv]
  have l5 := LS_pm l4
  rw [c37_tb c4] at l5
  have c5 := c37_tr c4 (c37_pm (M := N4))
  generalize (pm_ N4).2 = N5 at l5 c5 ⊢
  refine w_istore X dX10_readMethod_35 (by decide) ?_
  refine w_aload_n X dX10_readMethod_37 rfl rfl ?_
  refine g10_7 X dX10_readMethod_38 s_38 rfl ?_
  refine w_bipush (v := 41) X dX10_readMethod_41 (by decide) ?_
  refine w_v1fV X dX10_readMethod_43 k10_37 rfl s_37 (c7_expect G hG (d + 903) N5 n (c37_tp c5 ht) 41) (Nat.le_of_ble_eq_true rfl) ?_
  have l6 := LS_ep (c := 41) l5
  rw [c37_tb c5] at l6
  have c6 := c37_tr c5 (c37_ep (M := N5) (c := 41))
  generalize ep_ N5 41 = N6 at l6 c6 ⊢
  refine w_aload_n X dX10_readMethod_46 rfl rfl ?_
  refine g10_7 X dX10_readMethod_47 s_38 rfl ?_
  refine w_bipush (v := 61) X dX10_readMethod_50 (by decide) ?_
  refine w_v1fV X dX10_readMethod_52 k10_37 rfl s_37 (c7_expect G hG (d + 903) N6 n (c37_tp c6 ht) 61) (Nat.le_of_ble_eq_true rfl) ?_
  have l7 := LS_ep (c := 61) l6
  rw [c37_tb c6] at l7
  have c7 := c37_tr c6 (c37_ep (M := N6) (c := 61))
  generalize ep_ N6 61 = N7 at l7 c7 ⊢
  refine w_aload_n X dX10_readMethod_55 rfl rfl ?_
  refine g10_21 X dX10_readMethod_56 s_38 rfl ?_
  refine w_aload_n X dX10_readMethod_59 rfl rfl ?_
  refine w_iload X dX10_readMethod_60 rfl ?_
  refine w_iconst (v := 1) X dX10_readMethod_62 (by decide) ?_
  refine w_v3rV X dX10_readMethod_63 k10_45 rfl s_39 (c1_read G hG d N7 n (c37_tp c7 ht) k hk0 (pv_ (tb_ M) (qe2_ (tb_ M) 40 Q1)) true _ l7 i7) (Nat.le_of_ble_eq_true rfl) (fun N63 h63 => ?_)
  rw [c37_tb c7] at h63
  rw [← hmx] at h63
  generalize hX : mx_ (tb_ M) = X9 at h63
  obtain ⟨r1, r2, r3, r4⟩ := h63
  refine w_aload_n X dX10_readMethod_66 rfl rfl ?_
  refine w_v0fV X dX10_readMethod_67 k10_49 rfl s_38 (c10_expectEnd G hG (d + 903) N63 n (cr_tp hk r1 (c37_tp c7 ht))) (Nat.le_of_ble_eq_true rfl) ?_
  refine w_lload_n X dX10_readMethod_70 rfl rfl ?_
  refine w_iload X dX10_readMethod_71 rfl ?_
  refine w_s2fL X dX10_readMethod_73 k10_52 (c6_key G hG (d + 905) _ _ _) (Nat.le_of_ble_eq_true rfl) ?_
  have l8 := LS_xE r2
  rw [cr_tb hk r1, c37_tb c7] at l8
  have hk2 := hk
  unfold kb_ at hk2
  refine w_lrR X dX10_readMethod_76 ?_
  unfold RM_
  rw [hX, hpv, hR]
  refine ⟨cr_tr (c37_cr c7) (cr_tr r1 (c37_cr c37_xE)), l8, ?_, rfl, fun x hx => ?_⟩
  · obtain ⟨L9, h1, h2⟩ := r3
    exact ⟨L9, h1, by rw [c37_xE.2.1 _ _ (by omega)]; exact h2⟩
  · obtain ⟨g1, g2, g3⟩ := r4 x hx
    exact ⟨hd_37 hk c37_xE g2, g3⟩
