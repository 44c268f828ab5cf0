/-! choice -/
theorem set_mid2 {α : Type} (A B D : List α) (x y : α) : (A ++ [x] ++ B ++ D).set A.length y = A ++ [y] ++ B ++ D := by
  simp only [List.append_assoc]
  rw [List.set_append_right _ _ (Nat.le_refl _), Nat.sub_self]
  rfl
theorem get_mid2 {α : Type} (A B D : List α) (x : α) : (A ++ [x] ++ B ++ D)[A.length]? = some x := by
  simp only [List.append_assoc]
  rw [List.getElem?_append_right (Nat.le_refl _), Nat.sub_self]
  rfl
set_option maxRecDepth 100000 in
set_option maxHeartbeats 800000 in
theorem x_choice (G : gg_) (hG : gd_ G) (k n : Nat) (v : Int32) (nm : Bool) (t : Nat) (hj : XJ_ G k n v nm t 3) (he : XE_ G k n v nm t) (hx : XC_ G k n v nm t) : XC_ G k n v nm (t + 1) := by
  intro D M p m o C H hD hE hS hp hm ho hC hB
  have hk := cd_kb hE.1
  have hk2 := hk
  unfold kb_ at hk2
  have hn2 := hE.2.1.1
  obtain ⟨d, rfl⟩ : ∃ d, D = d + 16 := ⟨D - 16, by omega⟩
  refine cm_of hG (by decide) (Nat.le_of_ble_eq_true rfl) (fun C9 X => ?_)
  have tf68 : ∀ (a1 a2 : Nat) (N : mm_), a2 ≤ 26 → cf_ k M N → FT_ k N → wq_ C9 G (qe_ C9 G (rV_ (PR_ k n M p m o C H none))) 68 [some (.ref (G.1 39)), some (.int (nI a1)), some (.int (nI a2))] [] N := by
    intro a1 a2 N h2 hc hf
    refine w_aload_n X dX1_choice_68 rfl rfl ?_
    refine r1_13 X dX1_choice_69 s_39 rfl ((by rw [hc.1]; exact hE.2.2.1)) ?_
    refine w_iload_n X dX1_choice_72 rfl rfl ?_
    refine w_v1fV X dX1_choice_73 k1_61 rfl hE.1.1 (c0_leadHere G hG _ _ k hE.1 a2 h2) (Nat.le_of_ble_eq_true rfl) ?_
    exact w_vrR X dX1_choice_76 (PR_none (cf_tr hc cf_lh) (rFlh hf))
  have tf64 : ∀ (a1 a2 : Nat) (N : mm_), a2 ≤ 26 → cf_ k M N → FT_ k N → wq_ C9 G (qe_ C9 G (rV_ (PR_ k n M p m o C H none))) 64 [some (.ref (G.1 39)), some (.int (nI a1)), some (.int (nI a2))] [] N := by
    intro a1 a2 N h2 hc hf
    refine w_aload_n X dX1_choice_64 rfl rfl ?_
    refine w_v0fV X dX1_choice_65 k1_45 rfl s_39 (f1_choice G hG _ _ n (cf_tp hk hc hE.2.1) hf.1) (Nat.le_of_ble_eq_true rfl) ?_
    exact tf68 a1 a2 _ h2 (cf_tr hc (cf_oF hk)) (rFoF hk hf)
  have tf46 : ∀ (a1 : Nat) (w : Option Value) (N : mm_), a1 ≤ 26 → cf_ k M N → FT_ k N → wq_ C9 G (qe_ C9 G (rV_ (PR_ k n M p m o C H none))) 46 [some (.ref (G.1 39)), some (.int (nI a1)), w] [] N := by
    intro a1 w N h1 hc hf
    have hf2 := hf
    obtain ⟨hf3, L9, hl, hL⟩ := hf2
    refine w_aload_n X dX1_choice_46 rfl rfl ?_
    refine r1_13 X dX1_choice_47 s_39 rfl ((by rw [hc.1]; exact hE.2.2.1)) ?_
    refine w_iconst (v := 5) X dX1_choice_50 (by decide) ?_
    refine w_lconst (v := 0) X dX1_choice_51 (by decide) ?_
    refine w_v2fI X dX1_choice_52 k1_68 rfl hE.1.1 (c0_add G hG _ _ k hE.1 L9 hL hl _ _) (Nat.le_of_ble_eq_true rfl) ?_
    refine w_istore_n X dX1_choice_55 rfl (by decide) ?_
    refine w_aload_n X dX1_choice_56 rfl rfl ?_
    refine r1_13 X dX1_choice_57 s_39 rfl ((by rw [(cf_tr hc (cf_ad (p := 5) (o := 0) (n := L9) hk)).1]; exact hE.2.2.1)) ?_
    refine w_iload_n X dX1_choice_60 rfl rfl ?_
    refine w_v1fV X dX1_choice_61 k1_61 rfl hE.1.1 (c0_leadHere G hG _ _ k hE.1 a1 h1) (Nat.le_of_ble_eq_true rfl) ?_
    exact tf64 a1 L9 _ hl (cf_tr (cf_tr hc (cf_ad hk)) cf_lh) (rFlh (rFad hk hf hL hl))
  have tf37 : ∀ (a1 : Nat) (w : Option Value) (N : mm_), a1 ≤ 26 → cf_ k M N → FT_ k N → wq_ C9 G (qe_ C9 G (rV_ (PR_ k n M p m o C H none))) 37 [some (.ref (G.1 39)), some (.int (nI a1)), w] [] N := by
    intro a1 w N h1 hc hf
    refine w_aload_n X dX1_choice_37 rfl rfl ?_
    refine g1_7 X dX1_choice_38 s_39 rfl ?_
    refine w_bipush (v := 58) X dX1_choice_41 (by decide) ?_
    refine w_v1fV X dX1_choice_43 k1_72 rfl s_37 (c7_expect G hG _ _ n (cf_tp hk hc hE.2.1) _) (Nat.le_of_ble_eq_true rfl) ?_
    exact tf46 a1 w _ h1 (cf_tr hc (cf_ep hk)) (rFep hk hf)
  show wq_ C9 G (qe_ C9 G (rV_ (PR_ k n M p m o C H (z2_ (pz2_ (tb_ M) v nm t) (tb_ M) p m o)))) _ _ _ _
  unfold z2_
  have hct := hj (d + 15) M p m o C H (by omega) hE hS hp hm ho hC (by omega)
  refine w_aload_n X dX1_choice_0 rfl rfl ?_
  refine w_iconst (v := nI 3) X dX1_choice_1 (by decide) ?_
  refine w_v1rV X dX1_choice_2 k1_65 rfl s_39 hct (Nat.le_of_ble_eq_true rfl) (fun N h => ?_)
  cases hz : pz2_ (tb_ M) v nm t 3 none p m o with
  | none =>
    rw [hz] at h
    refine w_aload_n X dX1_choice_5 rfl rfl ?_
    refine g1_7 X dX1_choice_6 s_39 rfl ?_
    refine w_v0fI X dX1_choice_9 k1_48 rfl s_37 (c7_peek G hG _ _ n (cf_tp hk h.1 hE.2.1)) (Nat.le_of_ble_eq_true rfl) ?_
    rw [pe_F h.2.1]
    refine w_bipush (v := 63) X dX1_choice_12 (by decide) ?_
    refine w_icmp_eq (tgt := 18) X dX1_choice_14 (by decide) (fun h14 => absurd h14 (by decide)) (fun h14 => ?_)
    exact w_vrR X dX1_choice_17 h
  | some a =>
    rw [hz] at h
    obtain ⟨hc, hs, q1, q2, q3, q4, q5, q6⟩ := PR_get h
    have hEN := PE_cf hE hc
    have hT := gpe hs
    rw [cf_tb hk hc] at hT
    simp only
    refine w_aload_n X dX1_choice_5 rfl rfl ?_
    refine g1_7 X dX1_choice_6 s_39 rfl ?_
    refine w_v0fI X dX1_choice_9 k1_48 rfl s_37 (c7_peek G hG _ _ n hEN.2.1) (Nat.le_of_ble_eq_true rfl) ?_
    rw [hT]
    refine w_bipush (v := 63) X dX1_choice_12 (by decide) ?_
    refine w_icmp_eq (tgt := 18) X dX1_choice_14 (by decide) (fun h14 => ?_) (fun h14 => ?_)
    · rw [if_pos h14]
      have hpn := tb_lt hE.2.1 (by omega : a.2.1 ≤ 300) (by rw [h14]; decide)
      have hc1 := cf_tr hc (cf_tS (M := N) hk)
      refine w_aload_n X dX1_choice_18 rfl rfl ?_
      refine w_v0fI X dX1_choice_19 k1_54 rfl s_39 (c1_takeSign G hG _ _ n hEN.2.1) (Nat.le_of_ble_eq_true rfl) ?_
      refine w_pop X dX1_choice_22 rfl ?_
      by_cases h20 : a.2.2 < 20
      · rw [if_pos h20]
        have hs1 := gtS hk hs h20
        have hs2 := gad (q := 4) (d := 0) hk hs1 (by omega) (by decide)
        rw [show rsX_ 4 0 = -1 by decide, i1_1] at hs2
        have hc2 := cf_tr hc1 (cf_ad (p := 4) (o := 0) (n := (C ++ cqX_ a.1 C.length H).length) hk)
        have hl2 : (C ++ cqX_ a.1 C.length H ++ [((4 : Int32), (0 : Int64), (0 : Int32), H)]).length = C.length + snX_ a.1 + 1 := by rw [List.length_append, q6]; rfl
        have hct2 := he (d + 15) _ (a.2.1 + 1) (a.2.2 + 1) o _ H (by omega) (PE_cf hE hc2) hs2 (by omega) (by omega) ho (by omega) (by omega)
        rw [cf_tb hk hc2] at hct2
        refine w_aload_n X dX1_choice_23 rfl rfl ?_
        refine r1_13 X dX1_choice_24 s_39 rfl ((by rw [hc1.1]; exact hE.2.2.1)) ?_
        refine w_iconst (v := 4) X dX1_choice_27 (by decide) ?_
        refine w_lconst (v := 0) X dX1_choice_28 (by decide) ?_
        refine w_v2fI X dX1_choice_29 k1_68 rfl hE.1.1 (c0_add G hG _ _ k hE.1 _ hs1.2.2.2.2.2.1.1 (by omega) _ _) (Nat.le_of_ble_eq_true rfl) ?_
        refine w_istore_n X dX1_choice_32 rfl (by decide) ?_
        refine w_aload_n X dX1_choice_33 rfl rfl ?_
        refine w_v0rV X dX1_choice_34 k1_39 rfl s_39 hct2 (Nat.le_of_ble_eq_true rfl) (fun N2 h => ?_)
        have hc3 := cf_tr hc2 h.1
        cases hz2 : pz2_ (tb_ M) v nm t 1 none (a.2.1 + 1) (a.2.2 + 1) o with
        | none =>
          rw [hz2] at h
          exact tf37 _ _ _ (by omega) hc3 h.2
        | some x =>
          rw [hz2] at h
          obtain ⟨-, hs3, y1, y2, y3, y4, y5, y6⟩ := PR_get h
          have hEN2 := PE_cf hE hc3
          have hT2 := gpe hs3
          rw [cf_tb hk hc3] at hT2
          simp only
          refine w_aload_n X dX1_choice_37 rfl rfl ?_
          refine g1_7 X dX1_choice_38 s_39 rfl ?_
          refine w_bipush (v := 58) X dX1_choice_41 (by decide) ?_
          refine w_v1fV X dX1_choice_43 k1_72 rfl s_37 (c7_expect G hG _ _ n hEN2.2.1 _) (Nat.le_of_ble_eq_true rfl) ?_
          have hc4 := cf_tr hc3 (cf_ep (c := 58) hk)
          by_cases h58 : tb_ M (nI x.2.1) = 58
          · rw [if_pos h58]
            have hpn2 := tb_lt hE.2.1 (by omega : x.2.1 ≤ 300) (by rw [h58]; decide)
            have hs4 := g37 (p2 := x.2.1 + 1) hk hs3
            rw [show sI_ N2 37 1 (nI (x.2.1 + 1)) = ep_ N2 58 by unfold ep_; rw [if_pos (hT2.trans h58), hs3.2.1, nI_1]] at hs4
            have hs5 := gad (q := 5) (d := 0) hk hs4 (by omega) (by decide)
            rw [show rsX_ 5 0 = -1 by decide, i1_1] at hs5
            have hc5 := cf_tr hc4 (cf_ad (p := 5) (o := 0) (n := (C ++ cqX_ a.1 C.length H ++ [((4 : Int32), (0 : Int64), (0 : Int32), H)] ++ cqX_ x.1 (C ++ cqX_ a.1 C.length H ++ [((4 : Int32), (0 : Int64), (0 : Int32), H)]).length H).length) hk)
            have hle : (C ++ cqX_ a.1 C.length H ++ [((4 : Int32), (0 : Int64), (0 : Int32), H)] ++ cqX_ x.1 (C ++ cqX_ a.1 C.length H ++ [((4 : Int32), (0 : Int64), (0 : Int32), H)]).length H ++ [((5 : Int32), (0 : Int64), (0 : Int32), H)]).length = C.length + snX_ a.1 + 1 + snX_ x.1 + 1 := by rw [List.length_append, y6, hl2]; rfl
            obtain ⟨A5, hA5⟩ : ∃ A5, A5 = C ++ cqX_ a.1 C.length H ++ [((4 : Int32), lN (C.length + snX_ a.1 + 1 + snX_ x.1 + 1), (0 : Int32), H)] ++ cqX_ x.1 (C.length + snX_ a.1 + 1) H := ⟨_, rfl⟩
            have hla : A5.length = C.length + snX_ a.1 + 1 + snX_ x.1 := by rw [hA5]; simp [cq_len]; omega
            have hs6 := glh (a := (C ++ cqX_ a.1 C.length H).length) hk hs5 (get_mid2 _ _ _ _) (by rw [hle]; omega)
            rw [set_mid2] at hs6
            have hs7 : ST_ k _ (x.2.1 + 1) x.2.2 o (C ++ cqX_ a.1 C.length H ++ [((4 : Int32), lN (C ++ cqX_ a.1 C.length H ++ [((4 : Int32), (0 : Int64), (0 : Int32), H)] ++ cqX_ x.1 (C ++ cqX_ a.1 C.length H ++ [((4 : Int32), (0 : Int64), (0 : Int32), H)]).length H ++ [((5 : Int32), (0 : Int64), (0 : Int32), H)]).length, (0 : Int32), H)] ++ cqX_ x.1 (C ++ cqX_ a.1 C.length H ++ [((4 : Int32), (0 : Int64), (0 : Int32), H)]).length H ++ [((5 : Int32), (0 : Int64), (0 : Int32), H)]) H := hs6
            rw [show C ++ cqX_ a.1 C.length H ++ [((4 : Int32), lN (C ++ cqX_ a.1 C.length H ++ [((4 : Int32), (0 : Int64), (0 : Int32), H)] ++ cqX_ x.1 (C ++ cqX_ a.1 C.length H ++ [((4 : Int32), (0 : Int64), (0 : Int32), H)]).length H ++ [((5 : Int32), (0 : Int64), (0 : Int32), H)]).length, (0 : Int32), H)] ++ cqX_ x.1 (C ++ cqX_ a.1 C.length H ++ [((4 : Int32), (0 : Int64), (0 : Int32), H)]).length H ++ [((5 : Int32), (0 : Int64), (0 : Int32), H)] = A5 ++ [((5 : Int32), (0 : Int64), (0 : Int32), H)] by rw [hA5, hle, hl2]] at hs7
            have hc6 := cf_tr hc5 (cf_lh (n := (C ++ cqX_ a.1 C.length H).length))
            have hl5 : (A5 ++ [((5 : Int32), (0 : Int64), (0 : Int32), H)]).length = C.length + snX_ a.1 + 1 + snX_ x.1 + 1 := by rw [List.length_append, hla]; rfl
            refine w_aload_n X dX1_choice_46 rfl rfl ?_
            refine r1_13 X dX1_choice_47 s_39 rfl ((by rw [hc4.1]; exact hE.2.2.1)) ?_
            refine w_iconst (v := 5) X dX1_choice_50 (by decide) ?_
            refine w_lconst (v := 0) X dX1_choice_51 (by decide) ?_
            refine w_v2fI X dX1_choice_52 k1_68 rfl hE.1.1 (c0_add G hG _ _ k hE.1 _ hs4.2.2.2.2.2.1.1 (by omega) _ _) (Nat.le_of_ble_eq_true rfl) ?_
            refine w_istore_n X dX1_choice_55 rfl (by decide) ?_
            refine w_aload_n X dX1_choice_56 rfl rfl ?_
            refine r1_13 X dX1_choice_57 s_39 rfl ((by rw [hc5.1]; exact hE.2.2.1)) ?_
            refine w_iload_n X dX1_choice_60 rfl rfl ?_
            refine w_v1fV X dX1_choice_61 k1_61 rfl hE.1.1 (c0_leadHere G hG _ _ k hE.1 (C ++ cqX_ a.1 C.length H).length (by omega)) (Nat.le_of_ble_eq_true rfl) ?_
            have hct3 := hx (d + 15) _ (x.2.1 + 1) x.2.2 o (A5 ++ [((5 : Int32), (0 : Int64), (0 : Int32), H)]) H (by omega) (PE_cf hE hc6) hs7 (by omega) (by omega) ho (by omega) (by omega)
            rw [cf_tb hk hc6] at hct3
            refine w_aload_n X dX1_choice_64 rfl rfl ?_
            refine w_v0rV X dX1_choice_65 k1_45 rfl s_39 hct3 (Nat.le_of_ble_eq_true rfl) (fun N3 h => ?_)
            have hc7 := cf_tr hc6 h.1
            rw [show (C ++ cqX_ a.1 C.length H ++ [((4 : Int32), (0 : Int64), (0 : Int32), H)] ++ cqX_ x.1 (C ++ cqX_ a.1 C.length H ++ [((4 : Int32), (0 : Int64), (0 : Int32), H)]).length H).length = C.length + snX_ a.1 + 1 + snX_ x.1 by rw [y6, hl2]]
            cases hz3 : pz2_ (tb_ M) v nm t 2 none (x.2.1 + 1) x.2.2 o with
            | none =>
              rw [hz3] at h
              exact tf68 _ _ _ (by omega) hc7 h.2
            | some c =>
              rw [hz3] at h
              obtain ⟨-, hs8, u1, u2, u3, u4, u5, u6⟩ := PR_get h
              have hs9 := glh (a := A5.length) hk hs8 (get_mid _ _ _) (by omega)
              rw [set_mid] at hs9
              have e9 : A5 ++ ((5 : Int32), lN (A5 ++ [((5 : Int32), (0 : Int64), (0 : Int32), H)] ++ cqX_ c.1 (A5 ++ [((5 : Int32), (0 : Int64), (0 : Int32), H)]).length H).length, (0 : Int32), H) :: cqX_ c.1 (A5 ++ [((5 : Int32), (0 : Int64), (0 : Int32), H)]).length H = C ++ cqX_ (.mul a.1 (.div x.1 c.1)) C.length H := by
                rw [u6, hl5, hA5]
                simp [cqX_]
              have hs10 : ST_ k (lh2_ N3 k A5.length) c.2.1 c.2.2 o (A5 ++ ((5 : Int32), lN (A5 ++ [((5 : Int32), (0 : Int64), (0 : Int32), H)] ++ cqX_ c.1 (A5 ++ [((5 : Int32), (0 : Int64), (0 : Int32), H)]).length H).length, (0 : Int32), H) :: cqX_ c.1 (A5 ++ [((5 : Int32), (0 : Int64), (0 : Int32), H)]).length H) (H + 1) := hs9
              rw [e9, hla] at hs10
              refine w_aload_n X dX1_choice_68 rfl rfl ?_
              refine r1_13 X dX1_choice_69 s_39 rfl ((by rw [hc7.1]; exact hE.2.2.1)) ?_
              refine w_iload_n X dX1_choice_72 rfl rfl ?_
              refine w_v1fV X dX1_choice_73 k1_61 rfl hE.1.1 (c0_leadHere G hG _ _ k hE.1 (C.length + snX_ a.1 + 1 + snX_ x.1) (by omega)) (Nat.le_of_ble_eq_true rfl) ?_
              exact w_vrR X dX1_choice_76 (PR_some (cf_tr hc7 cf_lh) hs10 (by omega) (by omega) (by omega) (by omega) (by rw [snX_]; omega))
          · rw [if_neg h58]
            have hf4 : FT_ k (ep_ N2 58) := by
              unfold ep_
              rw [if_neg (fun z => h58 (hT2.symm.trans z))]
              exact rF37 hk (gfi hk hs3 (by decide) (by omega)) (by decide)
            exact tf46 _ _ _ (by omega) hc4 hf4
      · rw [if_neg h20]
        have hf1 := gtS0 hk hs h20 q4 (by omega)
        have hf2 := hf1
        obtain ⟨hf3, L9, hl, hL⟩ := hf2
        refine w_aload_n X dX1_choice_23 rfl rfl ?_
        refine r1_13 X dX1_choice_24 s_39 rfl ((by rw [hc1.1]; exact hE.2.2.1)) ?_
        refine w_iconst (v := 4) X dX1_choice_27 (by decide) ?_
        refine w_lconst (v := 0) X dX1_choice_28 (by decide) ?_
        refine w_v2fI X dX1_choice_29 k1_68 rfl hE.1.1 (c0_add G hG _ _ k hE.1 L9 hL hl _ _) (Nat.le_of_ble_eq_true rfl) ?_
        refine w_istore_n X dX1_choice_32 rfl (by decide) ?_
        have hc2 := cf_tr hc1 (cf_ad (p := 4) (o := 0) (n := L9) hk)
        have hf4 := rFad (p := 4) (o := 0) hk hf1 hL hl
        refine w_aload_n X dX1_choice_33 rfl rfl ?_
        refine w_v0fV X dX1_choice_34 k1_39 rfl s_39 (f1_expression G hG _ _ n (cf_tp hk hc2 hE.2.1) hf4.1 k hE.1 (by rw [hc2.1]; exact hE.2.2.1)) (Nat.le_of_ble_eq_true rfl) ?_
        exact tf37 _ _ _ hl (cf_tr hc2 (cf_oF hk)) (rFoF hk hf4)
    · refine w_vrR X dX1_choice_17 ?_
      rw [if_neg h14]
      exact h

