/-! expression and choice -/
set_option maxRecDepth 100000 in
set_option maxHeartbeats 800000 in
theorem x_expression (G : gg_) (hG : gd_ G) (k n : Nat) (v : Int32) (nm : Bool) (t : Nat) (hu : ∀ u, u ≤ t → XC_ G k n v nm u) : XE_ G k n v nm (t + 1) := by
  intro D M p m o C H hD hE hS hp hm ho hC hB
  have hk := cd_kb hE.1
  have hk2 := hk
  unfold kb_ at hk2
  have hn2 := hE.2.1.1
  obtain ⟨d, rfl⟩ : ∃ d, D = d + 16 := ⟨D - 16, by omega⟩
  refine cm_of hG (by decide) (Nat.le_of_ble_eq_true rfl) (fun C9 X => ?_)
  have lf : ∀ (st i : Int32) (w : Option Value) (N : mm_), cf_ k M N → FT_ k N → wq_ C9 G (qe_ C9 G (rV_ (PR_ k n M p m o C H none))) 14 [some (.ref (G.1 39)), some (.int st), some (.int i), w] [] N := by
    intro st i w N hc hf
    refine w_iload_n X dX1_expression_14 rfl rfl ?_
    refine w_bipush (v := 20) X dX1_expression_15 (by decide) ?_
    refine w_icmp_ge (tgt := 64) X dX1_expression_17 (by decide) (fun h17 => ?_) (fun h17 => ?_)
    · exact w_vrR X dX1_expression_64 (PR_none hc hf)
    · refine w_aload_n X dX1_expression_20 rfl rfl ?_
      refine g1_7 X dX1_expression_21 s_39 rfl ?_
      refine w_v0fI X dX1_expression_24 k1_48 rfl s_37 (c7_peek G hG _ _ n (cf_tp hk hc hE.2.1)) (Nat.le_of_ble_eq_true rfl) ?_
      rw [pe_F hf.1]
      refine w_bipush (v := 35) X dX1_expression_27 (by decide) ?_
      refine w_icmp_ne (tgt := 64) X dX1_expression_29 (by decide) (fun h29 => ?_) (fun h29 => ?_)
      · exact w_vrR X dX1_expression_64 (PR_none hc hf)
      · exact absurd h29 (by decide)
  have lp : ∀ (u : Nat) (e : Term) (p2 m2 i : Nat) (w : Option Value) (N : mm_), u ≤ t → cf_ k M N → ST_ k N p2 m2 o (C ++ cqX_ e C.length H) (H + 1) → p < p2 → p2 ≤ n → m < m2 → m2 ≤ 20 → 3 * snX_ e + 1 ≤ 4 * (m2 - m) → i < m2 → 9 * ((20 - m2) + (12 - o)) + 9 ≤ u → wq_ C9 G (qe_ C9 G (rV_ (PR_ k n M p m o C H (pz2_ (tb_ M) v nm u 1 (some e) p2 m2 o)))) 14 [some (.ref (G.1 39)), some (.int (nI C.length)), some (.int (nI i)), w] [] N := by
    intro u
    induction u with
    | zero => intro e p2 m2 i w N h1 hc hs g1 g2 g3 g4 g5 g6 g7; omega
    | succ u ih =>
      intro e p2 m2 i w N h1 hc hs g1 g2 g3 g4 g5 g6 g7
      have hT := gpe hs
      rw [cf_tb hk hc] at hT
      have hEN := PE_cf hE hc
      have hln : (C ++ cqX_ e C.length H).length = C.length + snX_ e := by rw [List.length_append, cq_len]
      refine w_iload_n X dX1_expression_14 rfl rfl ?_
      refine w_bipush (v := 20) X dX1_expression_15 (by decide) ?_
      refine w_icmp_ge (tgt := 64) X dX1_expression_17 (by decide) (fun h17 => absurd h17 (nI_ge (a := i) (b := 20) (by omega) (by decide))) (fun h17 => ?_)
      refine w_aload_n X dX1_expression_20 rfl rfl ?_
      refine g1_7 X dX1_expression_21 s_39 rfl ?_
      refine w_v0fI X dX1_expression_24 k1_48 rfl s_37 (c7_peek G hG _ _ n hEN.2.1) (Nat.le_of_ble_eq_true rfl) ?_
      rw [hT]
      refine w_bipush (v := 35) X dX1_expression_27 (by decide) ?_
      refine w_icmp_ne (tgt := 64) X dX1_expression_29 (by decide) (fun h29 => ?_) (fun h29 => ?_)
      · refine w_vrR X dX1_expression_64 ?_
        show PR_ k n M p m o C H (z1_ (pz2_ (tb_ M) v nm u) (tb_ M) (some e) p2 m2 o) _
        unfold z1_
        simp only
        rw [if_neg h29]
        exact PR_some hc hs (by omega) (by omega) (by omega) (by omega) (by omega)
      · have hpn := tb_lt hE.2.1 (by omega : p2 ≤ 300) (by rw [h29]; decide)
        have hb9 := cf_tS (M := N) hk
        show wq_ C9 G (qe_ C9 G (rV_ (PR_ k n M p m o C H (z1_ (pz2_ (tb_ M) v nm u) (tb_ M) (some e) p2 m2 o)))) _ _ _ _
        unfold z1_
        simp only
        rw [if_pos h29]
        refine w_aload_n X dX1_expression_32 rfl rfl ?_
        refine w_v0fI X dX1_expression_33 k1_54 rfl s_39 (c1_takeSign G hG _ _ n hEN.2.1) (Nat.le_of_ble_eq_true rfl) ?_
        refine w_pop X dX1_expression_36 rfl ?_
        by_cases h20 : m2 < 20
        · rw [if_pos h20]
          have hs1 := gtS hk hs h20
          have hc1 := cf_tr hc hb9
          have hs2 := gae (x := nI C.length) hk hs1 (by omega)
          rw [i1_1] at hs2
          have hc2 := cf_tr hc1 (cf_ae (x := nI C.length) (n := (C ++ cqX_ e C.length H).length) hk)
          have hl2 : (C ++ cqX_ e C.length H ++ [((6 : Int32), (0 : Int64), nI C.length, H)]).length = C.length + snX_ e + 1 := by rw [List.length_append, hln]; rfl
          have hct := hu u (by omega) (d + 15) _ (p2 + 1) (m2 + 1) o _ H (by omega) (PE_cf hE hc2) hs2 (by omega) (by omega) ho (by omega) (by omega)
          rw [cf_tb hk hc2] at hct
          refine w_aload_n X dX1_expression_37 rfl rfl ?_
          refine r1_13 X dX1_expression_38 s_39 rfl ((by rw [hc1.1]; exact hE.2.2.1)) ?_
          refine w_iload_n X dX1_expression_41 rfl rfl ?_
          refine w_v1fI X dX1_expression_42 k1_57 rfl hE.1.1 (c0_addOrElse G hG _ _ k hE.1 _ hs1.2.2.2.2.2.1.1 (by omega) _) (Nat.le_of_ble_eq_true rfl) ?_
          refine w_istore_n X dX1_expression_45 rfl (by decide) ?_
          refine w_aload_n X dX1_expression_46 rfl rfl ?_
          refine w_v0rV X dX1_expression_47 k1_45 rfl s_39 hct (Nat.le_of_ble_eq_true rfl) (fun N2 h => ?_)
          have hc3 := cf_tr hc2 h.1
          cases hz : pz2_ (tb_ M) v nm u 2 none (p2 + 1) (m2 + 1) o with
          | none =>
            rw [hz] at h
            have hf : FT_ k N2 := h.2
            refine w_aload_n X dX1_expression_50 rfl rfl ?_
            refine r1_13 X dX1_expression_51 s_39 rfl ((by rw [hc3.1]; exact hE.2.2.1)) ?_
            refine w_iload_n X dX1_expression_54 rfl rfl ?_
            refine w_v1fV X dX1_expression_55 k1_61 rfl hE.1.1 (c0_leadHere G hG _ _ k hE.1 (C ++ cqX_ e C.length H).length (by omega)) (Nat.le_of_ble_eq_true rfl) ?_
            refine w_iinc (v := 1) X dX1_expression_58 rfl (by decide) (by decide) ?_
            refine w_goto (tgt := 14) X dX1_expression_61 (by decide) ?_
            exact lf _ _ _ _ (cf_tr hc3 cf_lh) (rFlh hf)
          | some x =>
            rw [hz] at h
            obtain ⟨-, hs3, q1, q2, q3, q4, q5, q6⟩ := PR_get h
            have g9 := glh (a := (C ++ cqX_ e C.length H).length) hk hs3 (get_mid _ _ _) (by omega)
            rw [set_mid] at g9
            refine w_aload_n X dX1_expression_50 rfl rfl ?_
            refine r1_13 X dX1_expression_51 s_39 rfl ((by rw [hc3.1]; exact hE.2.2.1)) ?_
            refine w_iload_n X dX1_expression_54 rfl rfl ?_
            refine w_v1fV X dX1_expression_55 k1_61 rfl hE.1.1 (c0_leadHere G hG _ _ k hE.1 (C ++ cqX_ e C.length H).length (by omega)) (Nat.le_of_ble_eq_true rfl) ?_
            refine w_iinc (v := 1) X dX1_expression_58 rfl (by decide) (by decide) ?_
            refine w_goto (tgt := 14) X dX1_expression_61 (by decide) ?_
            have e9 : C ++ cqX_ e C.length H ++ (6, lN (C ++ cqX_ e C.length H ++ [((6 : Int32), (0 : Int64), nI C.length, H)] ++ cqX_ x.1 (C ++ cqX_ e C.length H ++ [((6 : Int32), (0 : Int64), nI C.length, H)]).length H).length, nI C.length, H) :: cqX_ x.1 (C ++ cqX_ e C.length H ++ [((6 : Int32), (0 : Int64), nI C.length, H)]).length H = C ++ cqX_ (.rem e x.1) C.length H := by
              rw [q6, hl2, cqX_, List.append_assoc]
            rw [e9] at g9
            rw [nI_1]
            exact ih _ _ _ (i + 1) _ _ (by omega) (cf_tr hc3 cf_lh) g9 (by omega) (by omega) (by omega) (by omega) (by rw [snX_]; omega) (by omega) (by omega)
        · rw [if_neg h20]
          have hf1 := gtS0 hk hs h20 g4 (by omega)
          have hc1 := cf_tr hc hb9
          have hf2 := hf1
          obtain ⟨hf3, L9, hl, hL⟩ := hf2
          refine w_aload_n X dX1_expression_37 rfl rfl ?_
          refine r1_13 X dX1_expression_38 s_39 rfl ((by rw [hc1.1]; exact hE.2.2.1)) ?_
          refine w_iload_n X dX1_expression_41 rfl rfl ?_
          refine w_v1fI X dX1_expression_42 k1_57 rfl hE.1.1 (c0_addOrElse G hG _ _ k hE.1 L9 hL hl _) (Nat.le_of_ble_eq_true rfl) ?_
          refine w_istore_n X dX1_expression_45 rfl (by decide) ?_
          have hc2 := cf_tr hc1 (cf_ae (x := nI C.length) (n := L9) hk)
          have hf4 := rFae (x := nI C.length) hk hf1 hL hl
          refine w_aload_n X dX1_expression_46 rfl rfl ?_
          refine w_v0fV X dX1_expression_47 k1_45 rfl s_39 (f1_choice G hG _ _ n (cf_tp hk hc2 hE.2.1) hf4.1) (Nat.le_of_ble_eq_true rfl) ?_
          have hc3 := cf_tr hc2 (cf_oF hk)
          refine w_aload_n X dX1_expression_50 rfl rfl ?_
          refine r1_13 X dX1_expression_51 s_39 rfl ((by rw [hc3.1]; exact hE.2.2.1)) ?_
          refine w_iload_n X dX1_expression_54 rfl rfl ?_
          refine w_v1fV X dX1_expression_55 k1_61 rfl hE.1.1 (c0_leadHere G hG _ _ k hE.1 L9 (by omega)) (Nat.le_of_ble_eq_true rfl) ?_
          refine w_iinc (v := 1) X dX1_expression_58 rfl (by decide) (by decide) ?_
          refine w_goto (tgt := 14) X dX1_expression_61 (by decide) ?_
          exact lf _ _ _ _ (cf_tr hc3 cf_lh) (rFlh (rFoF hk hf4))
  refine w_aload_n X dX1_expression_0 rfl rfl ?_
  refine r1_13 X dX1_expression_1 s_39 rfl (hE.2.2.1) ?_
  refine g1_42 X dX1_expression_4 hE.1.1 rfl ?_
  refine w_istore_n X dX1_expression_7 rfl (by decide) ?_
  refine w_aload_n X dX1_expression_8 rfl rfl ?_
  rw [hS.2.2.2.2.2.1.1]
  show wq_ C9 G (qe_ C9 G (rV_ (PR_ k n M p m o C H (z1_ (pz2_ (tb_ M) v nm t) (tb_ M) none p m o)))) _ _ _ _
  unfold z1_
  simp only
  have hct := hu t (Nat.le_refl _) (d + 15) M p m o C H (by omega) hE hS hp hm ho hC (by omega)
  refine w_v0rV X dX1_expression_9 k1_45 rfl s_39 hct (Nat.le_of_ble_eq_true rfl) (fun N h => ?_)
  cases hz : pz2_ (tb_ M) v nm t 2 none p m o with
  | none =>
    rw [hz] at h
    refine w_iconst (v := 0) X dX1_expression_12 (by decide) ?_
    refine w_istore_n X dX1_expression_13 rfl (by decide) ?_
    exact lf _ _ _ _ h.1 h.2
  | some x =>
    rw [hz] at h
    obtain ⟨hc, hs2, q1, q2, q3, q4, q5, q6⟩ := PR_get h
    simp only
    refine w_iconst (v := 0) X dX1_expression_12 (by decide) ?_
    refine w_istore_n X dX1_expression_13 rfl (by decide) ?_
    exact lp t x.1 x.2.1 x.2.2 0 _ _ (Nat.le_refl _) hc hs2 q1 q2 q3 q4 q5 (by omega) (by omega)

