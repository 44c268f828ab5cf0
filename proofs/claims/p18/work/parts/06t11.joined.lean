/-! joined (kinds 3 to 5) and expression: their loops -/
theorem kd_rs {c : Int32} (h : ¬ kd_ c = 0) : rsX_ c 0 = -1 ∧ ¬ c = 6 := by
  unfold kd_ at h
  by_cases h1 : c = 60 ∨ c = 61 ∨ c = 62
  · rcases h1 with rfl | rfl | rfl <;> exact ⟨by decide, by decide⟩
  · rw [if_neg h1] at h
    by_cases h2 : c = 43 ∨ c = 45
    · rcases h2 with rfl | rfl <;> exact ⟨by decide, by decide⟩
    · rw [if_neg h2] at h
      by_cases h3 : c = 37 ∨ c = 42 ∨ c = 47
      · rcases h3 with rfl | rfl | rfl <;> exact ⟨by decide, by decide⟩
      · rw [if_neg h3] at h; exact absurd rfl h
theorem i1_1 (H : Int32) : H + 1 + -1 = H := by rw [Int32.add_assoc, show (1 : Int32) + -1 = 0 by decide, Int32.add_zero]
theorem set_mid {α : Type} (A B : List α) (x y : α) : (A ++ [x] ++ B).set A.length y = A ++ y :: B := by
  rw [List.append_assoc, List.set_append_right _ _ (Nat.le_refl _), Nat.sub_self]
  rfl
theorem get_mid {α : Type} (A B : List α) (x : α) : (A ++ [x] ++ B)[A.length]? = some x := by
  rw [List.append_assoc, List.getElem?_append_right (Nat.le_refl _), Nat.sub_self]
  rfl
set_option maxRecDepth 100000 in
set_option maxHeartbeats 800000 in
theorem x_joined5 (G : gg_) (hG : gd_ G) (k n : Nat) (v : Int32) (nm : Bool) (t : Nat) (hu : ∀ u, u ≤ t → XJ_ G k n v nm u 6) : XJ_ G k n v nm (t + 1) 5 := by
  intro D M p m o C H hD hE hS hp hm ho hC hB
  have hk := cd_kb hE.1
  have hk2 := hk
  unfold kb_ at hk2
  have hn2 := hE.2.1.1
  obtain ⟨d, rfl⟩ : ∃ d, D = d + 16 := ⟨D - 16, by omega⟩
  refine cm_of hG (by decide) (Nat.le_of_ble_eq_true rfl) (fun C9 X => ?_)
  have lf : ∀ (i : Int32) (w : Option Value) (N : mm_), cf_ k M N → FT_ k N → wq_ C9 G (qe_ C9 G (rV_ (PR_ k n M p m o C H none))) 32 [some (.ref (G.1 39)), some (.int (nI 5)), some (.int 20), some (.int i), w] [] N := by
    intro i w N hc hf
    refine w_iload_n X dX1_joined_32 rfl rfl ?_
    refine w_iload_n X dX1_joined_33 rfl rfl ?_
    refine w_icmp_ge (tgt := 81) X dX1_joined_34 (by decide) (fun h34 => ?_) (fun h34 => ?_)
    · exact w_vrR X dX1_joined_81 (PR_none hc hf)
    · refine w_aload_n X dX1_joined_37 rfl rfl ?_
      refine g1_7 X dX1_joined_38 s_39 rfl ?_
      refine w_v0fI X dX1_joined_41 k1_48 rfl s_37 (c7_peek G hG _ _ n (cf_tp hk hc hE.2.1)) (Nat.le_of_ble_eq_true rfl) ?_
      rw [pe_F hf.1]
      refine w_s1fI X dX1_joined_44 k1_78 (c1_kindOf G hG _ _ _) (Nat.le_of_ble_eq_true rfl) ?_
      refine w_iload_n X dX1_joined_47 rfl rfl ?_
      refine w_icmp_ne (tgt := 81) X dX1_joined_48 (by decide) (fun h48 => ?_) (fun h48 => ?_)
      · exact w_vrR X dX1_joined_81 (PR_none hc hf)
      · exact absurd h48 (by decide)
  have lp : ∀ (u : Nat) (e : Term) (p2 m2 i : Nat) (w : Option Value) (N : mm_), u ≤ t → cf_ k M N → ST_ k N p2 m2 o (C ++ cqX_ e C.length H) (H + 1) → p < p2 → p2 ≤ n → m < m2 → m2 ≤ 20 → 3 * snX_ e + 1 ≤ 4 * (m2 - m) → i < m2 → 9 * ((20 - m2) + (12 - o)) + 6 ≤ u → wq_ C9 G (qe_ C9 G (rV_ (PR_ k n M p m o C H (pz2_ (tb_ M) v nm u 5 (some e) p2 m2 o)))) 32 [some (.ref (G.1 39)), some (.int (nI 5)), some (.int 20), some (.int (nI i)), w] [] N := by
    intro u
    induction u with
    | zero => intro e p2 m2 i w N h1 hc hs g1 g2 g3 g4 g5 g6 g7; omega
    | succ u ih =>
      intro e p2 m2 i w N h1 hc hs g1 g2 g3 g4 g5 g6 g7
      have hT := gpe hs
      rw [cf_tb hk hc] at hT
      have hEN := PE_cf hE hc
      have hln : (C ++ cqX_ e C.length H).length = C.length + snX_ e := by rw [List.length_append, cq_len]
      refine w_iload_n X dX1_joined_32 rfl rfl ?_
      refine w_iload_n X dX1_joined_33 rfl rfl ?_
      refine w_icmp_ge (tgt := 81) X dX1_joined_34 (by decide) (fun h34 => absurd h34 (nI_ge (a := i) (b := 20) (by omega) (by decide))) (fun h34 => ?_)
      refine w_aload_n X dX1_joined_37 rfl rfl ?_
      refine g1_7 X dX1_joined_38 s_39 rfl ?_
      refine w_v0fI X dX1_joined_41 k1_48 rfl s_37 (c7_peek G hG _ _ n hEN.2.1) (Nat.le_of_ble_eq_true rfl) ?_
      rw [hT]
      refine w_s1fI X dX1_joined_44 k1_78 (c1_kindOf G hG _ _ _) (Nat.le_of_ble_eq_true rfl) ?_
      refine w_iload_n X dX1_joined_47 rfl rfl ?_
      refine w_icmp_ne (tgt := 81) X dX1_joined_48 (by decide) (fun h48 => ?_) (fun h48 => ?_)
      · refine w_vrR X dX1_joined_81 ?_
        show PR_ k n M p m o C H (z3_ (pz2_ (tb_ M) v nm u) (tb_ M) 5 (some e) p2 m2 o) _
        unfold z3_
        simp only
        rw [if_neg h48]
        exact PR_some hc hs (by omega) (by omega) (by omega) (by omega) (by omega)
      · refine w_aload_n X dX1_joined_51 rfl rfl ?_
        refine w_v0fI X dX1_joined_52 k1_54 rfl s_39 (c1_takeSign G hG _ _ n hEN.2.1) (Nat.le_of_ble_eq_true rfl) ?_
        rw [hT]
        refine w_istore X dX1_joined_55 (by decide) ?_
        have hkd : ¬ kd_ (tb_ M (nI p2)) = 0 := by rw [h48]; decide
        have hrs := kd_rs hkd
        have hpn := tb_lt hE.2.1 (by omega : p2 ≤ 300) (fun z => hkd (by rw [z]; decide))
        have hb9 := cf_tS (M := N) hk
        show wq_ C9 G (qe_ C9 G (rV_ (PR_ k n M p m o C H (z3_ (pz2_ (tb_ M) v nm u) (tb_ M) 5 (some e) p2 m2 o)))) _ _ _ _
        unfold z3_
        simp only
        rw [if_pos h48]
        by_cases h20 : m2 < 20
        · rw [if_pos h20]
          have hct := hu u (by omega) (d + 15) (tS_ N) (p2 + 1) (m2 + 1) o (C ++ cqX_ e C.length H) (H + 1) (by omega) (PE_cf hEN hb9) (gtS hk hs h20) (by omega) (by omega) ho (by omega) (by omega)
          rw [cf_tb hk hb9, cf_tb hk hc] at hct
          refine w_aload_n X dX1_joined_57 rfl rfl ?_
          refine w_iload_n X dX1_joined_58 rfl rfl ?_
          refine w_iconst (v := 1) X dX1_joined_59 (by decide) ?_
          refine w_iadd X dX1_joined_60 ?_
          rw [nI_1]
          refine w_v1rV X dX1_joined_61 k1_65 rfl s_39 hct (Nat.le_of_ble_eq_true rfl) (fun N2 h => ?_)
          have hc2 := cf_tr (cf_tr hc hb9) h.1
          cases hz : pz2_ (tb_ M) v nm u 6 none (p2 + 1) (m2 + 1) o with
          | none =>
            rw [hz] at h
            have hf : FT_ k N2 := h.2
            have hf2 := hf
            obtain ⟨hf3, L9, hl, hL⟩ := hf2
            refine w_aload_n X dX1_joined_64 rfl rfl ?_
            refine r1_13 X dX1_joined_65 s_39 rfl ((by rw [hc2.1]; exact hE.2.2.1)) ?_
            refine w_iload X dX1_joined_68 rfl ?_
            refine w_lconst (v := 0) X dX1_joined_70 (by decide) ?_
            refine w_v2fI X dX1_joined_71 k1_68 rfl hE.1.1 (c0_add G hG _ _ k hE.1 L9 hL hl _ _) (Nat.le_of_ble_eq_true rfl) ?_
            refine w_pop X dX1_joined_74 rfl ?_
            refine w_iinc (v := 1) X dX1_joined_75 rfl (by decide) (by decide) ?_
            refine w_goto (tgt := 32) X dX1_joined_78 (by decide) ?_
            exact lf _ _ _ (cf_tr hc2 (cf_ad hk)) (rFad hk hf hL hl)
          | some x =>
            rw [hz] at h
            obtain ⟨-, hs2, q1, q2, q3, q4, q5, q6⟩ := PR_get h
            refine w_aload_n X dX1_joined_64 rfl rfl ?_
            refine r1_13 X dX1_joined_65 s_39 rfl ((by rw [hc2.1]; exact hE.2.2.1)) ?_
            refine w_iload X dX1_joined_68 rfl ?_
            refine w_lconst (v := 0) X dX1_joined_70 (by decide) ?_
            refine w_v2fI X dX1_joined_71 k1_68 rfl hE.1.1 (c0_add G hG _ _ k hE.1 _ hs2.2.2.2.2.2.1.1 (by omega) _ _) (Nat.le_of_ble_eq_true rfl) ?_
            refine w_pop X dX1_joined_74 rfl ?_
            refine w_iinc (v := 1) X dX1_joined_75 rfl (by decide) (by decide) ?_
            refine w_goto (tgt := 32) X dX1_joined_78 (by decide) ?_
            have g9 := gad (q := tb_ M (nI p2)) (d := 0) hk hs2 (by omega) hrs.2
            rw [hrs.1, i1_1] at g9
            have e9 : C ++ cqX_ e C.length H ++ cqX_ x.1 (C ++ cqX_ e C.length H).length (H + 1) ++ [(tb_ M (nI p2), 0, 0, H + 1)] = C ++ cqX_ (.elem (.int (tb_ M (nI p2))) (.add e x.1)) C.length H := by
              rw [hln]
              simp [cqX_, sg2_]
            rw [e9] at g9
            simp only
            rw [if_neg (by decide), nI_1]
            exact ih _ _ _ (i + 1) _ _ (by omega) (cf_tr hc2 (cf_ad hk)) g9 (by omega) (by omega) (by omega) (by omega) (by rw [snX_, snX_]; omega) (by omega) (by omega)
        · rw [if_neg h20]
          have hf9 := gtS0 hk hs h20 g4 (by omega)
          refine w_aload_n X dX1_joined_57 rfl rfl ?_
          refine w_iload_n X dX1_joined_58 rfl rfl ?_
          refine w_iconst (v := 1) X dX1_joined_59 (by decide) ?_
          refine w_iadd X dX1_joined_60 ?_
          refine w_v1fV X dX1_joined_61 k1_65 rfl s_39 (f1_joined6 G hG _ (tS_ N) n (cf_tp hk hb9 hEN.2.1) hf9.1) (Nat.le_of_ble_eq_true rfl) ?_
          have hc2 := cf_tr (cf_tr hc hb9) (cf_oF (M := tS_ N) hk)
          have hf := rFoF hk hf9
          have hf2 := hf
          obtain ⟨hf3, L9, hl, hL⟩ := hf2
          refine w_aload_n X dX1_joined_64 rfl rfl ?_
          refine r1_13 X dX1_joined_65 s_39 rfl ((by rw [hc2.1]; exact hE.2.2.1)) ?_
          refine w_iload X dX1_joined_68 rfl ?_
          refine w_lconst (v := 0) X dX1_joined_70 (by decide) ?_
          refine w_v2fI X dX1_joined_71 k1_68 rfl hE.1.1 (c0_add G hG _ _ k hE.1 L9 hL hl _ _) (Nat.le_of_ble_eq_true rfl) ?_
          refine w_pop X dX1_joined_74 rfl ?_
          refine w_iinc (v := 1) X dX1_joined_75 rfl (by decide) (by decide) ?_
          refine w_goto (tgt := 32) X dX1_joined_78 (by decide) ?_
          exact lf _ _ _ (cf_tr hc2 (cf_ad hk)) (rFad hk hf hL hl)
  refine w_iload_n X dX1_joined_0 rfl rfl ?_
  refine w_bipush (v := 6) X dX1_joined_1 (by decide) ?_
  refine w_icmp_lt (tgt := 11) X dX1_joined_3 (by decide) (fun h3 => ?_) (fun h3 => absurd (by decide) h3)
  refine w_aload_n X dX1_joined_11 rfl rfl ?_
  refine w_iload_n X dX1_joined_12 rfl rfl ?_
  refine w_iconst (v := 1) X dX1_joined_13 (by decide) ?_
  refine w_iadd X dX1_joined_14 ?_
  show wq_ C9 G (qe_ C9 G (rV_ (PR_ k n M p m o C H (z3_ (pz2_ (tb_ M) v nm t) (tb_ M) 5 none p m o)))) _ _ _ _
  unfold z3_
  simp only
  have hct := hu t (Nat.le_refl _) (d + 15) M p m o C H (by omega) hE hS hp hm ho hC (by omega)
  rw [nI_1]
  refine w_v1rV X dX1_joined_15 k1_65 rfl s_39 hct (Nat.le_of_ble_eq_true rfl) (fun N h => ?_)
  cases hz : pz2_ (tb_ M) v nm t 6 none p m o with
  | none =>
    rw [hz] at h
    refine w_iload_n X dX1_joined_18 rfl rfl ?_
    refine w_iconst (v := 3) X dX1_joined_19 (by decide) ?_
    refine w_icmp_ne (tgt := 27) X dX1_joined_20 (by decide) (fun h20 => ?_) (fun h20 => absurd h20 (by decide))
    refine w_bipush (v := 20) X dX1_joined_27 (by decide) ?_
    refine w_istore_n X dX1_joined_29 rfl (by decide) ?_
    refine w_iconst (v := 0) X dX1_joined_30 (by decide) ?_
    refine w_istore_n X dX1_joined_31 rfl (by decide) ?_
    exact lf _ _ _ h.1 h.2
  | some x =>
    rw [hz] at h
    obtain ⟨hc, hs2, q1, q2, q3, q4, q5, q6⟩ := PR_get h
    simp only
    refine w_iload_n X dX1_joined_18 rfl rfl ?_
    refine w_iconst (v := 3) X dX1_joined_19 (by decide) ?_
    refine w_icmp_ne (tgt := 27) X dX1_joined_20 (by decide) (fun h20 => ?_) (fun h20 => absurd h20 (by decide))
    refine w_bipush (v := 20) X dX1_joined_27 (by decide) ?_
    refine w_istore_n X dX1_joined_29 rfl (by decide) ?_
    refine w_iconst (v := 0) X dX1_joined_30 (by decide) ?_
    refine w_istore_n X dX1_joined_31 rfl (by decide) ?_
    exact lp t x.1 x.2.1 x.2.2 0 _ _ (Nat.le_refl _) hc hs2 q1 q2 q3 q4 q5 (by omega) (by omega)
set_option maxRecDepth 100000 in
set_option maxHeartbeats 800000 in
theorem x_joined4 (G : gg_) (hG : gd_ G) (k n : Nat) (v : Int32) (nm : Bool) (t : Nat) (hu : ∀ u, u ≤ t → XJ_ G k n v nm u 5) : XJ_ G k n v nm (t + 1) 4 := by
  intro D M p m o C H hD hE hS hp hm ho hC hB
  have hk := cd_kb hE.1
  have hk2 := hk
  unfold kb_ at hk2
  have hn2 := hE.2.1.1
  obtain ⟨d, rfl⟩ : ∃ d, D = d + 16 := ⟨D - 16, by omega⟩
  refine cm_of hG (by decide) (Nat.le_of_ble_eq_true rfl) (fun C9 X => ?_)
  have lf : ∀ (i : Int32) (w : Option Value) (N : mm_), cf_ k M N → FT_ k N → wq_ C9 G (qe_ C9 G (rV_ (PR_ k n M p m o C H none))) 32 [some (.ref (G.1 39)), some (.int (nI 4)), some (.int 20), some (.int i), w] [] N := by
    intro i w N hc hf
    refine w_iload_n X dX1_joined_32 rfl rfl ?_
    refine w_iload_n X dX1_joined_33 rfl rfl ?_
    refine w_icmp_ge (tgt := 81) X dX1_joined_34 (by decide) (fun h34 => ?_) (fun h34 => ?_)
    · exact w_vrR X dX1_joined_81 (PR_none hc hf)
    · refine w_aload_n X dX1_joined_37 rfl rfl ?_
      refine g1_7 X dX1_joined_38 s_39 rfl ?_
      refine w_v0fI X dX1_joined_41 k1_48 rfl s_37 (c7_peek G hG _ _ n (cf_tp hk hc hE.2.1)) (Nat.le_of_ble_eq_true rfl) ?_
      rw [pe_F hf.1]
      refine w_s1fI X dX1_joined_44 k1_78 (c1_kindOf G hG _ _ _) (Nat.le_of_ble_eq_true rfl) ?_
      refine w_iload_n X dX1_joined_47 rfl rfl ?_
      refine w_icmp_ne (tgt := 81) X dX1_joined_48 (by decide) (fun h48 => ?_) (fun h48 => ?_)
      · exact w_vrR X dX1_joined_81 (PR_none hc hf)
      · exact absurd h48 (by decide)
  have lp : ∀ (u : Nat) (e : Term) (p2 m2 i : Nat) (w : Option Value) (N : mm_), u ≤ t → cf_ k M N → ST_ k N p2 m2 o (C ++ cqX_ e C.length H) (H + 1) → p < p2 → p2 ≤ n → m < m2 → m2 ≤ 20 → 3 * snX_ e + 1 ≤ 4 * (m2 - m) → i < m2 → 9 * ((20 - m2) + (12 - o)) + 6 ≤ u → wq_ C9 G (qe_ C9 G (rV_ (PR_ k n M p m o C H (pz2_ (tb_ M) v nm u 4 (some e) p2 m2 o)))) 32 [some (.ref (G.1 39)), some (.int (nI 4)), some (.int 20), some (.int (nI i)), w] [] N := by
    intro u
    induction u with
    | zero => intro e p2 m2 i w N h1 hc hs g1 g2 g3 g4 g5 g6 g7; omega
    | succ u ih =>
      intro e p2 m2 i w N h1 hc hs g1 g2 g3 g4 g5 g6 g7
      have hT := gpe hs
      rw [cf_tb hk hc] at hT
      have hEN := PE_cf hE hc
      have hln : (C ++ cqX_ e C.length H).length = C.length + snX_ e := by rw [List.length_append, cq_len]
      refine w_iload_n X dX1_joined_32 rfl rfl ?_
      refine w_iload_n X dX1_joined_33 rfl rfl ?_
      refine w_icmp_ge (tgt := 81) X dX1_joined_34 (by decide) (fun h34 => absurd h34 (nI_ge (a := i) (b := 20) (by omega) (by decide))) (fun h34 => ?_)
      refine w_aload_n X dX1_joined_37 rfl rfl ?_
      refine g1_7 X dX1_joined_38 s_39 rfl ?_
      refine w_v0fI X dX1_joined_41 k1_48 rfl s_37 (c7_peek G hG _ _ n hEN.2.1) (Nat.le_of_ble_eq_true rfl) ?_
      rw [hT]
      refine w_s1fI X dX1_joined_44 k1_78 (c1_kindOf G hG _ _ _) (Nat.le_of_ble_eq_true rfl) ?_
      refine w_iload_n X dX1_joined_47 rfl rfl ?_
      refine w_icmp_ne (tgt := 81) X dX1_joined_48 (by decide) (fun h48 => ?_) (fun h48 => ?_)
      · refine w_vrR X dX1_joined_81 ?_
        show PR_ k n M p m o C H (z3_ (pz2_ (tb_ M) v nm u) (tb_ M) 4 (some e) p2 m2 o) _
        unfold z3_
        simp only
        rw [if_neg h48]
        exact PR_some hc hs (by omega) (by omega) (by omega) (by omega) (by omega)
      · refine w_aload_n X dX1_joined_51 rfl rfl ?_
        refine w_v0fI X dX1_joined_52 k1_54 rfl s_39 (c1_takeSign G hG _ _ n hEN.2.1) (Nat.le_of_ble_eq_true rfl) ?_
        rw [hT]
        refine w_istore X dX1_joined_55 (by decide) ?_
        have hkd : ¬ kd_ (tb_ M (nI p2)) = 0 := by rw [h48]; decide
        have hrs := kd_rs hkd
        have hpn := tb_lt hE.2.1 (by omega : p2 ≤ 300) (fun z => hkd (by rw [z]; decide))
        have hb9 := cf_tS (M := N) hk
        show wq_ C9 G (qe_ C9 G (rV_ (PR_ k n M p m o C H (z3_ (pz2_ (tb_ M) v nm u) (tb_ M) 4 (some e) p2 m2 o)))) _ _ _ _
        unfold z3_
        simp only
        rw [if_pos h48]
        by_cases h20 : m2 < 20
        · rw [if_pos h20]
          have hct := hu u (by omega) (d + 15) (tS_ N) (p2 + 1) (m2 + 1) o (C ++ cqX_ e C.length H) (H + 1) (by omega) (PE_cf hEN hb9) (gtS hk hs h20) (by omega) (by omega) ho (by omega) (by omega)
          rw [cf_tb hk hb9, cf_tb hk hc] at hct
          refine w_aload_n X dX1_joined_57 rfl rfl ?_
          refine w_iload_n X dX1_joined_58 rfl rfl ?_
          refine w_iconst (v := 1) X dX1_joined_59 (by decide) ?_
          refine w_iadd X dX1_joined_60 ?_
          rw [nI_1]
          refine w_v1rV X dX1_joined_61 k1_65 rfl s_39 hct (Nat.le_of_ble_eq_true rfl) (fun N2 h => ?_)
          have hc2 := cf_tr (cf_tr hc hb9) h.1
          cases hz : pz2_ (tb_ M) v nm u 5 none (p2 + 1) (m2 + 1) o with
          | none =>
            rw [hz] at h
            have hf : FT_ k N2 := h.2
            have hf2 := hf
            obtain ⟨hf3, L9, hl, hL⟩ := hf2
            refine w_aload_n X dX1_joined_64 rfl rfl ?_
            refine r1_13 X dX1_joined_65 s_39 rfl ((by rw [hc2.1]; exact hE.2.2.1)) ?_
            refine w_iload X dX1_joined_68 rfl ?_
            refine w_lconst (v := 0) X dX1_joined_70 (by decide) ?_
            refine w_v2fI X dX1_joined_71 k1_68 rfl hE.1.1 (c0_add G hG _ _ k hE.1 L9 hL hl _ _) (Nat.le_of_ble_eq_true rfl) ?_
            refine w_pop X dX1_joined_74 rfl ?_
            refine w_iinc (v := 1) X dX1_joined_75 rfl (by decide) (by decide) ?_
            refine w_goto (tgt := 32) X dX1_joined_78 (by decide) ?_
            exact lf _ _ _ (cf_tr hc2 (cf_ad hk)) (rFad hk hf hL hl)
          | some x =>
            rw [hz] at h
            obtain ⟨-, hs2, q1, q2, q3, q4, q5, q6⟩ := PR_get h
            refine w_aload_n X dX1_joined_64 rfl rfl ?_
            refine r1_13 X dX1_joined_65 s_39 rfl ((by rw [hc2.1]; exact hE.2.2.1)) ?_
            refine w_iload X dX1_joined_68 rfl ?_
            refine w_lconst (v := 0) X dX1_joined_70 (by decide) ?_
            refine w_v2fI X dX1_joined_71 k1_68 rfl hE.1.1 (c0_add G hG _ _ k hE.1 _ hs2.2.2.2.2.2.1.1 (by omega) _ _) (Nat.le_of_ble_eq_true rfl) ?_
            refine w_pop X dX1_joined_74 rfl ?_
            refine w_iinc (v := 1) X dX1_joined_75 rfl (by decide) (by decide) ?_
            refine w_goto (tgt := 32) X dX1_joined_78 (by decide) ?_
            have g9 := gad (q := tb_ M (nI p2)) (d := 0) hk hs2 (by omega) hrs.2
            rw [hrs.1, i1_1] at g9
            have e9 : C ++ cqX_ e C.length H ++ cqX_ x.1 (C ++ cqX_ e C.length H).length (H + 1) ++ [(tb_ M (nI p2), 0, 0, H + 1)] = C ++ cqX_ (.elem (.int (tb_ M (nI p2))) (.add e x.1)) C.length H := by
              rw [hln]
              simp [cqX_, sg2_]
            rw [e9] at g9
            simp only
            rw [if_neg (by decide), nI_1]
            exact ih _ _ _ (i + 1) _ _ (by omega) (cf_tr hc2 (cf_ad hk)) g9 (by omega) (by omega) (by omega) (by omega) (by rw [snX_, snX_]; omega) (by omega) (by omega)
        · rw [if_neg h20]
          have hf9 := gtS0 hk hs h20 g4 (by omega)
          refine w_aload_n X dX1_joined_57 rfl rfl ?_
          refine w_iload_n X dX1_joined_58 rfl rfl ?_
          refine w_iconst (v := 1) X dX1_joined_59 (by decide) ?_
          refine w_iadd X dX1_joined_60 ?_
          refine w_v1fV X dX1_joined_61 k1_65 rfl s_39 (f1_joined5 G hG _ (tS_ N) n (cf_tp hk hb9 hEN.2.1) hf9.1) (Nat.le_of_ble_eq_true rfl) ?_
          have hc2 := cf_tr (cf_tr hc hb9) (cf_oF (M := tS_ N) hk)
          have hf := rFoF hk hf9
          have hf2 := hf
          obtain ⟨hf3, L9, hl, hL⟩ := hf2
          refine w_aload_n X dX1_joined_64 rfl rfl ?_
          refine r1_13 X dX1_joined_65 s_39 rfl ((by rw [hc2.1]; exact hE.2.2.1)) ?_
          refine w_iload X dX1_joined_68 rfl ?_
          refine w_lconst (v := 0) X dX1_joined_70 (by decide) ?_
          refine w_v2fI X dX1_joined_71 k1_68 rfl hE.1.1 (c0_add G hG _ _ k hE.1 L9 hL hl _ _) (Nat.le_of_ble_eq_true rfl) ?_
          refine w_pop X dX1_joined_74 rfl ?_
          refine w_iinc (v := 1) X dX1_joined_75 rfl (by decide) (by decide) ?_
          refine w_goto (tgt := 32) X dX1_joined_78 (by decide) ?_
          exact lf _ _ _ (cf_tr hc2 (cf_ad hk)) (rFad hk hf hL hl)
  refine w_iload_n X dX1_joined_0 rfl rfl ?_
  refine w_bipush (v := 6) X dX1_joined_1 (by decide) ?_
  refine w_icmp_lt (tgt := 11) X dX1_joined_3 (by decide) (fun h3 => ?_) (fun h3 => absurd (by decide) h3)
  refine w_aload_n X dX1_joined_11 rfl rfl ?_
  refine w_iload_n X dX1_joined_12 rfl rfl ?_
  refine w_iconst (v := 1) X dX1_joined_13 (by decide) ?_
  refine w_iadd X dX1_joined_14 ?_
  show wq_ C9 G (qe_ C9 G (rV_ (PR_ k n M p m o C H (z3_ (pz2_ (tb_ M) v nm t) (tb_ M) 4 none p m o)))) _ _ _ _
  unfold z3_
  simp only
  have hct := hu t (Nat.le_refl _) (d + 15) M p m o C H (by omega) hE hS hp hm ho hC (by omega)
  rw [nI_1]
  refine w_v1rV X dX1_joined_15 k1_65 rfl s_39 hct (Nat.le_of_ble_eq_true rfl) (fun N h => ?_)
  cases hz : pz2_ (tb_ M) v nm t 5 none p m o with
  | none =>
    rw [hz] at h
    refine w_iload_n X dX1_joined_18 rfl rfl ?_
    refine w_iconst (v := 3) X dX1_joined_19 (by decide) ?_
    refine w_icmp_ne (tgt := 27) X dX1_joined_20 (by decide) (fun h20 => ?_) (fun h20 => absurd h20 (by decide))
    refine w_bipush (v := 20) X dX1_joined_27 (by decide) ?_
    refine w_istore_n X dX1_joined_29 rfl (by decide) ?_
    refine w_iconst (v := 0) X dX1_joined_30 (by decide) ?_
    refine w_istore_n X dX1_joined_31 rfl (by decide) ?_
    exact lf _ _ _ h.1 h.2
  | some x =>
    rw [hz] at h
    obtain ⟨hc, hs2, q1, q2, q3, q4, q5, q6⟩ := PR_get h
    simp only
    refine w_iload_n X dX1_joined_18 rfl rfl ?_
    refine w_iconst (v := 3) X dX1_joined_19 (by decide) ?_
    refine w_icmp_ne (tgt := 27) X dX1_joined_20 (by decide) (fun h20 => ?_) (fun h20 => absurd h20 (by decide))
    refine w_bipush (v := 20) X dX1_joined_27 (by decide) ?_
    refine w_istore_n X dX1_joined_29 rfl (by decide) ?_
    refine w_iconst (v := 0) X dX1_joined_30 (by decide) ?_
    refine w_istore_n X dX1_joined_31 rfl (by decide) ?_
    exact lp t x.1 x.2.1 x.2.2 0 _ _ (Nat.le_refl _) hc hs2 q1 q2 q3 q4 q5 (by omega) (by omega)
set_option maxRecDepth 100000 in
set_option maxHeartbeats 800000 in
theorem x_joined3 (G : gg_) (hG : gd_ G) (k n : Nat) (v : Int32) (nm : Bool) (t : Nat) (hu : ∀ u, u ≤ t → XJ_ G k n v nm u 4) : XJ_ G k n v nm (t + 1) 3 := by
  intro D M p m o C H hD hE hS hp hm ho hC hB
  have hk := cd_kb hE.1
  have hk2 := hk
  unfold kb_ at hk2
  have hn2 := hE.2.1.1
  obtain ⟨d, rfl⟩ : ∃ d, D = d + 16 := ⟨D - 16, by omega⟩
  refine cm_of hG (by decide) (Nat.le_of_ble_eq_true rfl) (fun C9 X => ?_)
  have lf : ∀ (i : Int32) (w : Option Value) (N : mm_), cf_ k M N → FT_ k N → wq_ C9 G (qe_ C9 G (rV_ (PR_ k n M p m o C H none))) 32 [some (.ref (G.1 39)), some (.int (nI 3)), some (.int 1), some (.int i), w] [] N := by
    intro i w N hc hf
    refine w_iload_n X dX1_joined_32 rfl rfl ?_
    refine w_iload_n X dX1_joined_33 rfl rfl ?_
    refine w_icmp_ge (tgt := 81) X dX1_joined_34 (by decide) (fun h34 => ?_) (fun h34 => ?_)
    · exact w_vrR X dX1_joined_81 (PR_none hc hf)
    · refine w_aload_n X dX1_joined_37 rfl rfl ?_
      refine g1_7 X dX1_joined_38 s_39 rfl ?_
      refine w_v0fI X dX1_joined_41 k1_48 rfl s_37 (c7_peek G hG _ _ n (cf_tp hk hc hE.2.1)) (Nat.le_of_ble_eq_true rfl) ?_
      rw [pe_F hf.1]
      refine w_s1fI X dX1_joined_44 k1_78 (c1_kindOf G hG _ _ _) (Nat.le_of_ble_eq_true rfl) ?_
      refine w_iload_n X dX1_joined_47 rfl rfl ?_
      refine w_icmp_ne (tgt := 81) X dX1_joined_48 (by decide) (fun h48 => ?_) (fun h48 => ?_)
      · exact w_vrR X dX1_joined_81 (PR_none hc hf)
      · exact absurd h48 (by decide)
  have lp : ∀ (u : Nat) (e : Term) (p2 m2 i : Nat) (w : Option Value) (N : mm_), u ≤ t → cf_ k M N → ST_ k N p2 m2 o (C ++ cqX_ e C.length H) (H + 1) → p < p2 → p2 ≤ n → m < m2 → m2 ≤ 20 → 3 * snX_ e + 1 ≤ 4 * (m2 - m) → i = 0 → 9 * ((20 - m2) + (12 - o)) + 6 ≤ u → wq_ C9 G (qe_ C9 G (rV_ (PR_ k n M p m o C H (pz2_ (tb_ M) v nm u 3 (some e) p2 m2 o)))) 32 [some (.ref (G.1 39)), some (.int (nI 3)), some (.int 1), some (.int (nI i)), w] [] N := by
    intro u
    induction u with
    | zero => intro e p2 m2 i w N h1 hc hs g1 g2 g3 g4 g5 g6 g7; omega
    | succ u ih =>
      intro e p2 m2 i w N h1 hc hs g1 g2 g3 g4 g5 g6 g7
      have hT := gpe hs
      rw [cf_tb hk hc] at hT
      have hEN := PE_cf hE hc
      have hln : (C ++ cqX_ e C.length H).length = C.length + snX_ e := by rw [List.length_append, cq_len]
      subst g6
      refine w_iload_n X dX1_joined_32 rfl rfl ?_
      refine w_iload_n X dX1_joined_33 rfl rfl ?_
      refine w_icmp_ge (tgt := 81) X dX1_joined_34 (by decide) (fun h34 => absurd h34 (by decide)) (fun h34 => ?_)
      refine w_aload_n X dX1_joined_37 rfl rfl ?_
      refine g1_7 X dX1_joined_38 s_39 rfl ?_
      refine w_v0fI X dX1_joined_41 k1_48 rfl s_37 (c7_peek G hG _ _ n hEN.2.1) (Nat.le_of_ble_eq_true rfl) ?_
      rw [hT]
      refine w_s1fI X dX1_joined_44 k1_78 (c1_kindOf G hG _ _ _) (Nat.le_of_ble_eq_true rfl) ?_
      refine w_iload_n X dX1_joined_47 rfl rfl ?_
      refine w_icmp_ne (tgt := 81) X dX1_joined_48 (by decide) (fun h48 => ?_) (fun h48 => ?_)
      · refine w_vrR X dX1_joined_81 ?_
        show PR_ k n M p m o C H (z3_ (pz2_ (tb_ M) v nm u) (tb_ M) 3 (some e) p2 m2 o) _
        unfold z3_
        simp only
        rw [if_neg h48]
        exact PR_some hc hs (by omega) (by omega) (by omega) (by omega) (by omega)
      · refine w_aload_n X dX1_joined_51 rfl rfl ?_
        refine w_v0fI X dX1_joined_52 k1_54 rfl s_39 (c1_takeSign G hG _ _ n hEN.2.1) (Nat.le_of_ble_eq_true rfl) ?_
        rw [hT]
        refine w_istore X dX1_joined_55 (by decide) ?_
        have hkd : ¬ kd_ (tb_ M (nI p2)) = 0 := by rw [h48]; decide
        have hrs := kd_rs hkd
        have hpn := tb_lt hE.2.1 (by omega : p2 ≤ 300) (fun z => hkd (by rw [z]; decide))
        have hb9 := cf_tS (M := N) hk
        show wq_ C9 G (qe_ C9 G (rV_ (PR_ k n M p m o C H (z3_ (pz2_ (tb_ M) v nm u) (tb_ M) 3 (some e) p2 m2 o)))) _ _ _ _
        unfold z3_
        simp only
        rw [if_pos h48]
        by_cases h20 : m2 < 20
        · rw [if_pos h20]
          have hct := hu u (by omega) (d + 15) (tS_ N) (p2 + 1) (m2 + 1) o (C ++ cqX_ e C.length H) (H + 1) (by omega) (PE_cf hEN hb9) (gtS hk hs h20) (by omega) (by omega) ho (by omega) (by omega)
          rw [cf_tb hk hb9, cf_tb hk hc] at hct
          refine w_aload_n X dX1_joined_57 rfl rfl ?_
          refine w_iload_n X dX1_joined_58 rfl rfl ?_
          refine w_iconst (v := 1) X dX1_joined_59 (by decide) ?_
          refine w_iadd X dX1_joined_60 ?_
          rw [nI_1]
          refine w_v1rV X dX1_joined_61 k1_65 rfl s_39 hct (Nat.le_of_ble_eq_true rfl) (fun N2 h => ?_)
          have hc2 := cf_tr (cf_tr hc hb9) h.1
          cases hz : pz2_ (tb_ M) v nm u 4 none (p2 + 1) (m2 + 1) o with
          | none =>
            rw [hz] at h
            have hf : FT_ k N2 := h.2
            have hf2 := hf
            obtain ⟨hf3, L9, hl, hL⟩ := hf2
            refine w_aload_n X dX1_joined_64 rfl rfl ?_
            refine r1_13 X dX1_joined_65 s_39 rfl ((by rw [hc2.1]; exact hE.2.2.1)) ?_
            refine w_iload X dX1_joined_68 rfl ?_
            refine w_lconst (v := 0) X dX1_joined_70 (by decide) ?_
            refine w_v2fI X dX1_joined_71 k1_68 rfl hE.1.1 (c0_add G hG _ _ k hE.1 L9 hL hl _ _) (Nat.le_of_ble_eq_true rfl) ?_
            refine w_pop X dX1_joined_74 rfl ?_
            refine w_iinc (v := 1) X dX1_joined_75 rfl (by decide) (by decide) ?_
            refine w_goto (tgt := 32) X dX1_joined_78 (by decide) ?_
            exact lf _ _ _ (cf_tr hc2 (cf_ad hk)) (rFad hk hf hL hl)
          | some x =>
            rw [hz] at h
            obtain ⟨-, hs2, q1, q2, q3, q4, q5, q6⟩ := PR_get h
            refine w_aload_n X dX1_joined_64 rfl rfl ?_
            refine r1_13 X dX1_joined_65 s_39 rfl ((by rw [hc2.1]; exact hE.2.2.1)) ?_
            refine w_iload X dX1_joined_68 rfl ?_
            refine w_lconst (v := 0) X dX1_joined_70 (by decide) ?_
            refine w_v2fI X dX1_joined_71 k1_68 rfl hE.1.1 (c0_add G hG _ _ k hE.1 _ hs2.2.2.2.2.2.1.1 (by omega) _ _) (Nat.le_of_ble_eq_true rfl) ?_
            refine w_pop X dX1_joined_74 rfl ?_
            refine w_iinc (v := 1) X dX1_joined_75 rfl (by decide) (by decide) ?_
            refine w_goto (tgt := 32) X dX1_joined_78 (by decide) ?_
            have g9 := gad (q := tb_ M (nI p2)) (d := 0) hk hs2 (by omega) hrs.2
            rw [hrs.1, i1_1] at g9
            have e9 : C ++ cqX_ e C.length H ++ cqX_ x.1 (C ++ cqX_ e C.length H).length (H + 1) ++ [(tb_ M (nI p2), 0, 0, H + 1)] = C ++ cqX_ (.elem (.int (tb_ M (nI p2))) (.add e x.1)) C.length H := by
              rw [hln]
              simp [cqX_, sg2_]
            rw [e9] at g9
            simp only [if_true]
            refine w_iload_n X dX1_joined_32 rfl rfl ?_
            refine w_iload_n X dX1_joined_33 rfl rfl ?_
            refine w_icmp_ge (tgt := 81) X dX1_joined_34 (by decide) (fun h34 => ?_) (fun h34 => absurd (by decide) h34)
            exact w_vrR X dX1_joined_81 (PR_some (cf_tr hc2 (cf_ad hk)) g9 (by omega) (by omega) (by omega) (by omega) (by rw [snX_, snX_]; omega))
        · rw [if_neg h20]
          have hf9 := gtS0 hk hs h20 g4 (by omega)
          refine w_aload_n X dX1_joined_57 rfl rfl ?_
          refine w_iload_n X dX1_joined_58 rfl rfl ?_
          refine w_iconst (v := 1) X dX1_joined_59 (by decide) ?_
          refine w_iadd X dX1_joined_60 ?_
          refine w_v1fV X dX1_joined_61 k1_65 rfl s_39 (f1_joined4 G hG _ (tS_ N) n (cf_tp hk hb9 hEN.2.1) hf9.1) (Nat.le_of_ble_eq_true rfl) ?_
          have hc2 := cf_tr (cf_tr hc hb9) (cf_oF (M := tS_ N) hk)
          have hf := rFoF hk hf9
          have hf2 := hf
          obtain ⟨hf3, L9, hl, hL⟩ := hf2
          refine w_aload_n X dX1_joined_64 rfl rfl ?_
          refine r1_13 X dX1_joined_65 s_39 rfl ((by rw [hc2.1]; exact hE.2.2.1)) ?_
          refine w_iload X dX1_joined_68 rfl ?_
          refine w_lconst (v := 0) X dX1_joined_70 (by decide) ?_
          refine w_v2fI X dX1_joined_71 k1_68 rfl hE.1.1 (c0_add G hG _ _ k hE.1 L9 hL hl _ _) (Nat.le_of_ble_eq_true rfl) ?_
          refine w_pop X dX1_joined_74 rfl ?_
          refine w_iinc (v := 1) X dX1_joined_75 rfl (by decide) (by decide) ?_
          refine w_goto (tgt := 32) X dX1_joined_78 (by decide) ?_
          exact lf _ _ _ (cf_tr hc2 (cf_ad hk)) (rFad hk hf hL hl)
  refine w_iload_n X dX1_joined_0 rfl rfl ?_
  refine w_bipush (v := 6) X dX1_joined_1 (by decide) ?_
  refine w_icmp_lt (tgt := 11) X dX1_joined_3 (by decide) (fun h3 => ?_) (fun h3 => absurd (by decide) h3)
  refine w_aload_n X dX1_joined_11 rfl rfl ?_
  refine w_iload_n X dX1_joined_12 rfl rfl ?_
  refine w_iconst (v := 1) X dX1_joined_13 (by decide) ?_
  refine w_iadd X dX1_joined_14 ?_
  show wq_ C9 G (qe_ C9 G (rV_ (PR_ k n M p m o C H (z3_ (pz2_ (tb_ M) v nm t) (tb_ M) 3 none p m o)))) _ _ _ _
  unfold z3_
  simp only
  have hct := hu t (Nat.le_refl _) (d + 15) M p m o C H (by omega) hE hS hp hm ho hC (by omega)
  rw [nI_1]
  refine w_v1rV X dX1_joined_15 k1_65 rfl s_39 hct (Nat.le_of_ble_eq_true rfl) (fun N h => ?_)
  cases hz : pz2_ (tb_ M) v nm t 4 none p m o with
  | none =>
    rw [hz] at h
    refine w_iload_n X dX1_joined_18 rfl rfl ?_
    refine w_iconst (v := 3) X dX1_joined_19 (by decide) ?_
    refine w_icmp_ne (tgt := 27) X dX1_joined_20 (by decide) (fun h20 => absurd rfl h20) (fun h20 => ?_)
    refine w_iconst (v := 1) X dX1_joined_23 (by decide) ?_
    refine w_goto (tgt := 29) X dX1_joined_24 (by decide) ?_
    refine w_istore_n X dX1_joined_29 rfl (by decide) ?_
    refine w_iconst (v := 0) X dX1_joined_30 (by decide) ?_
    refine w_istore_n X dX1_joined_31 rfl (by decide) ?_
    exact lf _ _ _ h.1 h.2
  | some x =>
    rw [hz] at h
    obtain ⟨hc, hs2, q1, q2, q3, q4, q5, q6⟩ := PR_get h
    simp only
    refine w_iload_n X dX1_joined_18 rfl rfl ?_
    refine w_iconst (v := 3) X dX1_joined_19 (by decide) ?_
    refine w_icmp_ne (tgt := 27) X dX1_joined_20 (by decide) (fun h20 => absurd rfl h20) (fun h20 => ?_)
    refine w_iconst (v := 1) X dX1_joined_23 (by decide) ?_
    refine w_goto (tgt := 29) X dX1_joined_24 (by decide) ?_
    refine w_istore_n X dX1_joined_29 rfl (by decide) ?_
    refine w_iconst (v := 0) X dX1_joined_30 (by decide) ?_
    refine w_istore_n X dX1_joined_31 rfl (by decide) ?_
    exact lp t x.1 x.2.1 x.2.2 0 _ _ (Nat.le_refl _) hc hs2 q1 q2 q3 q4 q5 rfl (by omega)

