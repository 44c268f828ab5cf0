/-! arguments -/
def PA_ (k n : Nat) (M : mm_) (p m o : Nat) (C : List cq2_) (H : Int32) (r : px2_) (c : Int32) (N : mm_) : Prop := cf_ k M N ∧ (match r with
  | none => FT_ k N
  | some x => c = nI (an_ x.1) ∧ an_ x.1 < 4 ∧ ST_ k N x.2.1 x.2.2 o (C ++ cqX_ x.1 C.length H) (H + nI (an_ x.1)) ∧ p < x.2.1 ∧ x.2.1 ≤ n ∧ m < x.2.2 ∧ x.2.2 ≤ 20 ∧ 3 * snX_ x.1 + 1 ≤ 4 * (x.2.2 - m))
theorem PA_none {k n p m o : Nat} {M N : mm_} {C : List cq2_} {H c : Int32} (hc : cf_ k M N) (h : FT_ k N) : PA_ k n M p m o C H none c N := ⟨hc, h⟩
theorem PA_some {k n p m o a b j : Nat} {M N : mm_} {C : List cq2_} {H c : Int32} {e : Term} (hc : cf_ k M N) (h0 : an_ e = j) (hj : j < 4) (hc2 : c = nI j) (h1 : ST_ k N a b o (C ++ cqX_ e C.length H) (H + nI j)) (h2 : p < a) (h3 : a ≤ n) (h4 : m < b) (h5 : b ≤ 20) (h6 : 3 * snX_ e + 1 ≤ 4 * (b - m)) : PA_ k n M p m o C H (some (e, a, b)) c N := ⟨hc, by subst h0; exact ⟨hc2, hj, h1, h2, h3, h4, h5, h6⟩⟩
theorem PA_get {k n p m o : Nat} {M N : mm_} {C : List cq2_} {H c : Int32} {x : Term × Nat × Nat} (h : PA_ k n M p m o C H (some x) c N) : c = nI (an_ x.1) ∧ an_ x.1 < 4 ∧ ST_ k N x.2.1 x.2.2 o (C ++ cqX_ x.1 C.length H) (H + nI (an_ x.1)) ∧ p < x.2.1 ∧ x.2.1 ≤ n ∧ m < x.2.2 ∧ x.2.2 ≤ 20 ∧ 3 * snX_ x.1 + 1 ≤ 4 * (x.2.2 - m) ∧ (C ++ cqX_ x.1 C.length H).length = C.length + snX_ x.1 := by
  obtain ⟨-, h1, h2, h3, h4, h5, h6, h7, h8⟩ := h
  exact ⟨h1, h2, h3, h4, h5, h6, h7, h8, by rw [List.length_append, cq_len]⟩
def XA_ (G : gg_) (k n : Nat) (v : Int32) (nm : Bool) (t : Nat) : Prop := ∀ (D : Nat) (M : mm_) (p m o : Nat) (C : List cq2_) (H : Int32), 3 * t + 13 ≤ D → PE_ k n v nm M → ST_ k M p m o C H → p ≤ n → m ≤ 20 → o ≤ 12 → 3 * C.length ≤ 4 * m → 9 * ((20 - m) + (12 - o)) + 10 ≤ t → cm_ G yX1_arguments cX1_arguments 2 (some .int) D [.ref (G.1 39)] M (rI_ (PA_ k n M p m o C H (pz2_ (tb_ M) v nm t 8 none p m o)))
set_option maxRecDepth 100000 in
set_option maxHeartbeats 800000 in
theorem x_arguments (G : gg_) (hG : gd_ G) (k n : Nat) (v : Int32) (nm : Bool) (t : Nat) (he : XE_ G k n v nm t) : XA_ G k n v nm (t + 1) := by
  intro D M p m o C H hD hE hS hp hm ho hC hB
  have hk := cd_kb hE.1
  have hk2 := hk
  unfold kb_ at hk2
  have hn2 := hE.2.1.1
  obtain ⟨d, rfl⟩ : ∃ d, D = d + 16 := ⟨D - 16, by omega⟩
  refine cm_of hG (by decide) (Nat.le_of_ble_eq_true rfl) (fun C9 X => ?_)
  have tf : ∀ (c : Int32) (N : mm_), cf_ k M N → FT_ k N → wq_ C9 G (qe_ C9 G (rI_ (PA_ k n M p m o C H none))) 6 [some (.ref (G.1 39)), some (.int c)] [] N := by
    intro c N hc hf
    refine w_iload_n X dX1_arguments_6 rfl rfl ?_
    refine w_iconst (v := 3) X dX1_arguments_7 (by decide) ?_
    refine w_icmp_gt (tgt := 60) X dX1_arguments_8 (by decide) (fun h8 => ?_) (fun h8 => ?_)
    · refine w_iload_n X dX1_arguments_60 rfl rfl ?_
      refine w_iconst (v := 3) X dX1_arguments_61 (by decide) ?_
      refine w_minI X dX1_arguments_62 mw1_153 (Nat.le_of_ble_eq_true rfl) ?_
      exact w_irR X dX1_arguments_65 (PA_none hc hf)
    · refine w_aload_n X dX1_arguments_11 rfl rfl ?_
      refine g1_7 X dX1_arguments_12 s_39 rfl ?_
      refine w_v0fI X dX1_arguments_15 k1_48 rfl s_37 (c7_peek G hG _ _ n (cf_tp hk hc hE.2.1)) (Nat.le_of_ble_eq_true rfl) ?_
      rw [pe_F hf.1]
      refine w_bipush (v := 44) X dX1_arguments_18 (by decide) ?_
      refine w_icmp_ne (tgt := 60) X dX1_arguments_20 (by decide) (fun h20 => ?_) (fun h20 => ?_)
      · refine w_iload_n X dX1_arguments_60 rfl rfl ?_
        refine w_iconst (v := 3) X dX1_arguments_61 (by decide) ?_
        refine w_minI X dX1_arguments_62 mw1_153 (Nat.le_of_ble_eq_true rfl) ?_
        exact w_irR X dX1_arguments_65 (PA_none hc hf)
      · exact absurd h20 (by decide)
  show wq_ C9 G (qe_ C9 G (rI_ (PA_ k n M p m o C H (z8_ (pz2_ (tb_ M) v nm t) (tb_ M) p m o)))) _ _ _ _
  unfold z8_
  have hct0 := he (d + 15) M p m o C H (by omega) (PE_cf hE cf_rf) hS (by omega) (by omega) ho (by omega) (by omega)
  rw [cf_tb hk cf_rf] at hct0
  refine w_aload_n X dX1_arguments_0 rfl rfl ?_
  refine w_v0rV X dX1_arguments_1 k1_39 rfl s_39 hct0 (Nat.le_of_ble_eq_true rfl) (fun N0 h0_ => ?_)
  have hc0 := cf_tr cf_rf h0_.1
  cases hz0 : pz2_ (tb_ M) v nm t 1 none p m o with
  | none =>
    rw [hz0] at h0_
    refine w_iconst (v := 1) X dX1_arguments_4 (by decide) ?_
    refine w_istore_n X dX1_arguments_5 rfl (by decide) ?_
    exact tf _ _ hc0 h0_.2
  | some a =>
    rw [hz0] at h0_
    obtain ⟨-, hs0, q01, q02, q03, q04, q05, q06⟩ := PR_get h0_
    have hEN0 := PE_cf hE hc0
    have hT0 := gpe hs0
    rw [cf_tb hk hc0] at hT0
    simp only
    refine w_iconst (v := 1) X dX1_arguments_4 (by decide) ?_
    refine w_istore_n X dX1_arguments_5 rfl (by decide) ?_
    refine w_iload_n X dX1_arguments_6 rfl rfl ?_
    refine w_iconst (v := 3) X dX1_arguments_7 (by decide) ?_
    refine w_icmp_gt (tgt := 60) X dX1_arguments_8 (by decide) (fun h8 => absurd h8 (by decide)) (fun h8 => ?_)
    refine w_aload_n X dX1_arguments_11 rfl rfl ?_
    refine g1_7 X dX1_arguments_12 s_39 rfl ?_
    refine w_v0fI X dX1_arguments_15 k1_48 rfl s_37 (c7_peek G hG _ _ n hEN0.2.1) (Nat.le_of_ble_eq_true rfl) ?_
    rw [hT0]
    refine w_bipush (v := 44) X dX1_arguments_18 (by decide) ?_
    refine w_icmp_ne (tgt := 60) X dX1_arguments_20 (by decide) (fun h20 => ?_) (fun h20 => ?_)
    · refine w_iload_n X dX1_arguments_60 rfl rfl ?_
      refine w_iconst (v := 3) X dX1_arguments_61 (by decide) ?_
      refine w_minI X dX1_arguments_62 mw1_153 (Nat.le_of_ble_eq_true rfl) ?_
      refine w_irR X dX1_arguments_65 ?_
      rw [if_neg h20]
      refine PA_some (j := 1) hc0 rfl (by decide) (by decide) ?_ (by omega) (by omega) (by omega) (by omega) ?_
      · have e9 : C ++ cqX_ (.add a.1 .null) C.length H = (C ++ cqX_ a.1 C.length H) := by
          simp only [cqX_, List.append_assoc, List.append_nil]
        rw [e9]
        exact hs0
      · simp only [snX_]; omega
    · have hp0 := tb_lt hE.2.1 (by omega : a.2.1 ≤ 300) (by rw [h20]; decide)
      rw [if_pos h20]
      have hs0p := g37 (p2 := a.2.1 + 1) hk hs0
      have hc0p := cf_tr hc0 (cf_37 (M := N0) (i := 1) (v := nI (a.2.1 + 1)) hk)
      refine w_aload_n X dX1_arguments_23 rfl rfl ?_
      refine g1_7 X dX1_arguments_24 s_39 rfl ?_
      refine w_dup X dX1_arguments_27 rfl ?_
      refine g1_84 X dX1_arguments_28 s_37 rfl ?_
      refine w_iconst (v := 1) X dX1_arguments_31 (by decide) ?_
      refine w_iadd X dX1_arguments_32 ?_
      refine p1_84 X dX1_arguments_33 s_37 rfl ?_
      refine w_aload_n X dX1_arguments_36 rfl rfl ?_
      refine w_iload_n X dX1_arguments_37 rfl rfl ?_
      refine w_iconst (v := 3) X dX1_arguments_38 (by decide) ?_
      refine w_icmp_ne (tgt := 46) X dX1_arguments_39 (by decide) (fun h39 => ?_) (fun h39 => absurd h39 (by decide))
      refine w_iconst (v := 0) X dX1_arguments_46 (by decide) ?_
      refine p1_31 X dX1_arguments_47 s_39 rfl (by first | exact Or.inl rfl | exact Or.inr rfl | assumption) ?_
      rw [hs0.2.1, nI_1, sI_selfX (show (sI_ N0 37 1 (nI (a.2.1 + 1))).1 39 6 = 0 from hs0p.2.2.2.2.1)]
      have hct1 := he (d + 15) _ (a.2.1 + 1) a.2.2 o (C ++ cqX_ a.1 C.length H) (H + 1) (by omega) (PE_cf hE hc0p) hs0p (by omega) (by omega) ho (by omega) (by omega)
      rw [cf_tb hk hc0p] at hct1
      refine w_aload_n X dX1_arguments_50 rfl rfl ?_
      refine w_v0rV X dX1_arguments_51 k1_39 rfl s_39 hct1 (Nat.le_of_ble_eq_true rfl) (fun N1 h1_ => ?_)
      have hc1 := cf_tr hc0p h1_.1
      cases hz1 : pz2_ (tb_ M) v nm t 1 none (a.2.1 + 1) a.2.2 o with
      | none =>
        rw [hz1] at h1_
        refine w_iinc (v := 1) X dX1_arguments_54 rfl (by decide) (by decide) ?_
        refine w_goto (tgt := 6) X dX1_arguments_57 (by decide) ?_
        exact tf _ _ hc1 h1_.2
      | some b =>
        rw [hz1] at h1_
        obtain ⟨-, hs1, q11, q12, q13, q14, q15, q16⟩ := PR_get h1_
        have hEN1 := PE_cf hE hc1
        have hT1 := gpe hs1
        rw [cf_tb hk hc1] at hT1
        simp only
        refine w_iinc (v := 1) X dX1_arguments_54 rfl (by decide) (by decide) ?_
        refine w_goto (tgt := 6) X dX1_arguments_57 (by decide) ?_
        refine w_iload_n X dX1_arguments_6 rfl rfl ?_
        refine w_iconst (v := 3) X dX1_arguments_7 (by decide) ?_
        refine w_icmp_gt (tgt := 60) X dX1_arguments_8 (by decide) (fun h8 => absurd h8 (by decide)) (fun h8 => ?_)
        refine w_aload_n X dX1_arguments_11 rfl rfl ?_
        refine g1_7 X dX1_arguments_12 s_39 rfl ?_
        refine w_v0fI X dX1_arguments_15 k1_48 rfl s_37 (c7_peek G hG _ _ n hEN1.2.1) (Nat.le_of_ble_eq_true rfl) ?_
        rw [hT1]
        refine w_bipush (v := 44) X dX1_arguments_18 (by decide) ?_
        refine w_icmp_ne (tgt := 60) X dX1_arguments_20 (by decide) (fun h20 => ?_) (fun h20 => ?_)
        · refine w_iload_n X dX1_arguments_60 rfl rfl ?_
          refine w_iconst (v := 3) X dX1_arguments_61 (by decide) ?_
          refine w_minI X dX1_arguments_62 mw1_153 (Nat.le_of_ble_eq_true rfl) ?_
          refine w_irR X dX1_arguments_65 ?_
          rw [if_neg h20]
          refine PA_some (j := 2) hc1 rfl (by decide) (by decide) ?_ (by omega) (by omega) (by omega) (by omega) ?_
          · have e9 : C ++ cqX_ (.add a.1 (.add b.1 .null)) C.length H = ((C ++ cqX_ a.1 C.length H) ++ cqX_ b.1 (C ++ cqX_ a.1 C.length H).length (H + 1)) := by
              rw [q06]; simp only [cqX_, List.append_assoc, List.append_nil]
            rw [e9, show H + nI 2 = (H + 1 + 1) by simp only [Int32.add_assoc]; rfl]
            exact hs1
          · simp only [snX_]; omega
        · have hp1 := tb_lt hE.2.1 (by omega : b.2.1 ≤ 300) (by rw [h20]; decide)
          rw [if_pos h20]
          have hs1p := g37 (p2 := b.2.1 + 1) hk hs1
          have hc1p := cf_tr hc1 (cf_37 (M := N1) (i := 1) (v := nI (b.2.1 + 1)) hk)
          refine w_aload_n X dX1_arguments_23 rfl rfl ?_
          refine g1_7 X dX1_arguments_24 s_39 rfl ?_
          refine w_dup X dX1_arguments_27 rfl ?_
          refine g1_84 X dX1_arguments_28 s_37 rfl ?_
          refine w_iconst (v := 1) X dX1_arguments_31 (by decide) ?_
          refine w_iadd X dX1_arguments_32 ?_
          refine p1_84 X dX1_arguments_33 s_37 rfl ?_
          refine w_aload_n X dX1_arguments_36 rfl rfl ?_
          refine w_iload_n X dX1_arguments_37 rfl rfl ?_
          refine w_iconst (v := 3) X dX1_arguments_38 (by decide) ?_
          refine w_icmp_ne (tgt := 46) X dX1_arguments_39 (by decide) (fun h39 => ?_) (fun h39 => absurd h39 (by decide))
          refine w_iconst (v := 0) X dX1_arguments_46 (by decide) ?_
          refine p1_31 X dX1_arguments_47 s_39 rfl (by first | exact Or.inl rfl | exact Or.inr rfl | assumption) ?_
          rw [hs1.2.1, nI_1, sI_selfX (show (sI_ N1 37 1 (nI (b.2.1 + 1))).1 39 6 = 0 from hs1p.2.2.2.2.1)]
          have hct2 := he (d + 15) _ (b.2.1 + 1) b.2.2 o ((C ++ cqX_ a.1 C.length H) ++ cqX_ b.1 (C ++ cqX_ a.1 C.length H).length (H + 1)) (H + 1 + 1) (by omega) (PE_cf hE hc1p) hs1p (by omega) (by omega) ho (by omega) (by omega)
          rw [cf_tb hk hc1p] at hct2
          refine w_aload_n X dX1_arguments_50 rfl rfl ?_
          refine w_v0rV X dX1_arguments_51 k1_39 rfl s_39 hct2 (Nat.le_of_ble_eq_true rfl) (fun N2 h2_ => ?_)
          have hc2 := cf_tr hc1p h2_.1
          cases hz2 : pz2_ (tb_ M) v nm t 1 none (b.2.1 + 1) b.2.2 o with
          | none =>
            rw [hz2] at h2_
            refine w_iinc (v := 1) X dX1_arguments_54 rfl (by decide) (by decide) ?_
            refine w_goto (tgt := 6) X dX1_arguments_57 (by decide) ?_
            exact tf _ _ hc2 h2_.2
          | some c =>
            rw [hz2] at h2_
            obtain ⟨-, hs2, q21, q22, q23, q24, q25, q26⟩ := PR_get h2_
            have hEN2 := PE_cf hE hc2
            have hT2 := gpe hs2
            rw [cf_tb hk hc2] at hT2
            simp only
            refine w_iinc (v := 1) X dX1_arguments_54 rfl (by decide) (by decide) ?_
            refine w_goto (tgt := 6) X dX1_arguments_57 (by decide) ?_
            refine w_iload_n X dX1_arguments_6 rfl rfl ?_
            refine w_iconst (v := 3) X dX1_arguments_7 (by decide) ?_
            refine w_icmp_gt (tgt := 60) X dX1_arguments_8 (by decide) (fun h8 => absurd h8 (by decide)) (fun h8 => ?_)
            refine w_aload_n X dX1_arguments_11 rfl rfl ?_
            refine g1_7 X dX1_arguments_12 s_39 rfl ?_
            refine w_v0fI X dX1_arguments_15 k1_48 rfl s_37 (c7_peek G hG _ _ n hEN2.2.1) (Nat.le_of_ble_eq_true rfl) ?_
            rw [hT2]
            refine w_bipush (v := 44) X dX1_arguments_18 (by decide) ?_
            refine w_icmp_ne (tgt := 60) X dX1_arguments_20 (by decide) (fun h20 => ?_) (fun h20 => ?_)
            · refine w_iload_n X dX1_arguments_60 rfl rfl ?_
              refine w_iconst (v := 3) X dX1_arguments_61 (by decide) ?_
              refine w_minI X dX1_arguments_62 mw1_153 (Nat.le_of_ble_eq_true rfl) ?_
              refine w_irR X dX1_arguments_65 ?_
              rw [if_neg h20]
              refine PA_some (j := 3) hc2 rfl (by decide) (by decide) ?_ (by omega) (by omega) (by omega) (by omega) ?_
              · have e9 : C ++ cqX_ (.add a.1 (.add b.1 (.add c.1 .null))) C.length H = (((C ++ cqX_ a.1 C.length H) ++ cqX_ b.1 (C ++ cqX_ a.1 C.length H).length (H + 1)) ++ cqX_ c.1 ((C ++ cqX_ a.1 C.length H) ++ cqX_ b.1 (C ++ cqX_ a.1 C.length H).length (H + 1)).length (H + 1 + 1)) := by
                  rw [q16, q06]; simp only [cqX_, List.append_assoc, List.append_nil]
                rw [e9, show H + nI 3 = (H + 1 + 1 + 1) by simp only [Int32.add_assoc]; rfl]
                exact hs2
              · simp only [snX_]; omega
            · have hp2 := tb_lt hE.2.1 (by omega : c.2.1 ≤ 300) (by rw [h20]; decide)
              rw [if_pos h20]
              have hs2p := g37 (p2 := c.2.1 + 1) hk hs2
              have hc2p := cf_tr hc2 (cf_37 (M := N2) (i := 1) (v := nI (c.2.1 + 1)) hk)
              refine w_aload_n X dX1_arguments_23 rfl rfl ?_
              refine g1_7 X dX1_arguments_24 s_39 rfl ?_
              refine w_dup X dX1_arguments_27 rfl ?_
              refine g1_84 X dX1_arguments_28 s_37 rfl ?_
              refine w_iconst (v := 1) X dX1_arguments_31 (by decide) ?_
              refine w_iadd X dX1_arguments_32 ?_
              refine p1_84 X dX1_arguments_33 s_37 rfl ?_
              refine w_aload_n X dX1_arguments_36 rfl rfl ?_
              refine w_iload_n X dX1_arguments_37 rfl rfl ?_
              refine w_iconst (v := 3) X dX1_arguments_38 (by decide) ?_
              refine w_icmp_ne (tgt := 46) X dX1_arguments_39 (by decide) (fun h39 => absurd rfl h39) (fun h39 => ?_)
              refine w_iconst (v := 1) X dX1_arguments_42 (by decide) ?_
              refine w_goto (tgt := 47) X dX1_arguments_43 (by decide) ?_
              refine p1_31 X dX1_arguments_47 s_39 rfl (by first | exact Or.inl rfl | exact Or.inr rfl | assumption) ?_
              rw [hs2.2.1, nI_1]
              have hb := ST_SB hk hs2p (by omega)
              have hcb := cf_tr hc2p (cf_39 (i := 6) (M := sI_ N2 37 1 (nI (c.2.1 + 1))) (v := 1) (k := k) (by omega))
              refine w_aload_n X dX1_arguments_50 rfl rfl ?_
              refine w_v0rV X dX1_arguments_51 k1_39 rfl s_39 (b1_expression G hG (d + 2) _ n (cf_tp hk hcb hE.2.1) k hE.1 (by rw [hcb.1]; exact hE.2.2.1) hb) (Nat.le_of_ble_eq_true rfl) (fun N9 h9_ => ?_)
              refine w_iinc (v := 1) X dX1_arguments_54 rfl (by decide) (by decide) ?_
              refine w_goto (tgt := 6) X dX1_arguments_57 (by decide) ?_
              exact tf _ _ (cf_tr hcb h9_.1) h9_.2
