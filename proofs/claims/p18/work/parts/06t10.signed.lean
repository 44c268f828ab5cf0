/-! contracts of the recursive readers at fuel t (what they come to: pz2_ at t) -/
def XE_ (G : gg_) (k n : Nat) (v : Int32) (nm : Bool) (t : Nat) : Prop := ∀ (D : Nat) (M : mm_) (p m o : Nat) (C : List cq2_) (H : Int32), 3 * t + 13 ≤ D → PE_ k n v nm M → ST_ k M p m o C H → p ≤ n → m ≤ 20 → o ≤ 12 → 3 * C.length ≤ 4 * m → 9 * ((20 - m) + (12 - o)) + 9 ≤ t → cm_ G yX1_expression cX1_expression 4 none D [.ref (G.1 39)] M (rV_ (PR_ k n M p m o C H (pz2_ (tb_ M) v nm t 1 none p m o)))
def XC_ (G : gg_) (k n : Nat) (v : Int32) (nm : Bool) (t : Nat) : Prop := ∀ (D : Nat) (M : mm_) (p m o : Nat) (C : List cq2_) (H : Int32), 3 * t + 13 ≤ D → PE_ k n v nm M → ST_ k M p m o C H → p ≤ n → m ≤ 20 → o ≤ 12 → 3 * C.length ≤ 4 * m → 9 * ((20 - m) + (12 - o)) + 8 ≤ t → cm_ G yX1_choice cX1_choice 3 none D [.ref (G.1 39)] M (rV_ (PR_ k n M p m o C H (pz2_ (tb_ M) v nm t 2 none p m o)))
def XS_ (G : gg_) (k n : Nat) (v : Int32) (nm : Bool) (t : Nat) : Prop := ∀ (D : Nat) (M : mm_) (p m o : Nat) (C : List cq2_) (H : Int32), 3 * t + 13 ≤ D → PE_ k n v nm M → ST_ k M p m o C H → p ≤ n → m ≤ 20 → o ≤ 12 → 3 * C.length ≤ 4 * m → 9 * ((20 - m) + (12 - o)) + 4 ≤ t → cm_ G yX1_signed cX1_signed 2 none D [.ref (G.1 39)] M (rV_ (PR_ k n M p m o C H (pz2_ (tb_ M) v nm t 6 none p m o)))
def XO_ (G : gg_) (k n : Nat) (v : Int32) (nm : Bool) (t : Nat) : Prop := ∀ (D : Nat) (M : mm_) (p m o : Nat) (C : List cq2_) (H : Int32), 3 * t + 13 ≤ D → PE_ k n v nm M → ST_ k M p m o C H → p ≤ n → m ≤ 20 → o ≤ 12 → 3 * C.length ≤ 4 * m → 9 * ((20 - m) + (12 - o)) + 3 ≤ t → cm_ G yX1_operand cX1_operand 3 none D [.ref (G.1 39)] M (rV_ (PR_ k n M p m o C H (pz2_ (tb_ M) v nm t 7 none p m o)))
def XJ_ (G : gg_) (k n : Nat) (v : Int32) (nm : Bool) (t : Nat) (q : Nat) : Prop := ∀ (D : Nat) (M : mm_) (p m o : Nat) (C : List cq2_) (H : Int32), 3 * t + 14 ≤ D → PE_ k n v nm M → ST_ k M p m o C H → p ≤ n → m ≤ 20 → o ≤ 12 → 3 * C.length ≤ 4 * m → 9 * ((20 - m) + (12 - o)) + (10 - q) ≤ t → cm_ G yX1_joined cX1_joined 5 none D [.ref (G.1 39), .int (nI q)] M (rV_ (PR_ k n M p m o C H (pz2_ (tb_ M) v nm t q none p m o)))
set_option maxRecDepth 100000 in
set_option maxHeartbeats 600000 in
theorem x_signed (G : gg_) (hG : gd_ G) (k n : Nat) (v : Int32) (nm : Bool) (t : Nat) (hs : XS_ G k n v nm t) (hx : XO_ G k n v nm t) : XS_ G k n v nm (t + 1) := by
  intro D M p m o C H hD hE hS hp hm ho hC hB
  have hk := cd_kb hE.1
  have hk2 := hk
  unfold kb_ at hk2
  obtain ⟨d, rfl⟩ : ∃ d, D = d + 16 := ⟨D - 16, by omega⟩
  refine cm_of hG (by decide) (Nat.le_of_ble_eq_true rfl) (fun C9 X => ?_)
  have hT := gpe hS
  have hpn0 : ¬ tb_ M (nI p) = -1 → p + 1 ≤ n := fun z => Nat.lt_of_not_le (fun q => z (by unfold tb_; rw [hE.2.1.2, if_neg (fun w => absurd w.2 (nI_nlt q (by have := hE.2.1.1; omega)))]))
  refine w_aload_n X dX1_signed_0 rfl rfl ?_
  refine g1_7 X dX1_signed_1 s_39 rfl ?_
  refine w_v0fI X dX1_signed_4 k1_48 rfl s_37 (c7_peek G hG _ _ n hE.2.1) (Nat.le_of_ble_eq_true rfl) ?_
  rw [hT]
  refine w_bipush (v := 45) X dX1_signed_7 (by decide) ?_
  refine w_icmp_eq (tgt := 29) X dX1_signed_9 (by decide) (fun h9 => ?_) (fun h9 => ?_)
  · have hpn := hpn0 (by rw [h9]; decide)
    refine w_aload_n X dX1_signed_29 rfl rfl ?_
    refine w_v0fI X dX1_signed_30 k1_54 rfl s_39 (c1_takeSign G hG _ _ n hE.2.1) (Nat.le_of_ble_eq_true rfl) ?_
    rw [hT]
    refine w_bipush (v := 45) X dX1_signed_33 (by decide) ?_
    refine w_icmp_ne (tgt := 42) X dX1_signed_35 (by decide) (fun h35 => absurd h9 h35) (fun h35 => ?_)
    refine w_iconst (v := 2) X dX1_signed_38 (by decide) ?_
    refine w_goto (tgt := 43) X dX1_signed_39 (by decide) ?_
    refine w_istore_n X dX1_signed_43 rfl (by decide) ?_
    by_cases h20 : m < 20
    · have hb9 := cf_tS (M := M) hk
      have hct := hs (d + 15) (tS_ M) (p + 1) (m + 1) o C H (by omega) (PE_cf hE hb9) (gtS hk hS h20) hpn (by omega) ho (by omega) (by omega)
      rw [cf_tb hk hb9] at hct
      refine w_aload_n X dX1_signed_44 rfl rfl ?_
      refine w_v0rV X dX1_signed_45 k1_75 rfl s_39 hct (Nat.le_of_ble_eq_true rfl) (fun N h => ?_)
      obtain ⟨hc, hr⟩ := h
      have hc2 := cf_tr hb9 hc
      cases hz : pz2_ (tb_ M) v nm t 6 none (p + 1) (m + 1) o with
      | none =>
        rw [hz] at hr
        have hr : FT_ k N := hr
        obtain ⟨hf, L, hl, hL⟩ := hr
        refine w_aload_n X dX1_signed_48 rfl rfl ?_
        refine r1_13 X dX1_signed_49 s_39 rfl ((by rw [hc2.1]; exact hE.2.2.1)) ?_
        refine w_iload_n X dX1_signed_52 rfl rfl ?_
        refine w_lconst (v := 0) X dX1_signed_53 (by decide) ?_
        refine w_v2fI X dX1_signed_54 k1_68 rfl hE.1.1 (c0_add G hG _ _ k hE.1 L hL hl _ _) (Nat.le_of_ble_eq_true rfl) ?_
        refine w_pop X dX1_signed_57 rfl ?_
        refine w_vrR X dX1_signed_58 ?_
        show PR_ k n M p m o C H (z6_ (pz2_ (tb_ M) v nm t) (tb_ M) p m o) _
        unfold z6_
        rw [if_pos (Or.inl h9), if_pos h20, hz]
        exact PR_none (cf_tr hc2 (cf_ad hk)) (rFad hk ⟨hf, L, hl, hL⟩ hL hl)
      | some x =>
        rw [hz] at hr
        have hr : ST_ k N x.2.1 x.2.2 o (C ++ cqX_ x.1 C.length H) (H + 1) ∧ p + 1 < x.2.1 ∧ x.2.1 ≤ n ∧ m + 1 < x.2.2 ∧ x.2.2 ≤ 20 ∧ 3 * snX_ x.1 + 1 ≤ 4 * (x.2.2 - (m + 1)) := hr
        obtain ⟨hs2, q1, q2, q3, q4, q5⟩ := hr
        have hln : (C ++ cqX_ x.1 C.length H).length = C.length + snX_ x.1 := by rw [List.length_append, cq_len]
        refine w_aload_n X dX1_signed_48 rfl rfl ?_
        refine r1_13 X dX1_signed_49 s_39 rfl ((by rw [hc2.1]; exact hE.2.2.1)) ?_
        refine w_iload_n X dX1_signed_52 rfl rfl ?_
        refine w_lconst (v := 0) X dX1_signed_53 (by decide) ?_
        refine w_v2fI X dX1_signed_54 k1_68 rfl hE.1.1 (c0_add G hG _ _ k hE.1 _ hs2.2.2.2.2.2.1.1 (by omega) _ _) (Nat.le_of_ble_eq_true rfl) ?_
        refine w_pop X dX1_signed_57 rfl ?_
        refine w_vrR X dX1_signed_58 ?_
        show PR_ k n M p m o C H (z6_ (pz2_ (tb_ M) v nm t) (tb_ M) p m o) _
        unfold z6_
        rw [if_pos (Or.inl h9), if_pos h20, hz]
        have g9 := gad (q := 2) (d := 0) hk hs2 (by omega) (by decide)
        rw [show rsX_ 2 0 = 0 by decide, Int32.add_zero] at g9
        refine PR_some (cf_tr hc2 (cf_ad hk)) ?_ (by omega) (by omega) (by omega) (by omega) ?_
        · have e : C ++ cqX_ (if tb_ M (nI p) = 45 then Term.length x.1 else Term.sum x.1) C.length H = C ++ cqX_ x.1 C.length H ++ [(2, 0, 0, H + 1)] := by
            rw [if_pos h9, cqX_, List.append_assoc]
          rw [e]
          exact g9
        · rw [if_pos h9, snX_]; omega
    · have hf9 := gtS0 hk hS h20 hm (by omega)
      have hb9 := cf_tS (M := M) hk
      refine w_aload_n X dX1_signed_44 rfl rfl ?_
      refine w_v0fV X dX1_signed_45 k1_75 rfl s_39 (f1_signed G hG _ (tS_ M) n (cf_tp hk hb9 hE.2.1) hf9.1) (Nat.le_of_ble_eq_true rfl) ?_
      have hb8 := cf_tr hb9 (cf_oF (M := tS_ M) hk)
      have hf8 := rFoF hk hf9
      obtain ⟨hf, L, hl, hL⟩ := hf8
      refine w_aload_n X dX1_signed_48 rfl rfl ?_
      refine r1_13 X dX1_signed_49 s_39 rfl ((by rw [hb8.1]; exact hE.2.2.1)) ?_
      refine w_iload_n X dX1_signed_52 rfl rfl ?_
      refine w_lconst (v := 0) X dX1_signed_53 (by decide) ?_
      refine w_v2fI X dX1_signed_54 k1_68 rfl hE.1.1 (c0_add G hG _ _ k hE.1 L hL hl _ _) (Nat.le_of_ble_eq_true rfl) ?_
      refine w_pop X dX1_signed_57 rfl ?_
      refine w_vrR X dX1_signed_58 ?_
      show PR_ k n M p m o C H (z6_ (pz2_ (tb_ M) v nm t) (tb_ M) p m o) _
      unfold z6_
      rw [if_pos (Or.inl h9), if_neg h20]
      exact PR_none (cf_tr hb8 (cf_ad hk)) (rFad hk ⟨hf, L, hl, hL⟩ hL hl)
  · refine w_aload_n X dX1_signed_12 rfl rfl ?_
    refine g1_7 X dX1_signed_13 s_39 rfl ?_
    refine w_v0fI X dX1_signed_16 k1_48 rfl s_37 (c7_peek G hG _ _ n hE.2.1) (Nat.le_of_ble_eq_true rfl) ?_
    rw [hT]
    refine w_bipush (v := 33) X dX1_signed_19 (by decide) ?_
    refine w_icmp_eq (tgt := 29) X dX1_signed_21 (by decide) (fun h21 => ?_) (fun h21 => ?_)
    · have hpn := hpn0 (by rw [h21]; decide)
      refine w_aload_n X dX1_signed_29 rfl rfl ?_
      refine w_v0fI X dX1_signed_30 k1_54 rfl s_39 (c1_takeSign G hG _ _ n hE.2.1) (Nat.le_of_ble_eq_true rfl) ?_
      rw [hT]
      refine w_bipush (v := 45) X dX1_signed_33 (by decide) ?_
      refine w_icmp_ne (tgt := 42) X dX1_signed_35 (by decide) (fun h35 => ?_) (fun h35 => absurd h35 h9)
      refine w_iconst (v := 3) X dX1_signed_42 (by decide) ?_
      refine w_istore_n X dX1_signed_43 rfl (by decide) ?_
      by_cases h20 : m < 20
      · have hb9 := cf_tS (M := M) hk
        have hct := hs (d + 15) (tS_ M) (p + 1) (m + 1) o C H (by omega) (PE_cf hE hb9) (gtS hk hS h20) hpn (by omega) ho (by omega) (by omega)
        rw [cf_tb hk hb9] at hct
        refine w_aload_n X dX1_signed_44 rfl rfl ?_
        refine w_v0rV X dX1_signed_45 k1_75 rfl s_39 hct (Nat.le_of_ble_eq_true rfl) (fun N h => ?_)
        obtain ⟨hc, hr⟩ := h
        have hc2 := cf_tr hb9 hc
        cases hz : pz2_ (tb_ M) v nm t 6 none (p + 1) (m + 1) o with
        | none =>
          rw [hz] at hr
          have hr : FT_ k N := hr
          obtain ⟨hf, L, hl, hL⟩ := hr
          refine w_aload_n X dX1_signed_48 rfl rfl ?_
          refine r1_13 X dX1_signed_49 s_39 rfl ((by rw [hc2.1]; exact hE.2.2.1)) ?_
          refine w_iload_n X dX1_signed_52 rfl rfl ?_
          refine w_lconst (v := 0) X dX1_signed_53 (by decide) ?_
          refine w_v2fI X dX1_signed_54 k1_68 rfl hE.1.1 (c0_add G hG _ _ k hE.1 L hL hl _ _) (Nat.le_of_ble_eq_true rfl) ?_
          refine w_pop X dX1_signed_57 rfl ?_
          refine w_vrR X dX1_signed_58 ?_
          show PR_ k n M p m o C H (z6_ (pz2_ (tb_ M) v nm t) (tb_ M) p m o) _
          unfold z6_
          rw [if_pos (Or.inr h21), if_pos h20, hz]
          exact PR_none (cf_tr hc2 (cf_ad hk)) (rFad hk ⟨hf, L, hl, hL⟩ hL hl)
        | some x =>
          rw [hz] at hr
          have hr : ST_ k N x.2.1 x.2.2 o (C ++ cqX_ x.1 C.length H) (H + 1) ∧ p + 1 < x.2.1 ∧ x.2.1 ≤ n ∧ m + 1 < x.2.2 ∧ x.2.2 ≤ 20 ∧ 3 * snX_ x.1 + 1 ≤ 4 * (x.2.2 - (m + 1)) := hr
          obtain ⟨hs2, q1, q2, q3, q4, q5⟩ := hr
          have hln : (C ++ cqX_ x.1 C.length H).length = C.length + snX_ x.1 := by rw [List.length_append, cq_len]
          refine w_aload_n X dX1_signed_48 rfl rfl ?_
          refine r1_13 X dX1_signed_49 s_39 rfl ((by rw [hc2.1]; exact hE.2.2.1)) ?_
          refine w_iload_n X dX1_signed_52 rfl rfl ?_
          refine w_lconst (v := 0) X dX1_signed_53 (by decide) ?_
          refine w_v2fI X dX1_signed_54 k1_68 rfl hE.1.1 (c0_add G hG _ _ k hE.1 _ hs2.2.2.2.2.2.1.1 (by omega) _ _) (Nat.le_of_ble_eq_true rfl) ?_
          refine w_pop X dX1_signed_57 rfl ?_
          refine w_vrR X dX1_signed_58 ?_
          show PR_ k n M p m o C H (z6_ (pz2_ (tb_ M) v nm t) (tb_ M) p m o) _
          unfold z6_
          rw [if_pos (Or.inr h21), if_pos h20, hz]
          have g9 := gad (q := 3) (d := 0) hk hs2 (by omega) (by decide)
          rw [show rsX_ 3 0 = 0 by decide, Int32.add_zero] at g9
          refine PR_some (cf_tr hc2 (cf_ad hk)) ?_ (by omega) (by omega) (by omega) (by omega) ?_
          · have e : C ++ cqX_ (if tb_ M (nI p) = 45 then Term.length x.1 else Term.sum x.1) C.length H = C ++ cqX_ x.1 C.length H ++ [(3, 0, 0, H + 1)] := by
              rw [if_neg h9, cqX_, List.append_assoc]
            rw [e]
            exact g9
          · rw [if_neg h9, snX_]; omega
      · have hf9 := gtS0 hk hS h20 hm (by omega)
        have hb9 := cf_tS (M := M) hk
        refine w_aload_n X dX1_signed_44 rfl rfl ?_
        refine w_v0fV X dX1_signed_45 k1_75 rfl s_39 (f1_signed G hG _ (tS_ M) n (cf_tp hk hb9 hE.2.1) hf9.1) (Nat.le_of_ble_eq_true rfl) ?_
        have hb8 := cf_tr hb9 (cf_oF (M := tS_ M) hk)
        have hf8 := rFoF hk hf9
        obtain ⟨hf, L, hl, hL⟩ := hf8
        refine w_aload_n X dX1_signed_48 rfl rfl ?_
        refine r1_13 X dX1_signed_49 s_39 rfl ((by rw [hb8.1]; exact hE.2.2.1)) ?_
        refine w_iload_n X dX1_signed_52 rfl rfl ?_
        refine w_lconst (v := 0) X dX1_signed_53 (by decide) ?_
        refine w_v2fI X dX1_signed_54 k1_68 rfl hE.1.1 (c0_add G hG _ _ k hE.1 L hL hl _ _) (Nat.le_of_ble_eq_true rfl) ?_
        refine w_pop X dX1_signed_57 rfl ?_
        refine w_vrR X dX1_signed_58 ?_
        show PR_ k n M p m o C H (z6_ (pz2_ (tb_ M) v nm t) (tb_ M) p m o) _
        unfold z6_
        rw [if_pos (Or.inr h21), if_neg h20]
        exact PR_none (cf_tr hb8 (cf_ad hk)) (rFad hk ⟨hf, L, hl, hL⟩ hL hl)
    · have h9q : ¬ (tb_ M (nI p) = 45 ∨ tb_ M (nI p) = 33) := fun z => z.elim h9 h21
      have h8 := hx (d + 15) M p m o C H (by omega) hE hS hp hm ho hC (by omega)
      refine w_aload_n X dX1_signed_24 rfl rfl ?_
      refine w_v0rV X dX1_signed_25 k1_81 rfl s_39 h8 (Nat.le_of_ble_eq_true rfl) (fun N h => ?_)
      refine w_vrR X dX1_signed_28 ?_
      show PR_ k n M p m o C H (z6_ (pz2_ (tb_ M) v nm t) (tb_ M) p m o) _
      unfold z6_
      rw [if_neg h9q]
      exact h
set_option maxRecDepth 100000 in
set_option maxHeartbeats 600000 in
theorem x_joined6 (G : gg_) (hG : gd_ G) (k n : Nat) (v : Int32) (nm : Bool) (t : Nat) (hs : XS_ G k n v nm t) : XJ_ G k n v nm t 6 := by
  intro D M p m o C H hD hE hS hp hm ho hC hB
  obtain ⟨d, rfl⟩ : ∃ d, D = d + 1 := ⟨D - 1, by omega⟩
  refine cm_of hG (by decide) (Nat.le_of_ble_eq_true rfl) (fun C9 X => ?_)
  refine w_iload_n X dX1_joined_0 rfl rfl ?_
  refine w_bipush (v := 6) X dX1_joined_1 (by decide) ?_
  refine w_icmp_lt (tgt := 11) X dX1_joined_3 (by decide) (fun h3 => absurd h3 (by decide)) (fun h3 => ?_)
  refine w_aload_n X dX1_joined_6 rfl rfl ?_
  refine w_v0rV X dX1_joined_7 k1_75 rfl s_39 (hs d M p m o C H (by omega) hE hS hp hm ho hC (by omega)) (Nat.le_of_ble_eq_true rfl) (fun N7 h7 => ?_)
  exact w_vrR X dX1_joined_10 h7

