section
/-! invocation, word, operand -/
def zi_ (P : pf2_) (T : Int32 → Int32) (nm : Bool) (k m o : Nat) (r : Nat × Int32 × Int64) : px2_ :=
  if m < 20 ∧ nm = true ∧ r.1 ≤ 12 ∧ T (nI (k + r.1)) = 40 ∧ o < 12 then
      (if T (nI (k + r.1 + 1)) = 41 then some (.sub (.long (ky_ r.2.2 0)) .null, k + r.1 + 2, m + 1)
       else (match P 8 none (k + r.1 + 1) (m + 1) (o + 1) with
        | none => none
        | some x => if T (nI x.2.1) = 41 then some (.sub (.long (ky_ r.2.2 (nI (an_ x.1)))) x.1, x.2.1 + 1, x.2.2) else none))
     else none
theorem gtN {k p m o : Nat} {M : mm_} {C : List cq2_} {H : Int32} {a : Nat} (hk : kb_ k) (h : ST_ k M p m o C H) (h4 : M.1 37 4 = nI a) (h5 : M.1 37 5 = 1) (ha : a ≤ 12) : ST_ k (tN_ M) (p + a) m o C H := by
  unfold tN_
  rw [if_pos (by rw [h4]; exact nI_le (a := a) (b := 12) ha (by decide)), if_neg (by rw [h5]; decide), h4, h.2.1, nI_add]
  exact g37 hk h
theorem gtN0 {k p m o : Nat} {M : mm_} {C : List cq2_} {H : Int32} {a : Nat} (hk : kb_ k) (h : ST_ k M p m o C H) (h4 : M.1 37 4 = nI a) (h5 : M.1 37 5 = 1) (ha : ¬ a ≤ 12) (ha2 : a ≤ 300) (hl : C.length ≤ 26) : FT_ k (tN_ M) := by
  unfold tN_
  rw [if_neg (by rw [h4]; exact nI_ge (a := 12) (b := a) (by omega) (by omega)), if_neg (by rw [h5]; decide)]
  exact rF37 hk (gfi hk h (by decide) hl) (by decide)
theorem cN_4 (M : mm_) (x : Int32) : (cN_ M x).1 37 4 = M.1 37 4 := by unfold cN_; split <;> first | rfl | exact fi_4 _ _ _
theorem cN_L (M : mm_) (x : Int32) : (cN_ M x).2.1 = M.2.1 := by unfold cN_; split <;> first | rfl | exact fi_L _ _ _
theorem fi_5 (M : mm_) (f w : Int32) : (fiX_ M f w).1 37 5 = M.1 37 5 := by unfold fiX_; split <;> rfl
theorem cN_5 (M : mm_) (x : Int32) : (cN_ M x).1 37 5 = M.1 37 5 := by unfold cN_; split <;> first | rfl | exact fi_5 _ _ _
theorem gep {k p m o : Nat} {M : mm_} {C : List cq2_} {H c : Int32} (hk : kb_ k) (h : ST_ k M p m o C H) (hc : tb_ M (nI p) = c) : ST_ k (ep_ M c) (p + 1) m o C H := by
  unfold ep_
  rw [if_pos ((gpe h).trans hc), h.2.1, nI_1]
  exact g37 hk h
theorem gep0 {k p m o : Nat} {M : mm_} {C : List cq2_} {H c : Int32} (hk : kb_ k) (h : ST_ k M p m o C H) (hc : ¬ tb_ M (nI p) = c) (hl : C.length ≤ 26) : FT_ k (ep_ M c) := by
  unfold ep_
  rw [if_neg (fun z => hc ((gpe h).symm.trans z))]
  exact rF37 hk (gfi hk h (by decide) hl) (by decide)
theorem g5k {k p m o : Nat} {M : mm_} {C : List cq2_} {H : Int32} (c : Int32) (hk : kb_ k) (h : ST_ k M p m o C H) : ST_ k (sI_ M k 5 (M.1 k 5 - c)) p m o C (H - c) := by
  obtain ⟨h1, h2, h3, h4, h5, ⟨h6, h7⟩, h8⟩ := h
  unfold kb_ at hk
  have e : ∀ a i, ¬ (a = k ∧ i = 5) → (sI_ M k 5 (M.1 k 5 - c)).1 a i = M.1 a i := fun a i z => by rw [gI_sI, if_neg z]
  refine ⟨by rw [e _ _ (by omega)]; exact h1, by rw [e _ _ (by omega)]; exact h2, by rw [e _ _ (by omega)]; exact h3, by rw [e _ _ (by omega)]; exact h4, by rw [e _ _ (by omega)]; exact h5, ⟨by rw [e _ _ (by omega)]; exact h6, fun j q hq => ?_⟩, by rw [gI_sI, if_pos ⟨rfl, rfl⟩, h8]⟩
  obtain ⟨g1, g2, g3, g4⟩ := h7 j q hq
  exact ⟨by rw [e _ _ (by omega)]; exact g1, g2, fun z => by rw [e _ _ (by omega)]; exact g3 z, by rw [e _ _ (by omega)]; exact g4⟩
theorem nI_sub1 (o : Nat) : nI (o + 1) - 1 = nI o := by rw [← nI_1, Int32.add_sub_cancel]
set_option maxRecDepth 100000 in
set_option maxHeartbeats 800000 in
theorem x_invocation (G : gg_) (hG : gd_ G) (k n : Nat) (v : Int32) (nm : Bool) (t : Nat) (ha : XA_ G k n v nm t) : ∀ (D : Nat) (M : mm_) (p m o : Nat) (C : List cq2_) (H : Int32) (r : Nat × Int32 × Int64), 3 * t + 14 ≤ D → PE_ k n v nm M → ST_ k M p m o C H → p + r.1 ≤ n → m ≤ 20 → o ≤ 12 → 3 * C.length ≤ 4 * m → 9 * ((20 - m) + (12 - o)) + 3 ≤ t + 1 → M.1 37 4 = nI r.1 → M.1 37 5 = 1 → M.2.1 37 6 = r.2.2 → r.2.2.toBitVec.toNat < 2 ^ 60 → cm_ G yX1_invocation cX1_invocation 4 none D [.ref (G.1 39)] M (rV_ (PR_ k n M p m o C H (zi_ (pz2_ (tb_ M) v nm t) (tb_ M) nm p m o r))) := by
  intro D M p m o C H r hD hE hS hp hm ho hC hB h374 h375 h376 hw
  have hk := cd_kb hE.1
  have hk2 := hk
  unfold kb_ at hk2
  have hn2 := hE.2.1.1
  have ht := hE.2.1
  obtain ⟨d, rfl⟩ : ∃ d, D = d + 14 := ⟨D - 14, by omega⟩
  refine cm_of hG (by decide) (Nat.le_of_ble_eq_true rfl) (fun C9 X => ?_)
  have tf41 : ∀ (a b c : Option Value) (N : mm_), cf_ k M N → FT_ k N → wq_ C9 G (qe_ C9 G (rV_ (PR_ k n M p m o C H none))) 41 [some (.ref (G.1 39)), a, b, c] [] N := by
    intro a b c N hc hf
    refine w_aload_n X dX1_invocation_41 rfl rfl ?_
    refine w_v0fI X dX1_invocation_42 k1_106 rfl s_39 (c1_takeOpen G hG _ _ n (cf_tp hk hc ht)) (Nat.le_of_ble_eq_true rfl) ?_
    rw [tA_F hf.1, if_neg hf.1, tO_F hf.1]
    refine w_if_eq (tgt := 101) X dX1_invocation_45 (by decide) (fun h45 => ?_) (fun h45 => absurd (rfl) h45)
    exact w_vrR X dX1_invocation_101 (PR_none (cf_tr hc (cf_oF hk)) (rFoF hk hf))
  have tf33 : ∀ (a b c : Option Value) (N : mm_), cf_ k M N → FT_ k N → wq_ C9 G (qe_ C9 G (rV_ (PR_ k n M p m o C H none))) 33 [some (.ref (G.1 39)), a, b, c] [] N := by
    intro a b c N hc hf
    refine w_aload_n X dX1_invocation_33 rfl rfl ?_
    refine g1_7 X dX1_invocation_34 s_39 rfl ?_
    refine w_v0fL X dX1_invocation_37 k1_136 rfl s_37 (c7_takeName G hG _ _) (Nat.le_of_ble_eq_true rfl) ?_
    refine w_lstore_n X dX1_invocation_40 rfl (by decide) ?_
    exact tf41 _ _ _ _ (cf_tr hc (cf_tN hk)) (rFtN hk hf)
  have tf11 : ∀ (a b c : Option Value) (N : mm_), cf_ k M N → FT_ k N → wq_ C9 G (qe_ C9 G (rV_ (PR_ k n M p m o C H none))) 11 [some (.ref (G.1 39)), a, b, c] [] N := by
    intro a b c N hc hf
    refine w_aload_n X dX1_invocation_11 rfl rfl ?_
    refine g1_21 X dX1_invocation_12 s_39 rfl ?_
    refine w_if_ne (tgt := 33) X dX1_invocation_15 (by decide) (fun h15 => ?_) (fun h15 => ?_)
    · exact tf33 _ _ _ _ hc hf
    · refine w_aload_n X dX1_invocation_18 rfl rfl ?_
      refine g1_7 X dX1_invocation_19 s_39 rfl ?_
      refine w_iconst (v := 4) X dX1_invocation_22 (by decide) ?_
      refine w_aload_n X dX1_invocation_23 rfl rfl ?_
      refine g1_7 X dX1_invocation_24 s_39 rfl ?_
      refine g1_84 X dX1_invocation_27 s_37 rfl ?_
      refine w_v2fV X dX1_invocation_30 k1_125 rfl s_37 (c7_fail G hG _ _ _ _) (Nat.le_of_ble_eq_true rfl) ?_
      rw [fi_F hf.1]
      exact tf33 _ _ _ _ hc hf
  have tf69 : ∀ (w : Int64) (b : Option Value) (c : Int32) (N : mm_), cf_ k M N → FT_ k N → wq_ C9 G (qe_ C9 G (rV_ (PR_ k n M p m o C H none))) 69 [some (.ref (G.1 39)), some (.long w), b, some (.int c)] [] N := by
    intro w b c N hc hf
    have hc2 := cf_tr hc (cf_tr (cf_ep (c := 41) hk) (cf_39 (i := 5) (v := (ep_ N 41).1 39 5 - 1) (by omega)))
    have hf2 := rF39 (i := 5) (v := (ep_ N 41).1 39 5 - 1) hk (rFep (c := 41) hk hf)
    have hf3 := hf2
    obtain ⟨-, L9, hl, hL⟩ := hf3
    refine w_aload_n X dX1_invocation_69 rfl rfl ?_
    refine g1_7 X dX1_invocation_70 s_39 rfl ?_
    refine w_bipush (v := 41) X dX1_invocation_73 (by decide) ?_
    refine w_v1fV X dX1_invocation_75 k1_72 rfl s_37 (c7_expect G hG _ _ n (cf_tp hk hc ht) _) (Nat.le_of_ble_eq_true rfl) ?_
    refine w_aload_n X dX1_invocation_78 rfl rfl ?_
    refine w_dup X dX1_invocation_79 rfl ?_
    refine g1_28 X dX1_invocation_80 s_39 rfl ?_
    refine w_iconst (v := 1) X dX1_invocation_83 (by decide) ?_
    refine w_isub X dX1_invocation_84 ?_
    refine p1_28 X dX1_invocation_85 s_39 rfl ?_
    refine w_aload_n X dX1_invocation_88 rfl rfl ?_
    refine r1_13 X dX1_invocation_89 s_39 rfl (by rw [hc2.1]; exact hE.2.2.1) ?_
    refine w_lload_n X dX1_invocation_92 rfl rfl ?_
    refine w_iload_n X dX1_invocation_93 rfl rfl ?_
    refine w_s2fL X dX1_invocation_94 k1_143 (c6_key G hG _ _ _ _) (Nat.le_of_ble_eq_true rfl) ?_
    refine w_iload_n X dX1_invocation_97 rfl rfl ?_
    refine w_v2fV X dX1_invocation_98 k1_149 rfl hE.1.1 (c0_addInvocation G hG _ _ k hE.1 L9 hL hl _ _) (Nat.le_of_ble_eq_true rfl) ?_
    exact w_vrR X dX1_invocation_101 (PR_none (cf_tr (cf_tr hc2 (cf_k hk (by omega) (by omega))) (cf_ad hk)) (rFad hk (rFk hk hf2 (by omega) (by omega) (by omega)) (by rw [gI_sI, if_neg (by omega)]; exact hL) hl))
  unfold zi_
  refine w_aload_n X dX1_invocation_0 rfl rfl ?_
  refine w_aload_n X dX1_invocation_1 rfl rfl ?_
  refine g1_7 X dX1_invocation_2 s_39 rfl ?_
  refine g1_84 X dX1_invocation_5 s_37 rfl ?_
  refine w_v1fV X dX1_invocation_8 k1_97 rfl s_39 (c1_countNode G hG _ _ _) (Nat.le_of_ble_eq_true rfl) ?_
  have hc1 := cf_cN (M := M) (x := M.1 37 1) hk
  by_cases h20 : m < 20
  case neg =>
    rw [if_neg (fun z => h20 z.1)]
    exact tf11 _ _ _ _ hc1 (gcN0 hk hS h20 hm (by omega))
  have hs1 := gcN (x := M.1 37 1) hk hS h20
  have hn3 : (cN_ M (M.1 37 1)).1 39 3 = (if nm = true then 1 else 0) := by rw [cN_39 _ _ _ (by decide)]; exact hE.2.2.2.2
  by_cases hnm : nm = true
  case neg =>
    rw [if_neg (fun z => hnm z.2.1)]
    refine w_aload_n X dX1_invocation_11 rfl rfl ?_
    refine g1_21 X dX1_invocation_12 s_39 rfl ?_
    rw [hn3, if_neg hnm]
    refine w_if_ne (tgt := 33) X dX1_invocation_15 (by decide) (fun h15 => absurd rfl h15) (fun h15 => ?_)
    refine w_aload_n X dX1_invocation_18 rfl rfl ?_
    refine g1_7 X dX1_invocation_19 s_39 rfl ?_
    refine w_iconst (v := 4) X dX1_invocation_22 (by decide) ?_
    refine w_aload_n X dX1_invocation_23 rfl rfl ?_
    refine g1_7 X dX1_invocation_24 s_39 rfl ?_
    refine g1_84 X dX1_invocation_27 s_37 rfl ?_
    refine w_v2fV X dX1_invocation_30 k1_125 rfl s_37 (c7_fail G hG _ _ _ _) (Nat.le_of_ble_eq_true rfl) ?_
    exact tf33 _ _ _ _ (cf_tr hc1 (cf_fi hk)) (gfi hk hs1 (by decide) (by omega))
  refine w_aload_n X dX1_invocation_11 rfl rfl ?_
  refine g1_21 X dX1_invocation_12 s_39 rfl ?_
  rw [hn3, if_pos hnm]
  refine w_if_ne (tgt := 33) X dX1_invocation_15 (by decide) (fun h15 => ?_) (fun h15 => absurd h15 (by decide))
  have h4 := (cN_4 M (M.1 37 1)).trans h374
  have h5 := (cN_5 M (M.1 37 1)).trans h375
  refine w_aload_n X dX1_invocation_33 rfl rfl ?_
  refine g1_7 X dX1_invocation_34 s_39 rfl ?_
  refine w_v0fL X dX1_invocation_37 k1_136 rfl s_37 (c7_takeName G hG _ _) (Nat.le_of_ble_eq_true rfl) ?_
  rw [cN_L, h376]
  refine w_lstore_n X dX1_invocation_40 rfl (by decide) ?_
  have hc2 := cf_tr hc1 (cf_tN (M := cN_ M (M.1 37 1)) hk)
  by_cases h12 : r.1 ≤ 12
  case neg =>
    rw [if_neg (fun z => h12 z.2.2.1)]
    exact tf41 _ _ _ _ hc2 (gtN0 hk hs1 h4 h5 h12 (by omega) (by omega))
  have hs2 := gtN hk hs1 h4 h5 h12
  by_cases h40 : tb_ M (nI (p + r.1)) = 40 ∧ o < 12
  case neg =>
    rw [if_neg (fun z => h40 z.2.2.2)]
    have hf3 := gtA0 hk hs2 (by omega) ho (by rw [cf_tb hk hc2]; exact h40)
    refine w_aload_n X dX1_invocation_41 rfl rfl ?_
    refine w_v0fI X dX1_invocation_42 k1_106 rfl s_39 (c1_takeOpen G hG _ _ n (cf_tp hk hc2 ht)) (Nat.le_of_ble_eq_true rfl) ?_
    rw [if_neg hf3.1]
    refine w_if_eq (tgt := 101) X dX1_invocation_45 (by decide) (fun h45 => ?_) (fun h45 => absurd (rfl) h45)
    exact w_vrR X dX1_invocation_101 (PR_none (cf_tr hc2 (cf_tO hk)) (rFtO hk hf3))
  rw [if_pos ⟨h20, hnm, h12, h40⟩]
  have h40b : tb_ (tN_ (cN_ M (M.1 37 1))) (nI (p + r.1)) = 40 := by rw [cf_tb hk hc2]; exact h40.1
  have hs3 := gtO hk hs2 h40b h40.2
  have hc3 := cf_tr hc2 (cf_tO (M := tN_ (cN_ M (M.1 37 1))) hk)
  have hpn := tb_lt ht (by omega : p + r.1 ≤ 300) (by rw [h40.1]; decide)
  refine w_aload_n X dX1_invocation_41 rfl rfl ?_
  refine w_v0fI X dX1_invocation_42 k1_106 rfl s_39 (c1_takeOpen G hG _ _ n (cf_tp hk hc2 ht)) (Nat.le_of_ble_eq_true rfl) ?_
  rw [gtA hs2 h40b h40.2, if_pos hs2.1]
  refine w_if_eq (tgt := 101) X dX1_invocation_45 (by decide) (fun h45 => absurd h45 (by decide)) (fun h45 => ?_)
  have hT3 := gpe hs3
  rw [cf_tb hk hc3] at hT3
  by_cases h41 : tb_ M (nI (p + r.1 + 1)) = 41
  · rw [if_pos h41]
    have hpn2 := tb_lt ht (by omega : p + r.1 + 1 ≤ 300) (by rw [h41]; decide)
    have se := gep (c := 41) hk hs3 (by rw [cf_tb hk hc3]; exact h41)
    have so := g395 (o2 := o) hk se
    have hc8 := cf_tr hc3 (cf_tr (cf_ep (M := tO_ (tN_ (cN_ M (M.1 37 1)))) (c := 41) hk) (cf_39 (M := ep_ (tO_ (tN_ (cN_ M (M.1 37 1)))) 41) (i := 5) (v := nI o) (k := k) (by omega)))
    have sa := gad (q := 7) (d := ky_ r.2.2 0) hk (g5k 0 hk so) (by omega) (by decide)
    rw [show rsX_ 7 (ky_ r.2.2 0) = 1 from rfl, Int32.sub_zero H] at sa
    refine w_aload_n X dX1_invocation_48 rfl rfl ?_
    refine g1_7 X dX1_invocation_49 s_39 rfl ?_
    refine w_v0fI X dX1_invocation_52 k1_48 rfl s_37 (c7_peek G hG _ _ n (cf_tp hk hc3 ht)) (Nat.le_of_ble_eq_true rfl) ?_
    refine w_bipush (v := 41) X dX1_invocation_55 (by decide) ?_
    rw [hT3]
    refine w_icmp_ne (tgt := 64) X dX1_invocation_57 (by decide) (fun h57 => absurd h41 h57) (fun h57 => ?_)
    refine w_iconst (v := 0) X dX1_invocation_60 (by decide) ?_
    refine w_goto (tgt := 68) X dX1_invocation_61 (by decide) ?_
    refine w_istore_n X dX1_invocation_68 rfl (by decide) ?_
    refine w_aload_n X dX1_invocation_69 rfl rfl ?_
    refine g1_7 X dX1_invocation_70 s_39 rfl ?_
    refine w_bipush (v := 41) X dX1_invocation_73 (by decide) ?_
    refine w_v1fV X dX1_invocation_75 k1_72 rfl s_37 (c7_expect G hG _ _ n (cf_tp hk hc3 ht) _) (Nat.le_of_ble_eq_true rfl) ?_
    refine w_aload_n X dX1_invocation_78 rfl rfl ?_
    refine w_dup X dX1_invocation_79 rfl ?_
    refine g1_28 X dX1_invocation_80 s_39 rfl ?_
    refine w_iconst (v := 1) X dX1_invocation_83 (by decide) ?_
    refine w_isub X dX1_invocation_84 ?_
    rw [se.2.2.2.1, nI_sub1]
    refine p1_28 X dX1_invocation_85 s_39 rfl ?_
    refine w_aload_n X dX1_invocation_88 rfl rfl ?_
    refine r1_13 X dX1_invocation_89 s_39 rfl (by rw [hc8.1]; exact hE.2.2.1) ?_
    refine w_lload_n X dX1_invocation_92 rfl rfl ?_
    refine w_iload_n X dX1_invocation_93 rfl rfl ?_
    refine w_s2fL X dX1_invocation_94 k1_143 (c6_key G hG _ _ _ _) (Nat.le_of_ble_eq_true rfl) ?_
    refine w_iload_n X dX1_invocation_97 rfl rfl ?_
    refine w_v2fV X dX1_invocation_98 k1_149 rfl hE.1.1 (c0_addInvocation G hG _ _ k hE.1 _ so.2.2.2.2.2.1.1 (by omega) _ _) (Nat.le_of_ble_eq_true rfl) ?_
    exact w_vrR X dX1_invocation_101 (PR_some (cf_tr (cf_tr hc8 (cf_k hk (by omega) (by omega))) (cf_ad hk)) (by rw [show cqX_ (.sub (.long (ky_ r.2.2 0)) .null) C.length H = [((7 : Int32), ky_ r.2.2 0, (0 : Int32), H + 1)] from rfl]; exact sa) (by omega) (by omega) (by omega) (by omega) (by simp only [snX_]; omega))
  · rw [if_neg h41]
    have hct := ha (d + 13) _ (p + r.1 + 1) (m + 1) (o + 1) C H (by omega) (PE_cf hE hc3) hs3 (by omega) (by omega) (by omega) (by omega) (by omega)
    rw [cf_tb hk hc3] at hct
    refine w_aload_n X dX1_invocation_48 rfl rfl ?_
    refine g1_7 X dX1_invocation_49 s_39 rfl ?_
    refine w_v0fI X dX1_invocation_52 k1_48 rfl s_37 (c7_peek G hG _ _ n (cf_tp hk hc3 ht)) (Nat.le_of_ble_eq_true rfl) ?_
    refine w_bipush (v := 41) X dX1_invocation_55 (by decide) ?_
    rw [hT3]
    refine w_icmp_ne (tgt := 64) X dX1_invocation_57 (by decide) (fun h57 => ?_) (fun h57 => absurd h57 h41)
    refine w_aload_n X dX1_invocation_64 rfl rfl ?_
    refine w_v0rI X dX1_invocation_65 k1_140 rfl s_39 hct (Nat.le_of_ble_eq_true rfl) (fun cnt N4 h => ?_)
    have hc4 := cf_tr hc3 h.1
    refine w_istore_n X dX1_invocation_68 rfl (by decide) ?_
    cases hz : pz2_ (tb_ M) v nm t 8 none (p + r.1 + 1) (m + 1) (o + 1) with
    | none =>
      rw [hz] at h
      exact tf69 _ _ _ _ hc4 h.2
    | some x =>
      rw [hz] at h
      obtain ⟨hcn, hj4, hs4, q1, q2, q3, q4, q5, q6⟩ := PA_get h
      subst hcn
      simp only
      by_cases h411 : tb_ M (nI x.2.1) = 41
      case neg =>
        rw [if_neg h411]
        have hf5 := gep0 (c := 41) hk hs4 (by rw [cf_tb hk hc4]; exact h411) (by omega)
        have hc6 := cf_tr hc4 (cf_tr (cf_ep (M := N4) (c := 41) hk) (cf_39 (M := ep_ N4 41) (i := 5) (v := (ep_ N4 41).1 39 5 - 1) (k := k) (by omega)))
        have hf6 := rF39 (i := 5) (v := (ep_ N4 41).1 39 5 - 1) hk hf5
        have hf7 := hf6
        obtain ⟨-, L9, hl, hL⟩ := hf7
        refine w_aload_n X dX1_invocation_69 rfl rfl ?_
        refine g1_7 X dX1_invocation_70 s_39 rfl ?_
        refine w_bipush (v := 41) X dX1_invocation_73 (by decide) ?_
        refine w_v1fV X dX1_invocation_75 k1_72 rfl s_37 (c7_expect G hG _ _ n (cf_tp hk hc4 ht) _) (Nat.le_of_ble_eq_true rfl) ?_
        refine w_aload_n X dX1_invocation_78 rfl rfl ?_
        refine w_dup X dX1_invocation_79 rfl ?_
        refine g1_28 X dX1_invocation_80 s_39 rfl ?_
        refine w_iconst (v := 1) X dX1_invocation_83 (by decide) ?_
        refine w_isub X dX1_invocation_84 ?_
        refine p1_28 X dX1_invocation_85 s_39 rfl ?_
        refine w_aload_n X dX1_invocation_88 rfl rfl ?_
        refine r1_13 X dX1_invocation_89 s_39 rfl (by rw [hc6.1]; exact hE.2.2.1) ?_
        refine w_lload_n X dX1_invocation_92 rfl rfl ?_
        refine w_iload_n X dX1_invocation_93 rfl rfl ?_
        refine w_s2fL X dX1_invocation_94 k1_143 (c6_key G hG _ _ _ _) (Nat.le_of_ble_eq_true rfl) ?_
        refine w_iload_n X dX1_invocation_97 rfl rfl ?_
        refine w_v2fV X dX1_invocation_98 k1_149 rfl hE.1.1 (c0_addInvocation G hG _ _ k hE.1 L9 hL hl _ _) (Nat.le_of_ble_eq_true rfl) ?_
        exact w_vrR X dX1_invocation_101 (PR_none (cf_tr (cf_tr hc6 (cf_k hk (by omega) (by omega))) (cf_ad hk)) (rFad hk (rFk hk hf6 (by omega) (by omega) (by omega)) (by rw [gI_sI, if_neg (by omega)]; exact hL) hl))
      rw [if_pos h411]
      have hpn3 := tb_lt ht (by omega : x.2.1 ≤ 300) (by rw [h411]; decide)
      have se := gep (c := 41) hk hs4 (by rw [cf_tb hk hc4]; exact h411)
      have so := g395 (o2 := o) hk se
      have hc8 := cf_tr hc4 (cf_tr (cf_ep (M := N4) (c := 41) hk) (cf_39 (M := ep_ N4 41) (i := 5) (v := nI o) (k := k) (by omega)))
      have sa := gad (q := 7) (d := ky_ r.2.2 (nI (an_ x.1))) hk (g5k (nI (an_ x.1)) hk so) (by omega) (by decide)
      rw [show rsX_ 7 (ky_ r.2.2 (nI (an_ x.1))) = 1 from rfl, show H + nI (an_ x.1) - nI (an_ x.1) = H from Int32.add_sub_cancel H (nI (an_ x.1))] at sa
      refine w_aload_n X dX1_invocation_69 rfl rfl ?_
      refine g1_7 X dX1_invocation_70 s_39 rfl ?_
      refine w_bipush (v := 41) X dX1_invocation_73 (by decide) ?_
      refine w_v1fV X dX1_invocation_75 k1_72 rfl s_37 (c7_expect G hG _ _ n (cf_tp hk hc4 ht) _) (Nat.le_of_ble_eq_true rfl) ?_
      refine w_aload_n X dX1_invocation_78 rfl rfl ?_
      refine w_dup X dX1_invocation_79 rfl ?_
      refine g1_28 X dX1_invocation_80 s_39 rfl ?_
      refine w_iconst (v := 1) X dX1_invocation_83 (by decide) ?_
      refine w_isub X dX1_invocation_84 ?_
      rw [se.2.2.2.1, nI_sub1]
      refine p1_28 X dX1_invocation_85 s_39 rfl ?_
      refine w_aload_n X dX1_invocation_88 rfl rfl ?_
      refine r1_13 X dX1_invocation_89 s_39 rfl (by rw [hc8.1]; exact hE.2.2.1) ?_
      refine w_lload_n X dX1_invocation_92 rfl rfl ?_
      refine w_iload_n X dX1_invocation_93 rfl rfl ?_
      refine w_s2fL X dX1_invocation_94 k1_143 (c6_key G hG _ _ _ _) (Nat.le_of_ble_eq_true rfl) ?_
      refine w_iload_n X dX1_invocation_97 rfl rfl ?_
      refine w_v2fV X dX1_invocation_98 k1_149 rfl hE.1.1 (c0_addInvocation G hG _ _ k hE.1 _ so.2.2.2.2.2.1.1 (by omega) _ _) (Nat.le_of_ble_eq_true rfl) ?_
      exact w_vrR X dX1_invocation_101 (PR_some (cf_tr (cf_tr hc8 (cf_k hk (by omega) (by omega))) (cf_ad hk)) (by rw [cqX_, ← List.append_assoc]; exact sa) (by omega) (by omega) (by omega) (by omega) (by rw [snX_]; omega))
set_option maxRecDepth 100000 in
set_option maxHeartbeats 800000 in
theorem x_word (G : gg_) (hG : gd_ G) (k n : Nat) (v : Int32) (nm : Bool) (t : Nat) (ha : XA_ G k n v nm t) : ∀ (D : Nat) (M : mm_) (p m o : Nat) (C : List cq2_) (H : Int32), 3 * t + 15 ≤ D → PE_ k n v nm M → ST_ k M p m o C H → p ≤ n → m ≤ 20 → o ≤ 12 → 3 * C.length ≤ 4 * m → 9 * ((20 - m) + (12 - o)) + 3 ≤ t + 1 → ¬ rb_ (tb_ M (nI p)) = 0 → cm_ G yX1_word cX1_word 1 none D [.ref (G.1 39)] M (rV_ (PR_ k n M p m o C H (zw_ (pz2_ (tb_ M) v nm t) (tb_ M) v nm p m o (srT_ (tb_ M) (nI p) 200 0 0 0)))) := by
  intro D M p m o C H hD hE hS hp hm ho hC hB hrb
  have hk := cd_kb hE.1
  have hk2 := hk
  unfold kb_ at hk2
  have hn2 := hE.2.1.1
  have ht := hE.2.1
  obtain ⟨d, rfl⟩ : ∃ d, D = d + 15 := ⟨D - 15, by omega⟩
  refine cm_of hG (by decide) (Nat.le_of_ble_eq_true rfl) (fun C9 X => ?_)
  have hpn := tb_lt ht (by omega : p ≤ 300) (fun z => hrb (by rw [z]; decide))
  have hw := srT_w (T := tb_ M) (p := nI p) 200 0 0 0 (by decide)
  have hle := (srT_le (T := tb_ M) (n := n) (p := p) (by rw [tb_n ht]; decide) 200 0 0 0 (by omega)).2
  obtain ⟨r, hr⟩ : ∃ r, r = srT_ (tb_ M) (nI p) 200 0 0 0 := ⟨_, rfl⟩
  have hr2 : sr1_ M (M.1 37 1) 200 0 0 0 = r := by rw [hr, hS.2.1]; exact sr1_T M _ _ _ _ _
  rw [← hr] at hw hle ⊢
  have hs1 := gsr (r := r) hk hS
  have hc1 := cf_sr (M := M) (r := r) hk
  have h4 : (srO_ M r).1 37 4 = nI r.1 := rfl
  have h6 : (srO_ M r).2.1 37 6 = r.2.2 := rfl
  have h5 : (srO_ M r).1 37 5 = (if r.2.1 = 1 ∧ ¬ tb_ M (nI p) = 46 ∧ ¬ tb_ M (nI p + nI r.1 - 1) = 46 then 1 else 0) := by rw [← hS.2.1]; rfl
  have hT := gpe hs1
  rw [cf_tb hk hc1] at hT
  have hpr : ∀ (q : px2_) (N : mm_), PR_ k n (srO_ M r) p m o C H q N → PR_ k n M p m o C H q N := fun q N z => ⟨cf_tr hc1 z.1, z.2⟩
  refine w_aload_n X dX1_word_0 rfl rfl ?_
  refine g1_7 X dX1_word_1 s_39 rfl ?_
  refine w_v0fV X dX1_word_4 k1_110 rfl s_37 (c7_scanRow G hG _ _ n ht _ hr2) (Nat.le_of_ble_eq_true rfl) ?_
  unfold zw_
  by_cases hn : r.2.1 = 1 ∧ ¬ tb_ M (nI p) = 46 ∧ ¬ tb_ M (nI p + nI r.1 - 1) = 46
  · rw [if_pos hn]
    rw [if_pos hn] at h5
    have hct := x_invocation G hG k n v nm t ha (d + 14) _ p m o C H r (by omega) (PE_cf hE hc1) hs1 hle hm ho hC hB h4 h5 h6 hw
    rw [cf_tb hk hc1] at hct
    refine w_aload_n X dX1_word_7 rfl rfl ?_
    refine g1_7 X dX1_word_8 s_39 rfl ?_
    refine g1_113 X dX1_word_11 s_37 rfl ?_
    rw [h5]
    refine w_if_eq (tgt := 24) X dX1_word_14 (by decide) (fun h14 => absurd h14 (by decide)) (fun h14 => ?_)
    refine w_aload_n X dX1_word_17 rfl rfl ?_
    refine w_v0rV X dX1_word_18 k1_116 rfl s_39 (hct) (Nat.le_of_ble_eq_true rfl) (fun N18 h18 => ?_)
    refine w_goto (tgt := 69) X dX1_word_21 (by decide) ?_
    exact w_vrR X dX1_word_69 (hpr _ _ h18)
  · rw [if_neg hn]
    rw [if_neg hn] at h5
    have hr1 : nI r.1 = 1 → r.1 = 1 := fun z => (nI_inj (by omega) (by decide)).mp (z.trans (by decide : (1 : Int32) = nI 1))
    refine w_aload_n X dX1_word_7 rfl rfl ?_
    refine g1_7 X dX1_word_8 s_39 rfl ?_
    refine g1_113 X dX1_word_11 s_37 rfl ?_
    rw [h5]
    refine w_if_eq (tgt := 24) X dX1_word_14 (by decide) (fun h14 => ?_) (fun h14 => absurd (rfl) h14)
    refine w_aload_n X dX1_word_24 rfl rfl ?_
    refine g1_7 X dX1_word_25 s_39 rfl ?_
    refine g1_119 X dX1_word_28 s_37 rfl ?_
    refine w_iconst (v := 1) X dX1_word_31 (by decide) ?_
    rw [h4]
    refine w_icmp_ne (tgt := 54) X dX1_word_32 (by decide) (fun h32 => ?_) (fun h32 => ?_)
    · refine w_aload_n X dX1_word_54 rfl rfl ?_
      refine g1_7 X dX1_word_55 s_39 rfl ?_
      refine w_iconst (v := 1) X dX1_word_58 (by decide) ?_
      refine w_aload_n X dX1_word_59 rfl rfl ?_
      refine g1_7 X dX1_word_60 s_39 rfl ?_
      refine g1_84 X dX1_word_63 s_37 rfl ?_
      refine w_v2fV X dX1_word_66 k1_125 rfl s_37 (c7_fail G hG _ _ _ _) (Nat.le_of_ble_eq_true rfl) ?_
      refine w_vrR X dX1_word_69 ?_
      rw [if_neg (fun z => h32 (by rw [z.1]; rfl))]
      exact PR_none (cf_tr hc1 (cf_fi hk)) (gfi hk hs1 (by decide) (by omega))
    · refine w_aload_n X dX1_word_35 rfl rfl ?_
      refine g1_7 X dX1_word_36 s_39 rfl ?_
      refine w_v0fI X dX1_word_39 k1_48 rfl s_37 (c7_peek G hG _ _ n (cf_tp hk hc1 ht)) (Nat.le_of_ble_eq_true rfl) ?_
      refine w_bipush (v := 46) X dX1_word_42 (by decide) ?_
      rw [hT]
      refine w_icmp_eq (tgt := 54) X dX1_word_44 (by decide) (fun h44 => ?_) (fun h44 => ?_)
      · refine w_aload_n X dX1_word_54 rfl rfl ?_
        refine g1_7 X dX1_word_55 s_39 rfl ?_
        refine w_iconst (v := 1) X dX1_word_58 (by decide) ?_
        refine w_aload_n X dX1_word_59 rfl rfl ?_
        refine g1_7 X dX1_word_60 s_39 rfl ?_
        refine g1_84 X dX1_word_63 s_37 rfl ?_
        refine w_v2fV X dX1_word_66 k1_125 rfl s_37 (c7_fail G hG _ _ _ _) (Nat.le_of_ble_eq_true rfl) ?_
        refine w_vrR X dX1_word_69 ?_
        rw [if_neg (fun z => z.2.1 h44)]
        exact PR_none (cf_tr hc1 (cf_fi hk)) (gfi hk hs1 (by decide) (by omega))
      · refine w_aload_n X dX1_word_47 rfl rfl ?_
        refine w_v0fV X dX1_word_48 k1_122 rfl s_39 (c1_variable G hG _ _ n (cf_tp hk hc1 ht) k hE.1 (by rw [hc1.1]; exact hE.2.2.1) C.length hs1.2.2.2.2.2.1.1 (by omega) (vx2_ (tb_ M) p) (by rw [hT]; rfl)) (Nat.le_of_ble_eq_true rfl) ?_
        refine w_goto (tgt := 69) X dX1_word_51 (by decide) ?_
        refine w_vrR X dX1_word_69 (hpr _ _ ?_)
        have e : (if r.1 = 1 ∧ ¬ tb_ M (nI p) = 46 ∧ m < 20 ∧ ¬ vx2_ (tb_ M) p < 0 ∧ vx2_ (tb_ M) p < v then some (Term.index (vx2_ (tb_ M) p).toNatClampNeg, p + 1, m + 1) else none) = (if m < 20 ∧ ¬ vx2_ (tb_ M) p < 0 ∧ vx2_ (tb_ M) p < v then some (Term.index (vx2_ (tb_ M) p).toNatClampNeg, p + 1, m + 1) else none) := by
          by_cases z : m < 20 ∧ ¬ vx2_ (tb_ M) p < 0 ∧ vx2_ (tb_ M) p < v
          · rw [if_pos z, if_pos ⟨hr1 h32, h44, z⟩]
          · rw [if_neg z, if_neg (fun y => z y.2.2)]
        rw [e]
        exact vaS hk hs1 hm (by rw [hc1.2.2.2.1]; exact hE.2.2.2.1) hC hpn
set_option maxRecDepth 100000 in
set_option maxHeartbeats 800000 in
theorem x_operand (G : gg_) (hG : gd_ G) (k n : Nat) (v : Int32) (nm : Bool) (t : Nat) (he : XE_ G k n v nm t) (ha : XA_ G k n v nm t) : XO_ G k n v nm (t + 1) := by
  intro D M p m o C H hD hE hS hp hm ho hC hB
  have hk := cd_kb hE.1
  have hk2 := hk
  unfold kb_ at hk2
  have hn2 := hE.2.1.1
  have ht := hE.2.1
  obtain ⟨d, rfl⟩ : ∃ d, D = d + 16 := ⟨D - 16, by omega⟩
  refine cm_of hG (by decide) (Nat.le_of_ble_eq_true rfl) (fun C9 X => ?_)
  have hT := gpe hS
  show wq_ C9 G (qe_ C9 G (rV_ (PR_ k n M p m o C H (z7_ (pz2_ (tb_ M) v nm t) (tb_ M) v nm p m o)))) _ _ _ _
  unfold z7_
  refine w_aload_n X dX1_operand_0 rfl rfl ?_
  refine g1_7 X dX1_operand_1 s_39 rfl ?_
  refine g1_84 X dX1_operand_4 s_37 rfl ?_
  refine w_istore_n X dX1_operand_7 rfl (by decide) ?_
  refine w_aload_n X dX1_operand_8 rfl rfl ?_
  refine g1_7 X dX1_operand_9 s_39 rfl ?_
  refine w_v0fI X dX1_operand_12 k1_48 rfl s_37 (c7_peek G hG _ _ n ht) (Nat.le_of_ble_eq_true rfl) ?_
  rw [hT]
  refine w_s1fI X dX1_operand_15 k1_87 (c7_isFigure G hG _ _ _) (Nat.le_of_ble_eq_true rfl) ?_
  refine w_if_eq (tgt := 50) X dX1_operand_18 (by decide) (fun h18 => ?_) (fun h18 => ?_)
  · rw [if_pos h18]
    refine w_aload_n X dX1_operand_50 rfl rfl ?_
    refine g1_7 X dX1_operand_51 s_39 rfl ?_
    refine w_v0fI X dX1_operand_54 k1_48 rfl s_37 (c7_peek G hG _ _ n ht) (Nat.le_of_ble_eq_true rfl) ?_
    rw [hT]
    refine w_s1fI X dX1_operand_57 k1_100 (c7_isRowByte G hG _ _ _) (Nat.le_of_ble_eq_true rfl) ?_
    refine w_if_eq (tgt := 70) X dX1_operand_60 (by decide) (fun h60 => ?_) (fun h60 => ?_)
    · rw [if_pos h60]
      by_cases h40 : tb_ M (nI p) = 40 ∧ o < 12
      case neg =>
        rw [if_neg h40]
        have hf3 := gtA0 hk hS (by omega) ho h40
        refine w_aload_n X dX1_operand_70 rfl rfl ?_
        refine w_v0fI X dX1_operand_71 k1_106 rfl s_39 (c1_takeOpen G hG _ _ n ht) (Nat.le_of_ble_eq_true rfl) ?_
        rw [if_neg hf3.1]
        refine w_if_eq (tgt := 100) X dX1_operand_74 (by decide) (fun h74 => ?_) (fun h74 => absurd (rfl) h74)
        exact w_vrR X dX1_operand_100 (PR_none (cf_tO hk) (rFtO hk hf3))
      rw [if_pos h40]
      have hpn := tb_lt ht (by omega : p ≤ 300) (by rw [h40.1]; decide)
      have hs3 := gtO hk hS h40.1 h40.2
      have hc3 := cf_tO (M := M) hk
      have hct := he (d + 15) _ (p + 1) m (o + 1) C H (by omega) (PE_cf hE hc3) hs3 (by omega) (by omega) (by omega) (by omega) (by omega)
      rw [cf_tb hk hc3] at hct
      refine w_aload_n X dX1_operand_70 rfl rfl ?_
      refine w_v0fI X dX1_operand_71 k1_106 rfl s_39 (c1_takeOpen G hG _ _ n ht) (Nat.le_of_ble_eq_true rfl) ?_
      rw [gtA hS h40.1 h40.2, if_pos hS.1]
      refine w_if_eq (tgt := 100) X dX1_operand_74 (by decide) (fun h74 => absurd h74 (by decide)) (fun h74 => ?_)
      refine w_aload_n X dX1_operand_77 rfl rfl ?_
      refine w_v0rV X dX1_operand_78 k1_39 rfl s_39 hct (Nat.le_of_ble_eq_true rfl) (fun N4 h => ?_)
      have hc4 := cf_tr hc3 h.1
      have hc8 := cf_tr hc4 (cf_ep (M := N4) (c := 41) hk)
      cases hz : pz2_ (tb_ M) v nm t 1 none (p + 1) m (o + 1) with
      | none =>
        rw [hz] at h
        refine w_aload_n X dX1_operand_81 rfl rfl ?_
        refine g1_7 X dX1_operand_82 s_39 rfl ?_
        refine w_bipush (v := 41) X dX1_operand_85 (by decide) ?_
        refine w_v1fV X dX1_operand_87 k1_72 rfl s_37 (c7_expect G hG _ _ n (cf_tp hk hc4 ht) _) (Nat.le_of_ble_eq_true rfl) ?_
        refine w_aload_n X dX1_operand_90 rfl rfl ?_
        refine w_dup X dX1_operand_91 rfl ?_
        refine g1_28 X dX1_operand_92 s_39 rfl ?_
        refine w_iconst (v := 1) X dX1_operand_95 (by decide) ?_
        refine w_isub X dX1_operand_96 ?_
        refine p1_28 X dX1_operand_97 s_39 rfl ?_
        exact w_vrR X dX1_operand_100 (PR_none (cf_tr hc8 (cf_39 (by omega))) (rF39 hk (rFep hk h.2)))
      | some x =>
        rw [hz] at h
        obtain ⟨-, hs4, q1, q2, q3, q4, q5, q6⟩ := PR_get h
        simp only
        by_cases h411 : tb_ M (nI x.2.1) = 41
        · rw [if_pos h411]
          have hpn3 := tb_lt ht (by omega : x.2.1 ≤ 300) (by rw [h411]; decide)
          have se := gep (c := 41) hk hs4 (by rw [cf_tb hk hc4]; exact h411)
          have so := g395 (o2 := o) hk se
          refine w_aload_n X dX1_operand_81 rfl rfl ?_
          refine g1_7 X dX1_operand_82 s_39 rfl ?_
          refine w_bipush (v := 41) X dX1_operand_85 (by decide) ?_
          refine w_v1fV X dX1_operand_87 k1_72 rfl s_37 (c7_expect G hG _ _ n (cf_tp hk hc4 ht) _) (Nat.le_of_ble_eq_true rfl) ?_
          refine w_aload_n X dX1_operand_90 rfl rfl ?_
          refine w_dup X dX1_operand_91 rfl ?_
          refine g1_28 X dX1_operand_92 s_39 rfl ?_
          refine w_iconst (v := 1) X dX1_operand_95 (by decide) ?_
          refine w_isub X dX1_operand_96 ?_
          rw [se.2.2.2.1, nI_sub1]
          refine p1_28 X dX1_operand_97 s_39 rfl ?_
          exact w_vrR X dX1_operand_100 (PR_some (cf_tr hc8 (cf_39 (by omega))) so (by omega) (by omega) (by omega) (by omega) (by omega))
        · rw [if_neg h411]
          refine w_aload_n X dX1_operand_81 rfl rfl ?_
          refine g1_7 X dX1_operand_82 s_39 rfl ?_
          refine w_bipush (v := 41) X dX1_operand_85 (by decide) ?_
          refine w_v1fV X dX1_operand_87 k1_72 rfl s_37 (c7_expect G hG _ _ n (cf_tp hk hc4 ht) _) (Nat.le_of_ble_eq_true rfl) ?_
          refine w_aload_n X dX1_operand_90 rfl rfl ?_
          refine w_dup X dX1_operand_91 rfl ?_
          refine g1_28 X dX1_operand_92 s_39 rfl ?_
          refine w_iconst (v := 1) X dX1_operand_95 (by decide) ?_
          refine w_isub X dX1_operand_96 ?_
          refine p1_28 X dX1_operand_97 s_39 rfl ?_
          exact w_vrR X dX1_operand_100 (PR_none (cf_tr hc8 (cf_39 (by omega))) (rF39 hk (gep0 (c := 41) hk hs4 (by rw [cf_tb hk hc4]; exact h411) (by omega))))
    · rw [if_neg h60]
      refine w_aload_n X dX1_operand_63 rfl rfl ?_
      refine w_v0rV X dX1_operand_64 k1_103 rfl s_39 (x_word G hG k n v nm t ha (d + 15) M p m o C H (by omega) hE hS hp hm ho hC (by omega) h60) (Nat.le_of_ble_eq_true rfl) (fun N64 h64 => ?_)
      refine w_goto (tgt := 100) X dX1_operand_67 (by decide) ?_
      exact w_vrR X dX1_operand_100 h64
  · rw [if_neg h18]
    have hr := nuG hS.1 hS.2.1 (by rw [hT]; exact h18)
    have hp2 := nuP_le (T := tb_ M) (n := n) (fun j g1 g2 => by rw [show j = n by omega, tb_n ht]; decide) 199 (p + 1) (mn_ (0 * 10 + (tb_ M (nI p)).toInt64 - 48) 1099511627776) (tb_lt ht (by omega : p ≤ 300) (fun z => h18 (by rw [z]; decide)))
    have hp3 : p + 1 ≤ (nuP_ (tb_ M) 200 p 0).1 ∧ (nuP_ (tb_ M) 200 p 0).1 ≤ n := by
      rw [nuP_, if_neg h18]
      exact hp2
    refine w_aload_n X dX1_operand_21 rfl rfl ?_
    refine g1_7 X dX1_operand_22 s_39 rfl ?_
    refine w_ldc X dX1_operand_25 q1_93 ?_
    refine w_v1fI X dX1_operand_27 k1_94 rfl s_37 (c7_number G hG _ _ n ht _ _ hr) (Nat.le_of_ble_eq_true rfl) ?_
    have hs1 := g37 (p2 := (nuP_ (tb_ M) 200 p 0).1) hk hS
    have hc1 := cf_37 (M := M) (i := 1) (v := nI (nuP_ (tb_ M) 200 p 0).1) (k := k) hk
    refine w_istore_n X dX1_operand_30 rfl (by decide) ?_
    refine w_aload_n X dX1_operand_31 rfl rfl ?_
    refine w_iload_n X dX1_operand_32 rfl rfl ?_
    refine w_v1fV X dX1_operand_33 k1_97 rfl s_39 (c1_countNode G hG _ _ _) (Nat.le_of_ble_eq_true rfl) ?_
    have hc2 : cf_ k M (cN_ (nuB_ (sI_ M 37 1 (nI (nuP_ (tb_ M) 200 p 0).1)) (M.1 37 1) (nuP_ (tb_ M) 200 p 0).2 2147483647) (M.1 37 1)) := cf_tr (cf_tr hc1 (cf_nB hk)) (cf_cN hk)
    have tfn : FT_ k (cN_ (nuB_ (sI_ M 37 1 (nI (nuP_ (tb_ M) 200 p 0).1)) (M.1 37 1) (nuP_ (tb_ M) 200 p 0).2 2147483647) (M.1 37 1)) → wq_ C9 G (qe_ C9 G (rV_ (PR_ k n M p m o C H none))) 36 [some (.ref (G.1 39)), some (.int (M.1 37 1)), some (.int (nuP_ (tb_ M) 200 p 0).2.toInt32)] [] (cN_ (nuB_ (sI_ M 37 1 (nI (nuP_ (tb_ M) 200 p 0).1)) (M.1 37 1) (nuP_ (tb_ M) 200 p 0).2 2147483647) (M.1 37 1)) := by
      intro hf
      have hf3 := hf
      obtain ⟨-, L9, hl, hL⟩ := hf3
      refine w_aload_n X dX1_operand_36 rfl rfl ?_
      refine r1_13 X dX1_operand_37 s_39 rfl (by rw [hc2.1]; exact hE.2.2.1) ?_
      refine w_iconst (v := 0) X dX1_operand_40 (by decide) ?_
      refine w_iload_n X dX1_operand_41 rfl rfl ?_
      refine w_i2l X dX1_operand_42 ?_
      refine w_v2fI X dX1_operand_43 k1_68 rfl hE.1.1 (c0_add G hG _ _ k hE.1 L9 hL hl _ _) (Nat.le_of_ble_eq_true rfl) ?_
      refine w_pop X dX1_operand_46 rfl ?_
      refine w_goto (tgt := 100) X dX1_operand_47 (by decide) ?_
      exact w_vrR X dX1_operand_100 (PR_none (cf_tr hc2 (cf_ad hk)) (rFad hk hf hL hl))
    by_cases hb : (nuP_ (tb_ M) 200 p 0).2 ≤ 2147483647
    case neg =>
      rw [if_neg (fun z => hb z.1)]
      refine tfn (rFcN hk ?_)
      unfold nuB_
      rw [show Int32.toInt64 2147483647 = 2147483647 by decide +kernel, if_neg hb]
      exact gfi hk hs1 (by decide) (by omega)
    have hnb : nuB_ (sI_ M 37 1 (nI (nuP_ (tb_ M) 200 p 0).1)) (M.1 37 1) (nuP_ (tb_ M) 200 p 0).2 2147483647 = sI_ M 37 1 (nI (nuP_ (tb_ M) 200 p 0).1) := by
      unfold nuB_
      rw [show Int32.toInt64 2147483647 = 2147483647 by decide +kernel, if_pos hb]
    by_cases h20 : m < 20
    case neg =>
      rw [if_neg (fun z => h20 z.2)]
      refine tfn ?_
      rw [hnb]
      exact gcN0 hk hs1 h20 hm (by omega)
    rw [if_pos ⟨hb, h20⟩]
    rw [hnb] at hc2 ⊢
    have hs2 := gcN (x := M.1 37 1) hk hs1 h20
    have sa := gad (q := 0) (d := (nuP_ (tb_ M) 200 p 0).2.toInt32.toInt64) hk hs2 (by omega) (by decide)
    rw [show rsX_ 0 (nuP_ (tb_ M) 200 p 0).2.toInt32.toInt64 = 1 from if_pos (Or.inl rfl)] at sa
    refine w_aload_n X dX1_operand_36 rfl rfl ?_
    refine r1_13 X dX1_operand_37 s_39 rfl (by rw [hc2.1]; exact hE.2.2.1) ?_
    refine w_iconst (v := 0) X dX1_operand_40 (by decide) ?_
    refine w_iload_n X dX1_operand_41 rfl rfl ?_
    refine w_i2l X dX1_operand_42 ?_
    refine w_v2fI X dX1_operand_43 k1_68 rfl hE.1.1 (c0_add G hG _ _ k hE.1 _ hs2.2.2.2.2.2.1.1 (by omega) _ _) (Nat.le_of_ble_eq_true rfl) ?_
    refine w_pop X dX1_operand_46 rfl ?_
    refine w_goto (tgt := 100) X dX1_operand_47 (by decide) ?_
    exact w_vrR X dX1_operand_100 (PR_some (cf_tr hc2 (cf_ad hk)) (by rw [cqX_]; exact sa) (by omega) (by omega) (by omega) (by omega) (by rw [snX_]; omega))

end
section
/-! all the reader's recursive methods; read -/
theorem x_all (G : gg_) (hG : gd_ G) (k n : Nat) (v : Int32) (nm : Bool) : ∀ t u, u ≤ t → XE_ G k n v nm u ∧ XC_ G k n v nm u ∧ XS_ G k n v nm u ∧ XO_ G k n v nm u ∧ XA_ G k n v nm u ∧ XJ_ G k n v nm u 3 ∧ XJ_ G k n v nm u 4 ∧ XJ_ G k n v nm u 5 ∧ XJ_ G k n v nm u 6
  | 0, u, hu => by
    obtain rfl : u = 0 := by omega
    exact ⟨fun _ _ _ _ _ _ _ _ _ _ _ _ _ _ h => by omega, fun _ _ _ _ _ _ _ _ _ _ _ _ _ _ h => by omega, fun _ _ _ _ _ _ _ _ _ _ _ _ _ _ h => by omega, fun _ _ _ _ _ _ _ _ _ _ _ _ _ _ h => by omega, fun _ _ _ _ _ _ _ _ _ _ _ _ _ _ h => by omega, fun _ _ _ _ _ _ _ _ _ _ _ _ _ _ h => by omega, fun _ _ _ _ _ _ _ _ _ _ _ _ _ _ h => by omega, fun _ _ _ _ _ _ _ _ _ _ _ _ _ _ h => by omega, fun _ _ _ _ _ _ _ _ _ _ _ _ _ _ h => by omega⟩
  | t + 1, u, hu => by
    have ih := x_all G hG k n v nm t
    by_cases h : u ≤ t
    · exact ih u h
    · obtain rfl : u = t + 1 := by omega
      have i := ih t (Nat.le_refl _)
      have hs : XS_ G k n v nm (t + 1) := x_signed G hG k n v nm t i.2.2.1 i.2.2.2.1
      exact ⟨x_expression G hG k n v nm t (fun u h => (ih u h).2.1), x_choice G hG k n v nm t i.2.2.2.2.2.1 i.1 i.2.1, hs, x_operand G hG k n v nm t i.1 i.2.2.2.2.1, x_arguments G hG k n v nm t i.1, x_joined3 G hG k n v nm t (fun u h => (ih u h).2.2.2.2.2.2.1), x_joined4 G hG k n v nm t (fun u h => (ih u h).2.2.2.2.2.2.2.1), x_joined5 G hG k n v nm t (fun u h => (ih u h).2.2.2.2.2.2.2.2), x_joined6 G hG k n v nm (t + 1) hs⟩
def rd0_ (M : mm_) (k : Nat) (v b : Int32) : mm_ := sI_ (sI_ (sI_ (sI_ (sI_ (sI_ (sI_ (sR_ M 39 1 (some k)) 39 2 v) 39 3 b) 39 4 0) 39 5 0) 39 6 0) k 4 0) k 5 0
/-- nothing but the reader's cells and the Code k has changed -/
def cr_ (k : Nat) (M N : mm_) : Prop := (∀ a i, a ≠ 39 → N.2.2 a i = M.2.2 a i) ∧ (∀ a i, a ≠ 37 → a ≠ 39 → (a < k ∨ k + 4 < a) → N.1 a i = M.1 a i) ∧ (∀ a i, a ≠ 37 → a ≠ k + 2 → N.2.1 a i = M.2.1 a i)
theorem cr_tr {k : Nat} {A B D : mm_} (h : cr_ k A B) (g : cr_ k B D) : cr_ k A D := ⟨fun a i h1 => (g.1 a i h1).trans (h.1 a i h1), fun a i h1 h2 h3 => (g.2.1 a i h1 h2 h3).trans (h.2.1 a i h1 h2 h3), fun a i h1 h2 => (g.2.2 a i h1 h2).trans (h.2.2 a i h1 h2)⟩
theorem cr_cf {k : Nat} {M N : mm_} (h : cf_ k M N) : cr_ k M N := ⟨fun a i _ => by rw [h.1], h.2.1, h.2.2.1⟩
theorem cr_rd {k : Nat} {M : mm_} {v b : Int32} : cr_ k M (rd0_ M k v b) := by
  refine ⟨fun a i h1 => ?_, fun a i h1 h2 h3 => ?_, fun a i h1 h2 => rfl⟩
  · show (if a = 39 ∧ i = 1 then some k else M.2.2 a i) = _
    rw [if_neg (fun z => h1 z.1)]
  · show (rd0_ M k v b).1 a i = _
    unfold rd0_
    simp only [gI_sI]
    rw [if_neg (by omega), if_neg (by omega), if_neg (by omega), if_neg (by omega), if_neg (by omega), if_neg (by omega), if_neg (by omega)]
    rfl
theorem cr_tp {k n : Nat} {M N : mm_} (hk : kb_ k) (h : cr_ k M N) (ht : tpX_ M n) : tpX_ N n := ⟨ht.1, by rw [h.2.1 35 1 (by omega) (by omega) (by unfold kb_ at hk; omega)]; exact ht.2⟩
theorem cr_tb {k : Nat} {M N : mm_} (hk : kb_ k) (h : cr_ k M N) : tb_ N = tb_ M := by
  unfold kb_ at hk
  funext x
  unfold tb_
  rw [h.2.1 35 1 (by omega) (by omega) (by omega), h.2.1 36 _ (by omega) (by omega) (by omega)]
theorem rd_ST {k p : Nat} {M : mm_} {v b : Int32} (hk : kb_ k) (h0 : M.1 37 2 = 0) (h1 : M.1 37 1 = nI p) : ST_ k (rd0_ M k v b) p 0 0 [] 0 := by
  unfold kb_ at hk
  unfold rd0_
  refine ⟨?_, ?_, ?_, ?_, ?_, ⟨?_, fun j q hq => by simp at hq⟩, ?_⟩
  · simp only [gI_sI]; rw [if_neg (by omega), if_neg (by omega), if_neg (by omega), if_neg (by omega), if_neg (by omega), if_neg (by omega), if_neg (by omega)]; exact h0
  · simp only [gI_sI]; rw [if_neg (by omega), if_neg (by omega), if_neg (by omega), if_neg (by omega), if_neg (by omega), if_neg (by omega), if_neg (by omega)]; exact h1
  · simp only [gI_sI]; rw [if_neg (by omega), if_neg (by omega), if_neg (by omega), if_neg (by omega), if_pos (by simp)]; rfl
  · simp only [gI_sI]; rw [if_neg (by omega), if_neg (by omega), if_neg (by omega), if_pos (by simp)]; rfl
  · simp only [gI_sI]; rw [if_neg (by omega), if_neg (by omega), if_pos (by simp)]
  · simp only [gI_sI]; rw [if_neg (by omega), if_pos (by simp)]; rfl
  · simp only [gI_sI]; rw [if_pos (by simp)]
theorem rd_FT {k : Nat} {M : mm_} {v b : Int32} (hk : kb_ k) (h0 : ¬ M.1 37 2 = 0) : FT_ k (rd0_ M k v b) := by
  unfold kb_ at hk
  unfold rd0_
  refine ⟨?_, 0, by omega, ?_⟩
  · simp only [gI_sI]; rw [if_neg (by omega), if_neg (by omega), if_neg (by omega), if_neg (by omega), if_neg (by omega), if_neg (by omega), if_neg (by omega)]; exact h0
  · simp only [gI_sI]; rw [if_neg (by omega), if_pos (by simp)]; rfl
theorem rd_PE {k n : Nat} {M : mm_} {v : Int32} {nm : Bool} (hc : cdX_ k) (ht : tpX_ M n) : PE_ k n v nm (rd0_ M k v (if nm = true then 1 else 0)) := by
  have hk := cd_kb hc
  refine ⟨hc, cr_tp hk cr_rd ht, ?_, ?_, ?_⟩
  · show (if 39 = 39 ∧ 1 = 1 then some k else M.2.2 39 1) = _
    rw [if_pos ⟨rfl, rfl⟩]
  · unfold kb_ at hk
    unfold rd0_
    simp only [gI_sI]; rw [if_neg (by omega), if_neg (by omega), if_neg (by omega), if_neg (by omega), if_neg (by omega), if_neg (by omega), if_pos (by simp)]
  · unfold kb_ at hk
    unfold rd0_
    simp only [gI_sI]; rw [if_neg (by omega), if_neg (by omega), if_neg (by omega), if_neg (by omega), if_neg (by omega), if_pos (by simp)]
/-- where the reader stands: a place, or a fault -/
def LS_ (q : Option Nat) (M : mm_) : Prop := match q with
  | none => ¬ M.1 37 2 = 0
  | some p => M.1 37 2 = 0 ∧ M.1 37 1 = nI p
/-- an expression read from q on -/
def pe2_ (T : Int32 → Int32) (v : Int32) (nm : Bool) (q : Option Nat) : px2_ := match q with
  | none => none
  | some p => pz2_ T v nm 297 1 none p 0 0
def qx_ (r : px2_) : Option Nat := match r with
  | none => none
  | some x => some x.2.1
def RR_ (k n : Nat) (M : mm_) (r : px2_) (N : mm_) : Prop := cr_ k M N ∧ LS_ (qx_ r) N ∧ (∃ L, L ≤ 26 ∧ N.1 k 4 = nI L) ∧ ∀ x, r = some x → x.2.1 ≤ n ∧ hd_ k N (cqX_ x.1 0 0) ∧ 3 * snX_ x.1 + 1 ≤ 80
set_option maxRecDepth 100000 in
set_option maxHeartbeats 600000 in
theorem c1_read (G : gg_) (hG : gd_ G) (d : Nat) (M : mm_) (n : Nat) (ht : tpX_ M n) (k : Nat) (hk0 : cdX_ k) (v : Int32) (nm : Bool) (q : Option Nat) (hq : LS_ q M) (hp : ∀ p, q = some p → p ≤ n) : cm_ G yX1_read cX1_read 4 none (d + 905) [.ref (G.1 39), .ref (G.1 k), .int v, .int (if nm = true then 1 else 0)] M (rV_ (RR_ k n M (pe2_ (tb_ M) v nm q))) := by
  have hk := cd_kb hk0
  have hE := rd_PE (v := v) (nm := nm) hk0 ht
  have hcr := cr_rd (k := k) (M := M) (v := v) (b := if nm = true then 1 else 0)
  refine cm_of hG (by decide) (Nat.le_of_ble_eq_true rfl) (fun C X => ?_)
  refine w_aload_n X dX1_read_0 rfl rfl ?_
  refine w_aload_n X dX1_read_1 rfl rfl ?_
  refine p1_13 X dX1_read_2 s_39 rfl ?_
  refine w_aload_n X dX1_read_5 rfl rfl ?_
  refine w_iload_n X dX1_read_6 rfl rfl ?_
  refine p1_17 X dX1_read_7 s_39 rfl ?_
  refine w_aload_n X dX1_read_10 rfl rfl ?_
  refine w_iload_n X dX1_read_11 rfl rfl ?_
  refine p1_21 X dX1_read_12 s_39 rfl (by cases nm; exact Or.inl rfl; exact Or.inr rfl) ?_
  refine w_aload_n X dX1_read_15 rfl rfl ?_
  refine w_iconst (v := 0) X dX1_read_16 (by decide) ?_
  refine p1_25 X dX1_read_17 s_39 rfl ?_
  refine w_aload_n X dX1_read_20 rfl rfl ?_
  refine w_iconst (v := 0) X dX1_read_21 (by decide) ?_
  refine p1_28 X dX1_read_22 s_39 rfl ?_
  refine w_aload_n X dX1_read_25 rfl rfl ?_
  refine w_iconst (v := 0) X dX1_read_26 (by decide) ?_
  refine p1_31 X dX1_read_27 s_39 rfl (Or.inl rfl) ?_
  refine w_aload_n X dX1_read_30 rfl rfl ?_
  refine r1_13 X dX1_read_31 s_39 rfl (show (if 39 = 39 ∧ 1 = 1 then some k else M.2.2 39 1) = some k from if_pos ⟨rfl, rfl⟩) ?_
  refine w_v0fV X dX1_read_34 k1_34 rfl hk0.1 (c0_empty G hG _ _ k hk0) (Nat.le_of_ble_eq_true rfl) ?_
  show wq_ C G _ _ _ _ (rd0_ M k v (if nm = true then 1 else 0))
  cases q with
  | none =>
    refine w_aload_n X dX1_read_37 rfl rfl ?_
    refine w_v0fV X dX1_read_38 k1_39 rfl s_39 (f1_expression G hG _ _ n hE.2.1 (rd_FT hk hq).1 k hk0 hE.2.2.1) (Nat.le_of_ble_eq_true rfl) ?_
    have hf := rFoF hk (rd_FT (v := v) (b := if nm = true then 1 else 0) hk hq)
    exact w_vrR X dX1_read_41 ⟨cr_tr hcr (cr_cf (cf_oF hk)), hf.1, hf.2, fun x hx => by cases hx⟩
  | some p =>
    have hs := rd_ST (v := v) (b := if nm = true then 1 else 0) hk hq.1 hq.2
    have hct := (x_all G hG k n v nm 297 297 (Nat.le_refl _)).1 (d + 904) _ p 0 0 [] 0 (by omega) hE hs (hp p rfl) (by omega) (by omega) (by simp) (by omega)
    rw [cr_tb hk hcr] at hct
    refine w_aload_n X dX1_read_37 rfl rfl ?_
    refine w_v0rV X dX1_read_38 k1_39 rfl s_39 (hct) (Nat.le_of_ble_eq_true rfl) (fun N38 h38 => ?_)
    refine w_vrR X dX1_read_41 ?_
    show RR_ k n M (pz2_ (tb_ M) v nm 297 1 none p 0 0) _
    cases hz : pz2_ (tb_ M) v nm 297 1 none p 0 0 with
    | none =>
      rw [hz] at h38
      exact ⟨cr_tr hcr (cr_cf h38.1), h38.2.1, h38.2.2, fun x hx => by cases hx⟩
    | some x =>
      rw [hz] at h38
      obtain ⟨hc, hs2, q1, q2, q3, q4, q5, q6⟩ := PR_get h38
      have e : ([] : List cq2_).length + snX_ x.1 = snX_ x.1 := by simp
      refine ⟨cr_tr hcr (cr_cf hc), ⟨hs2.1, hs2.2.1⟩, ⟨_, by rw [q6, e]; omega, hs2.2.2.2.2.2.1.1⟩, fun y hy => ?_⟩
      cases hy
      exact ⟨q2, hs2.2.2.2.2.2.1, by omega⟩

end
