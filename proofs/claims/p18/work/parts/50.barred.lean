section
/-! variable; where an argument too many is read (barred) a fault comes -/
theorem fi_k {k : Nat} (hk : kb_ k) (M : mm_) (f w : Int32) (i : Nat) : (fiX_ M f w).1 k i = M.1 k i := by
  unfold kb_ at hk
  unfold fiX_; split
  · rw [gI_sI, if_neg (by omega), gI_sI, if_neg (by omega)]
  · rfl
theorem cN_k {k : Nat} (hk : kb_ k) (M : mm_) (x : Int32) (i : Nat) : (cN_ M x).1 k i = M.1 k i := by
  have hk2 := hk
  unfold kb_ at hk2
  unfold cN_
  rw [gI_sI, if_neg (by omega)]
  split
  · rfl
  · exact fi_k hk _ _ _ _
theorem cN_39 (M : mm_) (x : Int32) (i : Nat) (hi : ¬ i = 4) : (cN_ M x).1 39 i = M.1 39 i := by
  unfold cN_
  rw [gI_sI, if_neg (by omega)]
  split
  · rfl
  · exact fi_39 _ _ _ _
theorem cN_R (M : mm_) (x : Int32) : (cN_ M x).2.2 = M.2.2 := by
  unfold cN_; split
  · rfl
  · exact fi_R _ _ _
def va1_ (M : mm_) (x : Int32) : mm_ := if ¬ x < 0 ∧ x < M.1 39 2 then cN_ M (M.1 37 1) else fiX_ (cN_ M (M.1 37 1)) 4 (M.1 37 1)
def va2_ (M : mm_) (k L : Nat) (x : Int32) : mm_ := ad_ (sI_ (va1_ M x) 37 1 (M.1 37 1 + 1)) k L 1 x.toInt64
theorem va1_k {k : Nat} (hk : kb_ k) (M : mm_) (x : Int32) (i : Nat) : (va1_ M x).1 k i = M.1 k i := by
  unfold va1_; split
  · exact cN_k hk _ _ _
  · rw [fi_k hk]; exact cN_k hk _ _ _
theorem va2_k {k : Nat} (hk : kb_ k) (M : mm_) (x z : Int32) (i : Nat) : (sI_ (va1_ M x) 37 1 z).1 k i = M.1 k i := by
  have hk2 := hk
  unfold kb_ at hk2
  rw [gI_sI, if_neg (by omega)]
  exact va1_k hk _ _ _
theorem cf_va {k L : Nat} {M : mm_} {x : Int32} (hk : kb_ k) : cf_ k M (va2_ M k L x) := by
  unfold va2_
  refine cf_tr (cf_tr ?_ (cf_37 hk)) (cf_ad hk)
  unfold va1_; split
  · exact cf_cN hk
  · exact cf_tr (cf_cN hk) (cf_fi hk)
theorem va1F {k L : Nat} {M : mm_} {x : Int32} (hk : kb_ k) (h1 : FT_ k (va1_ M x)) (hL : M.1 k 4 = nI L) (hl : L ≤ 26) : FT_ k (va2_ M k L x) := by
  unfold va2_
  exact rFad hk (rF37 hk h1 (by decide)) (by rw [va2_k hk]; exact hL) hl
theorem vaF {k L : Nat} {M : mm_} {x : Int32} (hk : kb_ k) (hf : FT_ k (cN_ M (M.1 37 1))) (hL : M.1 k 4 = nI L) (hl : L ≤ 26) : FT_ k (va2_ M k L x) := by
  refine va1F hk ?_ hL hl
  unfold va1_; split
  · exact hf
  · rw [fi_F hf.1]; exact hf
theorem x_nI {x : Int32} (h : ¬ x < 0) : nI x.toNatClampNeg = x := by
  obtain ⟨j, hj, rfl⟩ := nI_of h
  rw [nI_clamp hj]
theorem vaS {k n p m o : Nat} {M : mm_} {C : List cq2_} {H v x : Int32} (hk : kb_ k) (hS : ST_ k M p m o C H) (hm : m ≤ 20) (hv : M.1 39 2 = v) (hC : 3 * C.length ≤ 4 * m) (hpn : p < n) : PR_ k n M p m o C H (if m < 20 ∧ ¬ x < 0 ∧ x < v then some (.index x.toNatClampNeg, p + 1, m + 1) else none) (va2_ M k C.length x) := by
  have hL := hS.2.2.2.2.2.1.1
  by_cases h20 : m < 20
  · have s1 := gcN (x := M.1 37 1) hk hS h20
    by_cases hx : ¬ x < 0 ∧ x < v
    · rw [if_pos ⟨h20, hx⟩]
      refine PR_some (cf_va hk) ?_ (by omega) (by omega) (by omega) (by omega) (by rw [snX_]; omega)
      have s2 := gad (q := 1) (d := x.toInt64) hk (g37 (p2 := p + 1) hk s1) (by omega) (by decide)
      rw [show rsX_ 1 x.toInt64 = 1 from if_pos (Or.inr rfl)] at s2
      unfold va2_ va1_
      rw [if_pos (by rw [hv]; exact hx), cqX_, x_nI hx.1, hS.2.1, nI_1]
      rw [hS.2.1] at s2
      exact s2
    · rw [if_neg (fun z => hx z.2)]
      refine PR_none (cf_va hk) (va1F hk ?_ hL (by omega))
      unfold va1_
      rw [if_neg (by rw [hv]; exact hx)]
      exact gfi hk s1 (by decide) (by omega)
  · rw [if_neg (fun z => h20 z.1)]
    exact PR_none (cf_va hk) (vaF hk (gcN0 hk hS h20 hm (by omega)) hL (by omega))
/-- no fault, and an argument too many is being read -/
def SB_ (k : Nat) (M : mm_) : Prop := M.1 37 2 = 0 ∧ M.1 39 6 = 1 ∧ (∃ p, M.1 37 1 = nI p) ∧ ∃ L, L ≤ 26 ∧ M.1 k 4 = nI L
def BB_ (k : Nat) (M N : mm_) : Prop := cf_ k M N ∧ FT_ k N
theorem fB {k : Nat} {M : mm_} {f w : Int32} (hk : kb_ k) (h0 : M.1 37 2 = 0) (hL : ∃ L, L ≤ 26 ∧ M.1 k 4 = nI L) (hf : ¬ f = 0) : FT_ k (fiX_ M f w) := by
  obtain ⟨L, h1, h2⟩ := hL
  refine ⟨?_, L, h1, by rw [fi_k hk]; exact h2⟩
  unfold fiX_
  rw [if_pos h0, gI_sI, if_neg (by omega), gI_sI, if_pos (by simp)]
  exact hf
theorem bcN {k : Nat} {M : mm_} {x : Int32} (hk : kb_ k) (h : SB_ k M) : FT_ k (cN_ M x) := by
  unfold cN_
  rw [if_neg (fun z => absurd z.2 (by rw [h.2.1]; decide))]
  exact rF39 hk (fB hk h.1 h.2.2.2 (by decide))
theorem btS {k : Nat} {M : mm_} (hk : kb_ k) (h : SB_ k M) : FT_ k (tS_ M) := rF37 hk (bcN hk h) (by decide)
theorem btA {k : Nat} {M : mm_} (hk : kb_ k) (h : SB_ k M) : FT_ k (tA_ M) := by
  unfold tA_; split
  · rw [if_neg (fun z => absurd z.2 (by rw [h.2.1]; decide))]
    exact fB hk h.1 h.2.2.2 (by decide)
  · exact fB hk h.1 h.2.2.2 (by decide)
theorem SB_x {k i : Nat} {M : mm_} {v : Int32} (hk : kb_ k) (h : SB_ k M) (h1 : ¬ i = 1) (h2 : ¬ i = 2) : SB_ k (sI_ M 37 i v) := by
  unfold kb_ at hk
  obtain ⟨a1, a2, ⟨p, a3⟩, L, a4, a5⟩ := h
  refine ⟨by rw [gI_sI, if_neg (by omega)]; exact a1, by rw [gI_sI, if_neg (by omega)]; exact a2, ⟨p, by rw [gI_sI, if_neg (by omega)]; exact a3⟩, L, a4, by rw [gI_sI, if_neg (by omega)]; exact a5⟩
theorem SB_p {k p : Nat} {M : mm_} (hk : kb_ k) (h : SB_ k M) : SB_ k (sI_ M 37 1 (nI p)) := by
  unfold kb_ at hk
  obtain ⟨a1, a2, -, L, a4, a5⟩ := h
  refine ⟨by rw [gI_sI, if_neg (by omega)]; exact a1, by rw [gI_sI, if_neg (by omega)]; exact a2, ⟨p, by rw [gI_sI, if_pos (by simp)]⟩, L, a4, by rw [gI_sI, if_neg (by omega)]; exact a5⟩
theorem SB_sr {k : Nat} {M : mm_} {r : Nat × Int32 × Int64} (hk : kb_ k) (h : SB_ k M) : SB_ k (srO_ M r) := SB_x hk (SB_x hk (show SB_ k (sL_ M 37 6 r.2.2) from h) (by decide) (by decide)) (by decide) (by decide)
theorem ST_SB {k p m o : Nat} {M : mm_} {C : List cq2_} {H : Int32} (hk : kb_ k) (h : ST_ k M p m o C H) (hl : C.length ≤ 26) : SB_ k (sI_ M 39 6 1) := by
  unfold kb_ at hk
  refine ⟨by rw [gI_sI, if_neg (by omega)]; exact h.1, by rw [gI_sI, if_pos (by simp)], ⟨p, by rw [gI_sI, if_neg (by omega)]; exact h.2.1⟩, C.length, hl, by rw [gI_sI, if_neg (by omega)]; exact h.2.2.2.2.2.1.1⟩
theorem cf_tN {k : Nat} {M : mm_} (hk : kb_ k) : cf_ k M (tN_ M) := by
  have e : cf_ k M (if M.1 37 5 = 0 then fiX_ M 1 (M.1 37 1) else M) := by
    split
    · exact cf_fi hk
    · exact cf_rf
  unfold tN_
  refine cf_tr ?_ (cf_37 hk)
  split
  · exact e
  · exact cf_tr e (cf_fi hk)
theorem rFtN {k : Nat} {M : mm_} (hk : kb_ k) (h : FT_ k M) : FT_ k (tN_ M) := by
  unfold tN_
  simp only [fi_F h.1, ite_self]
  exact rF37 hk h (by decide)
theorem cf_nB {k : Nat} {M : mm_} {p w : Int32} {v : Int64} (hk : kb_ k) : cf_ k M (nuB_ M p v w) := by
  unfold nuB_; split
  · exact cf_rf
  · exact cf_fi hk
theorem nuG {M : mm_} {p : Nat} (h0 : M.1 37 2 = 0) (h1 : M.1 37 1 = nI p) (hf : ¬ fg_ (pe_ M) = 0) : nu1_ 200 (nuA_ M) 0 = (sI_ M 37 1 (nI (nuP_ (tb_ M) 200 p 0).1), (nuP_ (tb_ M) 200 p 0).2) := by
  unfold nuA_
  rw [if_neg hf]
  have e := nu1_G h0 200 p 0
  rw [sI_selfX h1] at e
  exact e
set_option maxRecDepth 100000 in
set_option maxHeartbeats 600000 in
theorem c1_variable (G : gg_) (hG : gd_ G) (d : Nat) (M : mm_) (n : Nat) (ht : tpX_ M n) (k : Nat) (hk0 : cdX_ k) (hc0 : M.2.2 39 1 = some k) (L : Nat) (hL : M.1 k 4 = nI L) (hl : L ≤ 26) (x : Int32) (hx : ixo_ 0 ((pe_ M).toUInt32 % 65536).toInt32 = x) : cm_ G yX1_variable cX1_variable 2 none (d + 4) [.ref (G.1 39)] M (fV_ (va2_ M k L x)) := by
  refine cm_of hG (by decide) (Nat.le_of_ble_eq_true rfl) (fun C X => ?_)
  have hk := cd_kb hk0
  have hk2 := hk
  unfold kb_ at hk2
  refine w_ldcS (i := 0) (tx := "abcrxnk") X dX1_variable_0 (by decide) ?_
  refine w_aload_n X dX1_variable_2 rfl rfl ?_
  refine g1_7 X dX1_variable_3 s_39 rfl ?_
  refine w_v0fI X dX1_variable_6 k1_48 rfl s_37 (c7_peek G hG _ _ n ht) (Nat.le_of_ble_eq_true rfl) ?_
  refine w_i2c X dX1_variable_9 ?_
  refine w_t1fI X dX1_variable_10 k1_131 rfl (by decide) (cJ0_indexOf G hG _ _ 0 (by decide) _) (Nat.le_of_ble_eq_true rfl) ?_
  rw [hx]
  refine w_istore_n X dX1_variable_13 rfl (by decide) ?_
  refine w_aload_n X dX1_variable_14 rfl rfl ?_
  refine w_aload_n X dX1_variable_15 rfl rfl ?_
  refine g1_7 X dX1_variable_16 s_39 rfl ?_
  refine g1_84 X dX1_variable_19 s_37 rfl ?_
  refine w_v1fV X dX1_variable_22 k1_97 rfl s_39 (c1_countNode G hG _ _ _) (Nat.le_of_ble_eq_true rfl) ?_
  refine w_iload_n X dX1_variable_25 rfl rfl ?_
  refine w_if_lt (tgt := 37) X dX1_variable_26 (by decide) (fun h26 => ?_) (fun h26 => ?_)
  · refine w_aload_n X dX1_variable_37 rfl rfl ?_
    refine g1_7 X dX1_variable_38 s_39 rfl ?_
    refine w_iconst (v := 4) X dX1_variable_41 (by decide) ?_
    refine w_aload_n X dX1_variable_42 rfl rfl ?_
    refine g1_7 X dX1_variable_43 s_39 rfl ?_
    refine g1_84 X dX1_variable_46 s_37 rfl ?_
    refine w_v2fV X dX1_variable_49 k1_125 rfl s_37 (c7_fail G hG _ _ _ _) (Nat.le_of_ble_eq_true rfl) ?_
    refine w_aload_n X dX1_variable_52 rfl rfl ?_
    refine g1_7 X dX1_variable_53 s_39 rfl ?_
    refine w_dup X dX1_variable_56 rfl ?_
    refine g1_84 X dX1_variable_57 s_37 rfl ?_
    refine w_iconst (v := 1) X dX1_variable_60 (by decide) ?_
    refine w_iadd X dX1_variable_61 ?_
    refine p1_84 X dX1_variable_62 s_37 rfl ?_
    refine w_aload_n X dX1_variable_65 rfl rfl ?_
    refine r1_13 X dX1_variable_66 s_39 rfl (by simp only [gR_sI, fi_R, cN_R]; exact hc0) ?_
    refine w_iconst (v := 1) X dX1_variable_69 (by decide) ?_
    refine w_iload_n X dX1_variable_70 rfl rfl ?_
    refine w_i2l X dX1_variable_71 ?_
    refine w_v2fI X dX1_variable_72 k1_68 rfl hk0.1 (c0_add G hG _ _ k hk0 L (by rw [gI_sI, if_neg (by omega)]; first | (rw [fi_k hk, cN_k hk]; exact hL) | (rw [cN_k hk]; exact hL)) hl _ _) (Nat.le_of_ble_eq_true rfl) ?_
    refine w_pop X dX1_variable_75 rfl ?_
    refine w_vrF X dX1_variable_76 ?_
    unfold va2_ va1_
    rw [if_neg (fun z => z.1 h26), fi_pos, cN_pos]
  · refine w_iload_n X dX1_variable_29 rfl rfl ?_
    refine w_aload_n X dX1_variable_30 rfl rfl ?_
    refine g1_17 X dX1_variable_31 s_39 rfl ?_
    refine w_icmp_lt (tgt := 52) X dX1_variable_34 (by decide) (fun h34 => ?_) (fun h34 => ?_)
    · refine w_aload_n X dX1_variable_52 rfl rfl ?_
      refine g1_7 X dX1_variable_53 s_39 rfl ?_
      refine w_dup X dX1_variable_56 rfl ?_
      refine g1_84 X dX1_variable_57 s_37 rfl ?_
      refine w_iconst (v := 1) X dX1_variable_60 (by decide) ?_
      refine w_iadd X dX1_variable_61 ?_
      refine p1_84 X dX1_variable_62 s_37 rfl ?_
      refine w_aload_n X dX1_variable_65 rfl rfl ?_
      refine r1_13 X dX1_variable_66 s_39 rfl (by simp only [gR_sI, fi_R, cN_R]; exact hc0) ?_
      refine w_iconst (v := 1) X dX1_variable_69 (by decide) ?_
      refine w_iload_n X dX1_variable_70 rfl rfl ?_
      refine w_i2l X dX1_variable_71 ?_
      refine w_v2fI X dX1_variable_72 k1_68 rfl hk0.1 (c0_add G hG _ _ k hk0 L (by rw [gI_sI, if_neg (by omega)]; first | (rw [fi_k hk, cN_k hk]; exact hL) | (rw [cN_k hk]; exact hL)) hl _ _) (Nat.le_of_ble_eq_true rfl) ?_
      refine w_pop X dX1_variable_75 rfl ?_
      refine w_vrF X dX1_variable_76 ?_
      unfold va2_ va1_
      rw [if_pos ⟨h26, by rw [← cN_39 M (M.1 37 1) 2 (by decide)]; exact h34⟩, cN_pos]
    · refine w_aload_n X dX1_variable_37 rfl rfl ?_
      refine g1_7 X dX1_variable_38 s_39 rfl ?_
      refine w_iconst (v := 4) X dX1_variable_41 (by decide) ?_
      refine w_aload_n X dX1_variable_42 rfl rfl ?_
      refine g1_7 X dX1_variable_43 s_39 rfl ?_
      refine g1_84 X dX1_variable_46 s_37 rfl ?_
      refine w_v2fV X dX1_variable_49 k1_125 rfl s_37 (c7_fail G hG _ _ _ _) (Nat.le_of_ble_eq_true rfl) ?_
      refine w_aload_n X dX1_variable_52 rfl rfl ?_
      refine g1_7 X dX1_variable_53 s_39 rfl ?_
      refine w_dup X dX1_variable_56 rfl ?_
      refine g1_84 X dX1_variable_57 s_37 rfl ?_
      refine w_iconst (v := 1) X dX1_variable_60 (by decide) ?_
      refine w_iadd X dX1_variable_61 ?_
      refine p1_84 X dX1_variable_62 s_37 rfl ?_
      refine w_aload_n X dX1_variable_65 rfl rfl ?_
      refine r1_13 X dX1_variable_66 s_39 rfl (by simp only [gR_sI, fi_R, cN_R]; exact hc0) ?_
      refine w_iconst (v := 1) X dX1_variable_69 (by decide) ?_
      refine w_iload_n X dX1_variable_70 rfl rfl ?_
      refine w_i2l X dX1_variable_71 ?_
      refine w_v2fI X dX1_variable_72 k1_68 rfl hk0.1 (c0_add G hG _ _ k hk0 L (by rw [gI_sI, if_neg (by omega)]; first | (rw [fi_k hk, cN_k hk]; exact hL) | (rw [cN_k hk]; exact hL)) hl _ _) (Nat.le_of_ble_eq_true rfl) ?_
      refine w_pop X dX1_variable_75 rfl ?_
      refine w_vrF X dX1_variable_76 ?_
      unfold va2_ va1_
      rw [if_neg (fun z => h34 (by rw [cN_39 M (M.1 37 1) 2 (by decide)]; exact z.2)), fi_pos, cN_pos]
set_option maxRecDepth 100000 in
set_option maxHeartbeats 600000 in
theorem b1_invocation (G : gg_) (hG : gd_ G) (d : Nat) (M : mm_) (n : Nat) (ht : tpX_ M n) (k : Nat) (hk0 : cdX_ k) (hc0 : M.2.2 39 1 = some k) (hB : SB_ k M) : cm_ G yX1_invocation cX1_invocation 4 none (d + 3) [.ref (G.1 39)] M (rV_ (BB_ k M)) := by
  refine cm_of hG (by decide) (Nat.le_of_ble_eq_true rfl) (fun C X => ?_)
  have hk := cd_kb hk0
  have hk2 := hk
  unfold kb_ at hk2
  have tf41 : ∀ (a b c : Option Value) (N : mm_), cf_ k M N → FT_ k N → wq_ C G (qe_ C G (rV_ (BB_ k M))) 41 [some (.ref (G.1 39)), a, b, c] [] N := by
    intro a b c N hc hf
    refine w_aload_n X dX1_invocation_41 rfl rfl ?_
    refine w_v0fI X dX1_invocation_42 k1_106 rfl s_39 (c1_takeOpen G hG _ _ n (cf_tp hk hc ht)) (Nat.le_of_ble_eq_true rfl) ?_
    rw [tA_F hf.1, if_neg hf.1, tO_F hf.1]
    refine w_if_eq (tgt := 101) X dX1_invocation_45 (by decide) (fun h45 => ?_) (fun h45 => absurd (rfl) h45)
    exact w_vrR X dX1_invocation_101 ⟨(cf_tr hc (cf_oF hk)), (rFoF hk hf)⟩
  have tf33 : ∀ (a b c : Option Value) (N : mm_), cf_ k M N → FT_ k N → wq_ C G (qe_ C G (rV_ (BB_ k M))) 33 [some (.ref (G.1 39)), a, b, c] [] N := by
    intro a b c N hc hf
    refine w_aload_n X dX1_invocation_33 rfl rfl ?_
    refine g1_7 X dX1_invocation_34 s_39 rfl ?_
    refine w_v0fL X dX1_invocation_37 k1_136 rfl s_37 (c7_takeName G hG _ _) (Nat.le_of_ble_eq_true rfl) ?_
    refine w_lstore_n X dX1_invocation_40 rfl (by decide) ?_
    exact tf41 _ _ _ _ (cf_tr hc (cf_tN hk)) (rFtN hk hf)
  have tf11 : ∀ (a b c : Option Value) (N : mm_), cf_ k M N → FT_ k N → wq_ C G (qe_ C G (rV_ (BB_ k M))) 11 [some (.ref (G.1 39)), a, b, c] [] N := by
    intro a b c N hc hf
    refine w_aload_n X dX1_invocation_11 rfl rfl ?_
    refine g1_21 X dX1_invocation_12 s_39 rfl ?_
    refine w_if_ne (tgt := 33) X dX1_invocation_15 (by decide) (fun h15 => ?_) (fun h15 => ?_)
    · exact tf33 _ _ _ _ hc hf
    · refine w_aload_n X dX1_invocation_18 rfl rfl ?_
      refine g1_7 X dX1_invocation_19 s_39 rfl ?_
      refine w_iconst (v := 4) X dX1_invocation_22 (by decide) ?_
      refine w_aload_n X dX1_invocation_23 rfl rfl ?_
      refine g1_7 X dX1_invocation_24 s_39 rfl ?_
      refine g1_84 X dX1_invocation_27 s_37 rfl ?_
      refine w_v2fV X dX1_invocation_30 k1_125 rfl s_37 (c7_fail G hG _ _ _ _) (Nat.le_of_ble_eq_true rfl) ?_
      rw [fi_F hf.1]
      exact tf33 _ _ _ _ hc hf
  refine w_aload_n X dX1_invocation_0 rfl rfl ?_
  refine w_aload_n X dX1_invocation_1 rfl rfl ?_
  refine g1_7 X dX1_invocation_2 s_39 rfl ?_
  refine g1_84 X dX1_invocation_5 s_37 rfl ?_
  refine w_v1fV X dX1_invocation_8 k1_97 rfl s_39 (c1_countNode G hG _ _ _) (Nat.le_of_ble_eq_true rfl) ?_
  exact tf11 _ _ _ _ (cf_cN hk) (bcN hk hB)
set_option maxRecDepth 100000 in
set_option maxHeartbeats 600000 in
theorem b1_word (G : gg_) (hG : gd_ G) (d : Nat) (M : mm_) (n : Nat) (ht : tpX_ M n) (k : Nat) (hk0 : cdX_ k) (hc0 : M.2.2 39 1 = some k) (hB : SB_ k M) : cm_ G yX1_word cX1_word 1 none (d + 5) [.ref (G.1 39)] M (rV_ (BB_ k M)) := by
  refine cm_of hG (by decide) (Nat.le_of_ble_eq_true rfl) (fun C X => ?_)
  have hk := cd_kb hk0
  have hk2 := hk
  unfold kb_ at hk2
  refine w_aload_n X dX1_word_0 rfl rfl ?_
  refine g1_7 X dX1_word_1 s_39 rfl ?_
  refine w_v0fV X dX1_word_4 k1_110 rfl s_37 (c7_scanRow G hG _ _ n ht _ rfl) (Nat.le_of_ble_eq_true rfl) ?_
  have hs := SB_sr (r := sr1_ M (M.1 37 1) 200 0 0 0) hk hB
  have hc := cf_sr (M := M) (r := sr1_ M (M.1 37 1) 200 0 0 0) hk
  have hs2 := hs
  obtain ⟨-, -, -, L9, hl, hL⟩ := hs2
  refine w_aload_n X dX1_word_7 rfl rfl ?_
  refine g1_7 X dX1_word_8 s_39 rfl ?_
  refine g1_113 X dX1_word_11 s_37 rfl ?_
  refine w_if_eq (tgt := 24) X dX1_word_14 (by decide) (fun h14 => ?_) (fun h14 => ?_)
  · refine w_aload_n X dX1_word_24 rfl rfl ?_
    refine g1_7 X dX1_word_25 s_39 rfl ?_
    refine g1_119 X dX1_word_28 s_37 rfl ?_
    refine w_iconst (v := 1) X dX1_word_31 (by decide) ?_
    refine w_icmp_ne (tgt := 54) X dX1_word_32 (by decide) (fun h32 => ?_) (fun h32 => ?_)
    · refine w_aload_n X dX1_word_54 rfl rfl ?_
      refine g1_7 X dX1_word_55 s_39 rfl ?_
      refine w_iconst (v := 1) X dX1_word_58 (by decide) ?_
      refine w_aload_n X dX1_word_59 rfl rfl ?_
      refine g1_7 X dX1_word_60 s_39 rfl ?_
      refine g1_84 X dX1_word_63 s_37 rfl ?_
      refine w_v2fV X dX1_word_66 k1_125 rfl s_37 (c7_fail G hG _ _ _ _) (Nat.le_of_ble_eq_true rfl) ?_
      exact w_vrR X dX1_word_69 ⟨cf_tr hc (cf_fi hk), fB hk hs.1 hs.2.2.2 (by decide)⟩
    · refine w_aload_n X dX1_word_35 rfl rfl ?_
      refine g1_7 X dX1_word_36 s_39 rfl ?_
      refine w_v0fI X dX1_word_39 k1_48 rfl s_37 (c7_peek G hG _ _ n (cf_tp hk hc ht)) (Nat.le_of_ble_eq_true rfl) ?_
      refine w_bipush (v := 46) X dX1_word_42 (by decide) ?_
      refine w_icmp_eq (tgt := 54) X dX1_word_44 (by decide) (fun h44 => ?_) (fun h44 => ?_)
      · refine w_aload_n X dX1_word_54 rfl rfl ?_
        refine g1_7 X dX1_word_55 s_39 rfl ?_
        refine w_iconst (v := 1) X dX1_word_58 (by decide) ?_
        refine w_aload_n X dX1_word_59 rfl rfl ?_
        refine g1_7 X dX1_word_60 s_39 rfl ?_
        refine g1_84 X dX1_word_63 s_37 rfl ?_
        refine w_v2fV X dX1_word_66 k1_125 rfl s_37 (c7_fail G hG _ _ _ _) (Nat.le_of_ble_eq_true rfl) ?_
        exact w_vrR X dX1_word_69 ⟨cf_tr hc (cf_fi hk), fB hk hs.1 hs.2.2.2 (by decide)⟩
      · refine w_aload_n X dX1_word_47 rfl rfl ?_
        refine w_v0fV X dX1_word_48 k1_122 rfl s_39 (c1_variable G hG _ _ n (cf_tp hk hc ht) k hk0 (by rw [hc.1]; exact hc0) L9 hL hl _ rfl) (Nat.le_of_ble_eq_true rfl) ?_
        refine w_goto (tgt := 69) X dX1_word_51 (by decide) ?_
        exact w_vrR X dX1_word_69 ⟨cf_tr hc (cf_va hk), vaF hk (bcN hk hs) hL hl⟩
  · refine w_aload_n X dX1_word_17 rfl rfl ?_
    refine w_v0rV X dX1_word_18 k1_116 rfl s_39 (b1_invocation G hG _ _ n (cf_tp hk hc ht) k hk0 (by rw [hc.1]; exact hc0) hs) (Nat.le_of_ble_eq_true rfl) (fun N18 h18 => ?_)
    refine w_goto (tgt := 69) X dX1_word_21 (by decide) ?_
    exact w_vrR X dX1_word_69 ⟨cf_tr hc h18.1, h18.2⟩
set_option maxRecDepth 100000 in
set_option maxHeartbeats 600000 in
theorem b1_operand (G : gg_) (hG : gd_ G) (d : Nat) (M : mm_) (n : Nat) (ht : tpX_ M n) (k : Nat) (hk0 : cdX_ k) (hc0 : M.2.2 39 1 = some k) (hB : SB_ k M) : cm_ G yX1_operand cX1_operand 3 none (d + 6) [.ref (G.1 39)] M (rV_ (BB_ k M)) := by
  refine cm_of hG (by decide) (Nat.le_of_ble_eq_true rfl) (fun C X => ?_)
  have hk := cd_kb hk0
  have hk2 := hk
  unfold kb_ at hk2
  have hA := btA hk hB
  refine w_aload_n X dX1_operand_0 rfl rfl ?_
  refine g1_7 X dX1_operand_1 s_39 rfl ?_
  refine g1_84 X dX1_operand_4 s_37 rfl ?_
  refine w_istore_n X dX1_operand_7 rfl (by decide) ?_
  refine w_aload_n X dX1_operand_8 rfl rfl ?_
  refine g1_7 X dX1_operand_9 s_39 rfl ?_
  refine w_v0fI X dX1_operand_12 k1_48 rfl s_37 (c7_peek G hG _ _ n ht) (Nat.le_of_ble_eq_true rfl) ?_
  refine w_s1fI X dX1_operand_15 k1_87 (c7_isFigure G hG _ _ _) (Nat.le_of_ble_eq_true rfl) ?_
  refine w_if_eq (tgt := 50) X dX1_operand_18 (by decide) (fun h18 => ?_) (fun h18 => ?_)
  · refine w_aload_n X dX1_operand_50 rfl rfl ?_
    refine g1_7 X dX1_operand_51 s_39 rfl ?_
    refine w_v0fI X dX1_operand_54 k1_48 rfl s_37 (c7_peek G hG _ _ n ht) (Nat.le_of_ble_eq_true rfl) ?_
    refine w_s1fI X dX1_operand_57 k1_100 (c7_isRowByte G hG _ _ _) (Nat.le_of_ble_eq_true rfl) ?_
    refine w_if_eq (tgt := 70) X dX1_operand_60 (by decide) (fun h60 => ?_) (fun h60 => ?_)
    · refine w_aload_n X dX1_operand_70 rfl rfl ?_
      refine w_v0fI X dX1_operand_71 k1_106 rfl s_39 (c1_takeOpen G hG _ _ n ht) (Nat.le_of_ble_eq_true rfl) ?_
      rw [if_neg hA.1]
      refine w_if_eq (tgt := 100) X dX1_operand_74 (by decide) (fun h74 => ?_) (fun h74 => absurd (rfl) h74)
      exact w_vrR X dX1_operand_100 ⟨cf_tO hk, rFtO hk hA⟩
    · refine w_aload_n X dX1_operand_63 rfl rfl ?_
      refine w_v0rV X dX1_operand_64 k1_103 rfl s_39 (b1_word G hG _ _ n ht k hk0 hc0 hB) (Nat.le_of_ble_eq_true rfl) (fun N64 h64 => ?_)
      refine w_goto (tgt := 100) X dX1_operand_67 (by decide) ?_
      exact w_vrR X dX1_operand_100 h64
  · obtain ⟨p, hp⟩ := hB.2.2.1
    have hr := nuG hB.1 hp h18
    refine w_aload_n X dX1_operand_21 rfl rfl ?_
    refine g1_7 X dX1_operand_22 s_39 rfl ?_
    refine w_ldc X dX1_operand_25 q1_93 ?_
    refine w_v1fI X dX1_operand_27 k1_94 rfl s_37 (c7_number G hG _ _ n ht _ _ hr) (Nat.le_of_ble_eq_true rfl) ?_
    refine w_istore_n X dX1_operand_30 rfl (by decide) ?_
    refine w_aload_n X dX1_operand_31 rfl rfl ?_
    refine w_iload_n X dX1_operand_32 rfl rfl ?_
    refine w_v1fV X dX1_operand_33 k1_97 rfl s_39 (c1_countNode G hG _ _ _) (Nat.le_of_ble_eq_true rfl) ?_
    have hnb : FT_ k (cN_ (nuB_ (sI_ M 37 1 (nI (nuP_ (tb_ M) 200 p 0).1)) (M.1 37 1) (nuP_ (tb_ M) 200 p 0).2 2147483647) (M.1 37 1)) := by
      have e := SB_p (p := (nuP_ (tb_ M) 200 p 0).1) hk hB
      unfold nuB_; split
      · exact bcN hk e
      · exact rFcN hk (fB hk e.1 e.2.2.2 (by decide))
    have hnc : cf_ k M (cN_ (nuB_ (sI_ M 37 1 (nI (nuP_ (tb_ M) 200 p 0).1)) (M.1 37 1) (nuP_ (tb_ M) 200 p 0).2 2147483647) (M.1 37 1)) := cf_tr (cf_tr (cf_37 hk) (cf_nB hk)) (cf_cN hk)
    have hnd := hnb
    obtain ⟨-, L9, hl, hL⟩ := hnd
    refine w_aload_n X dX1_operand_36 rfl rfl ?_
    refine r1_13 X dX1_operand_37 s_39 rfl (by rw [hnc.1]; exact hc0) ?_
    refine w_iconst (v := 0) X dX1_operand_40 (by decide) ?_
    refine w_iload_n X dX1_operand_41 rfl rfl ?_
    refine w_i2l X dX1_operand_42 ?_
    refine w_v2fI X dX1_operand_43 k1_68 rfl hk0.1 (c0_add G hG _ _ k hk0 L9 hL hl _ _) (Nat.le_of_ble_eq_true rfl) ?_
    refine w_pop X dX1_operand_46 rfl ?_
    refine w_goto (tgt := 100) X dX1_operand_47 (by decide) ?_
    exact w_vrR X dX1_operand_100 ⟨cf_tr hnc (cf_ad hk), rFad hk hnb hL hl⟩
set_option maxRecDepth 100000 in
set_option maxHeartbeats 600000 in
theorem b1_signed (G : gg_) (hG : gd_ G) (d : Nat) (M : mm_) (n : Nat) (ht : tpX_ M n) (k : Nat) (hk0 : cdX_ k) (hc0 : M.2.2 39 1 = some k) (hB : SB_ k M) : cm_ G yX1_signed cX1_signed 2 none (d + 7) [.ref (G.1 39)] M (rV_ (BB_ k M)) := by
  refine cm_of hG (by decide) (Nat.le_of_ble_eq_true rfl) (fun C X => ?_)
  have hk := cd_kb hk0
  have hk2 := hk
  unfold kb_ at hk2
  refine w_aload_n X dX1_signed_0 rfl rfl ?_
  refine g1_7 X dX1_signed_1 s_39 rfl ?_
  refine w_v0fI X dX1_signed_4 k1_48 rfl s_37 (c7_peek G hG _ _ n ht) (Nat.le_of_ble_eq_true rfl) ?_
  refine w_bipush (v := 45) X dX1_signed_7 (by decide) ?_
  refine w_icmp_eq (tgt := 29) X dX1_signed_9 (by decide) (fun h9 => ?_) (fun h9 => ?_)
  · refine w_aload_n X dX1_signed_29 rfl rfl ?_
    refine w_v0fI X dX1_signed_30 k1_54 rfl s_39 (c1_takeSign G hG _ _ n ht) (Nat.le_of_ble_eq_true rfl) ?_
    have hf1 := btS hk hB
    have hc1 := cf_tS (M := M) hk
    refine w_bipush (v := 45) X dX1_signed_33 (by decide) ?_
    refine w_icmp_ne (tgt := 42) X dX1_signed_35 (by decide) (fun h35 => ?_) (fun h35 => ?_)
    · refine w_iconst (v := 3) X dX1_signed_42 (by decide) ?_
      refine w_istore_n X dX1_signed_43 rfl (by decide) ?_
      refine w_aload_n X dX1_signed_44 rfl rfl ?_
      refine w_v0fV X dX1_signed_45 k1_75 rfl s_39 (f1_signed G hG _ _ n (cf_tp hk hc1 ht) hf1.1) (Nat.le_of_ble_eq_true rfl) ?_
      have hf2 := rFoF hk hf1
      have hc2 := cf_tr hc1 (cf_oF hk)
      have hf3 := hf2
      obtain ⟨-, L9, hl, hL⟩ := hf3
      refine w_aload_n X dX1_signed_48 rfl rfl ?_
      refine r1_13 X dX1_signed_49 s_39 rfl (by rw [hc2.1]; exact hc0) ?_
      refine w_iload_n X dX1_signed_52 rfl rfl ?_
      refine w_lconst (v := 0) X dX1_signed_53 (by decide) ?_
      refine w_v2fI X dX1_signed_54 k1_68 rfl hk0.1 (c0_add G hG _ _ k hk0 L9 hL hl _ _) (Nat.le_of_ble_eq_true rfl) ?_
      refine w_pop X dX1_signed_57 rfl ?_
      exact w_vrR X dX1_signed_58 ⟨cf_tr hc2 (cf_ad hk), rFad hk hf2 hL hl⟩
    · refine w_iconst (v := 2) X dX1_signed_38 (by decide) ?_
      refine w_goto (tgt := 43) X dX1_signed_39 (by decide) ?_
      refine w_istore_n X dX1_signed_43 rfl (by decide) ?_
      refine w_aload_n X dX1_signed_44 rfl rfl ?_
      refine w_v0fV X dX1_signed_45 k1_75 rfl s_39 (f1_signed G hG _ _ n (cf_tp hk hc1 ht) hf1.1) (Nat.le_of_ble_eq_true rfl) ?_
      have hf2 := rFoF hk hf1
      have hc2 := cf_tr hc1 (cf_oF hk)
      have hf3 := hf2
      obtain ⟨-, L9, hl, hL⟩ := hf3
      refine w_aload_n X dX1_signed_48 rfl rfl ?_
      refine r1_13 X dX1_signed_49 s_39 rfl (by rw [hc2.1]; exact hc0) ?_
      refine w_iload_n X dX1_signed_52 rfl rfl ?_
      refine w_lconst (v := 0) X dX1_signed_53 (by decide) ?_
      refine w_v2fI X dX1_signed_54 k1_68 rfl hk0.1 (c0_add G hG _ _ k hk0 L9 hL hl _ _) (Nat.le_of_ble_eq_true rfl) ?_
      refine w_pop X dX1_signed_57 rfl ?_
      exact w_vrR X dX1_signed_58 ⟨cf_tr hc2 (cf_ad hk), rFad hk hf2 hL hl⟩
  · refine w_aload_n X dX1_signed_12 rfl rfl ?_
    refine g1_7 X dX1_signed_13 s_39 rfl ?_
    refine w_v0fI X dX1_signed_16 k1_48 rfl s_37 (c7_peek G hG _ _ n ht) (Nat.le_of_ble_eq_true rfl) ?_
    refine w_bipush (v := 33) X dX1_signed_19 (by decide) ?_
    refine w_icmp_eq (tgt := 29) X dX1_signed_21 (by decide) (fun h21 => ?_) (fun h21 => ?_)
    · refine w_aload_n X dX1_signed_29 rfl rfl ?_
      refine w_v0fI X dX1_signed_30 k1_54 rfl s_39 (c1_takeSign G hG _ _ n ht) (Nat.le_of_ble_eq_true rfl) ?_
      have hf1 := btS hk hB
      have hc1 := cf_tS (M := M) hk
      refine w_bipush (v := 45) X dX1_signed_33 (by decide) ?_
      refine w_icmp_ne (tgt := 42) X dX1_signed_35 (by decide) (fun h35 => ?_) (fun h35 => ?_)
      · refine w_iconst (v := 3) X dX1_signed_42 (by decide) ?_
        refine w_istore_n X dX1_signed_43 rfl (by decide) ?_
        refine w_aload_n X dX1_signed_44 rfl rfl ?_
        refine w_v0fV X dX1_signed_45 k1_75 rfl s_39 (f1_signed G hG _ _ n (cf_tp hk hc1 ht) hf1.1) (Nat.le_of_ble_eq_true rfl) ?_
        have hf2 := rFoF hk hf1
        have hc2 := cf_tr hc1 (cf_oF hk)
        have hf3 := hf2
        obtain ⟨-, L9, hl, hL⟩ := hf3
        refine w_aload_n X dX1_signed_48 rfl rfl ?_
        refine r1_13 X dX1_signed_49 s_39 rfl (by rw [hc2.1]; exact hc0) ?_
        refine w_iload_n X dX1_signed_52 rfl rfl ?_
        refine w_lconst (v := 0) X dX1_signed_53 (by decide) ?_
        refine w_v2fI X dX1_signed_54 k1_68 rfl hk0.1 (c0_add G hG _ _ k hk0 L9 hL hl _ _) (Nat.le_of_ble_eq_true rfl) ?_
        refine w_pop X dX1_signed_57 rfl ?_
        exact w_vrR X dX1_signed_58 ⟨cf_tr hc2 (cf_ad hk), rFad hk hf2 hL hl⟩
      · refine w_iconst (v := 2) X dX1_signed_38 (by decide) ?_
        refine w_goto (tgt := 43) X dX1_signed_39 (by decide) ?_
        refine w_istore_n X dX1_signed_43 rfl (by decide) ?_
        refine w_aload_n X dX1_signed_44 rfl rfl ?_
        refine w_v0fV X dX1_signed_45 k1_75 rfl s_39 (f1_signed G hG _ _ n (cf_tp hk hc1 ht) hf1.1) (Nat.le_of_ble_eq_true rfl) ?_
        have hf2 := rFoF hk hf1
        have hc2 := cf_tr hc1 (cf_oF hk)
        have hf3 := hf2
        obtain ⟨-, L9, hl, hL⟩ := hf3
        refine w_aload_n X dX1_signed_48 rfl rfl ?_
        refine r1_13 X dX1_signed_49 s_39 rfl (by rw [hc2.1]; exact hc0) ?_
        refine w_iload_n X dX1_signed_52 rfl rfl ?_
        refine w_lconst (v := 0) X dX1_signed_53 (by decide) ?_
        refine w_v2fI X dX1_signed_54 k1_68 rfl hk0.1 (c0_add G hG _ _ k hk0 L9 hL hl _ _) (Nat.le_of_ble_eq_true rfl) ?_
        refine w_pop X dX1_signed_57 rfl ?_
        exact w_vrR X dX1_signed_58 ⟨cf_tr hc2 (cf_ad hk), rFad hk hf2 hL hl⟩
    · refine w_aload_n X dX1_signed_24 rfl rfl ?_
      refine w_v0rV X dX1_signed_25 k1_81 rfl s_39 (b1_operand G hG _ _ n ht k hk0 hc0 hB) (Nat.le_of_ble_eq_true rfl) (fun N25 h25 => ?_)
      exact w_vrR X dX1_signed_28 h25
set_option maxRecDepth 100000 in
set_option maxHeartbeats 600000 in
theorem b1_joined6 (G : gg_) (hG : gd_ G) (d : Nat) (M : mm_) (n : Nat) (ht : tpX_ M n) (k : Nat) (hk0 : cdX_ k) (hc0 : M.2.2 39 1 = some k) (hB : SB_ k M) : cm_ G yX1_joined cX1_joined 5 none (d + 8) [.ref (G.1 39), .int 6] M (rV_ (BB_ k M)) := by
  refine cm_of hG (by decide) (Nat.le_of_ble_eq_true rfl) (fun C X => ?_)
  refine w_iload_n X dX1_joined_0 rfl rfl ?_
  refine w_bipush (v := 6) X dX1_joined_1 (by decide) ?_
  refine w_icmp_lt (tgt := 11) X dX1_joined_3 (by decide) (fun h3 => absurd h3 (by decide)) (fun h3 => ?_)
  refine w_aload_n X dX1_joined_6 rfl rfl ?_
  refine w_v0rV X dX1_joined_7 k1_75 rfl s_39 (b1_signed G hG _ _ n ht k hk0 hc0 hB) (Nat.le_of_ble_eq_true rfl) (fun N7 h7 => ?_)
  exact w_vrR X dX1_joined_10 h7
set_option maxRecDepth 100000 in
set_option maxHeartbeats 600000 in
theorem b1_joined5 (G : gg_) (hG : gd_ G) (d : Nat) (M : mm_) (n : Nat) (ht : tpX_ M n) (k : Nat) (hk0 : cdX_ k) (hc0 : M.2.2 39 1 = some k) (hB : SB_ k M) : cm_ G yX1_joined cX1_joined 5 none (d + 9) [.ref (G.1 39), .int 5] M (rV_ (BB_ k M)) := by
  refine cm_of hG (by decide) (Nat.le_of_ble_eq_true rfl) (fun C X => ?_)
  have hk := cd_kb hk0
  refine w_iload_n X dX1_joined_0 rfl rfl ?_
  refine w_bipush (v := 6) X dX1_joined_1 (by decide) ?_
  refine w_icmp_lt (tgt := 11) X dX1_joined_3 (by decide) (fun h3 => ?_) (fun h3 => absurd (by decide) h3)
  refine w_aload_n X dX1_joined_11 rfl rfl ?_
  refine w_iload_n X dX1_joined_12 rfl rfl ?_
  refine w_iconst (v := 1) X dX1_joined_13 (by decide) ?_
  refine w_iadd X dX1_joined_14 ?_
  refine w_v1rV X dX1_joined_15 k1_65 rfl s_39 (b1_joined6 G hG _ _ n ht k hk0 hc0 hB) (Nat.le_of_ble_eq_true rfl) (fun N15 h15 => ?_)
  refine w_iload_n X dX1_joined_18 rfl rfl ?_
  refine w_iconst (v := 3) X dX1_joined_19 (by decide) ?_
  refine w_icmp_ne (tgt := 27) X dX1_joined_20 (by decide) (fun h20 => ?_) (fun h20 => absurd h20 (by decide))
  refine w_bipush (v := 20) X dX1_joined_27 (by decide) ?_
  refine w_istore_n X dX1_joined_29 rfl (by decide) ?_
  refine w_iconst (v := 0) X dX1_joined_30 (by decide) ?_
  refine w_istore_n X dX1_joined_31 rfl (by decide) ?_
  refine w_iload_n X dX1_joined_32 rfl rfl ?_
  refine w_iload_n X dX1_joined_33 rfl rfl ?_
  refine w_icmp_ge (tgt := 81) X dX1_joined_34 (by decide) (fun h34 => absurd h34 (by decide)) (fun h34 => ?_)
  refine w_aload_n X dX1_joined_37 rfl rfl ?_
  refine g1_7 X dX1_joined_38 s_39 rfl ?_
  refine w_v0fI X dX1_joined_41 k1_48 rfl s_37 (c7_peek G hG _ _ n (cf_tp hk h15.1 ht)) (Nat.le_of_ble_eq_true rfl) ?_
  rw [pe_F h15.2.1]
  refine w_s1fI X dX1_joined_44 k1_78 (c1_kindOf G hG _ _ _) (Nat.le_of_ble_eq_true rfl) ?_
  refine w_iload_n X dX1_joined_47 rfl rfl ?_
  refine w_icmp_ne (tgt := 81) X dX1_joined_48 (by decide) (fun h48 => ?_) (fun h48 => absurd h48 (by decide))
  exact w_vrR X dX1_joined_81 h15
set_option maxRecDepth 100000 in
set_option maxHeartbeats 600000 in
theorem b1_joined4 (G : gg_) (hG : gd_ G) (d : Nat) (M : mm_) (n : Nat) (ht : tpX_ M n) (k : Nat) (hk0 : cdX_ k) (hc0 : M.2.2 39 1 = some k) (hB : SB_ k M) : cm_ G yX1_joined cX1_joined 5 none (d + 10) [.ref (G.1 39), .int 4] M (rV_ (BB_ k M)) := by
  refine cm_of hG (by decide) (Nat.le_of_ble_eq_true rfl) (fun C X => ?_)
  have hk := cd_kb hk0
  refine w_iload_n X dX1_joined_0 rfl rfl ?_
  refine w_bipush (v := 6) X dX1_joined_1 (by decide) ?_
  refine w_icmp_lt (tgt := 11) X dX1_joined_3 (by decide) (fun h3 => ?_) (fun h3 => absurd (by decide) h3)
  refine w_aload_n X dX1_joined_11 rfl rfl ?_
  refine w_iload_n X dX1_joined_12 rfl rfl ?_
  refine w_iconst (v := 1) X dX1_joined_13 (by decide) ?_
  refine w_iadd X dX1_joined_14 ?_
  refine w_v1rV X dX1_joined_15 k1_65 rfl s_39 (b1_joined5 G hG _ _ n ht k hk0 hc0 hB) (Nat.le_of_ble_eq_true rfl) (fun N15 h15 => ?_)
  refine w_iload_n X dX1_joined_18 rfl rfl ?_
  refine w_iconst (v := 3) X dX1_joined_19 (by decide) ?_
  refine w_icmp_ne (tgt := 27) X dX1_joined_20 (by decide) (fun h20 => ?_) (fun h20 => absurd h20 (by decide))
  refine w_bipush (v := 20) X dX1_joined_27 (by decide) ?_
  refine w_istore_n X dX1_joined_29 rfl (by decide) ?_
  refine w_iconst (v := 0) X dX1_joined_30 (by decide) ?_
  refine w_istore_n X dX1_joined_31 rfl (by decide) ?_
  refine w_iload_n X dX1_joined_32 rfl rfl ?_
  refine w_iload_n X dX1_joined_33 rfl rfl ?_
  refine w_icmp_ge (tgt := 81) X dX1_joined_34 (by decide) (fun h34 => absurd h34 (by decide)) (fun h34 => ?_)
  refine w_aload_n X dX1_joined_37 rfl rfl ?_
  refine g1_7 X dX1_joined_38 s_39 rfl ?_
  refine w_v0fI X dX1_joined_41 k1_48 rfl s_37 (c7_peek G hG _ _ n (cf_tp hk h15.1 ht)) (Nat.le_of_ble_eq_true rfl) ?_
  rw [pe_F h15.2.1]
  refine w_s1fI X dX1_joined_44 k1_78 (c1_kindOf G hG _ _ _) (Nat.le_of_ble_eq_true rfl) ?_
  refine w_iload_n X dX1_joined_47 rfl rfl ?_
  refine w_icmp_ne (tgt := 81) X dX1_joined_48 (by decide) (fun h48 => ?_) (fun h48 => absurd h48 (by decide))
  exact w_vrR X dX1_joined_81 h15
set_option maxRecDepth 100000 in
set_option maxHeartbeats 600000 in
theorem b1_joined3 (G : gg_) (hG : gd_ G) (d : Nat) (M : mm_) (n : Nat) (ht : tpX_ M n) (k : Nat) (hk0 : cdX_ k) (hc0 : M.2.2 39 1 = some k) (hB : SB_ k M) : cm_ G yX1_joined cX1_joined 5 none (d + 11) [.ref (G.1 39), .int 3] M (rV_ (BB_ k M)) := by
  refine cm_of hG (by decide) (Nat.le_of_ble_eq_true rfl) (fun C X => ?_)
  have hk := cd_kb hk0
  refine w_iload_n X dX1_joined_0 rfl rfl ?_
  refine w_bipush (v := 6) X dX1_joined_1 (by decide) ?_
  refine w_icmp_lt (tgt := 11) X dX1_joined_3 (by decide) (fun h3 => ?_) (fun h3 => absurd (by decide) h3)
  refine w_aload_n X dX1_joined_11 rfl rfl ?_
  refine w_iload_n X dX1_joined_12 rfl rfl ?_
  refine w_iconst (v := 1) X dX1_joined_13 (by decide) ?_
  refine w_iadd X dX1_joined_14 ?_
  refine w_v1rV X dX1_joined_15 k1_65 rfl s_39 (b1_joined4 G hG _ _ n ht k hk0 hc0 hB) (Nat.le_of_ble_eq_true rfl) (fun N15 h15 => ?_)
  refine w_iload_n X dX1_joined_18 rfl rfl ?_
  refine w_iconst (v := 3) X dX1_joined_19 (by decide) ?_
  refine w_icmp_ne (tgt := 27) X dX1_joined_20 (by decide) (fun h20 => absurd rfl h20) (fun h20 => ?_)
  refine w_iconst (v := 1) X dX1_joined_23 (by decide) ?_
  refine w_goto (tgt := 29) X dX1_joined_24 (by decide) ?_
  refine w_istore_n X dX1_joined_29 rfl (by decide) ?_
  refine w_iconst (v := 0) X dX1_joined_30 (by decide) ?_
  refine w_istore_n X dX1_joined_31 rfl (by decide) ?_
  refine w_iload_n X dX1_joined_32 rfl rfl ?_
  refine w_iload_n X dX1_joined_33 rfl rfl ?_
  refine w_icmp_ge (tgt := 81) X dX1_joined_34 (by decide) (fun h34 => absurd h34 (by decide)) (fun h34 => ?_)
  refine w_aload_n X dX1_joined_37 rfl rfl ?_
  refine g1_7 X dX1_joined_38 s_39 rfl ?_
  refine w_v0fI X dX1_joined_41 k1_48 rfl s_37 (c7_peek G hG _ _ n (cf_tp hk h15.1 ht)) (Nat.le_of_ble_eq_true rfl) ?_
  rw [pe_F h15.2.1]
  refine w_s1fI X dX1_joined_44 k1_78 (c1_kindOf G hG _ _ _) (Nat.le_of_ble_eq_true rfl) ?_
  refine w_iload_n X dX1_joined_47 rfl rfl ?_
  refine w_icmp_ne (tgt := 81) X dX1_joined_48 (by decide) (fun h48 => ?_) (fun h48 => absurd h48 (by decide))
  exact w_vrR X dX1_joined_81 h15
set_option maxRecDepth 100000 in
set_option maxHeartbeats 600000 in
theorem b1_choice (G : gg_) (hG : gd_ G) (d : Nat) (M : mm_) (n : Nat) (ht : tpX_ M n) (k : Nat) (hk0 : cdX_ k) (hc0 : M.2.2 39 1 = some k) (hB : SB_ k M) : cm_ G yX1_choice cX1_choice 3 none (d + 12) [.ref (G.1 39)] M (rV_ (BB_ k M)) := by
  refine cm_of hG (by decide) (Nat.le_of_ble_eq_true rfl) (fun C X => ?_)
  have hk := cd_kb hk0
  refine w_aload_n X dX1_choice_0 rfl rfl ?_
  refine w_iconst (v := 3) X dX1_choice_1 (by decide) ?_
  refine w_v1rV X dX1_choice_2 k1_65 rfl s_39 (b1_joined3 G hG _ _ n ht k hk0 hc0 hB) (Nat.le_of_ble_eq_true rfl) (fun N2 h2 => ?_)
  refine w_aload_n X dX1_choice_5 rfl rfl ?_
  refine g1_7 X dX1_choice_6 s_39 rfl ?_
  refine w_v0fI X dX1_choice_9 k1_48 rfl s_37 (c7_peek G hG _ _ n (cf_tp hk h2.1 ht)) (Nat.le_of_ble_eq_true rfl) ?_
  rw [pe_F h2.2.1]
  refine w_bipush (v := 63) X dX1_choice_12 (by decide) ?_
  refine w_icmp_eq (tgt := 18) X dX1_choice_14 (by decide) (fun h14 => absurd h14 (by decide)) (fun h14 => ?_)
  exact w_vrR X dX1_choice_17 h2
set_option maxRecDepth 100000 in
set_option maxHeartbeats 600000 in
theorem b1_expression (G : gg_) (hG : gd_ G) (d : Nat) (M : mm_) (n : Nat) (ht : tpX_ M n) (k : Nat) (hk0 : cdX_ k) (hc0 : M.2.2 39 1 = some k) (hB : SB_ k M) : cm_ G yX1_expression cX1_expression 4 none (d + 13) [.ref (G.1 39)] M (rV_ (BB_ k M)) := by
  refine cm_of hG (by decide) (Nat.le_of_ble_eq_true rfl) (fun C X => ?_)
  have hk := cd_kb hk0
  refine w_aload_n X dX1_expression_0 rfl rfl ?_
  refine r1_13 X dX1_expression_1 s_39 rfl (hc0) ?_
  refine g1_42 X dX1_expression_4 hk0.1 rfl ?_
  refine w_istore_n X dX1_expression_7 rfl (by decide) ?_
  refine w_aload_n X dX1_expression_8 rfl rfl ?_
  refine w_v0rV X dX1_expression_9 k1_45 rfl s_39 (b1_choice G hG _ _ n ht k hk0 hc0 hB) (Nat.le_of_ble_eq_true rfl) (fun N9 h9 => ?_)
  refine w_iconst (v := 0) X dX1_expression_12 (by decide) ?_
  refine w_istore_n X dX1_expression_13 rfl (by decide) ?_
  refine w_iload_n X dX1_expression_14 rfl rfl ?_
  refine w_bipush (v := 20) X dX1_expression_15 (by decide) ?_
  refine w_icmp_ge (tgt := 64) X dX1_expression_17 (by decide) (fun h17 => absurd h17 (by decide)) (fun h17 => ?_)
  refine w_aload_n X dX1_expression_20 rfl rfl ?_
  refine g1_7 X dX1_expression_21 s_39 rfl ?_
  refine w_v0fI X dX1_expression_24 k1_48 rfl s_37 (c7_peek G hG _ _ n (cf_tp hk h9.1 ht)) (Nat.le_of_ble_eq_true rfl) ?_
  rw [pe_F h9.2.1]
  refine w_bipush (v := 35) X dX1_expression_27 (by decide) ?_
  refine w_icmp_ne (tgt := 64) X dX1_expression_29 (by decide) (fun h29 => ?_) (fun h29 => absurd h29 (by decide))
  exact w_vrR X dX1_expression_64 h9

end
section
/-! arguments -/
def PA_ (k n : Nat) (M : mm_) (p m o : Nat) (C : List cq2_) (H : Int32) (r : px2_) (c : Int32) (N : mm_) : Prop := cf_ k M N ∧ (match r with
  | none => FT_ k N
  | some x => c = nI (an_ x.1) ∧ an_ x.1 < 4 ∧ ST_ k N x.2.1 x.2.2 o (C ++ cqX_ x.1 C.length H) (H + nI (an_ x.1)) ∧ p < x.2.1 ∧ x.2.1 ≤ n ∧ m < x.2.2 ∧ x.2.2 ≤ 20 ∧ 3 * snX_ x.1 + 1 ≤ 4 * (x.2.2 - m))
theorem PA_none {k n p m o : Nat} {M N : mm_} {C : List cq2_} {H c : Int32} (hc : cf_ k M N) (h : FT_ k N) : PA_ k n M p m o C H none c N := ⟨hc, h⟩
theorem PA_some {k n p m o a b j : Nat} {M N : mm_} {C : List cq2_} {H c : Int32} {e : Term} (hc : cf_ k M N) (h0 : an_ e = j) (hj : j < 4) (hc2 : c = nI j) (h1 : ST_ k N a b o (C ++ cqX_ e C.length H) (H + nI j)) (h2 : p < a) (h3 : a ≤ n) (h4 : m < b) (h5 : b ≤ 20) (h6 : 3 * snX_ e + 1 ≤ 4 * (b - m)) : PA_ k n M p m o C H (some (e, a, b)) c N := ⟨hc, by subst h0; exact ⟨hc2, hj, h1, h2, h3, h4, h5, h6⟩⟩
theorem PA_get {k n p m o : Nat} {M N : mm_} {C : List cq2_} {H c : Int32} {x : Term × Nat × Nat} (h : PA_ k n M p m o C H (some x) c N) : c = nI (an_ x.1) ∧ an_ x.1 < 4 ∧ ST_ k N x.2.1 x.2.2 o (C ++ cqX_ x.1 C.length H) (H + nI (an_ x.1)) ∧ p < x.2.1 ∧ x.2.1 ≤ n ∧ m < x.2.2 ∧ x.2.2 ≤ 20 ∧ 3 * snX_ x.1 + 1 ≤ 4 * (x.2.2 - m) ∧ (C ++ cqX_ x.1 C.length H).length = C.length + snX_ x.1 := by
  obtain ⟨-, h1, h2, h3, h4, h5, h6, h7, h8⟩ := h
  exact ⟨h1, h2, h3, h4, h5, h6, h7, h8, by rw [List.length_append, cq_len]⟩
def XA_ (G : gg_) (k n : Nat) (v : Int32) (nm : Bool) (t : Nat) : Prop := ∀ (D : Nat) (M : mm_) (p m o : Nat) (C : List cq2_) (H : Int32), 3 * t + 13 ≤ D → PE_ k n v nm M → ST_ k M p m o C H → p ≤ n → m ≤ 20 → o ≤ 12 → 3 * C.length ≤ 4 * m → 9 * ((20 - m) + (12 - o)) + 10 ≤ t → cm_ G yX1_arguments cX1_arguments 2 (some .int) D [.ref (G.1 39)] M (rI_ (PA_ k n M p m o C H (pz2_ (tb_ M) v nm t 8 none p m o)))
set_option maxRecDepth 100000 in
set_option maxHeartbeats 800000 in
theorem x_arguments (G : gg_) (hG : gd_ G) (k n : Nat) (v : Int32) (nm : Bool) (t : Nat) (he : XE_ G k n v nm t) : XA_ G k n v nm (t + 1) := by
  intro D M p m o C H hD hE hS hp hm ho hC hB
  have hk := cd_kb hE.1
  have hk2 := hk
  unfold kb_ at hk2
  have hn2 := hE.2.1.1
  obtain ⟨d, rfl⟩ : ∃ d, D = d + 16 := ⟨D - 16, by omega⟩
  refine cm_of hG (by decide) (Nat.le_of_ble_eq_true rfl) (fun C9 X => ?_)
  have tf : ∀ (c : Int32) (N : mm_), cf_ k M N → FT_ k N → wq_ C9 G (qe_ C9 G (rI_ (PA_ k n M p m o C H none))) 6 [some (.ref (G.1 39)), some (.int c)] [] N := by
    intro c N hc hf
    refine w_iload_n X dX1_arguments_6 rfl rfl ?_
    refine w_iconst (v := 3) X dX1_arguments_7 (by decide) ?_
    refine w_icmp_gt (tgt := 60) X dX1_arguments_8 (by decide) (fun h8 => ?_) (fun h8 => ?_)
    · refine w_iload_n X dX1_arguments_60 rfl rfl ?_
      refine w_iconst (v := 3) X dX1_arguments_61 (by decide) ?_
      refine w_minI X dX1_arguments_62 mw1_153 (Nat.le_of_ble_eq_true rfl) ?_
      exact w_irR X dX1_arguments_65 (PA_none hc hf)
    · refine w_aload_n X dX1_arguments_11 rfl rfl ?_
      refine g1_7 X dX1_arguments_12 s_39 rfl ?_
      refine w_v0fI X dX1_arguments_15 k1_48 rfl s_37 (c7_peek G hG _ _ n (cf_tp hk hc hE.2.1)) (Nat.le_of_ble_eq_true rfl) ?_
      rw [pe_F hf.1]
      refine w_bipush (v := 44) X dX1_arguments_18 (by decide) ?_
      refine w_icmp_ne (tgt := 60) X dX1_arguments_20 (by decide) (fun h20 => ?_) (fun h20 => ?_)
      · refine w_iload_n X dX1_arguments_60 rfl rfl ?_
        refine w_iconst (v := 3) X dX1_arguments_61 (by decide) ?_
        refine w_minI X dX1_arguments_62 mw1_153 (Nat.le_of_ble_eq_true rfl) ?_
        exact w_irR X dX1_arguments_65 (PA_none hc hf)
      · exact absurd h20 (by decide)
  show wq_ C9 G (qe_ C9 G (rI_ (PA_ k n M p m o C H (z8_ (pz2_ (tb_ M) v nm t) (tb_ M) p m o)))) _ _ _ _
  unfold z8_
  have hct0 := he (d + 15) M p m o C H (by omega) (PE_cf hE cf_rf) hS (by omega) (by omega) ho (by omega) (by omega)
  rw [cf_tb hk cf_rf] at hct0
  refine w_aload_n X dX1_arguments_0 rfl rfl ?_
  refine w_v0rV X dX1_arguments_1 k1_39 rfl s_39 hct0 (Nat.le_of_ble_eq_true rfl) (fun N0 h0_ => ?_)
  have hc0 := cf_tr cf_rf h0_.1
  cases hz0 : pz2_ (tb_ M) v nm t 1 none p m o with
  | none =>
    rw [hz0] at h0_
    refine w_iconst (v := 1) X dX1_arguments_4 (by decide) ?_
    refine w_istore_n X dX1_arguments_5 rfl (by decide) ?_
    exact tf _ _ hc0 h0_.2
  | some a =>
    rw [hz0] at h0_
    obtain ⟨-, hs0, q01, q02, q03, q04, q05, q06⟩ := PR_get h0_
    have hEN0 := PE_cf hE hc0
    have hT0 := gpe hs0
    rw [cf_tb hk hc0] at hT0
    simp only
    refine w_iconst (v := 1) X dX1_arguments_4 (by decide) ?_
    refine w_istore_n X dX1_arguments_5 rfl (by decide) ?_
    refine w_iload_n X dX1_arguments_6 rfl rfl ?_
    refine w_iconst (v := 3) X dX1_arguments_7 (by decide) ?_
    refine w_icmp_gt (tgt := 60) X dX1_arguments_8 (by decide) (fun h8 => absurd h8 (by decide)) (fun h8 => ?_)
    refine w_aload_n X dX1_arguments_11 rfl rfl ?_
    refine g1_7 X dX1_arguments_12 s_39 rfl ?_
    refine w_v0fI X dX1_arguments_15 k1_48 rfl s_37 (c7_peek G hG _ _ n hEN0.2.1) (Nat.le_of_ble_eq_true rfl) ?_
    rw [hT0]
    refine w_bipush (v := 44) X dX1_arguments_18 (by decide) ?_
    refine w_icmp_ne (tgt := 60) X dX1_arguments_20 (by decide) (fun h20 => ?_) (fun h20 => ?_)
    · refine w_iload_n X dX1_arguments_60 rfl rfl ?_
      refine w_iconst (v := 3) X dX1_arguments_61 (by decide) ?_
      refine w_minI X dX1_arguments_62 mw1_153 (Nat.le_of_ble_eq_true rfl) ?_
      refine w_irR X dX1_arguments_65 ?_
      rw [if_neg h20]
      refine PA_some (j := 1) hc0 rfl (by decide) (by decide) ?_ (by omega) (by omega) (by omega) (by omega) ?_
      · have e9 : C ++ cqX_ (.add a.1 .null) C.length H = (C ++ cqX_ a.1 C.length H) := by
          simp only [cqX_, List.append_assoc, List.append_nil]
        rw [e9]
        exact hs0
      · simp only [snX_]; omega
    · have hp0 := tb_lt hE.2.1 (by omega : a.2.1 ≤ 300) (by rw [h20]; decide)
      rw [if_pos h20]
      have hs0p := g37 (p2 := a.2.1 + 1) hk hs0
      have hc0p := cf_tr hc0 (cf_37 (M := N0) (i := 1) (v := nI (a.2.1 + 1)) hk)
      refine w_aload_n X dX1_arguments_23 rfl rfl ?_
      refine g1_7 X dX1_arguments_24 s_39 rfl ?_
      refine w_dup X dX1_arguments_27 rfl ?_
      refine g1_84 X dX1_arguments_28 s_37 rfl ?_
      refine w_iconst (v := 1) X dX1_arguments_31 (by decide) ?_
      refine w_iadd X dX1_arguments_32 ?_
      refine p1_84 X dX1_arguments_33 s_37 rfl ?_
      refine w_aload_n X dX1_arguments_36 rfl rfl ?_
      refine w_iload_n X dX1_arguments_37 rfl rfl ?_
      refine w_iconst (v := 3) X dX1_arguments_38 (by decide) ?_
      refine w_icmp_ne (tgt := 46) X dX1_arguments_39 (by decide) (fun h39 => ?_) (fun h39 => absurd h39 (by decide))
      refine w_iconst (v := 0) X dX1_arguments_46 (by decide) ?_
      refine p1_31 X dX1_arguments_47 s_39 rfl (by first | exact Or.inl rfl | exact Or.inr rfl | assumption) ?_
      rw [hs0.2.1, nI_1, sI_selfX (show (sI_ N0 37 1 (nI (a.2.1 + 1))).1 39 6 = 0 from hs0p.2.2.2.2.1)]
      have hct1 := he (d + 15) _ (a.2.1 + 1) a.2.2 o (C ++ cqX_ a.1 C.length H) (H + 1) (by omega) (PE_cf hE hc0p) hs0p (by omega) (by omega) ho (by omega) (by omega)
      rw [cf_tb hk hc0p] at hct1
      refine w_aload_n X dX1_arguments_50 rfl rfl ?_
      refine w_v0rV X dX1_arguments_51 k1_39 rfl s_39 hct1 (Nat.le_of_ble_eq_true rfl) (fun N1 h1_ => ?_)
      have hc1 := cf_tr hc0p h1_.1
      cases hz1 : pz2_ (tb_ M) v nm t 1 none (a.2.1 + 1) a.2.2 o with
      | none =>
        rw [hz1] at h1_
        refine w_iinc (v := 1) X dX1_arguments_54 rfl (by decide) (by decide) ?_
        refine w_goto (tgt := 6) X dX1_arguments_57 (by decide) ?_
        exact tf _ _ hc1 h1_.2
      | some b =>
        rw [hz1] at h1_
        obtain ⟨-, hs1, q11, q12, q13, q14, q15, q16⟩ := PR_get h1_
        have hEN1 := PE_cf hE hc1
        have hT1 := gpe hs1
        rw [cf_tb hk hc1] at hT1
        simp only
        refine w_iinc (v := 1) X dX1_arguments_54 rfl (by decide) (by decide) ?_
        refine w_goto (tgt := 6) X dX1_arguments_57 (by decide) ?_
        refine w_iload_n X dX1_arguments_6 rfl rfl ?_
        refine w_iconst (v := 3) X dX1_arguments_7 (by decide) ?_
        refine w_icmp_gt (tgt := 60) X dX1_arguments_8 (by decide) (fun h8 => absurd h8 (by decide)) (fun h8 => ?_)
        refine w_aload_n X dX1_arguments_11 rfl rfl ?_
        refine g1_7 X dX1_arguments_12 s_39 rfl ?_
        refine w_v0fI X dX1_arguments_15 k1_48 rfl s_37 (c7_peek G hG _ _ n hEN1.2.1) (Nat.le_of_ble_eq_true rfl) ?_
        rw [hT1]
        refine w_bipush (v := 44) X dX1_arguments_18 (by decide) ?_
        refine w_icmp_ne (tgt := 60) X dX1_arguments_20 (by decide) (fun h20 => ?_) (fun h20 => ?_)
        · refine w_iload_n X dX1_arguments_60 rfl rfl ?_
          refine w_iconst (v := 3) X dX1_arguments_61 (by decide) ?_
          refine w_minI X dX1_arguments_62 mw1_153 (Nat.le_of_ble_eq_true rfl) ?_
          refine w_irR X dX1_arguments_65 ?_
          rw [if_neg h20]
          refine PA_some (j := 2) hc1 rfl (by decide) (by decide) ?_ (by omega) (by omega) (by omega) (by omega) ?_
          · have e9 : C ++ cqX_ (.add a.1 (.add b.1 .null)) C.length H = ((C ++ cqX_ a.1 C.length H) ++ cqX_ b.1 (C ++ cqX_ a.1 C.length H).length (H + 1)) := by
              rw [q06]; simp only [cqX_, List.append_assoc, List.append_nil]
            rw [e9, show H + nI 2 = (H + 1 + 1) by simp only [Int32.add_assoc]; rfl]
            exact hs1
          · simp only [snX_]; omega
        · have hp1 := tb_lt hE.2.1 (by omega : b.2.1 ≤ 300) (by rw [h20]; decide)
          rw [if_pos h20]
          have hs1p := g37 (p2 := b.2.1 + 1) hk hs1
          have hc1p := cf_tr hc1 (cf_37 (M := N1) (i := 1) (v := nI (b.2.1 + 1)) hk)
          refine w_aload_n X dX1_arguments_23 rfl rfl ?_
          refine g1_7 X dX1_arguments_24 s_39 rfl ?_
          refine w_dup X dX1_arguments_27 rfl ?_
          refine g1_84 X dX1_arguments_28 s_37 rfl ?_
          refine w_iconst (v := 1) X dX1_arguments_31 (by decide) ?_
          refine w_iadd X dX1_arguments_32 ?_
          refine p1_84 X dX1_arguments_33 s_37 rfl ?_
          refine w_aload_n X dX1_arguments_36 rfl rfl ?_
          refine w_iload_n X dX1_arguments_37 rfl rfl ?_
          refine w_iconst (v := 3) X dX1_arguments_38 (by decide) ?_
          refine w_icmp_ne (tgt := 46) X dX1_arguments_39 (by decide) (fun h39 => ?_) (fun h39 => absurd h39 (by decide))
          refine w_iconst (v := 0) X dX1_arguments_46 (by decide) ?_
          refine p1_31 X dX1_arguments_47 s_39 rfl (by first | exact Or.inl rfl | exact Or.inr rfl | assumption) ?_
          rw [hs1.2.1, nI_1, sI_selfX (show (sI_ N1 37 1 (nI (b.2.1 + 1))).1 39 6 = 0 from hs1p.2.2.2.2.1)]
          have hct2 := he (d + 15) _ (b.2.1 + 1) b.2.2 o ((C ++ cqX_ a.1 C.length H) ++ cqX_ b.1 (C ++ cqX_ a.1 C.length H).length (H + 1)) (H + 1 + 1) (by omega) (PE_cf hE hc1p) hs1p (by omega) (by omega) ho (by omega) (by omega)
          rw [cf_tb hk hc1p] at hct2
          refine w_aload_n X dX1_arguments_50 rfl rfl ?_
          refine w_v0rV X dX1_arguments_51 k1_39 rfl s_39 hct2 (Nat.le_of_ble_eq_true rfl) (fun N2 h2_ => ?_)
          have hc2 := cf_tr hc1p h2_.1
          cases hz2 : pz2_ (tb_ M) v nm t 1 none (b.2.1 + 1) b.2.2 o with
          | none =>
            rw [hz2] at h2_
            refine w_iinc (v := 1) X dX1_arguments_54 rfl (by decide) (by decide) ?_
            refine w_goto (tgt := 6) X dX1_arguments_57 (by decide) ?_
            exact tf _ _ hc2 h2_.2
          | some c =>
            rw [hz2] at h2_
            obtain ⟨-, hs2, q21, q22, q23, q24, q25, q26⟩ := PR_get h2_
            have hEN2 := PE_cf hE hc2
            have hT2 := gpe hs2
            rw [cf_tb hk hc2] at hT2
            simp only
            refine w_iinc (v := 1) X dX1_arguments_54 rfl (by decide) (by decide) ?_
            refine w_goto (tgt := 6) X dX1_arguments_57 (by decide) ?_
            refine w_iload_n X dX1_arguments_6 rfl rfl ?_
            refine w_iconst (v := 3) X dX1_arguments_7 (by decide) ?_
            refine w_icmp_gt (tgt := 60) X dX1_arguments_8 (by decide) (fun h8 => absurd h8 (by decide)) (fun h8 => ?_)
            refine w_aload_n X dX1_arguments_11 rfl rfl ?_
            refine g1_7 X dX1_arguments_12 s_39 rfl ?_
            refine w_v0fI X dX1_arguments_15 k1_48 rfl s_37 (c7_peek G hG _ _ n hEN2.2.1) (Nat.le_of_ble_eq_true rfl) ?_
            rw [hT2]
            refine w_bipush (v := 44) X dX1_arguments_18 (by decide) ?_
            refine w_icmp_ne (tgt := 60) X dX1_arguments_20 (by decide) (fun h20 => ?_) (fun h20 => ?_)
            · refine w_iload_n X dX1_arguments_60 rfl rfl ?_
              refine w_iconst (v := 3) X dX1_arguments_61 (by decide) ?_
              refine w_minI X dX1_arguments_62 mw1_153 (Nat.le_of_ble_eq_true rfl) ?_
              refine w_irR X dX1_arguments_65 ?_
              rw [if_neg h20]
              refine PA_some (j := 3) hc2 rfl (by decide) (by decide) ?_ (by omega) (by omega) (by omega) (by omega) ?_
              · have e9 : C ++ cqX_ (.add a.1 (.add b.1 (.add c.1 .null))) C.length H = (((C ++ cqX_ a.1 C.length H) ++ cqX_ b.1 (C ++ cqX_ a.1 C.length H).length (H + 1)) ++ cqX_ c.1 ((C ++ cqX_ a.1 C.length H) ++ cqX_ b.1 (C ++ cqX_ a.1 C.length H).length (H + 1)).length (H + 1 + 1)) := by
                  rw [q16, q06]; simp only [cqX_, List.append_assoc, List.append_nil]
                rw [e9, show H + nI 3 = (H + 1 + 1 + 1) by simp only [Int32.add_assoc]; rfl]
                exact hs2
              · simp only [snX_]; omega
            · have hp2 := tb_lt hE.2.1 (by omega : c.2.1 ≤ 300) (by rw [h20]; decide)
              rw [if_pos h20]
              have hs2p := g37 (p2 := c.2.1 + 1) hk hs2
              have hc2p := cf_tr hc2 (cf_37 (M := N2) (i := 1) (v := nI (c.2.1 + 1)) hk)
              refine w_aload_n X dX1_arguments_23 rfl rfl ?_
              refine g1_7 X dX1_arguments_24 s_39 rfl ?_
              refine w_dup X dX1_arguments_27 rfl ?_
              refine g1_84 X dX1_arguments_28 s_37 rfl ?_
              refine w_iconst (v := 1) X dX1_arguments_31 (by decide) ?_
              refine w_iadd X dX1_arguments_32 ?_
              refine p1_84 X dX1_arguments_33 s_37 rfl ?_
              refine w_aload_n X dX1_arguments_36 rfl rfl ?_
              refine w_iload_n X dX1_arguments_37 rfl rfl ?_
              refine w_iconst (v := 3) X dX1_arguments_38 (by decide) ?_
              refine w_icmp_ne (tgt := 46) X dX1_arguments_39 (by decide) (fun h39 => absurd rfl h39) (fun h39 => ?_)
              refine w_iconst (v := 1) X dX1_arguments_42 (by decide) ?_
              refine w_goto (tgt := 47) X dX1_arguments_43 (by decide) ?_
              refine p1_31 X dX1_arguments_47 s_39 rfl (by first | exact Or.inl rfl | exact Or.inr rfl | assumption) ?_
              rw [hs2.2.1, nI_1]
              have hb := ST_SB hk hs2p (by omega)
              have hcb := cf_tr hc2p (cf_39 (i := 6) (M := sI_ N2 37 1 (nI (c.2.1 + 1))) (v := 1) (k := k) (by omega))
              refine w_aload_n X dX1_arguments_50 rfl rfl ?_
              refine w_v0rV X dX1_arguments_51 k1_39 rfl s_39 (b1_expression G hG (d + 2) _ n (cf_tp hk hcb hE.2.1) k hE.1 (by rw [hcb.1]; exact hE.2.2.1) hb) (Nat.le_of_ble_eq_true rfl) (fun N9 h9_ => ?_)
              refine w_iinc (v := 1) X dX1_arguments_54 rfl (by decide) (by decide) ?_
              refine w_goto (tgt := 6) X dX1_arguments_57 (by decide) ?_
              exact tf _ _ (cf_tr hcb h9_.1) h9_.2

end
