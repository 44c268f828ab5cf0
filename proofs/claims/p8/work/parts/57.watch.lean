/-! readWatch and readCommand -/
theorem jd_kb {k : Nat} (h : jd_ k) : 135 ≤ k ∧ k ≤ 231 := by
  have hl : k < ds_.length := (List.getElem?_eq_some_iff.mp h.1).1
  have key : ∀ k, k < ds_.length → (match ds_[k]? with | some (.inr (2, _)) => (decide (135 ≤ k) && decide (k ≤ 231)) | _ => true) = true := by decide +kernel
  have h2 := key k hl
  rw [h.1] at h2
  simp only [Bool.and_eq_true, decide_eq_true_eq] at h2
  exact h2
/-- nothing but the reader's cells and the Job k has changed -/
def cw_ (k : Nat) (M N : mm_) : Prop := (∀ a i, a ≠ 39 → N.2.2 a i = M.2.2 a i) ∧ (∀ a i, a ≠ 37 → a ≠ 39 → (a < k ∨ k + 11 < a) → N.1 a i = M.1 a i) ∧ (∀ a i, a ≠ 37 → a ≠ 38 → (a < k ∨ k + 11 < a) → N.2.1 a i = M.2.1 a i)
theorem cw_rf {k : Nat} {M : mm_} : cw_ k M M := ⟨fun _ _ _ => rfl, fun _ _ _ _ _ => rfl, fun _ _ _ _ _ => rfl⟩
theorem cw_tr {k : Nat} {A B D : mm_} (h : cw_ k A B) (g : cw_ k B D) : cw_ k A D := ⟨fun a i h1 => (g.1 a i h1).trans (h.1 a i h1), fun a i h1 h2 h3 => (g.2.1 a i h1 h2 h3).trans (h.2.1 a i h1 h2 h3), fun a i h1 h2 h3 => (g.2.2 a i h1 h2 h3).trans (h.2.2 a i h1 h2 h3)⟩
theorem cw_37 {k : Nat} {M N : mm_} (h : c37_ M N) : cw_ k M N := ⟨fun a i _ => by rw [h.1], fun a i h1 _ _ => h.2.1 a i h1, fun a i h1 _ _ => h.2.2 a i h1⟩
theorem cw_cr {k e : Nat} {M N : mm_} (h : cr_ e M N) (h1 : k ≤ e) (h2 : e + 4 ≤ k + 11) : cw_ k M N := ⟨h.1, fun a i g1 g2 g3 => h.2.1 a i g1 g2 (by omega), fun a i g1 g2 g3 => h.2.2 a i g1 (by omega)⟩
theorem cw_I {k i : Nat} {M : mm_} {v : Int32} : cw_ k M (sI_ M k i v) := ⟨fun _ _ _ => rfl, fun a j _ _ h => by rw [gI_sI, if_neg (by omega)], fun _ _ _ _ _ => rfl⟩
theorem cw_L {k i : Nat} {M : mm_} {v : Int64} : cw_ k M (sL_ M k i v) := ⟨fun _ _ _ => rfl, fun _ _ _ _ _ => rfl, fun a j _ _ h => by rw [gL_sL, if_neg (by omega)]⟩
theorem cw_tp {k n : Nat} {M N : mm_} (hk : 135 ≤ k) (h : cw_ k M N) (ht : tpX_ M n) : tpX_ N n := ⟨ht.1, by rw [h.2.1 35 1 (by omega) (by omega) (by omega)]; exact ht.2⟩
theorem cw_tb {k : Nat} {M N : mm_} (hk : 135 ≤ k) (h : cw_ k M N) : tb_ N = tb_ M := by
  funext x
  unfold tb_
  rw [h.2.1 35 1 (by omega) (by omega) (by omega), h.2.1 36 _ (by omega) (by omega) (by omega)]
/-- the Code e holds what x says -/
def hx_ (e : Nat) (x : px2_) (N : mm_) : Prop := (∃ L, L ≤ 26 ∧ N.1 e 4 = nI L) ∧ ∀ y, x = some y → hd_ e N (cqX_ y.1 0 0) ∧ 3 * snX_ y.1 + 1 ≤ 80
theorem hx_k {e : Nat} {x : px2_} {M N : mm_} (h : hx_ e x M) (hI : ∀ a i, e ≤ a → a ≤ e + 4 → N.1 a i = M.1 a i) (hL : ∀ i, N.2.1 (e + 2) i = M.2.1 (e + 2) i) : hx_ e x N := by
  obtain ⟨⟨L, h1, h2⟩, h3⟩ := h
  refine ⟨⟨L, h1, by rw [hI _ _ (by omega) (by omega)]; exact h2⟩, fun y hy => ?_⟩
  obtain ⟨⟨g1, g2⟩, g3⟩ := h3 y hy
  refine ⟨⟨by rw [hI _ _ (by omega) (by omega)]; exact g1, fun j q hq => ?_⟩, g3⟩
  obtain ⟨a1, a2, a3, a4⟩ := g2 j q hq
  exact ⟨by rw [hI _ _ (by omega) (by omega)]; exact a1, by rw [hL]; exact a2, fun z => by rw [hI _ _ (by omega) (by omega)]; exact a3 z, by rw [hI _ _ (by omega) (by omega)]; exact a4⟩
/-- behind the condition (W2 stands behind the expression, X2 is read there), if there is one -/
def wa3_ (T : Int32 → Int32) (W2 : Option Nat) (X2 : px2_) (q : Option Nat) (c : Bool) : Prop := (c = true ∧ moX_ T W2 ∧ q = qw_ T (qx_ X2)) ∨ (c = false ∧ ¬ moX_ T W2 ∧ q = W2)
/-- behind the limit, if there is one: b says whether -/
def wa4_ (T : Int32 → Int32) (q r : Option Nat) (b : Bool) : Prop := (b = true ∧ moX_ T q ∧ r = qw_ T (lmT_ T q).2) ∨ (b = false ∧ ¬ moX_ T q ∧ r = q)
/-- a watch's text from p on: point PO, pattern PT, expression X1, condition X2, and what the Job then holds -/
def RW_ (k : Nat) (M : mm_) (p : Nat) (N : mm_) : Prop := cw_ k M N ∧ ∃ (PO : Int32 × Option Nat) (PT : Int64 × Option Nat) (W1 : Option Nat) (X1 : px2_) (W2 : Option Nat) (X2 : px2_) (q r : Option Nat) (c b : Bool), poT_ (tb_ M) p = PO ∧ patT_ (tb_ M) PO.2 = PT ∧ qw_ (tb_ M) PT.2 = W1 ∧ pe2_ (tb_ M) 7 false W1 = X1 ∧ qw_ (tb_ M) (qx_ X1) = W2 ∧ pe2_ (tb_ M) 7 false W2 = X2 ∧ wa3_ (tb_ M) W2 X2 q c ∧ wa4_ (tb_ M) q r b ∧ LS_ r N ∧ N.1 k 1 = PO.1 ∧ N.2.1 k 2 = PT.1 ∧ N.1 k 5 = (if c = true then 1 else M.1 k 5) ∧ N.1 k 6 = (if b = true then (lmT_ (tb_ M) q).1 else M.1 k 6) ∧ (∀ i, ¬ i = 1 → ¬ i = 5 → ¬ i = 6 → N.1 k i = M.1 k i) ∧ (∀ i, N.1 (k + 11) i = M.1 (k + 11) i) ∧ hx_ (k + 1) X1 N ∧ (c = true → hx_ (k + 6) X2 N)
set_option maxRecDepth 100000 in
set_option maxHeartbeats 600000 in
theorem c10_readWatch (G : gg_) (hG : gd_ G) (d : Nat) (M : mm_) (n : Nat) (ht : tpX_ M n) (k : Nat) (hj : jd_ k) (p : Nat) (hp : p ≤ n) (hq : LS_ (some p) M) : cm_ G yX10_readWatch cX10_readWatch 2 none (d + 906) [.ref (G.1 38), .ref (G.1 k)] M (rV_ (RW_ k M p)) := by
  refine cm_of hG (by decide) (Nat.le_of_ble_eq_true rfl) (fun C X => ?_)
  obtain ⟨hk1, hk2⟩ := jd_kb hj
  have kE := cd_kb hj.2.2.1
  have kC := cd_kb hj.2.2.2
  obtain ⟨T, hT⟩ : ∃ T, tb_ M = T := ⟨_, rfl⟩
  obtain ⟨PM, hPM⟩ : ∃ x, po2_ M = x := ⟨_, rfl⟩
  obtain ⟨PP, hPP⟩ : ∃ x, pa1_ 13 0 0 (pa0_ (sI_ PM.2 k 1 PM.1)) = x := ⟨_, rfl⟩
  obtain ⟨PO, hPO⟩ : ∃ x, poT_ T p = x := ⟨_, rfl⟩
  obtain ⟨PT, hPT⟩ : ∃ x, patT_ T PO.2 = x := ⟨_, rfl⟩
  obtain ⟨W1, hW1⟩ : ∃ x, qw_ T PT.2 = x := ⟨_, rfl⟩
  obtain ⟨X1, hX1⟩ : ∃ x, pe2_ T 7 false W1 = x := ⟨_, rfl⟩
  obtain ⟨W2, hW2⟩ : ∃ x, qw_ T (qx_ X1) = x := ⟨_, rfl⟩
  obtain ⟨X2, hX2⟩ : ∃ x, pe2_ T 7 false W2 = x := ⟨_, rfl⟩
  have ePO := LS_po hq
  have q1 : qin_ n W1 := by
    have q0 := qin_po ht hp
    rw [hT, hPO] at q0
    have q9 := qin_pat ht q0
    rw [hT, hPT] at q9
    have q8 := qin_w ht q9
    rw [hT, hW1] at q8
    exact q8
  rw [hPM, hT, hPO] at ePO
  have cPM : c37_ M PM.2 := by
    rw [← hPM]
    exact c37_po
  have cA1 : cw_ k M (sI_ PM.2 k 1 PM.1) := cw_tr (cw_37 cPM) cw_I
  have tA1 := (cw_tb hk1 cA1).trans hT
  have lA1 : LS_ PO.2 (sI_ PM.2 k 1 PM.1) := LS_37x ePO.2 (by rw [gI_sI, if_neg (by omega)]) (by rw [gI_sI, if_neg (by omega)])
  have cPP : c37_ (sI_ PM.2 k 1 PM.1) PP.2 := by
    rw [← hPP]
    exact c37_tr c37_p0 (c37_pa _ _ _ _)
  have eP := LS_pat lA1
  rw [hPP, tA1, hPT] at eP
  obtain ⟨E2, hE2⟩ : ∃ x, ew_ PP.2 = x := ⟨_, rfl⟩
  have cE2 : c37_ (sI_ PM.2 k 1 PM.1) E2 := by
    rw [← hE2]
    exact c37_tr cPP c37_ew
  have cA2 : cw_ k M (sL_ E2 k 2 PP.1) := cw_tr cA1 (cw_tr (cw_37 cE2) cw_L)
  have tA2 := (cw_tb hk1 cA2).trans hT
  have lA2 := LS_ew eP.2
  rw [c37_tb cPP, tA1, hW1, hE2] at lA2
  have e11 : (sL_ E2 k 2 PP.1).1 k 1 = PO.1 := by
    rw [gI_sL, cE2.2.1 _ _ (by omega), gI_sI, if_pos (by simp)]
    exact ePO.1
  have e12 : (sL_ E2 k 2 PP.1).2.1 k 2 = PT.1 := by rw [gL_sL, if_pos (by simp)]; exact eP.1
  have e1i : ∀ i, ¬ i = 1 → (sL_ E2 k 2 PP.1).1 k i = M.1 k i := by
    intro i hi
    rw [gI_sL, cE2.2.1 _ _ (by omega), gI_sI, if_neg (by omega), cPM.2.1 _ _ (by omega)]
  have e1c : ∀ i, (sL_ E2 k 2 PP.1).1 (k + 11) i = M.1 (k + 11) i := by
    intro i
    rw [gI_sL, cE2.2.1 _ _ (by omega), gI_sI, if_neg (by omega), cPM.2.1 _ _ (by omega)]
  have lA2b : LS_ W1 (sL_ E2 k 2 PP.1) := LS_37x lA2 (by rw [gI_sL]) (by rw [gI_sL])
  have tl : ∀ (N : mm_) (q : Option Nat) (c : Bool), cw_ k M N → LS_ q N → wa3_ T W2 X2 q c → N.1 k 1 = PO.1 → N.2.1 k 2 = PT.1 → N.1 k 5 = (if c = true then 1 else M.1 k 5) → (∀ i, ¬ i = 1 → ¬ i = 5 → N.1 k i = M.1 k i) → (∀ i, N.1 (k + 11) i = M.1 (k + 11) i) → hx_ (k + 1) X1 N → (c = true → hx_ (k + 6) X2 N) → wq_ C G (qe_ C G (rV_ (RW_ k M p))) 80 [some (.ref (G.1 38)), some (.ref (G.1 k))] [] N := by
    intro N q c hc hl h3 f1 f2 f5 fi fc x1 x2
    have hN := cw_tp hk1 hc ht
    have hTN : tb_ N = T := (cw_tb hk1 hc).trans hT
    have hmo := LS_mo hl
    rw [hTN] at hmo
    obtain ⟨R9, hR9⟩ : ∃ x, nu1_ 200 (nuA_ N) 0 = x := ⟨_, rfl⟩
    have cR9 : c37_ N R9.1 := by
      rw [← hR9]
      exact c37_tr c37_nA (c37_nu _ _ _)
    have cL9 := c37_lm cR9
    have eL := LS_lm hl
    rw [hR9, hTN] at eL
    obtain ⟨L9, hL9⟩ : ∃ x, lmT_ T q = x := ⟨_, rfl⟩
    rw [hL9] at eL
    obtain ⟨M9, hM9⟩ : ∃ x, lm1_ N R9 = x := ⟨_, rfl⟩
    rw [hM9] at eL cL9
    have lw2 := LS_ew eL.2
    rw [c37_tb cL9, hTN] at lw2
    obtain ⟨E5, hE5⟩ : ∃ x, ew_ M9 = x := ⟨_, rfl⟩
    have cE : c37_ N E5 := by
      rw [← hE5]
      exact c37_tr cL9 c37_ew
    rw [hE5] at lw2
    refine w_aload_n X dX10_readWatch_80 rfl rfl ?_
    refine g10_7 X dX10_readWatch_81 s_38 rfl ?_
    refine w_v0fI X dX10_readWatch_84 k10_58 rfl s_37 (c7_peek G hG (d + 904) _ n hN) (Nat.le_of_ble_eq_true rfl) ?_
    refine w_iconst (v := -1) X dX10_readWatch_87 (by decide) ?_
    refine w_icmp_eq (tgt := 99) X dX10_readWatch_88 (by decide) (fun h88 => ?_) (fun h88 => ?_)
    · refine w_vrR X dX10_readWatch_99 ?_
      unfold RW_
      rw [hT]
      exact ⟨hc, PO, PT, W1, X1, W2, X2, q, q, c, false, hPO, hPT, hW1, hX1, hW2, hX2, h3, Or.inr ⟨rfl, fun z => hmo.mpr z h88, rfl⟩, hl, f1, f2, f5, fi 6 (by decide) (by decide), fun i a1 a2 _ => fi i a1 a2, fc, x1, x2⟩
    · refine w_aload_n X dX10_readWatch_91 rfl rfl ?_
      refine w_aload_n X dX10_readWatch_92 rfl rfl ?_
      refine w_v0fI X dX10_readWatch_93 k10_141 rfl s_38 (c10_limit G hG (d + 901) _ n hN R9 hR9) (Nat.le_of_ble_eq_true rfl) ?_
      rw [hM9, hE5]
      refine p10_144 X dX10_readWatch_96 hj.1 rfl ?_
      refine w_vrR X dX10_readWatch_99 ?_
      unfold RW_
      rw [hT]
      refine ⟨cw_tr hc (cw_tr (cw_37 cE) cw_I), PO, PT, W1, X1, W2, X2, q, _, c, true, hPO, hPT, hW1, hX1, hW2, hX2, h3, Or.inl ⟨rfl, hmo.mp h88, by rw [hL9]⟩, LS_37x (q := qw_ T L9.2) lw2 (by rw [gI_sI, if_neg (by omega)]) (by rw [gI_sI, if_neg (by omega)]), ?_, ?_, ?_, ?_, fun i a1 a2 a3 => ?_, fun i => ?_, ?_, fun z => ?_⟩
      · rw [gI_sI, if_neg (by omega), cE.2.1 _ _ (by omega)]; exact f1
      · rw [gL_sI, cE.2.2 _ _ (by omega)]; exact f2
      · rw [gI_sI, if_neg (by omega), cE.2.1 _ _ (by omega)]; exact f5
      · rw [gI_sI, if_pos (by simp), if_pos rfl, hL9]; exact eL.1
      · rw [gI_sI, if_neg (by omega), cE.2.1 _ _ (by omega)]; exact fi i a1 a2
      · rw [gI_sI, if_neg (by omega), cE.2.1 _ _ (by omega)]; exact fc i
      · exact hx_k x1 (fun a i g1 g2 => by rw [gI_sI, if_neg (by omega), cE.2.1 _ _ (by omega)]) (fun i => by rw [gL_sI]; exact cE.2.2 _ _ (by omega))
      · exact hx_k (x2 z) (fun a i g1 g2 => by rw [gI_sI, if_neg (by omega), cE.2.1 _ _ (by omega)]) (fun i => by rw [gL_sI]; exact cE.2.2 _ _ (by omega))
  refine w_aload_n X dX10_readWatch_0 rfl rfl ?_
  refine w_aload_n X dX10_readWatch_1 rfl rfl ?_
  refine w_v0fI X dX10_readWatch_2 k10_116 rfl s_38 (c10_point G hG (d + 900) _ n ht) (Nat.le_of_ble_eq_true rfl) ?_
  rw [hPM]
  refine p10_119 X dX10_readWatch_5 hj.1 rfl ?_
  refine w_aload_n X dX10_readWatch_8 rfl rfl ?_
  refine w_aload_n X dX10_readWatch_9 rfl rfl ?_
  refine w_v0fL X dX10_readWatch_10 k10_93 rfl s_38 (c10_pattern G hG (d + 901) _ n (cw_tp hk1 cA1 ht)) (Nat.le_of_ble_eq_true rfl) ?_
  rw [hPP, hE2]
  refine p10_96 X dX10_readWatch_13 hj.1 rfl ?_
  refine w_aload_n X dX10_readWatch_16 rfl rfl ?_
  refine g10_21 X dX10_readWatch_17 s_38 rfl ?_
  refine w_aload_n X dX10_readWatch_20 rfl rfl ?_
  refine g10_121 X dX10_readWatch_21 hj.1 rfl ?_
  refine w_ldcS (i := 0) (tx := "abcrxnk") X dX10_readWatch_24 (by decide) ?_
  refine w_t0fI X dX10_readWatch_26 k10_127 rfl (by decide) (cJ0_length G hG (d + 904) _ 0 (by decide)) (Nat.le_of_ble_eq_true rfl) ?_
  rw [show nI (sLen_.getD 0 0) = 7 by decide]
  refine w_iconst (v := 0) X dX10_readWatch_29 (by decide) ?_
  refine w_v3rV X dX10_readWatch_30 k10_45 rfl s_39 (c1_read G hG d _ n (cw_tp hk1 cA2 ht) (k + 1) hj.2.2.1 7 false W1 lA2b q1) (Nat.le_of_ble_eq_true rfl) (fun N30 h30 => ?_)
  rw [tA2, hX1] at h30
  obtain ⟨r1, r2, r3, r4⟩ := h30
  have cN1 := cw_tr cA2 (cw_cr r1 (by omega) (by omega))
  obtain ⟨E3, hE3⟩ : ∃ x, ew_ N30 = x := ⟨_, rfl⟩
  have cE3 : c37_ N30 E3 := by
    rw [← hE3]
    exact c37_ew
  have cN2 := cw_tr cN1 (cw_37 cE3)
  have tN1 := (cw_tb hk1 cN1).trans hT
  have tN2 := (cw_tb hk1 cN2).trans hT
  have l3 := LS_ew r2
  rw [tN1, hW2, hE3] at l3
  have q2 : qin_ n W2 := by
    have z : qin_ n (qx_ X1) := by
      intro a ha
      cases hx : X1 with
      | none => rw [hx] at ha; cases ha
      | some x => rw [hx] at ha; rw [← Option.some.inj ha]; exact (r4 x hx).1
    have z2 := qin_w ht z
    rw [hT, hW2] at z2
    exact z2
  have x1 : hx_ (k + 1) X1 E3 := hx_k (M := N30) ⟨r3, fun y hy => (r4 y hy).2⟩ (fun a i g1 g2 => cE3.2.1 _ _ (by omega)) (fun i => cE3.2.2 _ _ (by omega))
  have gk : ∀ i, E3.1 k i = (sL_ E2 k 2 PP.1).1 k i := fun i => (cE3.2.1 _ _ (by omega)).trans (r1.2.1 _ _ (by omega) (by omega) (by omega))
  have gc : ∀ i, E3.1 (k + 11) i = (sL_ E2 k 2 PP.1).1 (k + 11) i := fun i => (cE3.2.1 _ _ (by omega)).trans (r1.2.1 _ _ (by omega) (by omega) (by omega))
  have gL : E3.2.1 k 2 = (sL_ E2 k 2 PP.1).2.1 k 2 := (cE3.2.2 _ _ (by omega)).trans (r1.2.2 _ _ (by omega) (by omega))
  have hmo := LS_mo l3
  rw [tN2] at hmo
  refine w_aload_n X dX10_readWatch_33 rfl rfl ?_
  refine g10_7 X dX10_readWatch_34 s_38 rfl ?_
  refine w_v0fV X dX10_readWatch_37 k10_86 rfl s_37 (c7_endWord G hG (d + 902) _ n (cw_tp hk1 cN1 ht)) (Nat.le_of_ble_eq_true rfl) ?_
  rw [hE3]
  refine w_aload_n X dX10_readWatch_40 rfl rfl ?_
  refine g10_7 X dX10_readWatch_41 s_38 rfl ?_
  refine w_v0fI X dX10_readWatch_44 k10_58 rfl s_37 (c7_peek G hG (d + 904) _ n (cw_tp hk1 cN2 ht)) (Nat.le_of_ble_eq_true rfl) ?_
  refine w_iconst (v := -1) X dX10_readWatch_47 (by decide) ?_
  refine w_icmp_eq (tgt := 80) X dX10_readWatch_48 (by decide) (fun h48 => ?_) (fun h48 => ?_)
  · exact tl _ _ false cN2 l3 (Or.inr ⟨rfl, fun z => hmo.mpr z h48, rfl⟩) ((gk 1).trans e11) (gL.trans e12) ((gk 5).trans (e1i 5 (by decide))) (fun i a1 _ => (gk i).trans (e1i i a1)) (fun i => (gc i).trans (e1c i)) x1 (fun z => by cases z)
  · refine w_aload_n X dX10_readWatch_51 rfl rfl ?_
    refine g10_21 X dX10_readWatch_52 s_38 rfl ?_
    refine w_aload_n X dX10_readWatch_55 rfl rfl ?_
    refine g10_134 X dX10_readWatch_56 hj.1 rfl ?_
    refine w_ldcS (i := 0) (tx := "abcrxnk") X dX10_readWatch_59 (by decide) ?_
    refine w_t0fI X dX10_readWatch_61 k10_127 rfl (by decide) (cJ0_length G hG (d + 904) _ 0 (by decide)) (Nat.le_of_ble_eq_true rfl) ?_
    rw [show nI (sLen_.getD 0 0) = 7 by decide]
    refine w_iconst (v := 0) X dX10_readWatch_64 (by decide) ?_
    refine w_v3rV X dX10_readWatch_65 k10_45 rfl s_39 (c1_read G hG d _ n (cw_tp hk1 cN2 ht) (k + 6) hj.2.2.2 7 false W2 l3 q2) (Nat.le_of_ble_eq_true rfl) (fun N65 h65 => ?_)
    rw [tN2, hX2] at h65
    obtain ⟨s1, s2, s3, s4⟩ := h65
    have cN3 := cw_tr cN2 (cw_cr s1 (by omega) (by omega))
    obtain ⟨E4, hE4⟩ : ∃ x, ew_ N65 = x := ⟨_, rfl⟩
    have cE4 : c37_ N65 E4 := by
      rw [← hE4]
      exact c37_ew
    have cN4 := cw_tr cN3 (cw_37 cE4)
    have tN3 := (cw_tb hk1 cN3).trans hT
    have l4 := LS_ew s2
    rw [tN3, hE4] at l4
    refine w_aload_n X dX10_readWatch_68 rfl rfl ?_
    refine g10_7 X dX10_readWatch_69 s_38 rfl ?_
    refine w_v0fV X dX10_readWatch_72 k10_86 rfl s_37 (c7_endWord G hG (d + 902) _ n (cw_tp hk1 cN3 ht)) (Nat.le_of_ble_eq_true rfl) ?_
    rw [hE4]
    refine w_aload_n X dX10_readWatch_75 rfl rfl ?_
    refine w_iconst (v := 1) X dX10_readWatch_76 (by decide) ?_
    refine p10_137 X dX10_readWatch_77 hj.1 rfl (Or.inr rfl) ?_
    have g4 : ∀ a i, a ≠ 37 → a ≠ 39 → (a < k + 6 ∨ k + 10 < a) → E4.1 a i = E3.1 a i := fun a i a1 a2 a3 => (cE4.2.1 _ _ a1).trans (s1.2.1 _ _ a1 a2 (by omega))
    have g4L : ∀ a i, a ≠ 37 → a ≠ k + 8 → E4.2.1 a i = E3.2.1 a i := fun a i a1 a2 => (cE4.2.2 _ _ a1).trans (s1.2.2 _ _ a1 (by omega))
    refine tl _ _ true (cw_tr cN4 cw_I) (LS_37x l4 (by rw [gI_sI, if_neg (by omega)]) (by rw [gI_sI, if_neg (by omega)])) (Or.inl ⟨rfl, hmo.mp h48, rfl⟩) ?_ ?_ ?_ (fun i a1 a2 => ?_) (fun i => ?_) ?_ (fun _ => ?_)
    · rw [gI_sI, if_neg (by omega), g4 _ _ (by omega) (by omega) (by omega), gk]; exact e11
    · rw [gL_sI, g4L _ _ (by omega) (by omega), gL]; exact e12
    · rw [gI_sI, if_pos (by simp), if_pos rfl]
    · rw [gI_sI, if_neg (by omega), g4 _ _ (by omega) (by omega) (by omega), gk]; exact e1i i a1
    · rw [gI_sI, if_neg (by omega), g4 _ _ (by omega) (by omega) (by omega), gc]; exact e1c i
    · exact hx_k x1 (fun a i b1 b2 => by rw [gI_sI, if_neg (by omega), g4 _ _ (by omega) (by omega) (by omega)]) (fun i => by rw [gL_sI]; exact g4L _ _ (by omega) (by omega))
    · exact hx_k (M := N65) ⟨s3, fun y hy => (s4 y hy).2⟩ (fun a i b1 b2 => by rw [gI_sI, if_neg (by omega), cE4.2.1 _ _ (by omega)]) (fun i => by rw [gL_sI]; exact cE4.2.2 _ _ (by omega))
