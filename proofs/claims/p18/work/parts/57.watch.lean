section
/-! readWatch and readCommand -/
theorem jd_kb {k : Nat} (h : jd_ k) : 135 ≤ k ∧ k ≤ 231 := by
  have hl : k < ds_.length := (List.getElem?_eq_some_iff.mp h.1).1
  have key : ∀ k, k < ds_.length → (match ds_[k]? with | some (.inr (2, _)) => (decide (135 ≤ k) && decide (k ≤ 231)) | _ => true) = true := by decide +kernel
  have h2 := key k hl
  rw [h.1] at h2
  simp only [Bool.and_eq_true, decide_eq_true_eq] at h2
  exact h2
/-- nothing but the reader's cells and the Job k has changed -/
def cw_ (k : Nat) (M N : mm_) : Prop := (∀ a i, a ≠ 39 → N.2.2 a i = M.2.2 a i) ∧ (∀ a i, a ≠ 37 → a ≠ 39 → (a < k ∨ k + 11 < a) → N.1 a i = M.1 a i) ∧ (∀ a i, a ≠ 37 → a ≠ 38 → (a < k ∨ k + 11 < a) → N.2.1 a i = M.2.1 a i)
theorem cw_rf {k : Nat} {M : mm_} : cw_ k M M := ⟨fun _ _ _ => rfl, fun _ _ _ _ _ => rfl, fun _ _ _ _ _ => rfl⟩
theorem cw_tr {k : Nat} {A B D : mm_} (h : cw_ k A B) (g : cw_ k B D) : cw_ k A D := ⟨fun a i h1 => (g.1 a i h1).trans (h.1 a i h1), fun a i h1 h2 h3 => (g.2.1 a i h1 h2 h3).trans (h.2.1 a i h1 h2 h3), fun a i h1 h2 h3 => (g.2.2 a i h1 h2 h3).trans (h.2.2 a i h1 h2 h3)⟩
theorem cw_37 {k : Nat} {M N : mm_} (h : c37_ M N) : cw_ k M N := ⟨fun a i _ => by rw [h.1], fun a i h1 _ _ => h.2.1 a i h1, fun a i h1 _ _ => h.2.2 a i h1⟩
theorem cw_cr {k e : Nat} {M N : mm_} (h : cr_ e M N) (h1 : k ≤ e) (h2 : e + 4 ≤ k + 11) : cw_ k M N := ⟨h.1, fun a i g1 g2 g3 => h.2.1 a i g1 g2 (by omega), fun a i g1 g2 g3 => h.2.2 a i g1 (by omega)⟩
theorem cw_I {k i : Nat} {M : mm_} {v : Int32} : cw_ k M (sI_ M k i v) := ⟨fun _ _ _ => rfl, fun a j _ _ h => by rw [gI_sI, if_neg (by omega)], fun _ _ _ _ _ => rfl⟩
theorem cw_L {k i : Nat} {M : mm_} {v : Int64} : cw_ k M (sL_ M k i v) := ⟨fun _ _ _ => rfl, fun _ _ _ _ _ => rfl, fun a j _ _ h => by rw [gL_sL, if_neg (by omega)]⟩
theorem cw_tp {k n : Nat} {M N : mm_} (hk : 135 ≤ k) (h : cw_ k M N) (ht : tpX_ M n) : tpX_ N n := ⟨ht.1, by rw [h.2.1 35 1 (by omega) (by omega) (by omega)]; exact ht.2⟩
theorem cw_tb {k : Nat} {M N : mm_} (hk : 135 ≤ k) (h : cw_ k M N) : tb_ N = tb_ M := by
  funext x
  unfold tb_
  rw [h.2.1 35 1 (by omega) (by omega) (by omega), h.2.1 36 _ (by omega) (by omega) (by omega)]
/-- the Code e holds what x says -/
def hx_ (e : Nat) (x : px2_) (N : mm_) : Prop := (∃ L, L ≤ 26 ∧ N.1 e 4 = nI L) ∧ ∀ y, x = some y → hd_ e N (cqX_ y.1 0 0) ∧ 3 * snX_ y.1 + 1 ≤ 80
theorem hx_k {e : Nat} {x : px2_} {M N : mm_} (h : hx_ e x M) (hI : ∀ a i, e ≤ a → a ≤ e + 4 → N.1 a i = M.1 a i) (hL : ∀ i, N.2.1 (e + 2) i = M.2.1 (e + 2) i) : hx_ e x N := by
  obtain ⟨⟨L, h1, h2⟩, h3⟩ := h
  refine ⟨⟨L, h1, by rw [hI _ _ (by omega) (by omega)]; exact h2⟩, fun y hy => ?_⟩
  obtain ⟨⟨g1, g2⟩, g3⟩ := h3 y hy
  refine ⟨⟨by rw [hI _ _ (by omega) (by omega)]; exact g1, fun j q hq => ?_⟩, g3⟩
  obtain ⟨a1, a2, a3, a4⟩ := g2 j q hq
  exact ⟨by rw [hI _ _ (by omega) (by omega)]; exact a1, by rw [hL]; exact a2, fun z => by rw [hI _ _ (by omega) (by omega)]; exact a3 z, by rw [hI _ _ (by omega) (by omega)]; exact a4⟩
/-- behind the condition (W2 stands behind the expression, X2 is read there), if there is one -/
def wa3_ (T : Int32 → Int32) (W2 : Option Nat) (X2 : px2_) (q : Option Nat) (c : Bool) : Prop := (c = true ∧ moX_ T W2 ∧ q = qw_ T (qx_ X2)) ∨ (c = false ∧ ¬ moX_ T W2 ∧ q = W2)
/-- behind the limit, if there is one: b says whether -/
def wa4_ (T : Int32 → Int32) (q r : Option Nat) (b : Bool) : Prop := (b = true ∧ moX_ T q ∧ r = qw_ T (lmT_ T q).2) ∨ (b = false ∧ ¬ moX_ T q ∧ r = q)
/-- a watch's text from p on: point PO, pattern PT, expression X1, condition X2, and what the Job then holds -/
def RW_ (k : Nat) (M : mm_) (p : Nat) (N : mm_) : Prop := cw_ k M N ∧ ∃ (PO : Int32 × Option Nat) (PT : Int64 × Option Nat) (W1 : Option Nat) (X1 : px2_) (W2 : Option Nat) (X2 : px2_) (q r : Option Nat) (c b : Bool), poT_ (tb_ M) p = PO ∧ patT_ (tb_ M) PO.2 = PT ∧ qw_ (tb_ M) PT.2 = W1 ∧ pe2_ (tb_ M) 7 false W1 = X1 ∧ qw_ (tb_ M) (qx_ X1) = W2 ∧ pe2_ (tb_ M) 7 false W2 = X2 ∧ wa3_ (tb_ M) W2 X2 q c ∧ wa4_ (tb_ M) q r b ∧ LS_ r N ∧ N.1 k 1 = PO.1 ∧ N.2.1 k 2 = PT.1 ∧ N.1 k 5 = (if c = true then 1 else M.1 k 5) ∧ N.1 k 6 = (if b = true then (lmT_ (tb_ M) q).1 else M.1 k 6) ∧ (∀ i, ¬ i = 1 → ¬ i = 5 → ¬ i = 6 → N.1 k i = M.1 k i) ∧ (∀ i, N.1 (k + 11) i = M.1 (k + 11) i) ∧ hx_ (k + 1) X1 N ∧ (c = true → hx_ (k + 6) X2 N)
set_option maxRecDepth 100000 in
set_option maxHeartbeats 600000 in
theorem c10_readWatch (G : gg_) (hG : gd_ G) (d : Nat) (M : mm_) (n : Nat) (ht : tpX_ M n) (k : Nat) (hj : jd_ k) (p : Nat) (hp : p ≤ n) (hq : LS_ (some p) M) : cm_ G yX10_readWatch cX10_readWatch 2 none (d + 906) [.ref (G.1 38), .ref (G.1 k)] M (rV_ (RW_ k M p)) := by
  refine cm_of hG (by decide) (Nat.le_of_ble_eq_true rfl) (fun C X => ?_)
  obtain ⟨hk1, hk2⟩ := jd_kb hj
  have kE := cd_kb hj.2.2.1
  have kC := cd_kb hj.2.2.2
  obtain ⟨T, hT⟩ : ∃ T, tb_ M = T := ⟨_, rfl⟩
  obtain ⟨PM, hPM⟩ : ∃ x, po2_ M = x := ⟨_, rfl⟩
  obtain ⟨PP, hPP⟩ : ∃ x, pa1_ 13 0 0 (pa0_ (sI_ PM.2 k 1 PM.1)) = x := ⟨_, rfl⟩
  obtain ⟨PO, hPO⟩ : ∃ x, poT_ T p = x := ⟨_, rfl⟩
  obtain ⟨PT, hPT⟩ : ∃ x, patT_ T PO.2 = x := ⟨_, rfl⟩
  obtain ⟨W1, hW1⟩ : ∃ x, qw_ T PT.2 = x := ⟨_, rfl⟩
  obtain ⟨X1, hX1⟩ : ∃ x, pe2_ T 7 false W1 = x := ⟨_, rfl⟩
  obtain ⟨W2, hW2⟩ : ∃ x, qw_ T (qx_ X1) = x := ⟨_, rfl⟩
  obtain ⟨X2, hX2⟩ : ∃ x, pe2_ T 7 false W2 = x := ⟨_, rfl⟩
  have ePO := LS_po hq
  have q1 : qin_ n W1 := by
    have q0 := qin_po ht hp
    rw [hT, hPO] at q0
    have q9 := qin_pat ht q0
    rw [hT, hPT] at q9
    have q8 := qin_w ht q9
    rw [hT, hW1] at q8
    exact q8
  rw [hPM, hT, hPO] at ePO
  have cPM : c37_ M PM.2 := by
    rw [← hPM]
    exact c37_po
  have cA1 : cw_ k M (sI_ PM.2 k 1 PM.1) := cw_tr (cw_37 cPM) cw_I
  have tA1 := (cw_tb hk1 cA1).trans hT
  have lA1 : LS_ PO.2 (sI_ PM.2 k 1 PM.1) := LS_37x ePO.2 (by rw [gI_sI, if_neg (by omega)]) (by rw [gI_sI, if_neg (by omega)])
  have cPP : c37_ (sI_ PM.2 k 1 PM.1) PP.2 := by
    rw [← hPP]
    exact c37_tr c37_p0 (c37_pa _ _ _ _)
  have eP := LS_pat lA1
  rw [hPP, tA1, hPT] at eP
  obtain ⟨E2, hE2⟩ : ∃ x, ew_ PP.2 = x := ⟨_, rfl⟩
  have cE2 : c37_ (sI_ PM.2 k 1 PM.1) E2 := by
    rw [← hE2]
    exact c37_tr cPP c37_ew
  have cA2 : cw_ k M (sL_ E2 k 2 PP.1) := cw_tr cA1 (cw_tr (cw_37 cE2) cw_L)
  have tA2 := (cw_tb hk1 cA2).trans hT
  have lA2 := LS_ew eP.2
  rw [c37_tb cPP, tA1, hW1, hE2] at lA2
  have e11 : (sL_ E2 k 2 PP.1).1 k 1 = PO.1 := by
    rw [gI_sL, cE2.2.1 _ _ (by omega), gI_sI, if_pos (by simp)]
    exact ePO.1
  have e12 : (sL_ E2 k 2 PP.1).2.1 k 2 = PT.1 := by rw [gL_sL, if_pos (by simp)]; exact eP.1
  have e1i : ∀ i, ¬ i = 1 → (sL_ E2 k 2 PP.1).1 k i = M.1 k i := by
    intro i hi
    rw [gI_sL, cE2.2.1 _ _ (by omega), gI_sI, if_neg (by omega), cPM.2.1 _ _ (by omega)]
  have e1c : ∀ i, (sL_ E2 k 2 PP.1).1 (k + 11) i = M.1 (k + 11) i := by
    intro i
    rw [gI_sL, cE2.2.1 _ _ (by omega), gI_sI, if_neg (by omega), cPM.2.1 _ _ (by omega)]
  have lA2b : LS_ W1 (sL_ E2 k 2 PP.1) := LS_37x lA2 (by rw [gI_sL]) (by rw [gI_sL])
  have tl : ∀ (N : mm_) (q : Option Nat) (c : Bool), cw_ k M N → LS_ q N → wa3_ T W2 X2 q c → N.1 k 1 = PO.1 → N.2.1 k 2 = PT.1 → N.1 k 5 = (if c = true then 1 else M.1 k 5) → (∀ i, ¬ i = 1 → ¬ i = 5 → N.1 k i = M.1 k i) → (∀ i, N.1 (k + 11) i = M.1 (k + 11) i) → hx_ (k + 1) X1 N → (c = true → hx_ (k + 6) X2 N) → wq_ C G (qe_ C G (rV_ (RW_ k M p))) 80 [some (.ref (G.1 38)), some (.ref (G.1 k))] [] N := by
    intro N q c hc hl h3 f1 f2 f5 fi fc x1 x2
    have hN := cw_tp hk1 hc ht
    have hTN : tb_ N = T := (cw_tb hk1 hc).trans hT
    have hmo := LS_mo hl
    rw [hTN] at hmo
    obtain ⟨R9, hR9⟩ : ∃ x, nu1_ 200 (nuA_ N) 0 = x := ⟨_, rfl⟩
    have cR9 : c37_ N R9.1 := by
      rw [← hR9]
      exact c37_tr c37_nA (c37_nu _ _ _)
    have cL9 := c37_lm cR9
    have eL := LS_lm hl
    rw [hR9, hTN] at eL
    obtain ⟨L9, hL9⟩ : ∃ x, lmT_ T q = x := ⟨_, rfl⟩
    rw [hL9] at eL
    obtain ⟨M9, hM9⟩ : ∃ x, lm1_ N R9 = x := ⟨_, rfl⟩
    rw [hM9] at eL cL9
    have lw2 := LS_ew eL.2
    rw [c37_tb cL9, hTN] at lw2
    obtain ⟨E5, hE5⟩ : ∃ x, ew_ M9 = x := ⟨_, rfl⟩
    have cE : c37_ N E5 := by
      rw [← hE5]
      exact c37_tr cL9 c37_ew
    rw [hE5] at lw2
    refine w_aload_n X dX10_readWatch_80 rfl rfl ?_
    refine g10_7 X dX10_readWatch_81 s_38 rfl ?_
    refine w_v0fI X dX10_readWatch_84 k10_58 rfl s_37 (c7_peek G hG (d + 904) _ n hN) (Nat.le_of_ble_eq_true rfl) ?_
    refine w_iconst (v := -1) X dX10_readWatch_87 (by decide) ?_
    refine w_icmp_eq (tgt := 99) X dX10_readWatch_88 (by decide) (fun h88 => ?_) (fun h88 => ?_)
    · refine w_vrR X dX10_readWatch_99 ?_
      unfold RW_
      rw [hT]
      exact ⟨hc, PO, PT, W1, X1, W2, X2, q, q, c, false, hPO, hPT, hW1, hX1, hW2, hX2, h3, Or.inr ⟨rfl, fun z => hmo.mpr z h88, rfl⟩, hl, f1, f2, f5, fi 6 (by decide) (by decide), fun i a1 a2 _ => fi i a1 a2, fc, x1, x2⟩
    · refine w_aload_n X dX10_readWatch_91 rfl rfl ?_
      refine w_aload_n X dX10_readWatch_92 rfl rfl ?_
      refine w_v0fI X dX10_readWatch_93 k10_141 rfl s_38 (c10_limit G hG (d + 901) _ n hN R9 hR9) (Nat.le_of_ble_eq_true rfl) ?_
      rw [hM9, hE5]
      refine p10_144 X dX10_readWatch_96 hj.1 rfl ?_
      refine w_vrR X dX10_readWatch_99 ?_
      unfold RW_
      rw [hT]
      refine ⟨cw_tr hc (cw_tr (cw_37 cE) cw_I), PO, PT, W1, X1, W2, X2, q, _, c, true, hPO, hPT, hW1, hX1, hW2, hX2, h3, Or.inl ⟨rfl, hmo.mp h88, by rw [hL9]⟩, LS_37x (q := qw_ T L9.2) lw2 (by rw [gI_sI, if_neg (by omega)]) (by rw [gI_sI, if_neg (by omega)]), ?_, ?_, ?_, ?_, fun i a1 a2 a3 => ?_, fun i => ?_, ?_, fun z => ?_⟩
      · rw [gI_sI, if_neg (by omega), cE.2.1 _ _ (by omega)]; exact f1
      · rw [gL_sI, cE.2.2 _ _ (by omega)]; exact f2
      · rw [gI_sI, if_neg (by omega), cE.2.1 _ _ (by omega)]; exact f5
      · rw [gI_sI, if_pos (by simp), if_pos rfl, hL9]; exact eL.1
      · rw [gI_sI, if_neg (by omega), cE.2.1 _ _ (by omega)]; exact fi i a1 a2
      · rw [gI_sI, if_neg (by omega), cE.2.1 _ _ (by omega)]; exact fc i
      · exact hx_k x1 (fun a i g1 g2 => by rw [gI_sI, if_neg (by omega), cE.2.1 _ _ (by omega)]) (fun i => by rw [gL_sI]; exact cE.2.2 _ _ (by omega))
      · exact hx_k (x2 z) (fun a i g1 g2 => by rw [gI_sI, if_neg (by omega), cE.2.1 _ _ (by omega)]) (fun i => by rw [gL_sI]; exact cE.2.2 _ _ (by omega))
  refine w_aload_n X dX10_readWatch_0 rfl rfl ?_
  refine w_aload_n X dX10_readWatch_1 rfl rfl ?_
  refine w_v0fI X dX10_readWatch_2 k10_116 rfl s_38 (c10_point G hG (d + 900) _ n ht) (Nat.le_of_ble_eq_true rfl) ?_
  rw [hPM]
  refine p10_119 X dX10_readWatch_5 hj.1 rfl ?_
  refine w_aload_n X dX10_readWatch_8 rfl rfl ?_
  refine w_aload_n X dX10_readWatch_9 rfl rfl ?_
  refine w_v0fL X dX10_readWatch_10 k10_93 rfl s_38 (c10_pattern G hG (d + 901) _ n (cw_tp hk1 cA1 ht)) (Nat.le_of_ble_eq_true rfl) ?_
  rw [hPP, hE2]
  refine p10_96 X dX10_readWatch_13 hj.1 rfl ?_
  refine w_aload_n X dX10_readWatch_16 rfl rfl ?_
  refine g10_21 X dX10_readWatch_17 s_38 rfl ?_
  refine w_aload_n X dX10_readWatch_20 rfl rfl ?_
  refine g10_121 X dX10_readWatch_21 hj.1 rfl ?_
  refine w_ldcS (i := 0) (tx := "abcrxnk") X dX10_readWatch_24 (by decide) ?_
  refine w_t0fI X dX10_readWatch_26 k10_127 rfl (by decide) (cJ0_length G hG (d + 904) _ 0 (by decide)) (Nat.le_of_ble_eq_true rfl) ?_
  rw [show nI (sLen_.getD 0 0) = 7 by decide]
  refine w_iconst (v := 0) X dX10_readWatch_29 (by decide) ?_
  refine w_v3rV X dX10_readWatch_30 k10_45 rfl s_39 (c1_read G hG d _ n (cw_tp hk1 cA2 ht) (k + 1) hj.2.2.1 7 false W1 lA2b q1) (Nat.le_of_ble_eq_true rfl) (fun N30 h30 => ?_)
  rw [tA2, hX1] at h30
  obtain ⟨r1, r2, r3, r4⟩ := h30
  have cN1 := cw_tr cA2 (cw_cr r1 (by omega) (by omega))
  obtain ⟨E3, hE3⟩ : ∃ x, ew_ N30 = x := ⟨_, rfl⟩
  have cE3 : c37_ N30 E3 := by
    rw [← hE3]
    exact c37_ew
  have cN2 := cw_tr cN1 (cw_37 cE3)
  have tN1 := (cw_tb hk1 cN1).trans hT
  have tN2 := (cw_tb hk1 cN2).trans hT
  have l3 := LS_ew r2
  rw [tN1, hW2, hE3] at l3
  have q2 : qin_ n W2 := by
    have z : qin_ n (qx_ X1) := by
      intro a ha
      cases hx : X1 with
      | none => rw [hx] at ha; cases ha
      | some x => rw [hx] at ha; rw [← Option.some.inj ha]; exact (r4 x hx).1
    have z2 := qin_w ht z
    rw [hT, hW2] at z2
    exact z2
  have x1 : hx_ (k + 1) X1 E3 := hx_k (M := N30) ⟨r3, fun y hy => (r4 y hy).2⟩ (fun a i g1 g2 => cE3.2.1 _ _ (by omega)) (fun i => cE3.2.2 _ _ (by omega))
  have gk : ∀ i, E3.1 k i = (sL_ E2 k 2 PP.1).1 k i := fun i => (cE3.2.1 _ _ (by omega)).trans (r1.2.1 _ _ (by omega) (by omega) (by omega))
  have gc : ∀ i, E3.1 (k + 11) i = (sL_ E2 k 2 PP.1).1 (k + 11) i := fun i => (cE3.2.1 _ _ (by omega)).trans (r1.2.1 _ _ (by omega) (by omega) (by omega))
  have gL : E3.2.1 k 2 = (sL_ E2 k 2 PP.1).2.1 k 2 := (cE3.2.2 _ _ (by omega)).trans (r1.2.2 _ _ (by omega) (by omega))
  have hmo := LS_mo l3
  rw [tN2] at hmo
  refine w_aload_n X dX10_readWatch_33 rfl rfl ?_
  refine g10_7 X dX10_readWatch_34 s_38 rfl ?_
  refine w_v0fV X dX10_readWatch_37 k10_86 rfl s_37 (c7_endWord G hG (d + 902) _ n (cw_tp hk1 cN1 ht)) (Nat.le_of_ble_eq_true rfl) ?_
  rw [hE3]
  refine w_aload_n X dX10_readWatch_40 rfl rfl ?_
  refine g10_7 X dX10_readWatch_41 s_38 rfl ?_
  refine w_v0fI X dX10_readWatch_44 k10_58 rfl s_37 (c7_peek G hG (d + 904) _ n (cw_tp hk1 cN2 ht)) (Nat.le_of_ble_eq_true rfl) ?_
  refine w_iconst (v := -1) X dX10_readWatch_47 (by decide) ?_
  refine w_icmp_eq (tgt := 80) X dX10_readWatch_48 (by decide) (fun h48 => ?_) (fun h48 => ?_)
  · exact tl _ _ false cN2 l3 (Or.inr ⟨rfl, fun z => hmo.mpr z h48, rfl⟩) ((gk 1).trans e11) (gL.trans e12) ((gk 5).trans (e1i 5 (by decide))) (fun i a1 _ => (gk i).trans (e1i i a1)) (fun i => (gc i).trans (e1c i)) x1 (fun z => by cases z)
  · refine w_aload_n X dX10_readWatch_51 rfl rfl ?_
    refine g10_21 X dX10_readWatch_52 s_38 rfl ?_
    refine w_aload_n X dX10_readWatch_55 rfl rfl ?_
    refine g10_134 X dX10_readWatch_56 hj.1 rfl ?_
    refine w_ldcS (i := 0) (tx := "abcrxnk") X dX10_readWatch_59 (by decide) ?_
    refine w_t0fI X dX10_readWatch_61 k10_127 rfl (by decide) (cJ0_length G hG (d + 904) _ 0 (by decide)) (Nat.le_of_ble_eq_true rfl) ?_
    rw [show nI (sLen_.getD 0 0) = 7 by decide]
    refine w_iconst (v := 0) X dX10_readWatch_64 (by decide) ?_
    refine w_v3rV X dX10_readWatch_65 k10_45 rfl s_39 (c1_read G hG d _ n (cw_tp hk1 cN2 ht) (k + 6) hj.2.2.2 7 false W2 l3 q2) (Nat.le_of_ble_eq_true rfl) (fun N65 h65 => ?_)
    rw [tN2, hX2] at h65
    obtain ⟨s1, s2, s3, s4⟩ := h65
    have cN3 := cw_tr cN2 (cw_cr s1 (by omega) (by omega))
    obtain ⟨E4, hE4⟩ : ∃ x, ew_ N65 = x := ⟨_, rfl⟩
    have cE4 : c37_ N65 E4 := by
      rw [← hE4]
      exact c37_ew
    have cN4 := cw_tr cN3 (cw_37 cE4)
    have tN3 := (cw_tb hk1 cN3).trans hT
    have l4 := LS_ew s2
    rw [tN3, hE4] at l4
    refine w_aload_n X dX10_readWatch_68 rfl rfl ?_
    refine g10_7 X dX10_readWatch_69 s_38 rfl ?_
    refine w_v0fV X dX10_readWatch_72 k10_86 rfl s_37 (c7_endWord G hG (d + 902) _ n (cw_tp hk1 cN3 ht)) (Nat.le_of_ble_eq_true rfl) ?_
    rw [hE4]
    refine w_aload_n X dX10_readWatch_75 rfl rfl ?_
    refine w_iconst (v := 1) X dX10_readWatch_76 (by decide) ?_
    refine p10_137 X dX10_readWatch_77 hj.1 rfl (Or.inr rfl) ?_
    have g4 : ∀ a i, a ≠ 37 → a ≠ 39 → (a < k + 6 ∨ k + 10 < a) → E4.1 a i = E3.1 a i := fun a i a1 a2 a3 => (cE4.2.1 _ _ a1).trans (s1.2.1 _ _ a1 a2 (by omega))
    have g4L : ∀ a i, a ≠ 37 → a ≠ k + 8 → E4.2.1 a i = E3.2.1 a i := fun a i a1 a2 => (cE4.2.2 _ _ a1).trans (s1.2.2 _ _ a1 (by omega))
    refine tl _ _ true (cw_tr cN4 cw_I) (LS_37x l4 (by rw [gI_sI, if_neg (by omega)]) (by rw [gI_sI, if_neg (by omega)])) (Or.inl ⟨rfl, hmo.mp h48, rfl⟩) ?_ ?_ ?_ (fun i a1 a2 => ?_) (fun i => ?_) ?_ (fun _ => ?_)
    · rw [gI_sI, if_neg (by omega), g4 _ _ (by omega) (by omega) (by omega), gk]; exact e11
    · rw [gL_sI, g4L _ _ (by omega) (by omega), gL]; exact e12
    · rw [gI_sI, if_pos (by simp), if_pos rfl]
    · rw [gI_sI, if_neg (by omega), g4 _ _ (by omega) (by omega) (by omega), gk]; exact e1i i a1
    · rw [gI_sI, if_neg (by omega), g4 _ _ (by omega) (by omega) (by omega), gc]; exact e1c i
    · exact hx_k x1 (fun a i b1 b2 => by rw [gI_sI, if_neg (by omega), g4 _ _ (by omega) (by omega) (by omega)]) (fun i => by rw [gL_sI]; exact g4L _ _ (by omega) (by omega))
    · exact hx_k (M := N65) ⟨s3, fun y hy => (s4 y hy).2⟩ (fun a i b1 b2 => by rw [gI_sI, if_neg (by omega), cE4.2.1 _ _ (by omega)]) (fun i => by rw [gL_sI]; exact cE4.2.2 _ _ (by omega))

end
section
/-! readCommand -/
/-- nothing but the reader's cells, the Texts' number and the Job k has changed -/
def czX_ (k : Nat) (M N : mm_) : Prop := (∀ a i, a ≠ 39 → N.2.2 a i = M.2.2 a i) ∧ (∀ a i, a ≠ 37 → a ≠ 38 → a ≠ 39 → (a < k ∨ k + 11 < a) → N.1 a i = M.1 a i) ∧ (∀ a i, a ≠ 37 → a ≠ 38 → (a < k ∨ k + 11 < a) → N.2.1 a i = M.2.1 a i)
theorem czX_tr {k : Nat} {A B D : mm_} (h : czX_ k A B) (g : czX_ k B D) : czX_ k A D := ⟨fun a i h1 => (g.1 a i h1).trans (h.1 a i h1), fun a i h1 h2 h3 h4 => (g.2.1 a i h1 h2 h3 h4).trans (h.2.1 a i h1 h2 h3 h4), fun a i h1 h2 h3 => (g.2.2 a i h1 h2 h3).trans (h.2.2 a i h1 h2 h3)⟩
theorem czX_cw {k : Nat} {M N : mm_} (h : cw_ k M N) : czX_ k M N := ⟨h.1, fun a i h1 _ h3 h4 => h.2.1 a i h1 h3 h4, h.2.2⟩
theorem czX_38 {k i : Nat} {M : mm_} {v : Int32} : czX_ k M (sI_ M 38 i v) := ⟨fun _ _ _ => rfl, fun a j _ h _ _ => by rw [gI_sI, if_neg (fun z => h z.1)], fun _ _ _ _ _ => rfl⟩
theorem czX_tp {k n : Nat} {M N : mm_} (hk : 135 ≤ k) (h : czX_ k M N) (ht : tpX_ M n) : tpX_ N n := ⟨ht.1, by rw [h.2.1 35 1 (by omega) (by omega) (by omega) (by omega)]; exact ht.2⟩
theorem rnw_I (M : mm_) (k a i : Nat) : (rnw_ M k).1 a i = if a = k + 11 ∧ i < 48 then 0 else (sI_ (sI_ (sI_ (sI_ (sI_ M k 0 0) k 5 0) k 6 99) k 7 0) k 9 0).1 a i := rfl
theorem rnw_37 {M : mm_} {k : Nat} (hk : 135 ≤ k) (a i : Nat) (ha : a < 135) : (rnw_ M k).1 a i = M.1 a i := by
  rw [rnw_I, if_neg (by omega)]
  simp only [gI_sI]
  rw [if_neg (by omega), if_neg (by omega), if_neg (by omega), if_neg (by omega), if_neg (by omega)]
theorem cw_rn {k : Nat} {M : mm_} : cw_ k M (rnw_ M k) := by
  refine ⟨fun _ _ _ => rfl, fun a i _ _ h => ?_, fun _ _ _ _ _ => rfl⟩
  rw [rnw_I, if_neg (by omega)]
  simp only [gI_sI]
  rw [if_neg (by omega), if_neg (by omega), if_neg (by omega), if_neg (by omega), if_neg (by omega)]
/-- as a Job is once it is renewed -/
def rnf_ (k : Nat) (A : mm_) : Prop := A.1 k 0 = 0 ∧ A.1 k 5 = 0 ∧ A.1 k 6 = 99 ∧ A.1 k 7 = 0 ∧ A.1 k 9 = 0 ∧ ∀ j, j < 48 → A.1 (k + 11) j = 0
theorem rnf_rn {k : Nat} {M : mm_} : rnf_ k (rnw_ M k) := by
  refine ⟨?_, ?_, ?_, ?_, ?_, fun j hj => by rw [rnw_I, if_pos ⟨rfl, hj⟩]⟩ <;> rw [rnw_I, if_neg (by omega)] <;> simp [gI_sI]
theorem rnf_37 {k : Nat} {A B : mm_} (hk : 135 ≤ k) (h : rnf_ k A) (g : c37_ A B) : rnf_ k B := by
  obtain ⟨h1, h2, h3, h4, h5, h6⟩ := h
  exact ⟨by rw [g.2.1 _ _ (by omega)]; exact h1, by rw [g.2.1 _ _ (by omega)]; exact h2, by rw [g.2.1 _ _ (by omega)]; exact h3, by rw [g.2.1 _ _ (by omega)]; exact h4, by rw [g.2.1 _ _ (by omega)]; exact h5, fun j hj => by rw [g.2.1 _ _ (by omega)]; exact h6 j hj⟩
theorem vb_1 {T : Int32 → Int32} {p : Nat} {V : Int32 × Option Nat} (e : vbT_ T p = V) (h : V.1 = 1) : ∃ a, V.2 = some a := by
  unfold vbT_ at e
  by_cases h1 : tkwT_ T 1 p = true
  · rw [if_pos h1] at e; exact ⟨_, by rw [← e]⟩
  · rw [if_neg h1] at e
    by_cases h2 : tkwT_ T 2 p = true
    · rw [if_pos h2] at e; rw [← e] at h; exact absurd (show (2 : Int32) = 1 from h) (by decide)
    · rw [if_neg h2] at e
      by_cases h3 : tkwT_ T 3 p = true
      · rw [if_pos h3] at e; rw [← e] at h; exact absurd (show (3 : Int32) = 1 from h) (by decide)
      · rw [if_neg h3] at e
        by_cases h4 : tkwT_ T 4 p = true
        · rw [if_pos h4] at e; rw [← e] at h; exact absurd (show (4 : Int32) = 1 from h) (by decide)
        · rw [if_neg h4] at e
          by_cases h5 : tkwT_ T 5 p = true
          · rw [if_pos h5] at e; rw [← e] at h; exact absurd (show (5 : Int32) = 1 from h) (by decide)
          · rw [if_neg h5] at e; rw [← e] at h; exact absurd (show (5 : Int32) = 1 from h) (by decide)
/-- what is read behind the verb v, from A to B -/
def RV_ (k : Nat) (A : mm_) (V : Int32 × Option Nat) (B : mm_) : Prop := (V.1 = 4 ∧ ∃ R, nu1_ 200 (nuA_ A) 0 = R ∧ B = ew_ (sI_ (nuB_ R.1 (A.1 37 1) R.2 99) 38 0 R.2.toInt32)) ∨ (V.1 = 1 ∧ ∃ p, V.2 = some p ∧ RW_ k A p B) ∨ (V.1 = 5 ∧ B = A) ∨ (¬ V.1 = 4 ∧ ¬ V.1 = 1 ∧ ¬ V.1 = 5 ∧ ∃ P, pa1_ 13 0 0 (pa0_ A) = P ∧ B = sL_ (ew_ P.2) k 2 P.1)
def RC_ (k : Nat) (M : mm_) (v : Int32) (N : mm_) : Prop := czX_ k M N ∧ ∃ (p : Nat) (V : Int32 × Option Nat) (A B : mm_), skP_ (tb_ M) 200 0 = p ∧ vbT_ (tb_ M) p = V ∧ v = V.1 ∧ cw_ k M A ∧ LS_ V.2 A ∧ rnf_ k A ∧ czX_ k A B ∧ RV_ k A V B ∧ N = sI_ (xE_ B) k 0 v
set_option maxRecDepth 100000 in
set_option maxHeartbeats 600000 in
theorem c10_readCommand (G : gg_) (hG : gd_ G) (d : Nat) (M : mm_) (n : Nat) (ht : tpX_ M n) (k : Nat) (hj : jd_ k) : cm_ G yX10_readCommand cX10_readCommand 3 (some .int) (d + 907) [.ref (G.1 38), .ref (G.1 k)] M (rI_ (RC_ k M)) := by
  refine cm_of hG (by decide) (Nat.le_of_ble_eq_true rfl) (fun C X => ?_)
  obtain ⟨hk1, hk2⟩ := jd_kb hj
  obtain ⟨T, hT⟩ : ∃ T, tb_ M = T := ⟨_, rfl⟩
  obtain ⟨p, hp⟩ : ∃ p, skP_ T 200 0 = p := ⟨_, rfl⟩
  have hpn : p ≤ n := by
    rw [← hp, ← hT]
    exact skP_le (tb_n ht) 200 0 (Nat.zero_le _)
  obtain ⟨V, hV⟩ : ∃ x, vbT_ T p = x := ⟨_, rfl⟩
  refine w_aload_n X dX10_readCommand_0 rfl rfl ?_
  refine g10_7 X dX10_readCommand_1 s_38 rfl ?_
  refine w_v0fV X dX10_readCommand_4 k10_25 rfl s_37 (c7_begin G hG (d + 906) _) (Nat.le_of_ble_eq_true rfl) ?_
  have c1 : c37_ M (sI_ (sI_ (sI_ M 37 1 0) 37 2 0) 37 3 (-1)) := c37_tr (c37_tr c37_I c37_I) c37_I
  have b1 := bg_1 M
  have b2 := bg_2 M
  generalize (sI_ (sI_ (sI_ M 37 1 0) 37 2 0) 37 3 (-1)) = N1 at c1 b1 b2 ⊢
  refine w_aload_n X dX10_readCommand_7 rfl rfl ?_
  refine g10_7 X dX10_readCommand_8 s_38 rfl ?_
  refine w_v0fV X dX10_readCommand_11 k10_69 rfl s_37 (c7_skipBlanks G hG (d + 904) N1 n (c37_tp c1 ht)) (Nat.le_of_ble_eq_true rfl) ?_
  have l2 := LS_sk (T := T) 200 (some 0) N1 ((c37_tb c1).trans hT) ⟨b2, b1⟩
  rw [Option.map_some, hp] at l2
  have c2 := c37_tr c1 (c37_sk 200 N1)
  generalize sk1_ 200 N1 = N2 at l2 c2 ⊢
  refine w_aload_n X dX10_readCommand_14 rfl rfl ?_
  refine w_v0fV X dX10_readCommand_15 k10_72 rfl hj.1 (c2_renew G hG (d + 905) N2 k hj) (Nat.le_of_ble_eq_true rfl) ?_
  have c3 : cw_ k M (rnw_ N2 k) := cw_tr (cw_37 c2) cw_rn
  have f3 : rnf_ k (rnw_ N2 k) := rnf_rn
  have l3 : LS_ (some p) (rnw_ N2 k) := LS_37x l2 (rnw_37 hk1 37 1 (by decide)) (rnw_37 hk1 37 2 (by decide))
  generalize rnw_ N2 k = N3 at c3 f3 l3 ⊢
  refine w_aload_n X dX10_readCommand_18 rfl rfl ?_
  refine w_v0fI X dX10_readCommand_19 k10_77 rfl s_38 (c10_verb G hG (d + 901) N3 n (cw_tp hk1 c3 ht)) (Nat.le_of_ble_eq_true rfl) ?_
  have e4 := LS_vb l3
  rw [(cw_tb hk1 c3).trans hT, hV] at e4
  have c4 : cw_ k M (vb_ N3).2 := cw_tr c3 (cw_37 c37_vb)
  have f4 : rnf_ k (vb_ N3).2 := rnf_37 hk1 f3 c37_vb
  rw [e4.1]
  obtain ⟨-, l4⟩ := e4
  generalize (vb_ N3).2 = A at c4 f4 l4 ⊢
  have tA := (cw_tb hk1 c4).trans hT
  have htA := cw_tp hk1 c4 ht
  have fin : ∀ B : mm_, czX_ k A B → RV_ k A V B → wq_ C G (qe_ C G (rI_ (RC_ k M))) 77 [some (.ref (G.1 38)), some (.ref (G.1 k)), some (.int V.1)] [] B := by
    intro B cB rB
    have htB := czX_tp hk1 cB htA
    have cX : czX_ k M (sI_ (xE_ B) k 0 V.1) := czX_tr (czX_cw c4) (czX_tr cB (czX_cw (cw_tr (cw_37 c37_xE) cw_I)))
    refine w_aload_n X dX10_readCommand_77 rfl rfl ?_
    refine w_v0fV X dX10_readCommand_78 k10_49 rfl s_38 (c10_expectEnd G hG (d + 904) _ n htB) (Nat.le_of_ble_eq_true rfl) ?_
    refine w_aload_n X dX10_readCommand_81 rfl rfl ?_
    refine w_iload_n X dX10_readCommand_82 rfl rfl ?_
    refine p10_99 X dX10_readCommand_83 hj.1 rfl ?_
    refine w_iload_n X dX10_readCommand_86 rfl rfl ?_
    refine w_irR X dX10_readCommand_87 ⟨cX, p, V, A, B, ?_, ?_, rfl, c4, l4, f4, cB, rB, rfl⟩
    · rw [hT]; exact hp
    · rw [hT]; exact hV
  refine w_istore_n X dX10_readCommand_22 rfl (by decide) ?_
  refine w_iload_n X dX10_readCommand_23 rfl rfl ?_
  refine w_iconst (v := 4) X dX10_readCommand_24 (by decide) ?_
  refine w_icmp_ne (tgt := 51) X dX10_readCommand_25 (by decide) (fun h25 => ?_) (fun h25 => ?_)
  · refine w_iload_n X dX10_readCommand_51 rfl rfl ?_
    refine w_iconst (v := 1) X dX10_readCommand_52 (by decide) ?_
    refine w_icmp_ne (tgt := 64) X dX10_readCommand_53 (by decide) (fun h53 => ?_) (fun h53 => ?_)
    · refine w_iload_n X dX10_readCommand_64 rfl rfl ?_
      refine w_iconst (v := 5) X dX10_readCommand_65 (by decide) ?_
      refine w_icmp_eq (tgt := 77) X dX10_readCommand_66 (by decide) (fun h66 => ?_) (fun h66 => ?_)
      · exact fin _ (czX_cw cw_rf) (Or.inr (Or.inr (Or.inl ⟨h66, rfl⟩)))
      · obtain ⟨P9, hP9⟩ : ∃ x, pa1_ 13 0 0 (pa0_ A) = x := ⟨_, rfl⟩
        have cP9 : c37_ A P9.2 := by
          rw [← hP9]
          exact c37_tr c37_p0 (c37_pa _ _ _ _)
        refine w_aload_n X dX10_readCommand_69 rfl rfl ?_
        refine w_aload_n X dX10_readCommand_70 rfl rfl ?_
        refine w_v0fL X dX10_readCommand_71 k10_93 rfl s_38 (c10_pattern G hG (d + 902) A n htA) (Nat.le_of_ble_eq_true rfl) ?_
        rw [hP9]
        refine p10_96 X dX10_readCommand_74 hj.1 rfl ?_
        exact fin _ (czX_cw (cw_tr (cw_37 (c37_tr cP9 c37_ew)) cw_L)) (Or.inr (Or.inr (Or.inr ⟨h25, h53, h66, P9, hP9, rfl⟩)))
    · obtain ⟨p9, hV9⟩ := vb_1 hV h53
      have l9 : LS_ (some p9) A := by
        rw [← hV9]
        exact l4
      have hp9 : p9 ≤ n := by
        have z := qin_vb ht hpn
        rw [hT, hV] at z
        exact z p9 hV9
      refine w_aload_n X dX10_readCommand_56 rfl rfl ?_
      refine w_aload_n X dX10_readCommand_57 rfl rfl ?_
      refine w_v1rV X dX10_readCommand_58 k10_89 rfl s_38 (c10_readWatch G hG d A n htA k hj p9 hp9 l9) (Nat.le_of_ble_eq_true rfl) (fun N58 h58 => ?_)
      refine w_goto (tgt := 77) X dX10_readCommand_61 (by decide) ?_
      exact fin _ (czX_cw h58.1) (Or.inr (Or.inl ⟨h53, p9, hV9, h58⟩))
  · obtain ⟨R9, hR9⟩ : ∃ x, nu1_ 200 (nuA_ A) 0 = x := ⟨_, rfl⟩
    have cR9 : c37_ A R9.1 := by
      rw [← hR9]
      exact c37_tr c37_nA (c37_nu _ _ _)
    have cN9 : czX_ k A (sI_ (nuB_ R9.1 (A.1 37 1) R9.2 99) 38 0 R9.2.toInt32) := czX_tr (czX_cw (cw_37 (c37_tr cR9 c37_nB))) czX_38
    have htN := czX_tp hk1 cN9 htA
    refine w_aload_n X dX10_readCommand_28 rfl rfl ?_
    refine w_aload_n X dX10_readCommand_29 rfl rfl ?_
    refine g10_7 X dX10_readCommand_30 s_38 rfl ?_
    refine w_bipush (v := 99) X dX10_readCommand_33 (by decide) ?_
    refine w_v1fI X dX10_readCommand_35 k10_80 rfl s_37 (c7_number G hG (d + 904) A n htA 99 R9 hR9) (Nat.le_of_ble_eq_true rfl) ?_
    refine p10_84 X dX10_readCommand_38 s_38 rfl ?_
    refine w_aload_n X dX10_readCommand_41 rfl rfl ?_
    refine g10_7 X dX10_readCommand_42 s_38 rfl ?_
    refine w_v0fV X dX10_readCommand_45 k10_86 rfl s_37 (c7_endWord G hG (d + 903) _ n (c37_tp c37_rf htN)) (Nat.le_of_ble_eq_true rfl) ?_
    refine w_goto (tgt := 77) X dX10_readCommand_48 (by decide) ?_
    exact fin _ (czX_tr cN9 (czX_cw (cw_37 c37_ew))) (Or.inl ⟨h25, R9, hR9, rfl⟩)

end
section
/-! ProbeConsole's own methods that throw nothing -/
/-- what method() comes to: r the answer, N the memory -/
def MR_ (n c S : Nat) (J : Nat → Nat) (M : mm_) (r : Int32) (N : mm_) : Prop := ∃ (key : Int64) (A : mm_), RM_ (48 + 5 * c) n M key A ∧ ((¬ (c < 16 ∧ fd1_ A c key c 0 = -1) ∧ r = -1 ∧ N = fiX_ A 5 (A.1 35 1)) ∨ (c < 16 ∧ fd1_ A c key c 0 = -1 ∧ ¬ A.1 37 2 = 0 ∧ r = -1 ∧ N = A) ∨ (c < 16 ∧ fd1_ A c key c 0 = -1 ∧ A.1 37 2 = 0 ∧ r = nI c ∧ N = jm1_ J (nI c) key 8 0 (ma_ A c key)))
theorem mt_cr {k c : Nat} {M N : mm_} (hk : 48 ≤ k) (h : cr_ k M N) (hc : mt_ M c) : mt_ N c := ⟨hc.1, by rw [h.2.1 45 2 (by decide) (by decide) (by omega)]; exact hc.2⟩
theorem jq_R {M N : mm_} {J : Nat → Nat} {S : Nat} (h : ∀ a i, a ≠ 39 → N.2.2 a i = M.2.2 a i) (hq : jq_ M J S) : jq_ N J S := ⟨fun i hi => ⟨(hq.1 i hi).1, by rw [h 134 i (by decide)]; exact (hq.1 i hi).2⟩, hq.2.1, by rw [h 133 1 (by decide)]; exact hq.2.2⟩
theorem fi_ne {M : mm_} {w : Int32} : ¬ (fiX_ M 5 w).1 37 2 = 0 := by
  unfold fiX_
  by_cases h : M.1 37 2 = 0
  · rw [if_pos h]; exact (by decide : ¬ (5 : Int32) = 0)
  · rw [if_neg h]; exact h
/-- what a begun or ended job comes to: x the number, B the memory behind it -/
def CE_ (x : Int32) (B : mm_) (r : Int32) (N : mm_) : Prop := (¬ x = -1 ∧ r = x ∧ N = B) ∨ (x = -1 ∧ r = x ∧ N = fiX_ B 5 (B.1 35 1))
def CR_ (n c S : Nat) (J : Nat → Nat) (M : mm_) (r : Int32) (N : mm_) : Prop := ∃ (v : Int32) (A : mm_), RC_ (135 + 12 * S) M v A ∧ ((¬ A.1 37 2 = 0 ∧ r = -1 ∧ N = A) ∨ (A.1 37 2 = 0 ∧ ((v = 5 ∧ r = (ea1_ J 8 0 0 A).1 ∧ N = (ea1_ J 8 0 0 A).2) ∨ (v = 4 ∧ ∃ (x : Int32) (B : mm_), ((A.1 38 0 < 0 ∨ 8 ≤ A.1 38 0) ∧ x = -1 ∧ B = A ∨ ∃ i, i < 8 ∧ A.1 38 0 = nI i ∧ x = (if A.1 (135 + 12 * J i) 0 = 0 then -1 else nI i) ∧ B = (if A.1 (135 + 12 * J i) 0 = 0 then A else sI_ A (135 + 12 * J i) 0 0)) ∧ CE_ x B r N) ∨ ((¬ v = 5 ∧ ¬ v = 4) ∧ ∃ (x : Int32) (B : mm_), (x = (match fj1_ A J 8 0 with | none => (-1 : Int32) | some i => nI i) ∧ B = (match fj1_ A J 8 0 with | none => A | some i => bgn_ A J S c i)) ∧ CE_ x B r N))))
set_option maxRecDepth 100000 in
set_option maxHeartbeats 600000 in
theorem c11_wipe (G : gg_) (hG : gd_ G) (d : Nat) (M : mm_) : cm_ G yX11_wipe cX11_wipe 2 (some .int) (d) [.ref (G.1 34)] M (fI_ (M.1 35 1) (sI_ M 35 1 0)) := by
  refine cm_of hG (by decide) (Nat.le_of_ble_eq_true rfl) (fun C X => ?_)
  refine w_aload_n X dX11_wipe_0 rfl rfl ?_
  refine g11_10 X dX11_wipe_1 s_34 rfl ?_
  refine g11_72 X dX11_wipe_4 s_35 rfl ?_
  refine w_istore_n X dX11_wipe_7 rfl (by decide) ?_
  refine w_aload_n X dX11_wipe_8 rfl rfl ?_
  refine g11_10 X dX11_wipe_9 s_34 rfl ?_
  refine w_iconst (v := 0) X dX11_wipe_12 (by decide) ?_
  refine p11_72 X dX11_wipe_13 s_35 rfl ?_
  refine w_iload_n X dX11_wipe_16 rfl rfl ?_
  exact w_irF X dX11_wipe_17 rfl rfl
set_option maxRecDepth 100000 in
set_option maxHeartbeats 600000 in
theorem c11_fault (G : gg_) (hG : gd_ G) (d : Nat) (M : mm_) : cm_ G yX11_fault cX11_fault 1 (some .int) (d) [.ref (G.1 34)] M (fI_ (M.1 37 2) (M)) := by
  refine cm_of hG (by decide) (Nat.le_of_ble_eq_true rfl) (fun C X => ?_)
  refine w_aload_n X dX11_fault_0 rfl rfl ?_
  refine g11_21 X dX11_fault_1 s_34 rfl ?_
  refine g11_99 X dX11_fault_4 s_37 rfl ?_
  exact w_irF X dX11_fault_7 rfl rfl
set_option maxRecDepth 100000 in
set_option maxHeartbeats 600000 in
theorem c11_place (G : gg_) (hG : gd_ G) (d : Nat) (M : mm_) : cm_ G yX11_place cX11_place 1 (some .int) (d) [.ref (G.1 34)] M (fI_ (M.1 37 3) (M)) := by
  refine cm_of hG (by decide) (Nat.le_of_ble_eq_true rfl) (fun C X => ?_)
  refine w_aload_n X dX11_place_0 rfl rfl ?_
  refine g11_21 X dX11_place_1 s_34 rfl ?_
  refine g11_132 X dX11_place_4 s_37 rfl ?_
  exact w_irF X dX11_place_7 rfl rfl
set_option maxRecDepth 100000 in
set_option maxHeartbeats 600000 in
theorem c11_value (G : gg_) (hG : gd_ G) (d : Nat) (M : mm_) : cm_ G yX11_value cX11_value 1 (some .int) (d) [.ref (G.1 34)] M (fI_ (M.1 247 0) (M)) := by
  refine cm_of hG (by decide) (Nat.le_of_ble_eq_true rfl) (fun C X => ?_)
  refine w_aload_n X dX11_value_0 rfl rfl ?_
  refine g11_65 X dX11_value_1 s_34 rfl ?_
  refine g11_153 X dX11_value_4 s_247 rfl ?_
  exact w_irF X dX11_value_7 rfl rfl
set_option maxRecDepth 100000 in
set_option maxHeartbeats 600000 in
theorem c11_invoked (G : gg_) (hG : gd_ G) (d : Nat) (M : mm_) : cm_ G yX11_invoked cX11_invoked 1 (some .int) (d) [.ref (G.1 34)] M (fI_ (M.1 247 1) (M)) := by
  refine cm_of hG (by decide) (Nat.le_of_ble_eq_true rfl) (fun C X => ?_)
  refine w_aload_n X dX11_invoked_0 rfl rfl ?_
  refine g11_65 X dX11_invoked_1 s_34 rfl ?_
  refine g11_156 X dX11_invoked_4 s_247 rfl ?_
  exact w_irF X dX11_invoked_7 rfl rfl
set_option maxRecDepth 100000 in
set_option maxHeartbeats 600000 in
theorem c11_records (G : gg_) (hG : gd_ G) (d : Nat) (M : mm_) : cm_ G yX11_records cX11_records 1 (some .int) (d) [.ref (G.1 34)] M (fI_ (M.1 243 3) (M)) := by
  refine cm_of hG (by decide) (Nat.le_of_ble_eq_true rfl) (fun C X => ?_)
  refine w_aload_n X dX11_records_0 rfl rfl ?_
  refine g11_53 X dX11_records_1 s_34 rfl ?_
  refine g11_159 X dX11_records_4 s_243 rfl ?_
  exact w_irF X dX11_records_7 rfl rfl
set_option maxRecDepth 100000 in
set_option maxHeartbeats 600000 in
theorem c11_keeps (G : gg_) (hG : gd_ G) (d : Nat) (M : mm_) : cm_ G yX11_keeps cX11_keeps 1 (some .int) (d) [.ref (G.1 34)] M (fI_ (M.1 245 3) (M)) := by
  refine cm_of hG (by decide) (Nat.le_of_ble_eq_true rfl) (fun C X => ?_)
  refine w_aload_n X dX11_keeps_0 rfl rfl ?_
  refine g11_57 X dX11_keeps_1 s_34 rfl ?_
  refine g11_159 X dX11_keeps_4 s_245 rfl ?_
  exact w_irF X dX11_keeps_7 rfl rfl
set_option maxRecDepth 100000 in
set_option maxHeartbeats 600000 in
theorem c11_clear (G : gg_) (hG : gd_ G) (d : Nat) (M : mm_) : cm_ G yX11_clear cX11_clear 2 (some .int) (d) [.ref (G.1 34)] M (fI_ (M.1 243 3) (sI_ (sI_ M 243 3 0) 245 3 0)) := by
  refine cm_of hG (by decide) (Nat.le_of_ble_eq_true rfl) (fun C X => ?_)
  refine w_aload_n X dX11_clear_0 rfl rfl ?_
  refine g11_53 X dX11_clear_1 s_34 rfl ?_
  refine g11_159 X dX11_clear_4 s_243 rfl ?_
  refine w_istore_n X dX11_clear_7 rfl (by decide) ?_
  refine w_aload_n X dX11_clear_8 rfl rfl ?_
  refine g11_53 X dX11_clear_9 s_34 rfl ?_
  refine w_iconst (v := 0) X dX11_clear_12 (by decide) ?_
  refine p11_159 X dX11_clear_13 s_243 rfl ?_
  refine w_aload_n X dX11_clear_16 rfl rfl ?_
  refine g11_57 X dX11_clear_17 s_34 rfl ?_
  refine w_iconst (v := 0) X dX11_clear_20 (by decide) ?_
  refine p11_159 X dX11_clear_21 s_245 rfl ?_
  refine w_iload_n X dX11_clear_24 rfl rfl ?_
  exact w_irF X dX11_clear_25 rfl rfl
set_option maxRecDepth 100000 in
set_option maxHeartbeats 600000 in
theorem c11_method (G : gg_) (hG : gd_ G) (d : Nat) (M : mm_) (n : Nat) (ht : tpX_ M n) (c : Nat) (hc : mt_ M c) (hb : mb2_ M) (J : Nat → Nat) (S : Nat) (hq : jq_ M J S) : cm_ G yX11_method cX11_method 4 (some .int) (d + 907) [.ref (G.1 34)] M (rI_ (MR_ n c S J M)) := by
  refine cm_of hG (by decide) (Nat.le_of_ble_eq_true rfl) (fun C X => ?_)
  have hcb := cd_body c (by have := hc.1; omega)
  refine w_aload_n X dX11_method_0 rfl rfl ?_
  refine g11_30 X dX11_method_1 s_34 rfl ?_
  refine w_aload_n X dX11_method_4 rfl rfl ?_
  refine g11_37 X dX11_method_5 s_34 rfl ?_
  refine w_v0fR X dX11_method_8 k11_80 rfl s_45 (c5_spareBody G hG (d + 906) _ c hc hb) (Nat.le_of_ble_eq_true rfl) ?_
  refine w_v1rL X dX11_method_11 k11_84 rfl s_38 (c10_readMethod G hG d _ n ht (48 + 5 * c) hcb) (Nat.le_of_ble_eq_true rfl) (fun r11 N11 h11 => ?_)
  have hcr := h11.1
  have hcN := mt_cr (by omega) hcr hc
  refine w_lstore_n X dX11_method_14 rfl (by decide) ?_
  refine w_aload_n X dX11_method_15 rfl rfl ?_
  refine g11_37 X dX11_method_16 s_34 rfl ?_
  refine w_v0fI X dX11_method_19 k11_88 rfl s_45 (c5_isFull G hG (d + 906) _ c hcN) (Nat.le_of_ble_eq_true rfl) ?_
  refine w_if_ne (tgt := 37) X dX11_method_22 (by decide) (fun h22 => ?_) (fun h22 => ?_)
  · refine w_aload_n X dX11_method_37 rfl rfl ?_
    refine g11_21 X dX11_method_38 s_34 rfl ?_
    refine w_v0fV X dX11_method_41 k11_96 rfl s_37 (c7_failAtEnd G hG (d + 905) _) (Nat.le_of_ble_eq_true rfl) ?_
    refine w_aload_n X dX11_method_44 rfl rfl ?_
    refine g11_21 X dX11_method_45 s_34 rfl ?_
    refine g11_99 X dX11_method_48 s_37 rfl ?_
    refine w_if_eq (tgt := 56) X dX11_method_51 (by decide) (fun h51 => absurd h51 fi_ne) (fun h51 => ?_)
    refine w_iconst (v := -1) X dX11_method_54 (by decide) ?_
    exact w_irR X dX11_method_55 ⟨r11, N11, h11, Or.inl ⟨fun z => h22 (by rw [if_pos z.1]), rfl, rfl⟩⟩
  · have hc16 : c < 16 := Nat.lt_of_not_le (fun z => absurd h22 (by rw [if_neg (Nat.not_lt.mpr z)]; decide))
    refine w_aload_n X dX11_method_25 rfl rfl ?_
    refine g11_37 X dX11_method_26 s_34 rfl ?_
    refine w_lload_n X dX11_method_29 rfl rfl ?_
    refine w_v1fI X dX11_method_30 k11_92 rfl s_45 (c5_find G hG (d + 906) _ c hcN _) (Nat.le_of_ble_eq_true rfl) ?_
    refine w_iconst (v := -1) X dX11_method_33 (by decide) ?_
    refine w_icmp_eq (tgt := 44) X dX11_method_34 (by decide) (fun h34 => ?_) (fun h34 => ?_)
    · refine w_aload_n X dX11_method_44 rfl rfl ?_
      refine g11_21 X dX11_method_45 s_34 rfl ?_
      refine g11_99 X dX11_method_48 s_37 rfl ?_
      refine w_if_eq (tgt := 56) X dX11_method_51 (by decide) (fun h51 => ?_) (fun h51 => ?_)
      · refine w_aload_n X dX11_method_56 rfl rfl ?_
        refine g11_37 X dX11_method_57 s_34 rfl ?_
        refine w_lload_n X dX11_method_60 rfl rfl ?_
        refine w_v1fI X dX11_method_61 k11_102 rfl s_45 (c5_add G hG (d + 905) _ c hcN hc16 _) (Nat.le_of_ble_eq_true rfl) ?_
        refine w_istore_n X dX11_method_64 rfl (by decide) ?_
        refine w_aload_n X dX11_method_65 rfl rfl ?_
        refine g11_44 X dX11_method_66 s_34 rfl ?_
        refine w_iload_n X dX11_method_69 rfl rfl ?_
        refine w_lload_n X dX11_method_70 rfl rfl ?_
        refine w_v2fV X dX11_method_71 k11_105 rfl s_133 (c3_meet G hG (d + 902) (ma_ N11 c r11) J S (jq_R (M := M) (fun a i ha => hcr.1 a i ha) hq) _ _) (Nat.le_of_ble_eq_true rfl) ?_
        refine w_iload_n X dX11_method_74 rfl rfl ?_
        exact w_irR X dX11_method_75 ⟨r11, N11, h11, Or.inr (Or.inr ⟨hc16, h34, h51, rfl, rfl⟩)⟩
      · refine w_iconst (v := -1) X dX11_method_54 (by decide) ?_
        exact w_irR X dX11_method_55 ⟨r11, N11, h11, Or.inr (Or.inl ⟨hc16, h34, h51, rfl, rfl⟩)⟩
    · refine w_aload_n X dX11_method_37 rfl rfl ?_
      refine g11_21 X dX11_method_38 s_34 rfl ?_
      refine w_v0fV X dX11_method_41 k11_96 rfl s_37 (c7_failAtEnd G hG (d + 905) _) (Nat.le_of_ble_eq_true rfl) ?_
      refine w_aload_n X dX11_method_44 rfl rfl ?_
      refine g11_21 X dX11_method_45 s_34 rfl ?_
      refine g11_99 X dX11_method_48 s_37 rfl ?_
      refine w_if_eq (tgt := 56) X dX11_method_51 (by decide) (fun h51 => absurd h51 fi_ne) (fun h51 => ?_)
      refine w_iconst (v := -1) X dX11_method_54 (by decide) ?_
      exact w_irR X dX11_method_55 ⟨r11, N11, h11, Or.inl ⟨fun z => h34 z.2, rfl, rfl⟩⟩
set_option maxRecDepth 100000 in
set_option maxHeartbeats 600000 in
theorem c11_command (G : gg_) (hG : gd_ G) (d : Nat) (M : mm_) (n : Nat) (ht : tpX_ M n) (c : Nat) (hc : mt_ M c) (J : Nat → Nat) (S : Nat) (hq : jq_ M J S) : cm_ G yX11_command cX11_command 3 (some .int) (d + 908) [.ref (G.1 34)] M (rI_ (CR_ n c S J M)) := by
  refine cm_of hG (by decide) (Nat.le_of_ble_eq_true rfl) (fun C X => ?_)
  have hjS := jd_all S hq.2.1
  have hkS := jd_kb hjS
  refine w_aload_n X dX11_command_0 rfl rfl ?_
  refine g11_30 X dX11_command_1 s_34 rfl ?_
  refine w_aload_n X dX11_command_4 rfl rfl ?_
  refine g11_44 X dX11_command_5 s_34 rfl ?_
  refine r11_109 X dX11_command_8 s_133 rfl (hq.2.2) ?_
  refine w_v1rI X dX11_command_11 k11_113 rfl s_38 (c10_readCommand G hG d _ n ht (135 + 12 * S) hjS) (Nat.le_of_ble_eq_true rfl) (fun r11 N11 h11 => ?_)
  have hcz := h11.1
  have hqN := jq_R hcz.1 hq
  have hcN : mt_ N11 c := ⟨hc.1, by rw [hcz.2.1 45 2 (by decide) (by decide) (by decide) (by omega)]; exact hc.2⟩
  refine w_istore_n X dX11_command_14 rfl (by decide) ?_
  refine w_aload_n X dX11_command_15 rfl rfl ?_
  refine g11_21 X dX11_command_16 s_34 rfl ?_
  refine g11_99 X dX11_command_19 s_37 rfl ?_
  refine w_if_eq (tgt := 27) X dX11_command_22 (by decide) (fun h22 => ?_) (fun h22 => ?_)
  · refine w_iload_n X dX11_command_27 rfl rfl ?_
    refine w_iconst (v := 5) X dX11_command_28 (by decide) ?_
    refine w_icmp_ne (tgt := 40) X dX11_command_29 (by decide) (fun h29 => ?_) (fun h29 => ?_)
    · refine w_iload_n X dX11_command_40 rfl rfl ?_
      refine w_iconst (v := 4) X dX11_command_41 (by decide) ?_
      refine w_icmp_ne (tgt := 62) X dX11_command_42 (by decide) (fun h42 => ?_) (fun h42 => ?_)
      · refine w_aload_n X dX11_command_62 rfl rfl ?_
        refine g11_44 X dX11_command_63 s_34 rfl ?_
        refine w_aload_n X dX11_command_66 rfl rfl ?_
        refine g11_37 X dX11_command_67 s_34 rfl ?_
        refine w_v1fI X dX11_command_70 k11_128 rfl s_133 (c3_begun G hG (d + 903) _ J S hqN c hcN) (Nat.le_of_ble_eq_true rfl) ?_
        refine w_istore_n X dX11_command_73 rfl (by decide) ?_
        refine w_iload_n X dX11_command_74 rfl rfl ?_
        refine w_iconst (v := -1) X dX11_command_75 (by decide) ?_
        refine w_icmp_ne (tgt := 86) X dX11_command_76 (by decide) (fun h76 => ?_) (fun h76 => ?_)
        · refine w_iload_n X dX11_command_86 rfl rfl ?_
          exact w_irR X dX11_command_87 ⟨r11, N11, h11, Or.inr ⟨h22, Or.inr (Or.inr ⟨⟨h29, h42⟩, _, _, ⟨rfl, rfl⟩, Or.inl ⟨h76, rfl, rfl⟩⟩)⟩⟩
        · refine w_aload_n X dX11_command_79 rfl rfl ?_
          refine g11_21 X dX11_command_80 s_34 rfl ?_
          refine w_v0fV X dX11_command_83 k11_96 rfl s_37 (c7_failAtEnd G hG (d + 906) _) (Nat.le_of_ble_eq_true rfl) ?_
          refine w_iload_n X dX11_command_86 rfl rfl ?_
          exact w_irR X dX11_command_87 ⟨r11, N11, h11, Or.inr ⟨h22, Or.inr (Or.inr ⟨⟨h29, h42⟩, _, _, ⟨rfl, rfl⟩, Or.inr ⟨h76, rfl, rfl⟩⟩)⟩⟩
      · have h42b := h42
        by_cases hx : N11.1 38 0 < 0 ∨ 8 ≤ N11.1 38 0
        · refine w_aload_n X dX11_command_45 rfl rfl ?_
          refine g11_44 X dX11_command_46 s_34 rfl ?_
          refine w_aload_n X dX11_command_49 rfl rfl ?_
          refine g11_30 X dX11_command_50 s_34 rfl ?_
          refine g11_121 X dX11_command_53 s_38 rfl ?_
          refine w_v1fI X dX11_command_56 k11_124 rfl s_133 (c3_endedO G hG (d + 906) _ J S hqN _ hx) (Nat.le_of_ble_eq_true rfl) ?_
          refine w_goto (tgt := 73) X dX11_command_59 (by decide) ?_
          refine w_istore_n X dX11_command_73 rfl (by decide) ?_
          refine w_iload_n X dX11_command_74 rfl rfl ?_
          refine w_iconst (v := -1) X dX11_command_75 (by decide) ?_
          refine w_icmp_ne (tgt := 86) X dX11_command_76 (by decide) (fun h76 => ?_) (fun h76 => ?_)
          · refine w_iload_n X dX11_command_86 rfl rfl ?_
            exact w_irR X dX11_command_87 ⟨r11, N11, h11, Or.inr ⟨h22, Or.inr (Or.inl ⟨h42, _, _, Or.inl ⟨hx, rfl, rfl⟩, Or.inl ⟨h76, rfl, rfl⟩⟩)⟩⟩
          · refine w_aload_n X dX11_command_79 rfl rfl ?_
            refine g11_21 X dX11_command_80 s_34 rfl ?_
            refine w_v0fV X dX11_command_83 k11_96 rfl s_37 (c7_failAtEnd G hG (d + 906) _) (Nat.le_of_ble_eq_true rfl) ?_
            refine w_iload_n X dX11_command_86 rfl rfl ?_
            exact w_irR X dX11_command_87 ⟨r11, N11, h11, Or.inr ⟨h22, Or.inr (Or.inl ⟨h42, _, _, Or.inl ⟨hx, rfl, rfl⟩, Or.inr ⟨h76, rfl, rfl⟩⟩)⟩⟩
        · obtain ⟨i9, hi9, e9⟩ : ∃ i, i < 8 ∧ N11.1 38 0 = nI i := by
            rcases pk_ix (N11.1 38 0) (n := 8) (by decide) with z | z | ⟨j, hj, e⟩
            · exact absurd (Or.inl z) hx
            · exact absurd (Or.inr z) hx
            · exact ⟨j, hj, e⟩
          refine w_aload_n X dX11_command_45 rfl rfl ?_
          refine g11_44 X dX11_command_46 s_34 rfl ?_
          refine w_aload_n X dX11_command_49 rfl rfl ?_
          refine g11_30 X dX11_command_50 s_34 rfl ?_
          refine g11_121 X dX11_command_53 s_38 rfl ?_
          rw [e9]
          refine w_v1fI X dX11_command_56 k11_124 rfl s_133 (c3_ended G hG (d + 906) _ J S hqN i9 hi9) (Nat.le_of_ble_eq_true rfl) ?_
          refine w_goto (tgt := 73) X dX11_command_59 (by decide) ?_
          refine w_istore_n X dX11_command_73 rfl (by decide) ?_
          refine w_iload_n X dX11_command_74 rfl rfl ?_
          refine w_iconst (v := -1) X dX11_command_75 (by decide) ?_
          refine w_icmp_ne (tgt := 86) X dX11_command_76 (by decide) (fun h76 => ?_) (fun h76 => ?_)
          · refine w_iload_n X dX11_command_86 rfl rfl ?_
            exact w_irR X dX11_command_87 ⟨r11, N11, h11, Or.inr ⟨h22, Or.inr (Or.inl ⟨h42, _, _, Or.inr ⟨i9, hi9, e9, rfl, rfl⟩, Or.inl ⟨h76, rfl, rfl⟩⟩)⟩⟩
          · refine w_aload_n X dX11_command_79 rfl rfl ?_
            refine g11_21 X dX11_command_80 s_34 rfl ?_
            refine w_v0fV X dX11_command_83 k11_96 rfl s_37 (c7_failAtEnd G hG (d + 906) _) (Nat.le_of_ble_eq_true rfl) ?_
            refine w_iload_n X dX11_command_86 rfl rfl ?_
            exact w_irR X dX11_command_87 ⟨r11, N11, h11, Or.inr ⟨h22, Or.inr (Or.inl ⟨h42, _, _, Or.inr ⟨i9, hi9, e9, rfl, rfl⟩, Or.inr ⟨h76, rfl, rfl⟩⟩)⟩⟩
    · refine w_aload_n X dX11_command_32 rfl rfl ?_
      refine g11_44 X dX11_command_33 s_34 rfl ?_
      refine w_v0fI X dX11_command_36 k11_117 rfl s_133 (c3_endAll G hG (d + 907) _ J S hqN) (Nat.le_of_ble_eq_true rfl) ?_
      exact w_irR X dX11_command_39 ⟨r11, N11, h11, Or.inr ⟨h22, Or.inl ⟨h29, rfl, rfl⟩⟩⟩
  · refine w_iconst (v := -1) X dX11_command_25 (by decide) ?_
    exact w_irR X dX11_command_26 ⟨r11, N11, h11, Or.inl ⟨h22, rfl, rfl⟩⟩

end
section
/-! Machine: its small methods (247 the Machine, 261 its stack, field 8 how high it is) -/
def puX_ (M : mm_) (h : Nat) (v : Int32) : mm_ := if h < 220 then sI_ (sI_ M 261 h v) 247 8 (nI (h + 1)) else M
def ppX_ (M : mm_) (h : Nat) : Int32 × mm_ := if h = 0 then (0, M) else (M.1 261 (h - 1), sI_ M 247 8 (nI (h - 1)))
def flX_ (M : mm_) (v : Int32) : mm_ := sI_ (sI_ M 247 10 1) 247 11 v
set_option maxRecDepth 100000 in
set_option maxHeartbeats 600000 in
theorem c4_push (G : gg_) (hG : gd_ G) (d : Nat) (M : mm_) (h : Nat) (hh : M.1 247 8 = nI h) (h2 : h ≤ 220) (v : Int32) : cm_ G yX4_push cX4_push 2 none (d) [.ref (G.1 247), .int v] M (fV_ (puX_ M h v)) := by
  refine cm_of hG (by decide) (Nat.le_of_ble_eq_true rfl) (fun C X => ?_)
  refine w_aload_n X dX4_push_0 rfl rfl ?_
  refine g4_48 X dX4_push_1 s_247 rfl ?_
  refine w_aload_n X dX4_push_4 rfl rfl ?_
  refine g4_33 X dX4_push_5 s_247 rfl ?_
  refine w_alen X dX4_push_8 s_261 rfl ?_
  rw [hh]
  refine w_icmp_ge (tgt := 32) X dX4_push_9 (by decide) (fun h9 => ?_) (fun h9 => ?_)
  · refine w_vrF X dX4_push_32 ?_
    unfold puX_
    rw [if_neg (fun z => absurd h9 (nI_ge (a := h) (b := 220) z (by decide)))]
  · have hlt : h < 220 := Nat.lt_of_not_le (fun z => h9 (nI_le (a := 220) (b := h) z (by omega)))
    refine w_aload_n X dX4_push_12 rfl rfl ?_
    refine g4_33 X dX4_push_13 s_247 rfl ?_
    refine w_aload_n X dX4_push_16 rfl rfl ?_
    refine g4_48 X dX4_push_17 s_247 rfl ?_
    refine w_iload_n X dX4_push_20 rfl rfl ?_
    rw [hh]
    refine w_iastoreN X dX4_push_21 s_261 rfl (⟨hlt, by decide⟩) ?_
    refine w_aload_n X dX4_push_22 rfl rfl ?_
    refine w_dup X dX4_push_23 rfl ?_
    refine g4_48 X dX4_push_24 s_247 rfl ?_
    refine w_iconst (v := 1) X dX4_push_27 (by decide) ?_
    refine w_iadd X dX4_push_28 ?_
    rw [show (sI_ M 261 h v).1 247 8 = nI h from hh, nI_1]
    refine p4_48 X dX4_push_29 s_247 rfl ?_
    refine w_vrF X dX4_push_32 ?_
    unfold puX_
    rw [if_pos hlt]
set_option maxRecDepth 100000 in
set_option maxHeartbeats 600000 in
theorem c4_pop (G : gg_) (hG : gd_ G) (d : Nat) (M : mm_) (h : Nat) (hh : M.1 247 8 = nI h) (h2 : h ≤ 220) : cm_ G yX4_pop cX4_pop 1 (some .int) (d) [.ref (G.1 247)] M (fI_ (ppX_ M h).1 (ppX_ M h).2) := by
  refine cm_of hG (by decide) (Nat.le_of_ble_eq_true rfl) (fun C X => ?_)
  refine w_aload_n X dX4_pop_0 rfl rfl ?_
  refine g4_48 X dX4_pop_1 s_247 rfl ?_
  rw [hh]
  refine w_if_gt (tgt := 9) X dX4_pop_4 (by decide) (fun h4 => ?_) (fun h4 => ?_)
  · have h0 : 0 < h := by
      rcases Nat.eq_zero_or_pos h with z | z
      · rw [z] at h4; exact absurd h4 (by decide)
      · exact z
    refine w_aload_n X dX4_pop_9 rfl rfl ?_
    refine w_dup X dX4_pop_10 rfl ?_
    refine g4_48 X dX4_pop_11 s_247 rfl ?_
    refine w_iconst (v := 1) X dX4_pop_14 (by decide) ?_
    refine w_isub X dX4_pop_15 ?_
    rw [hh, nI_p h h0]
    refine p4_48 X dX4_pop_16 s_247 rfl ?_
    refine w_aload_n X dX4_pop_19 rfl rfl ?_
    refine g4_33 X dX4_pop_20 s_247 rfl ?_
    refine w_aload_n X dX4_pop_23 rfl rfl ?_
    refine g4_48 X dX4_pop_24 s_247 rfl ?_
    rw [show (sI_ M 247 8 (nI (h - 1))).1 247 8 = nI (h - 1) from rfl]
    refine w_ialoadN X dX4_pop_27 s_261 rfl (⟨by omega, by decide⟩) ?_
    refine w_irF X dX4_pop_28 ?_ ?_ <;> unfold ppX_ <;> rw [if_neg (by omega)] <;> rfl
  · have h0 : h = 0 := by
      rcases Nat.eq_zero_or_pos h with z | z
      · exact z
      · exact absurd (nI_lt (a := 0) (b := h) z (by omega)) h4
    refine w_iconst (v := 0) X dX4_pop_7 (by decide) ?_
    refine w_irF X dX4_pop_8 ?_ ?_ <;> unfold ppX_ <;> rw [if_pos h0]
set_option maxRecDepth 100000 in
set_option maxHeartbeats 600000 in
theorem c4_fail (G : gg_) (hG : gd_ G) (d : Nat) (M : mm_) (v : Int32) : cm_ G yX4_fail cX4_fail 2 none (d) [.ref (G.1 247), .int v] M (fV_ (flX_ M v)) := by
  refine cm_of hG (by decide) (Nat.le_of_ble_eq_true rfl) (fun C X => ?_)
  refine w_aload_n X dX4_fail_0 rfl rfl ?_
  refine w_iconst (v := 1) X dX4_fail_1 (by decide) ?_
  refine p4_58 X dX4_fail_2 s_247 rfl (by first | exact Or.inl rfl | exact Or.inr rfl | assumption) ?_
  refine w_aload_n X dX4_fail_5 rfl rfl ?_
  refine w_iload_n X dX4_fail_6 rfl rfl ?_
  refine p4_88 X dX4_fail_7 s_247 rfl ?_
  exact w_vrF X dX4_fail_10 rfl

end
section
/-! Machine: setParameters -/
def sp1_ (M : mm_) (n a b c : Int32) : mm_ := sI_ (sI_ (sI_ M 250 0 (if 0 < n then a else 0)) 250 1 (if 1 < n then b else 0)) 250 2 (if 2 < n then c else 0)
def vq_ (M : mm_) : Prop := ∀ i, i < 12 → M.2.2 248 i = some (249 + i)
set_option maxRecDepth 100000 in
set_option maxHeartbeats 600000 in
theorem c4_setParameters (G : gg_) (hG : gd_ G) (d : Nat) (M : mm_) (hv : vq_ M) (n a b c : Int32) : cm_ G yX4_setParameters cX4_setParameters 6 none (d) [.ref (G.1 247), .int n, .int a, .int b, .int c] M (fV_ (sp1_ M n a b c)) := by
  refine cm_of hG (by decide) (Nat.le_of_ble_eq_true rfl) (fun C X => ?_)
  refine w_aload_n X dX4_setParameters_0 rfl rfl ?_
  refine g4_28 X dX4_setParameters_1 s_247 rfl ?_
  refine w_iconst (v := 1) X dX4_setParameters_4 (by decide) ?_
  refine w_aaload X dX4_setParameters_5 s_248 rfl rfl (by decide) (hv 1 (by decide)) ?_
  refine w_astore X dX4_setParameters_6 (by decide) ?_
  refine w_aload X dX4_setParameters_8 rfl ?_
  refine w_iconst (v := 0) X dX4_setParameters_10 (by decide) ?_
  refine w_iload_n X dX4_setParameters_11 rfl rfl ?_
  refine w_if_le (tgt := 19) X dX4_setParameters_12 (by decide) (fun h12 => ?_) (fun h12 => ?_)
  · refine w_iconst (v := 0) X dX4_setParameters_19 (by decide) ?_
    refine w_iastoreN X dX4_setParameters_20 (vr_row 1 (by decide)) rfl (by decide) ?_
    refine w_aload X dX4_setParameters_21 rfl ?_
    refine w_iconst (v := 1) X dX4_setParameters_23 (by decide) ?_
    refine w_iload_n X dX4_setParameters_24 rfl rfl ?_
    refine w_iconst (v := 1) X dX4_setParameters_25 (by decide) ?_
    refine w_icmp_le (tgt := 33) X dX4_setParameters_26 (by decide) (fun h26 => ?_) (fun h26 => ?_)
    · refine w_iconst (v := 0) X dX4_setParameters_33 (by decide) ?_
      refine w_iastoreN X dX4_setParameters_34 (vr_row 1 (by decide)) rfl (by decide) ?_
      refine w_aload X dX4_setParameters_35 rfl ?_
      refine w_iconst (v := 2) X dX4_setParameters_37 (by decide) ?_
      refine w_iload_n X dX4_setParameters_38 rfl rfl ?_
      refine w_iconst (v := 2) X dX4_setParameters_39 (by decide) ?_
      refine w_icmp_le (tgt := 48) X dX4_setParameters_40 (by decide) (fun h40 => ?_) (fun h40 => ?_)
      · refine w_iconst (v := 0) X dX4_setParameters_48 (by decide) ?_
        refine w_iastoreN X dX4_setParameters_49 (vr_row 1 (by decide)) rfl (by decide) ?_
        refine w_vrF X dX4_setParameters_50 ?_
        unfold sp1_
        rw [if_neg (Int32.not_lt.mpr h12), if_neg (Int32.not_lt.mpr h26), if_neg (Int32.not_lt.mpr h40)]
      · refine w_iload X dX4_setParameters_43 rfl ?_
        refine w_goto (tgt := 49) X dX4_setParameters_45 (by decide) ?_
        refine w_iastoreN X dX4_setParameters_49 (vr_row 1 (by decide)) rfl (by decide) ?_
        refine w_vrF X dX4_setParameters_50 ?_
        unfold sp1_
        rw [if_neg (Int32.not_lt.mpr h12), if_neg (Int32.not_lt.mpr h26), if_pos (Int32.not_le.mp h40)]
    · refine w_iload_n X dX4_setParameters_29 rfl rfl ?_
      refine w_goto (tgt := 34) X dX4_setParameters_30 (by decide) ?_
      refine w_iastoreN X dX4_setParameters_34 (vr_row 1 (by decide)) rfl (by decide) ?_
      refine w_aload X dX4_setParameters_35 rfl ?_
      refine w_iconst (v := 2) X dX4_setParameters_37 (by decide) ?_
      refine w_iload_n X dX4_setParameters_38 rfl rfl ?_
      refine w_iconst (v := 2) X dX4_setParameters_39 (by decide) ?_
      refine w_icmp_le (tgt := 48) X dX4_setParameters_40 (by decide) (fun h40 => ?_) (fun h40 => ?_)
      · refine w_iconst (v := 0) X dX4_setParameters_48 (by decide) ?_
        refine w_iastoreN X dX4_setParameters_49 (vr_row 1 (by decide)) rfl (by decide) ?_
        refine w_vrF X dX4_setParameters_50 ?_
        unfold sp1_
        rw [if_neg (Int32.not_lt.mpr h12), if_pos (Int32.not_le.mp h26), if_neg (Int32.not_lt.mpr h40)]
      · refine w_iload X dX4_setParameters_43 rfl ?_
        refine w_goto (tgt := 49) X dX4_setParameters_45 (by decide) ?_
        refine w_iastoreN X dX4_setParameters_49 (vr_row 1 (by decide)) rfl (by decide) ?_
        refine w_vrF X dX4_setParameters_50 ?_
        unfold sp1_
        rw [if_neg (Int32.not_lt.mpr h12), if_pos (Int32.not_le.mp h26), if_pos (Int32.not_le.mp h40)]
  · refine w_iload_n X dX4_setParameters_15 rfl rfl ?_
    refine w_goto (tgt := 20) X dX4_setParameters_16 (by decide) ?_
    refine w_iastoreN X dX4_setParameters_20 (vr_row 1 (by decide)) rfl (by decide) ?_
    refine w_aload X dX4_setParameters_21 rfl ?_
    refine w_iconst (v := 1) X dX4_setParameters_23 (by decide) ?_
    refine w_iload_n X dX4_setParameters_24 rfl rfl ?_
    refine w_iconst (v := 1) X dX4_setParameters_25 (by decide) ?_
    refine w_icmp_le (tgt := 33) X dX4_setParameters_26 (by decide) (fun h26 => ?_) (fun h26 => ?_)
    · refine w_iconst (v := 0) X dX4_setParameters_33 (by decide) ?_
      refine w_iastoreN X dX4_setParameters_34 (vr_row 1 (by decide)) rfl (by decide) ?_
      refine w_aload X dX4_setParameters_35 rfl ?_
      refine w_iconst (v := 2) X dX4_setParameters_37 (by decide) ?_
      refine w_iload_n X dX4_setParameters_38 rfl rfl ?_
      refine w_iconst (v := 2) X dX4_setParameters_39 (by decide) ?_
      refine w_icmp_le (tgt := 48) X dX4_setParameters_40 (by decide) (fun h40 => ?_) (fun h40 => ?_)
      · refine w_iconst (v := 0) X dX4_setParameters_48 (by decide) ?_
        refine w_iastoreN X dX4_setParameters_49 (vr_row 1 (by decide)) rfl (by decide) ?_
        refine w_vrF X dX4_setParameters_50 ?_
        unfold sp1_
        rw [if_pos (Int32.not_le.mp h12), if_neg (Int32.not_lt.mpr h26), if_neg (Int32.not_lt.mpr h40)]
      · refine w_iload X dX4_setParameters_43 rfl ?_
        refine w_goto (tgt := 49) X dX4_setParameters_45 (by decide) ?_
        refine w_iastoreN X dX4_setParameters_49 (vr_row 1 (by decide)) rfl (by decide) ?_
        refine w_vrF X dX4_setParameters_50 ?_
        unfold sp1_
        rw [if_pos (Int32.not_le.mp h12), if_neg (Int32.not_lt.mpr h26), if_pos (Int32.not_le.mp h40)]
    · refine w_iload_n X dX4_setParameters_29 rfl rfl ?_
      refine w_goto (tgt := 34) X dX4_setParameters_30 (by decide) ?_
      refine w_iastoreN X dX4_setParameters_34 (vr_row 1 (by decide)) rfl (by decide) ?_
      refine w_aload X dX4_setParameters_35 rfl ?_
      refine w_iconst (v := 2) X dX4_setParameters_37 (by decide) ?_
      refine w_iload_n X dX4_setParameters_38 rfl rfl ?_
      refine w_iconst (v := 2) X dX4_setParameters_39 (by decide) ?_
      refine w_icmp_le (tgt := 48) X dX4_setParameters_40 (by decide) (fun h40 => ?_) (fun h40 => ?_)
      · refine w_iconst (v := 0) X dX4_setParameters_48 (by decide) ?_
        refine w_iastoreN X dX4_setParameters_49 (vr_row 1 (by decide)) rfl (by decide) ?_
        refine w_vrF X dX4_setParameters_50 ?_
        unfold sp1_
        rw [if_pos (Int32.not_le.mp h12), if_pos (Int32.not_le.mp h26), if_neg (Int32.not_lt.mpr h40)]
      · refine w_iload X dX4_setParameters_43 rfl ?_
        refine w_goto (tgt := 49) X dX4_setParameters_45 (by decide) ?_
        refine w_iastoreN X dX4_setParameters_49 (vr_row 1 (by decide)) rfl (by decide) ?_
        refine w_vrF X dX4_setParameters_50 ?_
        unfold sp1_
        rw [if_pos (Int32.not_le.mp h12), if_pos (Int32.not_le.mp h26), if_pos (Int32.not_le.mp h40)]

end
