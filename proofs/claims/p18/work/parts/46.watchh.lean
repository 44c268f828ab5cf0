section
/-! watch: the limit, the condition, the expression -/
theorem nI_17 (J : Nat) : (17 : Int32) + 2 * nI J = nI (17 + 2 * J) := by rw [show (17 : Int32) = nI 17 from rfl, show (2 : Int32) = nI 2 from rfl, pk_mul, nI_add]
theorem nI_16 (J : Nat) : (16 : Int32) + 2 * nI J = nI (16 + 2 * J) := by rw [show (16 : Int32) = nI 16 from rfl, show (2 : Int32) = nI 2 from rfl, pk_mul, nI_add]
def w6m_ (M : mm_) (n : Nat) (y : Int32 → wr2_) : (Int32 × Nat) ⊕ (Int32 × Nat) → wr2_ ⊕ (Int32 × Nat)
  | .inr q => .inr q
  | .inl (v, k) => w7_ M n (y v) k
def w6_ (M : mm_) (n : Nat) (y : Int32 → wr2_) (k : Nat) : wr2_ ⊕ (Int32 × Nat) := if sp_ M n k < n then w6m_ M n y (sm_ M n (sp_ M n (sp_ M n k)) 1) else w7_ M n (y 99) (sp_ M n k)
def w5m_ (M : mm_) (n : Nat) (y : Option Term → Int32 → wr2_) : (Term × Nat) ⊕ (Int32 × Nat) → wr2_ ⊕ (Int32 × Nat)
  | .inr q => .inr q
  | .inl (e, k) => w6_ M n (y (some e)) k
def w5_ (M : mm_) (n : Nat) (y : Option Term → Int32 → wr2_) (k : Nat) : wr2_ ⊕ (Int32 × Nat) := if sp_ M n k < n then w5m_ M n y (ex_ M n (sp_ M n k)) else w6_ M n (y none) (sp_ M n k)
def w4m_ (M : mm_) (n : Nat) (y : Term → Option Term → Int32 → wr2_) : (Term × Nat) ⊕ (Int32 × Nat) → wr2_ ⊕ (Int32 × Nat)
  | .inr q => .inr q
  | .inl (e, k) => w5_ M n (y e) k
def w4_ (M : mm_) (n : Nat) (y : Term → Option Term → Int32 → wr2_) (k : Nat) : wr2_ ⊕ (Int32 × Nat) := w4m_ M n y (ex_ M n (sp_ M n k))
set_option maxRecDepth 100000 in
set_option maxHeartbeats 4000000 in
theorem w12_watch_112 {C : mc_} {G : gg_} (hG : gd_ G) {d : Nat} {M N : mm_} {n J s p q : Nat} {R : wr2_ ⊕ (Int32 × Nat)} (ht : tz_ M n) (hJ : hj_ M J) (X : cx_ C G RX12 cX12_watch 5 (some .int) (d + 8)) (pt : Int32) (e1 : Term) (e2 : Option Term) (g : wg_ M n J s p q N) (hk1 : J < 8 → kp5_ N (16 + 2 * J) e1) (hk2 : J < 8 → ∀ e, e2 = some e → kp5_ N (17 + 2 * J) e) (hr : R = w6_ M n (fun l => (pt, s, p, e1, e2, l)) q) : wq_ C G (qe_ C G (rI_ (wo_ M n R))) 112 [some (.ref (G.1 0)), some (.int pt), some (.int (fj_ M 8 0)), some (.int (oc_ e2)), some (.int 99)] [] N := by
  have hn := ht.2
  have g2 := g.2.1
  have g3 := g.2.2.1
  have g4 := g.2.2.2.1
  have gt := ph_tz g.1 ht
  have esp : sp_ N n q = sp_ M n q := ph_sp g.1
  have hs := (sp_le (M := M) g4).2
  have gs := wg_s5 (q2 := sp_ M n q) g hn hs
  have n2 : N.1 0 2 = nI n := gt.1
  unfold w6_ at hr
  by_cases hsp : sp_ M n q < n
  · rw [if_pos hsp] at hr
    have esp2 : sp_ (sI_ N 0 5 (nI (sp_ M n q))) n (sp_ M n q) = sp_ M n (sp_ M n q) := ph_sp gs.1
    have hs2 := (sp_le (M := M) hs).2
    have esm : sm_ (sI_ N 0 5 (nI (sp_ M n q))) n (sp_ M n (sp_ M n q)) 1 = sm_ M n (sp_ M n (sp_ M n q)) 1 := ph_sm gs.1
    rcases sm_two (M := sI_ N 0 5 (nI (sp_ M n q))) (least := 1) gs.2.1 hs2 with ⟨f, w, q5, c1, hpos, hq5, c2⟩ | ⟨v, q5, c1, hq5, c2, c3, c4, c5⟩
    · rw [esm] at c1
      rw [c1] at hr
      refine w_aload_n X dX12_watch_112 rfl rfl ?_
      refine g12_fault X dX12_watch_113 ?_
      try simp only [gI_sI, gI_sL, gL_sI, gL_sL, false_and, and_false, and_self, if_false, if_true, reduceIte, Nat.reduceEqDiff, g2, n2]
      refine w_if_ne (tgt := 141) X dX12_watch_116 (by decide) (fun h116 => absurd rfl h116) (fun h116 => ?_)
      refine w_aload_n X dX12_watch_119 rfl rfl ?_
      refine w_v0fV X dX12_watch_120 k12_skip rfl rfl (c12_skip G hG _ N n q gt g3 (by omega)) (Nat.le_of_ble_eq_true rfl) ?_
      rw [esp]
      refine w_aload_n X dX12_watch_123 rfl rfl ?_
      refine g12_at X dX12_watch_124 ?_
      try simp only [gI_sI, gI_sL, gL_sI, gL_sL, false_and, and_false, and_self, if_false, if_true, reduceIte, Nat.reduceEqDiff, g2, n2]
      refine w_aload_n X dX12_watch_127 rfl rfl ?_
      refine g12_size X dX12_watch_128 ?_
      try simp only [gI_sI, gI_sL, gL_sI, gL_sL, false_and, and_false, and_self, if_false, if_true, reduceIte, Nat.reduceEqDiff, g2, n2]
      refine w_icmp_ge (tgt := 141) X dX12_watch_131 (by decide) (fun h131 => absurd h131 (fun y => absurd ((nI_leI (by omega) (by omega)).mp y) (by omega))) (fun h131 => ?_)
      refine w_aload_n X dX12_watch_134 rfl rfl ?_
      refine w_iconst (v := 1) X dX12_watch_135 (by decide) ?_
      refine w_v1fI X dX12_watch_136 k12_smallNumber rfl rfl (c12_smallNumber G hG _ (sI_ N 0 5 (nI (sp_ M n q))) n (sp_ M n q) (sp_ M n (sp_ M n q)) (ph_tz gs.1 ht) gs.2.2.1 (by omega) esp2.symm 1) (Nat.le_of_ble_eq_true rfl) ?_
      show wq_ C G _ _ _ (.int (sv2_ (sI_ N 0 5 (nI (sp_ M n q))) n (sp_ M n (sp_ M n q))) :: _) (sq_ (sI_ N 0 5 (nI (sp_ M n q))) n (sp_ M n (sp_ M n q)) 1)
      rw [c2]
      refine w_istore X dX12_watch_139 (by decide) ?_
      exact w12_watch_f141 hG ht hJ X _ _ _ _ (wg_wf (wg_s5 gs hn hq5) hn hpos hr)
    · rw [esm] at c1
      rw [c1] at hr
      refine w_aload_n X dX12_watch_112 rfl rfl ?_
      refine g12_fault X dX12_watch_113 ?_
      try simp only [gI_sI, gI_sL, gL_sI, gL_sL, false_and, and_false, and_self, if_false, if_true, reduceIte, Nat.reduceEqDiff, g2, n2]
      refine w_if_ne (tgt := 141) X dX12_watch_116 (by decide) (fun h116 => absurd rfl h116) (fun h116 => ?_)
      refine w_aload_n X dX12_watch_119 rfl rfl ?_
      refine w_v0fV X dX12_watch_120 k12_skip rfl rfl (c12_skip G hG _ N n q gt g3 (by omega)) (Nat.le_of_ble_eq_true rfl) ?_
      rw [esp]
      refine w_aload_n X dX12_watch_123 rfl rfl ?_
      refine g12_at X dX12_watch_124 ?_
      try simp only [gI_sI, gI_sL, gL_sI, gL_sL, false_and, and_false, and_self, if_false, if_true, reduceIte, Nat.reduceEqDiff, g2, n2]
      refine w_aload_n X dX12_watch_127 rfl rfl ?_
      refine g12_size X dX12_watch_128 ?_
      try simp only [gI_sI, gI_sL, gL_sI, gL_sL, false_and, and_false, and_self, if_false, if_true, reduceIte, Nat.reduceEqDiff, g2, n2]
      refine w_icmp_ge (tgt := 141) X dX12_watch_131 (by decide) (fun h131 => absurd h131 (fun y => absurd ((nI_leI (by omega) (by omega)).mp y) (by omega))) (fun h131 => ?_)
      refine w_aload_n X dX12_watch_134 rfl rfl ?_
      refine w_iconst (v := 1) X dX12_watch_135 (by decide) ?_
      refine w_v1fI X dX12_watch_136 k12_smallNumber rfl rfl (c12_smallNumber G hG _ (sI_ N 0 5 (nI (sp_ M n q))) n (sp_ M n q) (sp_ M n (sp_ M n q)) (ph_tz gs.1 ht) gs.2.2.1 (by omega) esp2.symm 1) (Nat.le_of_ble_eq_true rfl) ?_
      show wq_ C G _ _ _ (.int (sv2_ (sI_ N 0 5 (nI (sp_ M n q))) n (sp_ M n (sp_ M n q))) :: _) (sq_ (sI_ N 0 5 (nI (sp_ M n q))) n (sp_ M n (sp_ M n q)) 1)
      rw [c2, c3]
      refine w_istore X dX12_watch_139 (by decide) ?_
      exact w12_watch_141 hG ht hJ X pt v e1 e2 (wg_s5 gs hn hq5) (fun y => kp_sI (kp_sI (hk1 y))) (fun y e he => kp_sI (kp_sI (hk2 y e he))) hr
  · rw [if_neg hsp] at hr
    refine w_aload_n X dX12_watch_112 rfl rfl ?_
    refine g12_fault X dX12_watch_113 ?_
    try simp only [gI_sI, gI_sL, gL_sI, gL_sL, false_and, and_false, and_self, if_false, if_true, reduceIte, Nat.reduceEqDiff, g2, n2]
    refine w_if_ne (tgt := 141) X dX12_watch_116 (by decide) (fun h116 => absurd rfl h116) (fun h116 => ?_)
    refine w_aload_n X dX12_watch_119 rfl rfl ?_
    refine w_v0fV X dX12_watch_120 k12_skip rfl rfl (c12_skip G hG _ N n q gt g3 (by omega)) (Nat.le_of_ble_eq_true rfl) ?_
    rw [esp]
    refine w_aload_n X dX12_watch_123 rfl rfl ?_
    refine g12_at X dX12_watch_124 ?_
    try simp only [gI_sI, gI_sL, gL_sI, gL_sL, false_and, and_false, and_self, if_false, if_true, reduceIte, Nat.reduceEqDiff, g2, n2]
    refine w_aload_n X dX12_watch_127 rfl rfl ?_
    refine g12_size X dX12_watch_128 ?_
    try simp only [gI_sI, gI_sL, gL_sI, gL_sL, false_and, and_false, and_self, if_false, if_true, reduceIte, Nat.reduceEqDiff, g2, n2]
    refine w_icmp_ge (tgt := 141) X dX12_watch_131 (by decide) (fun h131 => ?_) (fun h131 => absurd (nI_le (by omega) (by omega)) h131)
    exact w12_watch_141 hG ht hJ X pt 99 e1 e2 gs (fun y => kp_sI (hk1 y)) (fun y e he => kp_sI (hk2 y e he)) hr
set_option maxRecDepth 100000 in
set_option maxHeartbeats 4000000 in
theorem w12_watch_63 {C : mc_} {G : gg_} (hG : gd_ G) {d : Nat} {M N : mm_} {n J s p q : Nat} {R : wr2_ ⊕ (Int32 × Nat)} (ht : tz_ M n) (hJ : hj_ M J) (X : cx_ C G RX12 cX12_watch 5 (some .int) (d + 8)) (pt : Int32) (e1 : Term) (g : wg_ M n J s p q N) (hk1 : J < 8 → kp5_ N (16 + 2 * J) e1) (hr : R = w5_ M n (fun e2 l => (pt, s, p, e1, e2, l)) q) : wq_ C G (qe_ C G (rI_ (wo_ M n R))) 63 [some (.ref (G.1 0)), some (.int pt), some (.int (fj_ M 8 0)), some (.int 0), some (.int 99)] [] N := by
  have hn := ht.2
  have g2 := g.2.1
  have g3 := g.2.2.1
  have g4 := g.2.2.2.1
  have gt := ph_tz g.1 ht
  have esp : sp_ N n q = sp_ M n q := ph_sp g.1
  have hs := (sp_le (M := M) g4).2
  have gs := wg_s5 (q2 := sp_ M n q) g hn hs
  have n2 : N.1 0 2 = nI n := gt.1
  have hex : ex_ (sI_ N 0 5 (nI (sp_ M n q))) n (sp_ M n q) = ex_ M n (sp_ M n q) := ph_ex gs.1
  have hpo := po_ex (M := M) (n := n) (k := sp_ M n q)
  unfold w5_ at hr
  by_cases hsp : sp_ M n q < n
  · rw [if_pos hsp] at hr
    refine w_aload_n X dX12_watch_63 rfl rfl ?_
    refine g12_fault X dX12_watch_64 ?_
    try simp only [gI_sI, gI_sL, gL_sI, gL_sL, false_and, and_false, and_self, if_false, if_true, reduceIte, Nat.reduceEqDiff, g2, n2]
    refine w_if_ne (tgt := 112) X dX12_watch_67 (by decide) (fun h67 => absurd rfl h67) (fun h67 => ?_)
    refine w_aload_n X dX12_watch_70 rfl rfl ?_
    refine w_v0fV X dX12_watch_71 k12_skip rfl rfl (c12_skip G hG _ N n q gt g3 (by omega)) (Nat.le_of_ble_eq_true rfl) ?_
    rw [esp]
    refine w_aload_n X dX12_watch_74 rfl rfl ?_
    refine g12_at X dX12_watch_75 ?_
    try simp only [gI_sI, gI_sL, gL_sI, gL_sL, false_and, and_false, and_self, if_false, if_true, reduceIte, Nat.reduceEqDiff, g2, n2]
    refine w_aload_n X dX12_watch_78 rfl rfl ?_
    refine g12_size X dX12_watch_79 ?_
    try simp only [gI_sI, gI_sL, gL_sI, gL_sL, false_and, and_false, and_self, if_false, if_true, reduceIte, Nat.reduceEqDiff, g2, n2]
    refine w_icmp_ge (tgt := 112) X dX12_watch_82 (by decide) (fun h82 => absurd h82 (fun y => absurd ((nI_leI (by omega) (by omega)).mp y) (by omega))) (fun h82 => ?_)
    refine w_aload_n X dX12_watch_85 rfl rfl ?_
    refine w_v0rV X dX12_watch_86 k12_readExpression rfl rfl (c12_readExpression G hG _ (sI_ N 0 5 (nI (sp_ M n q))) n (sp_ M n q) (ph_tz gs.1 ht) gs.2.2.1 gs.2.1 hs) (Nat.le_of_ble_eq_true rfl) (fun N86 h86 => ?_)
    rw [hex] at h86
    cases hS : ex_ M n (sp_ M n q) with
    | inr y =>
      obtain ⟨f, w⟩ := y
      rw [hS] at h86 hpo hr
      exact w12_watch_f89 hG ht hJ X _ _ _ _ ⟨f, w, ph_tr gs.1 (ph_pg (pg_pf h86.1)), h86.2.1, h86.2.2.1, hpo, h86.1.2.2.2.2 (wg_ao gs hn), hr⟩
    | inl y =>
      obtain ⟨e, k4⟩ := y
      rw [hS] at h86 hr
      obtain ⟨q1, q2, q3, nd, op, q4⟩ := h86
      have g5 := wg_pf gs q1 q2 q4.2.1 q3
      have hl : N86.1 0 12 = nI (tc_ e).length := by have := q4.2.2.1.1; simpa [cs_, cu_] using this
      have hl40 : (tc_ e).length ≤ 40 := by have := (pr_len q4).1; simpa [cs_, cu_] using this
      rcases id hJ with ⟨j1, j2⟩ | ⟨j1, j2, j3⟩
      · have hm : fj_ M 8 0 < 0 := by rw [j1]; decide
        refine w_iconst (v := 1) X dX12_watch_89 (by decide) ?_
        refine w_istore_n X dX12_watch_90 rfl (by decide) ?_
        refine w_aload_n X dX12_watch_91 rfl rfl ?_
        refine g12_fault X dX12_watch_92 ?_
        try simp only [gI_sI, gI_sL, gL_sI, gL_sL, false_and, and_false, and_self, if_false, if_true, reduceIte, Nat.reduceEqDiff, q2]
        refine w_if_ne (tgt := 112) X dX12_watch_95 (by decide) (fun h95 => absurd rfl h95) (fun h95 => ?_)
        refine w_iload_n X dX12_watch_98 rfl rfl ?_
        refine w_if_lt (tgt := 112) X dX12_watch_99 (by decide) (fun h99 => ?_) (fun h99 => absurd hm h99)
        exact w12_watch_112 hG ht hJ X pt e1 (some e) g5 (fun y => absurd y (by omega)) (fun y => absurd y (by omega)) hr
      · have hm : ¬ fj_ M 8 0 < 0 := by rw [j1]; exact nI_pos (by omega)
        refine w_iconst (v := 1) X dX12_watch_89 (by decide) ?_
        refine w_istore_n X dX12_watch_90 rfl (by decide) ?_
        refine w_aload_n X dX12_watch_91 rfl rfl ?_
        refine g12_fault X dX12_watch_92 ?_
        try simp only [gI_sI, gI_sL, gL_sI, gL_sL, false_and, and_false, and_self, if_false, if_true, reduceIte, Nat.reduceEqDiff, q2]
        refine w_if_ne (tgt := 112) X dX12_watch_95 (by decide) (fun h95 => absurd rfl h95) (fun h95 => ?_)
        refine w_iload_n X dX12_watch_98 rfl rfl ?_
        refine w_if_lt (tgt := 112) X dX12_watch_99 (by decide) (fun h99 => absurd h99 hm) (fun h99 => ?_)
        refine w_aload_n X dX12_watch_102 rfl rfl ?_
        refine w_bipush (v := 17) X dX12_watch_103 (by decide) ?_
        refine w_iconst (v := 2) X dX12_watch_105 (by decide) ?_
        refine w_iload_n X dX12_watch_106 rfl rfl ?_
        refine w_imul X dX12_watch_107 ?_
        refine w_iadd X dX12_watch_108 ?_
        rw [j1, nI_17]
        refine w_v1fV X dX12_watch_109 k12_keepExpression rfl rfl (c12_keepExpression G hG _ _ (17 + 2 * J) (tc_ e).length (by omega) hl (by omega)) (Nat.le_of_ble_eq_true rfl) ?_
        rw [← j1]
        exact w12_watch_112 hG ht hJ X pt e1 (some e) (wg_kx g5 j2 (Or.inr rfl) (by omega)) (fun y => kp_kx (kp_pf (kp_sI (hk1 y)) (by omega) q1) (by omega) (by omega) (by omega)) (fun y e0 he => by cases he; exact kp_new (by omega) q4) hr
  · rw [if_neg hsp] at hr
    refine w_aload_n X dX12_watch_63 rfl rfl ?_
    refine g12_fault X dX12_watch_64 ?_
    try simp only [gI_sI, gI_sL, gL_sI, gL_sL, false_and, and_false, and_self, if_false, if_true, reduceIte, Nat.reduceEqDiff, g2, n2]
    refine w_if_ne (tgt := 112) X dX12_watch_67 (by decide) (fun h67 => absurd rfl h67) (fun h67 => ?_)
    refine w_aload_n X dX12_watch_70 rfl rfl ?_
    refine w_v0fV X dX12_watch_71 k12_skip rfl rfl (c12_skip G hG _ N n q gt g3 (by omega)) (Nat.le_of_ble_eq_true rfl) ?_
    rw [esp]
    refine w_aload_n X dX12_watch_74 rfl rfl ?_
    refine g12_at X dX12_watch_75 ?_
    try simp only [gI_sI, gI_sL, gL_sI, gL_sL, false_and, and_false, and_self, if_false, if_true, reduceIte, Nat.reduceEqDiff, g2, n2]
    refine w_aload_n X dX12_watch_78 rfl rfl ?_
    refine g12_size X dX12_watch_79 ?_
    try simp only [gI_sI, gI_sL, gL_sI, gL_sL, false_and, and_false, and_self, if_false, if_true, reduceIte, Nat.reduceEqDiff, g2, n2]
    refine w_icmp_ge (tgt := 112) X dX12_watch_82 (by decide) (fun h82 => ?_) (fun h82 => absurd (nI_le (by omega) (by omega)) h82)
    exact w12_watch_112 hG ht hJ X pt e1 none gs (fun y => kp_sI (hk1 y)) (fun y e he => by cases he) hr
set_option maxRecDepth 100000 in
set_option maxHeartbeats 4000000 in
theorem w12_watch_27 {C : mc_} {G : gg_} (hG : gd_ G) {d : Nat} {M N : mm_} {n J s p q : Nat} {R : wr2_ ⊕ (Int32 × Nat)} (ht : tz_ M n) (hJ : hj_ M J) (X : cx_ C G RX12 cX12_watch 5 (some .int) (d + 8)) (pt : Int32) (g : wg_ M n J s p q N) (hr : R = w4_ M n (fun e1 e2 l => (pt, s, p, e1, e2, l)) q) : wq_ C G (qe_ C G (rI_ (wo_ M n R))) 27 [some (.ref (G.1 0)), some (.int pt), some (.int (fj_ M 8 0)), some (.int 0), some (.int 99)] [] N := by
  have hn := ht.2
  have g2 := g.2.1
  have g3 := g.2.2.1
  have g4 := g.2.2.2.1
  have gt := ph_tz g.1 ht
  have esp : sp_ N n q = sp_ M n q := ph_sp g.1
  have hs := (sp_le (M := M) g4).2
  have gs := wg_s5 (q2 := sp_ M n q) g hn hs
  have n2 : N.1 0 2 = nI n := gt.1
  have hex : ex_ (sI_ N 0 5 (nI (sp_ M n q))) n (sp_ M n q) = ex_ M n (sp_ M n q) := ph_ex gs.1
  have hpo := po_ex (M := M) (n := n) (k := sp_ M n q)
  unfold w4_ at hr
  refine w_aload_n X dX12_watch_27 rfl rfl ?_
  refine g12_fault X dX12_watch_28 ?_
  try simp only [gI_sI, gI_sL, gL_sI, gL_sL, false_and, and_false, and_self, if_false, if_true, reduceIte, Nat.reduceEqDiff, g2, n2]
  refine w_if_ne (tgt := 42) X dX12_watch_31 (by decide) (fun h31 => absurd rfl h31) (fun h31 => ?_)
  refine w_aload_n X dX12_watch_34 rfl rfl ?_
  refine w_v0fV X dX12_watch_35 k12_skip rfl rfl (c12_skip G hG _ N n q gt g3 (by omega)) (Nat.le_of_ble_eq_true rfl) ?_
  rw [esp]
  refine w_aload_n X dX12_watch_38 rfl rfl ?_
  refine w_v0rV X dX12_watch_39 k12_readExpression rfl rfl (c12_readExpression G hG _ (sI_ N 0 5 (nI (sp_ M n q))) n (sp_ M n q) (ph_tz gs.1 ht) gs.2.2.1 gs.2.1 hs) (Nat.le_of_ble_eq_true rfl) (fun N39 h39 => ?_)
  rw [hex] at h39
  cases hS : ex_ M n (sp_ M n q) with
  | inr y =>
    obtain ⟨f, w⟩ := y
    rw [hS] at h39 hpo hr
    exact w12_watch_f42 hG ht hJ X _ _ _ _ ⟨f, w, ph_tr gs.1 (ph_pg (pg_pf h39.1)), h39.2.1, h39.2.2.1, hpo, h39.1.2.2.2.2 (wg_ao gs hn), hr⟩
  | inl y =>
    obtain ⟨e, k4⟩ := y
    rw [hS] at h39 hr
    obtain ⟨q1, q2, q3, nd, op, q4⟩ := h39
    have g5 := wg_pf gs q1 q2 q4.2.1 q3
    have hl : N39.1 0 12 = nI (tc_ e).length := by have := q4.2.2.1.1; simpa [cs_, cu_] using this
    have hl40 : (tc_ e).length ≤ 40 := by have := (pr_len q4).1; simpa [cs_, cu_] using this
    rcases id hJ with ⟨j1, j2⟩ | ⟨j1, j2, j3⟩
    · have hm : fj_ M 8 0 < 0 := by rw [j1]; decide
      refine w_aload_n X dX12_watch_42 rfl rfl ?_
      refine g12_fault X dX12_watch_43 ?_
      try simp only [gI_sI, gI_sL, gL_sI, gL_sL, false_and, and_false, and_self, if_false, if_true, reduceIte, Nat.reduceEqDiff, q2]
      refine w_if_ne (tgt := 63) X dX12_watch_46 (by decide) (fun h46 => absurd rfl h46) (fun h46 => ?_)
      refine w_iload_n X dX12_watch_49 rfl rfl ?_
      refine w_if_lt (tgt := 63) X dX12_watch_50 (by decide) (fun h50 => ?_) (fun h50 => absurd hm h50)
      exact w12_watch_63 hG ht hJ X pt e g5 (fun y => absurd y (by omega)) hr
    · have hm : ¬ fj_ M 8 0 < 0 := by rw [j1]; exact nI_pos (by omega)
      refine w_aload_n X dX12_watch_42 rfl rfl ?_
      refine g12_fault X dX12_watch_43 ?_
      try simp only [gI_sI, gI_sL, gL_sI, gL_sL, false_and, and_false, and_self, if_false, if_true, reduceIte, Nat.reduceEqDiff, q2]
      refine w_if_ne (tgt := 63) X dX12_watch_46 (by decide) (fun h46 => absurd rfl h46) (fun h46 => ?_)
      refine w_iload_n X dX12_watch_49 rfl rfl ?_
      refine w_if_lt (tgt := 63) X dX12_watch_50 (by decide) (fun h50 => absurd h50 hm) (fun h50 => ?_)
      refine w_aload_n X dX12_watch_53 rfl rfl ?_
      refine w_bipush (v := 16) X dX12_watch_54 (by decide) ?_
      refine w_iconst (v := 2) X dX12_watch_56 (by decide) ?_
      refine w_iload_n X dX12_watch_57 rfl rfl ?_
      refine w_imul X dX12_watch_58 ?_
      refine w_iadd X dX12_watch_59 ?_
      rw [j1, nI_16]
      refine w_v1fV X dX12_watch_60 k12_keepExpression rfl rfl (c12_keepExpression G hG _ _ (16 + 2 * J) (tc_ e).length (by omega) hl (by omega)) (Nat.le_of_ble_eq_true rfl) ?_
      rw [← j1]
      exact w12_watch_63 hG ht hJ X pt e (wg_kx g5 j2 (Or.inl rfl) (by omega)) (fun y => kp_new (by omega) q4) hr

end
section
/-! watch -/
def w3m_ (M : mm_) (n : Nat) (pt : Int32) (s : Nat) : (Nat × Nat) ⊕ (Int32 × Nat) → wr2_ ⊕ (Int32 × Nat)
  | .inr q => .inr q
  | .inl (q, p) => w4_ M n (fun e1 e2 l => (pt, s, p, e1, e2, l)) q
/-- watch's text, from the point's row at s with its size z and its letters v: what is told, or the fault -/
def wt_ (M : mm_) (n s z : Nat) (v : Int64) : wr2_ ⊕ (Int32 × Nat) := if pt_ v z < 0 ∨ ¬ bf_ M n (s + z) ≤ 32 then .inr (1, s) else w3m_ M n (pt_ v z) (sp_ M n (s + z)) (pd_ M n (sp_ M n (s + z)))
set_option maxRecDepth 100000 in
set_option maxHeartbeats 4000000 in
theorem c12_watch (G : gg_) (hG : gd_ G) (d : Nat) (M : mm_) (n k s z : Nat) (v : Int64) (ht : tz_ M n) (h5 : M.1 0 5 = nI k) (hk : k ≤ n) (hf : M.1 0 3 = 0) (hs : sp_ M n k = s) (hz : rz_ M n s = z) (hv : rv_ (bf_ M n) s z = v) : cm_ G yX12_watch cX12_watch 5 (some .int) (d + 8) [.ref (G.1 0)] M (rI_ (wo_ M n (wt_ M n s z v))) := by
  refine cm_of hG (by decide) (Nat.le_of_ble_eq_true rfl) (fun C X => ?_)
  have hn := ht.2
  obtain ⟨J, hJ⟩ := hj_ex M
  generalize hR : wt_ M n s z v = R
  unfold wt_ at hR
  have hsn := (sp_le (M := M) hk).2
  rw [hs] at hsn
  have hzn := rz_le M n s
  rw [hz] at hzn
  have gra : pg_ M (ra_ M n s) := pg_pf (pf_sL (pf_sI (pf_rf M) (at5_ (by omega))) (by omega))
  have ra3 : (ra_ M n s).1 0 3 = 0 := by simpa [ra_, sI_, sL_] using hf
  have ra5 : (ra_ M n s).1 0 5 = nI s := by simp [ra_, sI_, sL_]
  by_cases hc : pt_ v z < 0 ∨ ¬ bf_ M n (s + z) ≤ 32
  · rw [if_pos hc] at hR
    have g3 : (fa_ (ra_ M n s) 1 (nI s)).1 0 3 = 1 := by rw [fa_0 ra3]; simp [sI_]
    have g4 : (fa_ (ra_ M n s) 1 (nI s)).1 0 4 = nI s := by rw [fa_0 ra3]; simp [sI_]
    have g5 : (fa_ (ra_ M n s) 1 (nI s)).1 0 5 = nI s := by rw [fa_0 ra3]; simpa [sI_] using ra5
    refine w_aload_n X dX12_watch_0 rfl rfl ?_
    refine w_v0fI X dX12_watch_1 k12_readPoint rfl rfl (c12_readPoint G hG _ M n k s z v ht h5 hk hs hz hv) (Nat.le_of_ble_eq_true rfl) ?_
    rw [if_pos hc, if_pos hc]
    refine w_istore_n X dX12_watch_4 rfl (by decide) ?_
    refine w_aload_n X dX12_watch_5 rfl rfl ?_
    refine g12_fault X dX12_watch_6 ?_
    try simp only [gI_sI, gI_sL, gL_sI, gL_sL, false_and, and_false, and_self, if_false, if_true, reduceIte, Nat.reduceEqDiff, g3]
    refine w_if_ne (tgt := 16) X dX12_watch_9 (by decide) (fun h9 => ?_) (fun h9 => absurd h9 (by decide))
    exact w12_watch_f16 (d := d) hG ht hJ X _ _ _ _ ⟨1, s, ph_pg (pg_fa gra), g3, g4, by decide, ⟨s, by omega, g5⟩, hR.symm⟩
  · rw [if_neg hc] at hR
    have g1 : pg_ M (sI_ (ra_ M n s) 0 5 (nI (s + z))) := pg_s5 gra (by omega)
    have g3 : (sI_ (ra_ M n s) 0 5 (nI (s + z))).1 0 3 = 0 := by simpa [sI_] using ra3
    have g5 : (sI_ (ra_ M n s) 0 5 (nI (s + z))).1 0 5 = nI (s + z) := by simp [sI_]
    generalize hN1 : sI_ (ra_ M n s) 0 5 (nI (s + z)) = N1 at g1 g3 g5
    have esp : sp_ N1 n (s + z) = sp_ M n (s + z) := pg_sp g1
    have ebf : bf_ N1 n = bf_ M n := pg_bf g1
    have epd : pd_ N1 n (sp_ M n (s + z)) = pd_ M n (sp_ M n (s + z)) := by unfold pd_; rw [ebf]
    refine w_aload_n X dX12_watch_0 rfl rfl ?_
    refine w_v0fI X dX12_watch_1 k12_readPoint rfl rfl (c12_readPoint G hG _ M n k s z v ht h5 hk hs hz hv) (Nat.le_of_ble_eq_true rfl) ?_
    rw [if_neg hc, if_neg hc]
    rw [hN1]
    refine w_istore_n X dX12_watch_4 rfl (by decide) ?_
    refine w_aload_n X dX12_watch_5 rfl rfl ?_
    refine g12_fault X dX12_watch_6 ?_
    try simp only [gI_sI, gI_sL, gL_sI, gL_sL, false_and, and_false, and_self, if_false, if_true, reduceIte, Nat.reduceEqDiff, g3]
    refine w_if_ne (tgt := 16) X dX12_watch_9 (by decide) (fun h9 => absurd rfl h9) (fun h9 => ?_)
    refine w_aload_n X dX12_watch_12 rfl rfl ?_
    refine w_v0rV X dX12_watch_13 k12_readPattern rfl rfl (c12_readPattern2 G hG _ N1 n (s + z) (sp_ M n (s + z)) (pg_tz g1 ht) g5 (by omega) g3 esp.symm) (Nat.le_of_ble_eq_true rfl) (fun N13 h13 => ?_)
    rw [epd] at h13
    cases hS : pd_ M n (sp_ M n (s + z)) with
    | inr y =>
      obtain ⟨f, w⟩ := y
      rw [hS] at h13 hR
      obtain ⟨a1, a2, a3, a4, q, hq, a5⟩ := h13
      exact w12_watch_f16 (d := d) hG ht hJ X _ _ _ _ ⟨f, w, ph_pg (pg_tr g1 a1), a2, a3, a4, ⟨q, by omega, a5⟩, hR.symm⟩
    | inl y =>
      obtain ⟨q, p⟩ := y
      rw [hS] at h13 hR
      obtain ⟨a1, a2, a3, a4, a5, a6, a7⟩ := h13
      have gg : wg_ M n J (sp_ M n (s + z)) p q N13 := ⟨ph_pg (pg_tr g1 a1), a2, a3, a4, a5, a6, fun i hi => by rw [a7 i hi, ebf]⟩
      have efj : fj_ N13 8 0 = fj_ M 8 0 := pg_fj (pg_tr g1 a1)
      refine w_aload_n X dX12_watch_16 rfl rfl ?_
      refine w_v0fI X dX12_watch_17 k12_freeJob rfl rfl (c12_freeJob G hG _ _) (Nat.le_of_ble_eq_true rfl) ?_
      rw [efj]
      refine w_istore_n X dX12_watch_20 rfl (by decide) ?_
      refine w_iconst (v := 0) X dX12_watch_21 (by decide) ?_
      refine w_istore_n X dX12_watch_22 rfl (by decide) ?_
      refine w_bipush (v := 99) X dX12_watch_23 (by decide) ?_
      refine w_istore X dX12_watch_25 (by decide) ?_
      exact w12_watch_27 (d := d) hG ht hJ X _ gg hR.symm

end
section
/-! command -/
/-- which command a row names, or 0 -/
def wc_ (v : Int64) (z : Nat) : Int32 := if z = 5 ∧ v = w2_ 0 23 1 20 10 0 0 3 8 then 1 else if z = 7 ∧ v = w2_ 13 15 14 9 15 0 20 15 18 then 2 else if z = 4 ∧ v = wdR_ 11 5 5 16 then 3 else if z = 4 ∧ v = wdR_ 11 9 12 12 then 4 else if z = 5 ∧ v = w2_ 0 18 5 19 10 0 0 5 20 then 5 else 0
/-- the memory as a command's text begins -/
def cb_ (M : mm_) : mm_ := sI_ (sI_ (bg_ M) 0 14 1) 0 15 3
/-- behind the command's word -/
def ce5_ (M : mm_) (n s z : Nat) : mm_ := sI_ (ra_ (cb_ M) n s) 0 5 (nI (s + z))
def cd5_ (B : mm_) (n t : Nat) (c : Int32) (r : Int32) (N : mm_) : Prop :=
  if c = 1 then wo_ B n (wt_ B n t (rz_ B n t) (rv_ (bf_ B n) t (rz_ B n t))) r N
  else if c < 4 then so4_ B n t c (sb_ B n (pd_ B n t)) r N
  else if c = 4 then ko3_ B n (kl2_ B n (sm_ B n t 0)) r N
  else if t < n then r = -1 ∧ N = fa_ (sI_ B 0 5 (nI t)) 1 (nI t) else r = nI (nk_ B 8) ∧ N = zk_ (sI_ B 0 5 (nI t)) 8
/-- a command's answer: s its first byte, z the size of its row, v its letters -/
def cmd_ (M : mm_) (n s z : Nat) (v : Int64) (r : Int32) (N : mm_) : Prop :=
  if wc_ v z = 0 ∨ ¬ bf_ M n (s + z) ≤ 32 then r = -1 ∧ N = fa_ (ra_ (cb_ M) n s) 1 (nI s)
  else cd5_ (ce5_ M n s z) n (sp_ M n (s + z)) (wc_ v z) r N
set_option maxRecDepth 100000 in
set_option maxHeartbeats 4000000 in
theorem c12_command (G : gg_) (hG : gd_ G) (d : Nat) (M : mm_) (n s z : Nat) (v : Int64) (ht : tz_ M n) (hs : sp_ M n 0 = s) (hz : rz_ M n s = z) (hv : rv_ (bf_ M n) s z = v) : cm_ G yX12_command cX12_command 16 (some .int) (d + 9) [.ref (G.1 0)] M (rI_ (cmd_ M n s z v)) := by
  refine cm_of hG (by decide) (Nat.le_of_ble_eq_true rfl) (fun C X => ?_)
  have hn := ht.2
  have hsn := (sp_le (M := M) (n := n) (k := 0) (by omega)).2
  rw [hs] at hsn
  have hzn := rz_le M n s
  rw [hz] at hzn
  have hbb : ∀ q, bf_ (cb_ M) n q = bf_ M n q := fun q => by unfold cb_ bg_; rw [bf_sI (by omega), bf_sI (by omega), bf_sI (by omega), bf_sI (by omega), bf_sI (by omega), bf_sI (by omega)]
  have eb : bf_ (cb_ M) n = bf_ M n := funext hbb
  have tb : tz_ (cb_ M) n := tz_sI (tz_sI (tz_sI (tz_sI (tz_sI (tz_sI ht (by omega)) (by omega)) (by omega)) (by omega)) (by omega)) (by omega)
  have b3 : (cb_ M).1 0 3 = 0 := by simp [cb_, bg_, sI_]
  have b5 : (cb_ M).1 0 5 = nI 0 := by simp [cb_, bg_, sI_]; rfl
  have bs : sp_ (cb_ M) n 0 = s := by rw [← hs]; unfold sp_; rw [eb]
  have t1 : tz_ (sI_ (cb_ M) 0 5 (nI s)) n := tz_sI tb (by omega)
  have e2 : bf_ (sI_ (cb_ M) 0 5 (nI s)) n = bf_ M n := by funext q; rw [bf_sI (by omega), hbb]
  have e3 : rz_ (sI_ (cb_ M) 0 5 (nI s)) n s = z := by rw [← hz]; unfold rz_; rw [e2]
  have ez0 : rz_ (cb_ M) n s = z := by rw [← hz]; unfold rz_; rw [eb]
  have rat : tz_ (ra_ (cb_ M) n s) n := tz_sL t1
  have rab : bf_ (ra_ (cb_ M) n s) n = bf_ M n := by funext q; rw [← e2]; rfl
  have ra5 : (ra_ (cb_ M) n s).1 0 5 = nI s := by simp [ra_, sI_, sL_]
  have ra3 : (ra_ (cb_ M) n s).1 0 3 = 0 := by simpa [ra_, sI_, sL_] using b3
  have era : rz_ (ra_ (cb_ M) n s) n s = z := by rw [← hz]; unfold rz_; rw [rab]
  have hB5 : (ce5_ M n s z).1 0 5 = nI (s + z) := by simp [ce5_, sI_]
  have hB3 : (ce5_ M n s z).1 0 3 = 0 := by simpa [ce5_, sI_] using ra3
  have hBt : tz_ (ce5_ M n s z) n := tz_sI rat (by omega)
  have hBs : sp_ (ce5_ M n s z) n (s + z) = sp_ M n (s + z) := by unfold ce5_; rw [sp_sI (by omega)]; unfold sp_; rw [rab]
  have hle : s + z ≤ n := by omega
  have ezz : ∀ q : Nat, q ≤ 200 → (nI z = nI q ↔ z = q) := fun q hq => nI_eq (by omega) (by omega)
  have j226 : ∀ (l15 : Option Value) (c : Int32), c = wc_ v z → wq_ C G (qe_ C G (rI_ (cmd_ M n s z v))) 226 [some (.ref (G.1 0)), some (.int (nI s)), some (.long v), none, some (.int (nI z)), some (.long (w2_ 0 23 1 20 10 0 0 3 8)), none, some (.long (w2_ 13 15 14 9 15 0 20 15 18)), none, some (.long (wdR_ 11 5 5 16)), none, some (.long (wdR_ 11 9 12 12)), none, some (.long (w2_ 0 18 5 19 10 0 0 5 20)), none, l15] [.int c] (ra_ (cb_ M) n s) := by
    intro l15 c hc
    subst hc
    refine w_istore X dX12_command_226 (by decide) ?_
    refine w_iload X dX12_command_228 rfl ?_
    refine w_if_eq (tgt := 244) X dX12_command_230 (by decide) (fun h230 => ?_) (fun h230 => ?_)
    · have hc : wc_ v z = 0 ∨ ¬ bf_ M n (s + z) ≤ 32 := Or.inl h230
      refine w_aload_n X dX12_command_244 rfl rfl ?_
      refine w_iconst (v := 1) X dX12_command_245 (by decide) ?_
      refine w_iload_n X dX12_command_246 rfl rfl ?_
      refine w_v2fV X dX12_command_247 k12_fail rfl rfl (c12_fail G hG _ _ _ _) (Nat.le_of_ble_eq_true rfl) ?_
      refine w_iconst (v := -1) X dX12_command_250 (by decide) ?_
      refine w_irR X dX12_command_251 ?_
      unfold cmd_
      rw [if_pos hc]
      exact ⟨rfl, rfl⟩
    · refine w_aload_n X dX12_command_233 rfl rfl ?_
      refine w_iload_n X dX12_command_234 rfl rfl ?_
      refine w_iload X dX12_command_235 rfl ?_
      refine w_iadd X dX12_command_237 ?_
      rw [nI_add]
      refine w_v1fI X dX12_command_238 k12_endsAt rfl rfl (c12_endsAt G hG _ _ n (s + z) rat (by omega)) (Nat.le_of_ble_eq_true rfl) ?_
      rw [rab]
      refine w_if_ne (tgt := 252) X dX12_command_241 (by decide) (fun h241 => ?_) (fun h241 => ?_)
      · have hc : ¬ (wc_ v z = 0 ∨ ¬ bf_ M n (s + z) ≤ 32) := fun y => y.elim h230 (fun x => h241 (if_neg x))
        refine w_aload_n X dX12_command_252 rfl rfl ?_
        refine w_iload_n X dX12_command_253 rfl rfl ?_
        refine w_iload X dX12_command_254 rfl ?_
        refine w_iadd X dX12_command_256 ?_
        rw [nI_add]
        refine p12_at X dX12_command_257 ?_
        have hcm : ∀ r N, cmd_ M n s z v r N = cd5_ (ce5_ M n s z) n (sp_ M n (s + z)) (wc_ v z) r N := fun r N => by unfold cmd_; rw [if_neg hc]
        show wq_ C G (qe_ C G (rI_ (cmd_ M n s z v))) 260 _ _ (ce5_ M n s z)
        by_cases hsp : sp_ M n (s + z) < n
        · refine w_iload X dX12_command_260 rfl ?_
          refine w_iconst (v := 1) X dX12_command_262 (by decide) ?_
          refine w_icmp_ne (tgt := 273) X dX12_command_263 (by decide) (fun h263 => ?_) (fun h263 => ?_)
          · refine w_iload X dX12_command_273 rfl ?_
            refine w_iconst (v := 4) X dX12_command_275 (by decide) ?_
            refine w_icmp_ge (tgt := 288) X dX12_command_276 (by decide) (fun h276 => ?_) (fun h276 => ?_)
            · refine w_iload X dX12_command_288 rfl ?_
              refine w_iconst (v := 4) X dX12_command_290 (by decide) ?_
              refine w_icmp_ne (tgt := 301) X dX12_command_291 (by decide) (fun h291 => ?_) (fun h291 => ?_)
              · refine w_aload_n X dX12_command_301 rfl rfl ?_
                refine w_v0fI X dX12_command_302 k12_reset rfl rfl (c12_reset_f G hG _ (ce5_ M n s z) n (s + z) hBt hB5 hle hB3 (by rw [hBs]; exact hsp)) (Nat.le_of_ble_eq_true rfl) ?_
                refine w_irR X dX12_command_305 ?_
                rw [hcm]
                unfold cd5_
                rw [if_neg h263, if_neg (Int32.not_lt.mpr h276), if_neg h291]
                first | rw [if_pos hsp] | rw [if_neg hsp]
                rw [hBs]
                exact ⟨rfl, rfl⟩
              · refine w_aload_n X dX12_command_294 rfl rfl ?_
                refine w_v0rI X dX12_command_295 k12_kill rfl rfl (c12_kill G hG _ (ce5_ M n s z) n (s + z) (sp_ M n (s + z)) hBt hB5 hle hB3 hBs.symm) (Nat.le_of_ble_eq_true rfl) (fun r295 N295 h295 => ?_)
                refine w_goto (tgt := 305) X dX12_command_298 (by decide) ?_
                refine w_irR X dX12_command_305 ?_
                rw [hcm]
                unfold cd5_
                rw [if_neg h263, if_neg (Int32.not_lt.mpr h276), if_pos h291]
                exact h295
            · refine w_aload_n X dX12_command_279 rfl rfl ?_
              refine w_iload X dX12_command_280 rfl ?_
              refine w_v1rI X dX12_command_282 k12_simple rfl rfl (c12_simple G hG _ (ce5_ M n s z) n (s + z) (sp_ M n (s + z)) _ hBt hB5 hle hB3 hBs.symm) (Nat.le_of_ble_eq_true rfl) (fun r282 N282 h282 => ?_)
              refine w_goto (tgt := 305) X dX12_command_285 (by decide) ?_
              refine w_irR X dX12_command_305 ?_
              rw [hcm]
              unfold cd5_
              rw [if_neg h263, if_pos (Int32.not_le.mp h276)]
              exact h282
          · refine w_aload_n X dX12_command_266 rfl rfl ?_
            refine w_v0rI X dX12_command_267 k12_watch rfl rfl (c12_watch G hG _ (ce5_ M n s z) n (s + z) (sp_ M n (s + z)) _ _ hBt hB5 hle hB3 hBs rfl rfl) (Nat.le_of_ble_eq_true rfl) (fun r267 N267 h267 => ?_)
            refine w_goto (tgt := 305) X dX12_command_270 (by decide) ?_
            refine w_irR X dX12_command_305 ?_
            rw [hcm]
            unfold cd5_
            rw [if_pos h263]
            exact h267
        · refine w_iload X dX12_command_260 rfl ?_
          refine w_iconst (v := 1) X dX12_command_262 (by decide) ?_
          refine w_icmp_ne (tgt := 273) X dX12_command_263 (by decide) (fun h263 => ?_) (fun h263 => ?_)
          · refine w_iload X dX12_command_273 rfl ?_
            refine w_iconst (v := 4) X dX12_command_275 (by decide) ?_
            refine w_icmp_ge (tgt := 288) X dX12_command_276 (by decide) (fun h276 => ?_) (fun h276 => ?_)
            · refine w_iload X dX12_command_288 rfl ?_
              refine w_iconst (v := 4) X dX12_command_290 (by decide) ?_
              refine w_icmp_ne (tgt := 301) X dX12_command_291 (by decide) (fun h291 => ?_) (fun h291 => ?_)
              · refine w_aload_n X dX12_command_301 rfl rfl ?_
                refine w_v0fI X dX12_command_302 k12_reset rfl rfl (c12_reset_o G hG _ (ce5_ M n s z) n (s + z) hBt hB5 hle hB3 (by rw [hBs]; exact hsp)) (Nat.le_of_ble_eq_true rfl) ?_
                refine w_irR X dX12_command_305 ?_
                rw [hcm]
                unfold cd5_
                rw [if_neg h263, if_neg (Int32.not_lt.mpr h276), if_neg h291]
                first | rw [if_pos hsp] | rw [if_neg hsp]
                rw [hBs]
                exact ⟨rfl, rfl⟩
              · refine w_aload_n X dX12_command_294 rfl rfl ?_
                refine w_v0rI X dX12_command_295 k12_kill rfl rfl (c12_kill G hG _ (ce5_ M n s z) n (s + z) (sp_ M n (s + z)) hBt hB5 hle hB3 hBs.symm) (Nat.le_of_ble_eq_true rfl) (fun r295 N295 h295 => ?_)
                refine w_goto (tgt := 305) X dX12_command_298 (by decide) ?_
                refine w_irR X dX12_command_305 ?_
                rw [hcm]
                unfold cd5_
                rw [if_neg h263, if_neg (Int32.not_lt.mpr h276), if_pos h291]
                exact h295
            · refine w_aload_n X dX12_command_279 rfl rfl ?_
              refine w_iload X dX12_command_280 rfl ?_
              refine w_v1rI X dX12_command_282 k12_simple rfl rfl (c12_simple G hG _ (ce5_ M n s z) n (s + z) (sp_ M n (s + z)) _ hBt hB5 hle hB3 hBs.symm) (Nat.le_of_ble_eq_true rfl) (fun r282 N282 h282 => ?_)
              refine w_goto (tgt := 305) X dX12_command_285 (by decide) ?_
              refine w_irR X dX12_command_305 ?_
              rw [hcm]
              unfold cd5_
              rw [if_neg h263, if_pos (Int32.not_le.mp h276)]
              exact h282
          · refine w_aload_n X dX12_command_266 rfl rfl ?_
            refine w_v0rI X dX12_command_267 k12_watch rfl rfl (c12_watch G hG _ (ce5_ M n s z) n (s + z) (sp_ M n (s + z)) _ _ hBt hB5 hle hB3 hBs rfl rfl) (Nat.le_of_ble_eq_true rfl) (fun r267 N267 h267 => ?_)
            refine w_goto (tgt := 305) X dX12_command_270 (by decide) ?_
            refine w_irR X dX12_command_305 ?_
            rw [hcm]
            unfold cd5_
            rw [if_pos h263]
            exact h267
      · have hc : wc_ v z = 0 ∨ ¬ bf_ M n (s + z) ≤ 32 := Or.inr (fun q => by rw [if_pos q] at h241; exact absurd h241 (by decide))
        refine w_aload_n X dX12_command_244 rfl rfl ?_
        refine w_iconst (v := 1) X dX12_command_245 (by decide) ?_
        refine w_iload_n X dX12_command_246 rfl rfl ?_
        refine w_v2fV X dX12_command_247 k12_fail rfl rfl (c12_fail G hG _ _ _ _) (Nat.le_of_ble_eq_true rfl) ?_
        refine w_iconst (v := -1) X dX12_command_250 (by decide) ?_
        refine w_irR X dX12_command_251 ?_
        unfold cmd_
        rw [if_pos hc]
        exact ⟨rfl, rfl⟩
  have j208 : ∀ l15 : Option Value, wc_ v z = (if z = 5 ∧ v = w2_ 0 18 5 19 10 0 0 5 20 then 5 else 0) → wq_ C G (qe_ C G (rI_ (cmd_ M n s z v))) 208 [some (.ref (G.1 0)), some (.int (nI s)), some (.long v), none, some (.int (nI z)), some (.long (w2_ 0 23 1 20 10 0 0 3 8)), none, some (.long (w2_ 13 15 14 9 15 0 20 15 18)), none, some (.long (wdR_ 11 5 5 16)), none, some (.long (wdR_ 11 9 12 12)), none, some (.long (w2_ 0 18 5 19 10 0 0 5 20)), none, l15] [] (ra_ (cb_ M) n s) := by
    intro l15 hw
    refine w_iload X dX12_command_208 rfl ?_
    refine w_iconst (v := 5) X dX12_command_210 (by decide) ?_
    refine w_icmp_ne (tgt := 225) X dX12_command_211 (by decide) (fun h211 => ?_) (fun h211 => ?_)
    · refine w_iconst (v := 0) X dX12_command_225 (by decide) ?_
      exact j226 l15 _ (by rw [hw, if_neg (fun q => h211 (by rw [q.1]; rfl))])
    · refine w_lload_n X dX12_command_214 rfl rfl ?_
      refine w_lload X dX12_command_215 rfl ?_
      refine w_lcmp X dX12_command_217 ?_
      refine w_if_ne (tgt := 225) X dX12_command_218 (by decide) (fun h218 => ?_) (fun h218 => ?_)
      · refine w_iconst (v := 0) X dX12_command_225 (by decide) ?_
        exact j226 l15 _ (by rw [hw, if_neg (fun q => h218 (lc_.mpr q.2))])
      · refine w_iconst (v := 5) X dX12_command_221 (by decide) ?_
        refine w_goto (tgt := 226) X dX12_command_222 (by decide) ?_
        exact j226 l15 _ (by rw [hw, if_pos ⟨(ezz 5 (by omega)).mp h211, lc_.mp h218⟩])
  have j191 : ∀ l15 : Option Value, wc_ v z = (if z = 4 ∧ v = wdR_ 11 9 12 12 then 4 else if z = 5 ∧ v = w2_ 0 18 5 19 10 0 0 5 20 then 5 else 0) → wq_ C G (qe_ C G (rI_ (cmd_ M n s z v))) 191 [some (.ref (G.1 0)), some (.int (nI s)), some (.long v), none, some (.int (nI z)), some (.long (w2_ 0 23 1 20 10 0 0 3 8)), none, some (.long (w2_ 13 15 14 9 15 0 20 15 18)), none, some (.long (wdR_ 11 5 5 16)), none, some (.long (wdR_ 11 9 12 12)), none, some (.long (w2_ 0 18 5 19 10 0 0 5 20)), none, l15] [] (ra_ (cb_ M) n s) := by
    intro l15 hw
    refine w_iload X dX12_command_191 rfl ?_
    refine w_iconst (v := 4) X dX12_command_193 (by decide) ?_
    refine w_icmp_ne (tgt := 208) X dX12_command_194 (by decide) (fun h194 => ?_) (fun h194 => ?_)
    · exact j208 l15 (by rw [hw, if_neg (fun q => h194 (by rw [q.1]; rfl))])
    · refine w_lload_n X dX12_command_197 rfl rfl ?_
      refine w_lload X dX12_command_198 rfl ?_
      refine w_lcmp X dX12_command_200 ?_
      refine w_if_ne (tgt := 208) X dX12_command_201 (by decide) (fun h201 => ?_) (fun h201 => ?_)
      · exact j208 l15 (by rw [hw, if_neg (fun q => h201 (lc_.mpr q.2))])
      · refine w_iconst (v := 4) X dX12_command_204 (by decide) ?_
        refine w_goto (tgt := 226) X dX12_command_205 (by decide) ?_
        exact j226 l15 _ (by rw [hw, if_pos ⟨(ezz 4 (by omega)).mp h194, lc_.mp h201⟩])
  have j174 : ∀ l15 : Option Value, wc_ v z = (if z = 4 ∧ v = wdR_ 11 5 5 16 then 3 else if z = 4 ∧ v = wdR_ 11 9 12 12 then 4 else if z = 5 ∧ v = w2_ 0 18 5 19 10 0 0 5 20 then 5 else 0) → wq_ C G (qe_ C G (rI_ (cmd_ M n s z v))) 174 [some (.ref (G.1 0)), some (.int (nI s)), some (.long v), none, some (.int (nI z)), some (.long (w2_ 0 23 1 20 10 0 0 3 8)), none, some (.long (w2_ 13 15 14 9 15 0 20 15 18)), none, some (.long (wdR_ 11 5 5 16)), none, some (.long (wdR_ 11 9 12 12)), none, some (.long (w2_ 0 18 5 19 10 0 0 5 20)), none, l15] [] (ra_ (cb_ M) n s) := by
    intro l15 hw
    refine w_iload X dX12_command_174 rfl ?_
    refine w_iconst (v := 4) X dX12_command_176 (by decide) ?_
    refine w_icmp_ne (tgt := 191) X dX12_command_177 (by decide) (fun h177 => ?_) (fun h177 => ?_)
    · exact j191 l15 (by rw [hw, if_neg (fun q => h177 (by rw [q.1]; rfl))])
    · refine w_lload_n X dX12_command_180 rfl rfl ?_
      refine w_lload X dX12_command_181 rfl ?_
      refine w_lcmp X dX12_command_183 ?_
      refine w_if_ne (tgt := 191) X dX12_command_184 (by decide) (fun h184 => ?_) (fun h184 => ?_)
      · exact j191 l15 (by rw [hw, if_neg (fun q => h184 (lc_.mpr q.2))])
      · refine w_iconst (v := 3) X dX12_command_187 (by decide) ?_
        refine w_goto (tgt := 226) X dX12_command_188 (by decide) ?_
        exact j226 l15 _ (by rw [hw, if_pos ⟨(ezz 4 (by omega)).mp h177, lc_.mp h184⟩])
  have j156 : ∀ l15 : Option Value, wc_ v z = (if z = 7 ∧ v = w2_ 13 15 14 9 15 0 20 15 18 then 2 else if z = 4 ∧ v = wdR_ 11 5 5 16 then 3 else if z = 4 ∧ v = wdR_ 11 9 12 12 then 4 else if z = 5 ∧ v = w2_ 0 18 5 19 10 0 0 5 20 then 5 else 0) → wq_ C G (qe_ C G (rI_ (cmd_ M n s z v))) 156 [some (.ref (G.1 0)), some (.int (nI s)), some (.long v), none, some (.int (nI z)), some (.long (w2_ 0 23 1 20 10 0 0 3 8)), none, some (.long (w2_ 13 15 14 9 15 0 20 15 18)), none, some (.long (wdR_ 11 5 5 16)), none, some (.long (wdR_ 11 9 12 12)), none, some (.long (w2_ 0 18 5 19 10 0 0 5 20)), none, l15] [] (ra_ (cb_ M) n s) := by
    intro l15 hw
    refine w_iload X dX12_command_156 rfl ?_
    refine w_bipush (v := 7) X dX12_command_158 (by decide) ?_
    refine w_icmp_ne (tgt := 174) X dX12_command_160 (by decide) (fun h160 => ?_) (fun h160 => ?_)
    · exact j174 l15 (by rw [hw, if_neg (fun q => h160 (by rw [q.1]; rfl))])
    · refine w_lload_n X dX12_command_163 rfl rfl ?_
      refine w_lload X dX12_command_164 rfl ?_
      refine w_lcmp X dX12_command_166 ?_
      refine w_if_ne (tgt := 174) X dX12_command_167 (by decide) (fun h167 => ?_) (fun h167 => ?_)
      · exact j174 l15 (by rw [hw, if_neg (fun q => h167 (lc_.mpr q.2))])
      · refine w_iconst (v := 2) X dX12_command_170 (by decide) ?_
        refine w_goto (tgt := 226) X dX12_command_171 (by decide) ?_
        exact j226 l15 _ (by rw [hw, if_pos ⟨(ezz 7 (by omega)).mp h160, lc_.mp h167⟩])
  have j139 : ∀ l15 : Option Value, wc_ v z = (if z = 5 ∧ v = w2_ 0 23 1 20 10 0 0 3 8 then 1 else if z = 7 ∧ v = w2_ 13 15 14 9 15 0 20 15 18 then 2 else if z = 4 ∧ v = wdR_ 11 5 5 16 then 3 else if z = 4 ∧ v = wdR_ 11 9 12 12 then 4 else if z = 5 ∧ v = w2_ 0 18 5 19 10 0 0 5 20 then 5 else 0) → wq_ C G (qe_ C G (rI_ (cmd_ M n s z v))) 139 [some (.ref (G.1 0)), some (.int (nI s)), some (.long v), none, some (.int (nI z)), some (.long (w2_ 0 23 1 20 10 0 0 3 8)), none, some (.long (w2_ 13 15 14 9 15 0 20 15 18)), none, some (.long (wdR_ 11 5 5 16)), none, some (.long (wdR_ 11 9 12 12)), none, some (.long (w2_ 0 18 5 19 10 0 0 5 20)), none, l15] [] (ra_ (cb_ M) n s) := by
    intro l15 hw
    refine w_iload X dX12_command_139 rfl ?_
    refine w_iconst (v := 5) X dX12_command_141 (by decide) ?_
    refine w_icmp_ne (tgt := 156) X dX12_command_142 (by decide) (fun h142 => ?_) (fun h142 => ?_)
    · exact j156 l15 (by rw [hw, if_neg (fun q => h142 (by rw [q.1]; rfl))])
    · refine w_lload_n X dX12_command_145 rfl rfl ?_
      refine w_lload X dX12_command_146 rfl ?_
      refine w_lcmp X dX12_command_148 ?_
      refine w_if_ne (tgt := 156) X dX12_command_149 (by decide) (fun h149 => ?_) (fun h149 => ?_)
      · exact j156 l15 (by rw [hw, if_neg (fun q => h149 (lc_.mpr q.2))])
      · refine w_iconst (v := 1) X dX12_command_152 (by decide) ?_
        refine w_goto (tgt := 226) X dX12_command_153 (by decide) ?_
        exact j226 l15 _ (by rw [hw, if_pos ⟨(ezz 5 (by omega)).mp h142, lc_.mp h149⟩])
  refine w_aload_n X dX12_command_0 rfl rfl ?_
  refine w_v0fV X dX12_command_1 k12_begin rfl rfl (c12_begin G hG _ _) (Nat.le_of_ble_eq_true rfl) ?_
  refine w_aload_n X dX12_command_4 rfl rfl ?_
  refine w_iconst (v := 1) X dX12_command_5 (by decide) ?_
  refine p12_inCommand X dX12_command_6 (by first | exact Or.inl rfl | exact Or.inr rfl | assumption) ?_
  refine w_aload_n X dX12_command_9 rfl rfl ?_
  refine w_iconst (v := 3) X dX12_command_10 (by decide) ?_
  refine p12_variables X dX12_command_11 ?_
  refine w_aload_n X dX12_command_14 rfl rfl ?_
  show wq_ C G _ _ _ _ (cb_ M)
  refine w_v0fV X dX12_command_15 k12_skip rfl rfl (c12_skip G hG _ (cb_ M) n 0 tb b5 (by omega)) (Nat.le_of_ble_eq_true rfl) ?_
  rw [bs]
  refine w_aload_n X dX12_command_18 rfl rfl ?_
  refine g12_at X dX12_command_19 ?_
  rw [show (sI_ (cb_ M) 0 5 (nI s)).1 0 5 = nI s by simp [sI_]]
  refine w_istore_n X dX12_command_22 rfl (by decide) ?_
  refine w_aload_n X dX12_command_23 rfl rfl ?_
  refine w_aload_n X dX12_command_24 rfl rfl ?_
  refine g12_at X dX12_command_25 ?_
  rw [show (sI_ (cb_ M) 0 5 (nI s)).1 0 5 = nI s by simp [sI_]]
  refine w_v1fL X dX12_command_28 k12_rowAt rfl rfl (c12_rowAt G hG _ _ n s t1 (by omega)) (Nat.le_of_ble_eq_true rfl) ?_
  rw [e2, e3]
  rw [show (if 8 < z then (0 : Int64) else nm_ (bf_ M n) s z) = v from hv]
  show wq_ C G _ _ _ _ (sL_ (sI_ (cb_ M) 0 5 (nI s)) 0 24 (nm_ (bf_ M n) s (min z 12)))
  rw [show sL_ (sI_ (cb_ M) 0 5 (nI s)) 0 24 (nm_ (bf_ M n) s (min z 12)) = ra_ (cb_ M) n s by unfold ra_; rw [eb, ez0]]
  refine w_lstore_n X dX12_command_31 rfl (by decide) ?_
  refine w_aload_n X dX12_command_32 rfl rfl ?_
  refine w_aload_n X dX12_command_33 rfl rfl ?_
  refine g12_at X dX12_command_34 ?_
  rw [ra5]
  refine w_v1fI X dX12_command_37 k12_rowSize rfl rfl (c12_rowSize G hG _ _ n s rat (by omega)) (Nat.le_of_ble_eq_true rfl) ?_
  rw [era]
  refine w_istore X dX12_command_40 (by decide) ?_
  refine w_iconst (v := 0) X dX12_command_42 (by decide) ?_
  refine w_bipush (v := 23) X dX12_command_43 (by decide) ?_
  refine w_iconst (v := 1) X dX12_command_45 (by decide) ?_
  refine w_bipush (v := 20) X dX12_command_46 (by decide) ?_
  refine w_s4fL X dX12_command_48 k12_word (c12_word2 G hG _ _ _ _ _ _) (Nat.le_of_ble_eq_true rfl) ?_
  refine w_bipush (v := 10) X dX12_command_51 (by decide) ?_
  refine w_lshl X dX12_command_53 ?_
  refine w_iconst (v := 0) X dX12_command_54 (by decide) ?_
  refine w_iconst (v := 0) X dX12_command_55 (by decide) ?_
  refine w_iconst (v := 3) X dX12_command_56 (by decide) ?_
  refine w_bipush (v := 8) X dX12_command_57 (by decide) ?_
  refine w_s4fL X dX12_command_59 k12_word (c12_word2 G hG _ _ _ _ _ _) (Nat.le_of_ble_eq_true rfl) ?_
  refine w_lor X dX12_command_62 ?_
  refine w_lstore X dX12_command_63 (by decide) ?_
  refine w_bipush (v := 13) X dX12_command_65 (by decide) ?_
  refine w_bipush (v := 15) X dX12_command_67 (by decide) ?_
  refine w_bipush (v := 14) X dX12_command_69 (by decide) ?_
  refine w_bipush (v := 9) X dX12_command_71 (by decide) ?_
  refine w_s4fL X dX12_command_73 k12_word (c12_word2 G hG _ _ _ _ _ _) (Nat.le_of_ble_eq_true rfl) ?_
  refine w_bipush (v := 15) X dX12_command_76 (by decide) ?_
  refine w_lshl X dX12_command_78 ?_
  refine w_iconst (v := 0) X dX12_command_79 (by decide) ?_
  refine w_bipush (v := 20) X dX12_command_80 (by decide) ?_
  refine w_bipush (v := 15) X dX12_command_82 (by decide) ?_
  refine w_bipush (v := 18) X dX12_command_84 (by decide) ?_
  refine w_s4fL X dX12_command_86 k12_word (c12_word2 G hG _ _ _ _ _ _) (Nat.le_of_ble_eq_true rfl) ?_
  refine w_lor X dX12_command_89 ?_
  refine w_lstore X dX12_command_90 (by decide) ?_
  refine w_bipush (v := 11) X dX12_command_92 (by decide) ?_
  refine w_iconst (v := 5) X dX12_command_94 (by decide) ?_
  refine w_iconst (v := 5) X dX12_command_95 (by decide) ?_
  refine w_bipush (v := 16) X dX12_command_96 (by decide) ?_
  refine w_s4fL X dX12_command_98 k12_word (c12_word2 G hG _ _ _ _ _ _) (Nat.le_of_ble_eq_true rfl) ?_
  refine w_lstore X dX12_command_101 (by decide) ?_
  refine w_bipush (v := 11) X dX12_command_103 (by decide) ?_
  refine w_bipush (v := 9) X dX12_command_105 (by decide) ?_
  refine w_bipush (v := 12) X dX12_command_107 (by decide) ?_
  refine w_bipush (v := 12) X dX12_command_109 (by decide) ?_
  refine w_s4fL X dX12_command_111 k12_word (c12_word2 G hG _ _ _ _ _ _) (Nat.le_of_ble_eq_true rfl) ?_
  refine w_lstore X dX12_command_114 (by decide) ?_
  refine w_iconst (v := 0) X dX12_command_116 (by decide) ?_
  refine w_bipush (v := 18) X dX12_command_117 (by decide) ?_
  refine w_iconst (v := 5) X dX12_command_119 (by decide) ?_
  refine w_bipush (v := 19) X dX12_command_120 (by decide) ?_
  refine w_s4fL X dX12_command_122 k12_word (c12_word2 G hG _ _ _ _ _ _) (Nat.le_of_ble_eq_true rfl) ?_
  refine w_bipush (v := 10) X dX12_command_125 (by decide) ?_
  refine w_lshl X dX12_command_127 ?_
  refine w_iconst (v := 0) X dX12_command_128 (by decide) ?_
  refine w_iconst (v := 0) X dX12_command_129 (by decide) ?_
  refine w_iconst (v := 5) X dX12_command_130 (by decide) ?_
  refine w_bipush (v := 20) X dX12_command_131 (by decide) ?_
  refine w_s4fL X dX12_command_133 k12_word (c12_word2 G hG _ _ _ _ _ _) (Nat.le_of_ble_eq_true rfl) ?_
  refine w_lor X dX12_command_136 ?_
  refine w_lstore X dX12_command_137 (by decide) ?_
  exact j139 _ rfl

end
