/-! watch: the limit, the condition, the expression -/
theorem nI_17 (J : Nat) : (17 : Int32) + 2 * nI J = nI (17 + 2 * J) := by rw [show (17 : Int32) = nI 17 from rfl, show (2 : Int32) = nI 2 from rfl, pk_mul, nI_add]
theorem nI_16 (J : Nat) : (16 : Int32) + 2 * nI J = nI (16 + 2 * J) := by rw [show (16 : Int32) = nI 16 from rfl, show (2 : Int32) = nI 2 from rfl, pk_mul, nI_add]
def w6m_ (M : mm_) (n : Nat) (y : Int32 → wr2_) : (Int32 × Nat) ⊕ (Int32 × Nat) → wr2_ ⊕ (Int32 × Nat)
  | .inr q => .inr q
  | .inl (v, k) => w7_ M n (y v) k
def w6_ (M : mm_) (n : Nat) (y : Int32 → wr2_) (k : Nat) : wr2_ ⊕ (Int32 × Nat) := if sp_ M n k < n then w6m_ M n y (sm_ M n (sp_ M n (sp_ M n k)) 1) else w7_ M n (y 99) (sp_ M n k)
def w5m_ (M : mm_) (n : Nat) (y : Option Term → Int32 → wr2_) : (Term × Nat) ⊕ (Int32 × Nat) → wr2_ ⊕ (Int32 × Nat)
  | .inr q => .inr q
  | .inl (e, k) => w6_ M n (y (some e)) k
def w5_ (M : mm_) (n : Nat) (y : Option Term → Int32 → wr2_) (k : Nat) : wr2_ ⊕ (Int32 × Nat) := if sp_ M n k < n then w5m_ M n y (ex_ M n (sp_ M n k)) else w6_ M n (y none) (sp_ M n k)
def w4m_ (M : mm_) (n : Nat) (y : Term → Option Term → Int32 → wr2_) : (Term × Nat) ⊕ (Int32 × Nat) → wr2_ ⊕ (Int32 × Nat)
  | .inr q => .inr q
  | .inl (e, k) => w5_ M n (y e) k
def w4_ (M : mm_) (n : Nat) (y : Term → Option Term → Int32 → wr2_) (k : Nat) : wr2_ ⊕ (Int32 × Nat) := w4m_ M n y (ex_ M n (sp_ M n k))
set_option maxRecDepth 100000 in
set_option maxHeartbeats 4000000 in
theorem w12_watch_112 {C : mc_} {G : gg_} (hG : gd_ G) {d : Nat} {M N : mm_} {n J s p q : Nat} {R : wr2_ ⊕ (Int32 × Nat)} (ht : tz_ M n) (hJ : hj_ M J) (X : cx_ C G RX12 cX12_watch 5 (some .int) (d + 8)) (pt : Int32) (e1 : Term) (e2 : Option Term) (g : wg_ M n J s p q N) (hk1 : J < 8 → kp5_ N (16 + 2 * J) e1) (hk2 : J < 8 → ∀ e, e2 = some e → kp5_ N (17 + 2 * J) e) (hr : R = w6_ M n (fun l => (pt, s, p, e1, e2, l)) q) : wq_ C G (qe_ C G (rI_ (wo_ M n R))) 112 [some (.ref (G.1 0)), some (.int pt), some (.int (fj_ M 8 0)), some (.int (oc_ e2)), some (.int 99)] [] N := by
  have hn := ht.2
  have g2 := g.2.1
  have g3 := g.2.2.1
  have g4 := g.2.2.2.1
  have gt := ph_tz g.1 ht
  have esp : sp_ N n q = sp_ M n q := ph_sp g.1
  have hs := (sp_le (M := M) g4).2
  have gs := wg_s5 (q2 := sp_ M n q) g hn hs
  have n2 : N.1 0 2 = nI n := gt.1
  unfold w6_ at hr
  by_cases hsp : sp_ M n q < n
  · rw [if_pos hsp] at hr
    have esp2 : sp_ (sI_ N 0 5 (nI (sp_ M n q))) n (sp_ M n q) = sp_ M n (sp_ M n q) := ph_sp gs.1
    have hs2 := (sp_le (M := M) hs).2
    have esm : sm_ (sI_ N 0 5 (nI (sp_ M n q))) n (sp_ M n (sp_ M n q)) 1 = sm_ M n (sp_ M n (sp_ M n q)) 1 := ph_sm gs.1
    rcases sm_two (M := sI_ N 0 5 (nI (sp_ M n q))) (least := 1) gs.2.1 hs2 with ⟨f, w, q5, c1, hpos, hq5, c2⟩ | ⟨v, q5, c1, hq5, c2, c3, c4, c5⟩
    · rw [esm] at c1
      rw [c1] at hr
      refine w_aload_n X dX12_watch_112 rfl rfl ?_
      refine g12_fault X dX12_watch_113 ?_
      try simp only [gI_sI, gI_sL, gL_sI, gL_sL, false_and, and_false, and_self, if_false, if_true, reduceIte, Nat.reduceEqDiff, g2, n2]
      refine w_if_ne (tgt := 141) X dX12_watch_116 (by decide) (fun h116 => absurd rfl h116) (fun h116 => ?_)
      refine w_aload_n X dX12_watch_119 rfl rfl ?_
      refine w_v0fV X dX12_watch_120 k12_skip rfl rfl (c12_skip G hG _ N n q gt g3 (by omega)) (Nat.le_of_ble_eq_true rfl) ?_
      rw [esp]
      refine w_aload_n X dX12_watch_123 rfl rfl ?_
      refine g12_at X dX12_watch_124 ?_
      try simp only [gI_sI, gI_sL, gL_sI, gL_sL, false_and, and_false, and_self, if_false, if_true, reduceIte, Nat.reduceEqDiff, g2, n2]
      refine w_aload_n X dX12_watch_127 rfl rfl ?_
      refine g12_size X dX12_watch_128 ?_
      try simp only [gI_sI, gI_sL, gL_sI, gL_sL, false_and, and_false, and_self, if_false, if_true, reduceIte, Nat.reduceEqDiff, g2, n2]
      refine w_icmp_ge (tgt := 141) X dX12_watch_131 (by decide) (fun h131 => absurd h131 (fun y => absurd ((nI_leI (by omega) (by omega)).mp y) (by omega))) (fun h131 => ?_)
      refine w_aload_n X dX12_watch_134 rfl rfl ?_
      refine w_iconst (v := 1) X dX12_watch_135 (by decide) ?_
      refine w_v1fI X dX12_watch_136 k12_smallNumber rfl rfl (c12_smallNumber G hG _ (sI_ N 0 5 (nI (sp_ M n q))) n (sp_ M n q) (sp_ M n (sp_ M n q)) (ph_tz gs.1 ht) gs.2.2.1 (by omega) esp2.symm 1) (Nat.le_of_ble_eq_true rfl) ?_
      show wq_ C G _ _ _ (.int (sv2_ (sI_ N 0 5 (nI (sp_ M n q))) n (sp_ M n (sp_ M n q))) :: _) (sq_ (sI_ N 0 5 (nI (sp_ M n q))) n (sp_ M n (sp_ M n q)) 1)
      rw [c2]
      refine w_istore X dX12_watch_139 (by decide) ?_
      exact w12_watch_f141 hG ht hJ X _ _ _ _ (wg_wf (wg_s5 gs hn hq5) hn hpos hr)
    · rw [esm] at c1
      rw [c1] at hr
      refine w_aload_n X dX12_watch_112 rfl rfl ?_
      refine g12_fault X dX12_watch_113 ?_
      try simp only [gI_sI, gI_sL, gL_sI, gL_sL, false_and, and_false, and_self, if_false, if_true, reduceIte, Nat.reduceEqDiff, g2, n2]
      refine w_if_ne (tgt := 141) X dX12_watch_116 (by decide) (fun h116 => absurd rfl h116) (fun h116 => ?_)
      refine w_aload_n X dX12_watch_119 rfl rfl ?_
      refine w_v0fV X dX12_watch_120 k12_skip rfl rfl (c12_skip G hG _ N n q gt g3 (by omega)) (Nat.le_of_ble_eq_true rfl) ?_
      rw [esp]
      refine w_aload_n X dX12_watch_123 rfl rfl ?_
      refine g12_at X dX12_watch_124 ?_
      try simp only [gI_sI, gI_sL, gL_sI, gL_sL, false_and, and_false, and_self, if_false, if_true, reduceIte, Nat.reduceEqDiff, g2, n2]
      refine w_aload_n X dX12_watch_127 rfl rfl ?_
      refine g12_size X dX12_watch_128 ?_
      try simp only [gI_sI, gI_sL, gL_sI, gL_sL, false_and, and_false, and_self, if_false, if_true, reduceIte, Nat.reduceEqDiff, g2, n2]
      refine w_icmp_ge (tgt := 141) X dX12_watch_131 (by decide) (fun h131 => absurd h131 (fun y => absurd ((nI_leI (by omega) (by omega)).mp y) (by omega))) (fun h131 => ?_)
      refine w_aload_n X dX12_watch_134 rfl rfl ?_
      refine w_iconst (v := 1) X dX12_watch_135 (by decide) ?_
      refine w_v1fI X dX12_watch_136 k12_smallNumber rfl rfl (c12_smallNumber G hG _ (sI_ N 0 5 (nI (sp_ M n q))) n (sp_ M n q) (sp_ M n (sp_ M n q)) (ph_tz gs.1 ht) gs.2.2.1 (by omega) esp2.symm 1) (Nat.le_of_ble_eq_true rfl) ?_
      show wq_ C G _ _ _ (.int (sv2_ (sI_ N 0 5 (nI (sp_ M n q))) n (sp_ M n (sp_ M n q))) :: _) (sq_ (sI_ N 0 5 (nI (sp_ M n q))) n (sp_ M n (sp_ M n q)) 1)
      rw [c2, c3]
      refine w_istore X dX12_watch_139 (by decide) ?_
      exact w12_watch_141 hG ht hJ X pt v e1 e2 (wg_s5 gs hn hq5) (fun y => kp_sI (kp_sI (hk1 y))) (fun y e he => kp_sI (kp_sI (hk2 y e he))) hr
  · rw [if_neg hsp] at hr
    refine w_aload_n X dX12_watch_112 rfl rfl ?_
    refine g12_fault X dX12_watch_113 ?_
    try simp only [gI_sI, gI_sL, gL_sI, gL_sL, false_and, and_false, and_self, if_false, if_true, reduceIte, Nat.reduceEqDiff, g2, n2]
    refine w_if_ne (tgt := 141) X dX12_watch_116 (by decide) (fun h116 => absurd rfl h116) (fun h116 => ?_)
    refine w_aload_n X dX12_watch_119 rfl rfl ?_
    refine w_v0fV X dX12_watch_120 k12_skip rfl rfl (c12_skip G hG _ N n q gt g3 (by omega)) (Nat.le_of_ble_eq_true rfl) ?_
    rw [esp]
    refine w_aload_n X dX12_watch_123 rfl rfl ?_
    refine g12_at X dX12_watch_124 ?_
    try simp only [gI_sI, gI_sL, gL_sI, gL_sL, false_and, and_false, and_self, if_false, if_true, reduceIte, Nat.reduceEqDiff, g2, n2]
    refine w_aload_n X dX12_watch_127 rfl rfl ?_
    refine g12_size X dX12_watch_128 ?_
    try simp only [gI_sI, gI_sL, gL_sI, gL_sL, false_and, and_false, and_self, if_false, if_true, reduceIte, Nat.reduceEqDiff, g2, n2]
    refine w_icmp_ge (tgt := 141) X dX12_watch_131 (by decide) (fun h131 => ?_) (fun h131 => absurd (nI_le (by omega) (by omega)) h131)
    exact w12_watch_141 hG ht hJ X pt 99 e1 e2 gs (fun y => kp_sI (hk1 y)) (fun y e he => kp_sI (hk2 y e he)) hr
set_option maxRecDepth 100000 in
set_option maxHeartbeats 4000000 in
theorem w12_watch_63 {C : mc_} {G : gg_} (hG : gd_ G) {d : Nat} {M N : mm_} {n J s p q : Nat} {R : wr2_ ⊕ (Int32 × Nat)} (ht : tz_ M n) (hJ : hj_ M J) (X : cx_ C G RX12 cX12_watch 5 (some .int) (d + 8)) (pt : Int32) (e1 : Term) (g : wg_ M n J s p q N) (hk1 : J < 8 → kp5_ N (16 + 2 * J) e1) (hr : R = w5_ M n (fun e2 l => (pt, s, p, e1, e2, l)) q) : wq_ C G (qe_ C G (rI_ (wo_ M n R))) 63 [some (.ref (G.1 0)), some (.int pt), some (.int (fj_ M 8 0)), some (.int 0), some (.int 99)] [] N := by
  have hn := ht.2
  have g2 := g.2.1
  have g3 := g.2.2.1
  have g4 := g.2.2.2.1
  have gt := ph_tz g.1 ht
  have esp : sp_ N n q = sp_ M n q := ph_sp g.1
  have hs := (sp_le (M := M) g4).2
  have gs := wg_s5 (q2 := sp_ M n q) g hn hs
  have n2 : N.1 0 2 = nI n := gt.1
  have hex : ex_ (sI_ N 0 5 (nI (sp_ M n q))) n (sp_ M n q) = ex_ M n (sp_ M n q) := ph_ex gs.1
  have hpo := po_ex (M := M) (n := n) (k := sp_ M n q)
  unfold w5_ at hr
  by_cases hsp : sp_ M n q < n
  · rw [if_pos hsp] at hr
    refine w_aload_n X dX12_watch_63 rfl rfl ?_
    refine g12_fault X dX12_watch_64 ?_
    try simp only [gI_sI, gI_sL, gL_sI, gL_sL, false_and, and_false, and_self, if_false, if_true, reduceIte, Nat.reduceEqDiff, g2, n2]
    refine w_if_ne (tgt := 112) X dX12_watch_67 (by decide) (fun h67 => absurd rfl h67) (fun h67 => ?_)
    refine w_aload_n X dX12_watch_70 rfl rfl ?_
    refine w_v0fV X dX12_watch_71 k12_skip rfl rfl (c12_skip G hG _ N n q gt g3 (by omega)) (Nat.le_of_ble_eq_true rfl) ?_
    rw [esp]
    refine w_aload_n X dX12_watch_74 rfl rfl ?_
    refine g12_at X dX12_watch_75 ?_
    try simp only [gI_sI, gI_sL, gL_sI, gL_sL, false_and, and_false, and_self, if_false, if_true, reduceIte, Nat.reduceEqDiff, g2, n2]
    refine w_aload_n X dX12_watch_78 rfl rfl ?_
    refine g12_size X dX12_watch_79 ?_
    try simp only [gI_sI, gI_sL, gL_sI, gL_sL, false_and, and_false, and_self, if_false, if_true, reduceIte, Nat.reduceEqDiff, g2, n2]
    refine w_icmp_ge (tgt := 112) X dX12_watch_82 (by decide) (fun h82 => absurd h82 (fun y => absurd ((nI_leI (by omega) (by omega)).mp y) (by omega))) (fun h82 => ?_)
    refine w_aload_n X dX12_watch_85 rfl rfl ?_
    refine w_v0rV X dX12_watch_86 k12_readExpression rfl rfl (c12_readExpression G hG _ (sI_ N 0 5 (nI (sp_ M n q))) n (sp_ M n q) (ph_tz gs.1 ht) gs.2.2.1 gs.2.1 hs) (Nat.le_of_ble_eq_true rfl) (fun N86 h86 => ?_)
    rw [hex] at h86
    cases hS : ex_ M n (sp_ M n q) with
    | inr y =>
      obtain ⟨f, w⟩ := y
      rw [hS] at h86 hpo hr
      exact w12_watch_f89 hG ht hJ X _ _ _ _ ⟨f, w, ph_tr gs.1 (ph_pg (pg_pf h86.1)), h86.2.1, h86.2.2.1, hpo, h86.1.2.2.2.2 (wg_ao gs hn), hr⟩
    | inl y =>
      obtain ⟨e, k4⟩ := y
      rw [hS] at h86 hr
      obtain ⟨q1, q2, q3, nd, op, q4⟩ := h86
      have g5 := wg_pf gs q1 q2 q4.2.1 q3
      have hl : N86.1 0 12 = nI (tc_ e).length := by have := q4.2.2.1.1; simpa [cs_, cu_] using this
      have hl40 : (tc_ e).length ≤ 40 := by have := (pr_len q4).1; simpa [cs_, cu_] using this
      rcases id hJ with ⟨j1, j2⟩ | ⟨j1, j2, j3⟩
      · have hm : fj_ M 8 0 < 0 := by rw [j1]; decide
        refine w_iconst (v := 1) X dX12_watch_89 (by decide) ?_
        refine w_istore_n X dX12_watch_90 rfl (by decide) ?_
        refine w_aload_n X dX12_watch_91 rfl rfl ?_
        refine g12_fault X dX12_watch_92 ?_
        try simp only [gI_sI, gI_sL, gL_sI, gL_sL, false_and, and_false, and_self, if_false, if_true, reduceIte, Nat.reduceEqDiff, q2]
        refine w_if_ne (tgt := 112) X dX12_watch_95 (by decide) (fun h95 => absurd rfl h95) (fun h95 => ?_)
        refine w_iload_n X dX12_watch_98 rfl rfl ?_
        refine w_if_lt (tgt := 112) X dX12_watch_99 (by decide) (fun h99 => ?_) (fun h99 => absurd hm h99)
        exact w12_watch_112 hG ht hJ X pt e1 (some e) g5 (fun y => absurd y (by omega)) (fun y => absurd y (by omega)) hr
      · have hm : ¬ fj_ M 8 0 < 0 := by rw [j1]; exact nI_pos (by omega)
        refine w_iconst (v := 1) X dX12_watch_89 (by decide) ?_
        refine w_istore_n X dX12_watch_90 rfl (by decide) ?_
        refine w_aload_n X dX12_watch_91 rfl rfl ?_
        refine g12_fault X dX12_watch_92 ?_
        try simp only [gI_sI, gI_sL, gL_sI, gL_sL, false_and, and_false, and_self, if_false, if_true, reduceIte, Nat.reduceEqDiff, q2]
        refine w_if_ne (tgt := 112) X dX12_watch_95 (by decide) (fun h95 => absurd rfl h95) (fun h95 => ?_)
        refine w_iload_n X dX12_watch_98 rfl rfl ?_
        refine w_if_lt (tgt := 112) X dX12_watch_99 (by decide) (fun h99 => absurd h99 hm) (fun h99 => ?_)
        refine w_aload_n X dX12_watch_102 rfl rfl ?_
        refine w_bipush (v := 17) X dX12_watch_103 (by decide) ?_
        refine w_iconst (v := 2) X dX12_watch_105 (by decide) ?_
        refine w_iload_n X dX12_watch_106 rfl rfl ?_
        refine w_imul X dX12_watch_107 ?_
        refine w_iadd X dX12_watch_108 ?_
        rw [j1, nI_17]
        refine w_v1fV X dX12_watch_109 k12_keepExpression rfl rfl (c12_keepExpression G hG _ _ (17 + 2 * J) (tc_ e).length (by omega) hl (by omega)) (Nat.le_of_ble_eq_true rfl) ?_
        rw [← j1]
        exact w12_watch_112 hG ht hJ X pt e1 (some e) (wg_kx g5 j2 (Or.inr rfl) (by omega)) (fun y => kp_kx (kp_pf (kp_sI (hk1 y)) (by omega) q1) (by omega) (by omega) (by omega)) (fun y e0 he => by cases he; exact kp_new (by omega) q4) hr
  · rw [if_neg hsp] at hr
    refine w_aload_n X dX12_watch_63 rfl rfl ?_
    refine g12_fault X dX12_watch_64 ?_
    try simp only [gI_sI, gI_sL, gL_sI, gL_sL, false_and, and_false, and_self, if_false, if_true, reduceIte, Nat.reduceEqDiff, g2, n2]
    refine w_if_ne (tgt := 112) X dX12_watch_67 (by decide) (fun h67 => absurd rfl h67) (fun h67 => ?_)
    refine w_aload_n X dX12_watch_70 rfl rfl ?_
    refine w_v0fV X dX12_watch_71 k12_skip rfl rfl (c12_skip G hG _ N n q gt g3 (by omega)) (Nat.le_of_ble_eq_true rfl) ?_
    rw [esp]
    refine w_aload_n X dX12_watch_74 rfl rfl ?_
    refine g12_at X dX12_watch_75 ?_
    try simp only [gI_sI, gI_sL, gL_sI, gL_sL, false_and, and_false, and_self, if_false, if_true, reduceIte, Nat.reduceEqDiff, g2, n2]
    refine w_aload_n X dX12_watch_78 rfl rfl ?_
    refine g12_size X dX12_watch_79 ?_
    try simp only [gI_sI, gI_sL, gL_sI, gL_sL, false_and, and_false, and_self, if_false, if_true, reduceIte, Nat.reduceEqDiff, g2, n2]
    refine w_icmp_ge (tgt := 112) X dX12_watch_82 (by decide) (fun h82 => ?_) (fun h82 => absurd (nI_le (by omega) (by omega)) h82)
    exact w12_watch_112 hG ht hJ X pt e1 none gs (fun y => kp_sI (hk1 y)) (fun y e he => by cases he) hr
set_option maxRecDepth 100000 in
set_option maxHeartbeats 4000000 in
theorem w12_watch_27 {C : mc_} {G : gg_} (hG : gd_ G) {d : Nat} {M N : mm_} {n J s p q : Nat} {R : wr2_ ⊕ (Int32 × Nat)} (ht : tz_ M n) (hJ : hj_ M J) (X : cx_ C G RX12 cX12_watch 5 (some .int) (d + 8)) (pt : Int32) (g : wg_ M n J s p q N) (hr : R = w4_ M n (fun e1 e2 l => (pt, s, p, e1, e2, l)) q) : wq_ C G (qe_ C G (rI_ (wo_ M n R))) 27 [some (.ref (G.1 0)), some (.int pt), some (.int (fj_ M 8 0)), some (.int 0), some (.int 99)] [] N := by
  have hn := ht.2
  have g2 := g.2.1
  have g3 := g.2.2.1
  have g4 := g.2.2.2.1
  have gt := ph_tz g.1 ht
  have esp : sp_ N n q = sp_ M n q := ph_sp g.1
  have hs := (sp_le (M := M) g4).2
  have gs := wg_s5 (q2 := sp_ M n q) g hn hs
  have n2 : N.1 0 2 = nI n := gt.1
  have hex : ex_ (sI_ N 0 5 (nI (sp_ M n q))) n (sp_ M n q) = ex_ M n (sp_ M n q) := ph_ex gs.1
  have hpo := po_ex (M := M) (n := n) (k := sp_ M n q)
  unfold w4_ at hr
  refine w_aload_n X dX12_watch_27 rfl rfl ?_
  refine g12_fault X dX12_watch_28 ?_
  try simp only [gI_sI, gI_sL, gL_sI, gL_sL, false_and, and_false, and_self, if_false, if_true, reduceIte, Nat.reduceEqDiff, g2, n2]
  refine w_if_ne (tgt := 42) X dX12_watch_31 (by decide) (fun h31 => absurd rfl h31) (fun h31 => ?_)
  refine w_aload_n X dX12_watch_34 rfl rfl ?_
  refine w_v0fV X dX12_watch_35 k12_skip rfl rfl (c12_skip G hG _ N n q gt g3 (by omega)) (Nat.le_of_ble_eq_true rfl) ?_
  rw [esp]
  refine w_aload_n X dX12_watch_38 rfl rfl ?_
  refine w_v0rV X dX12_watch_39 k12_readExpression rfl rfl (c12_readExpression G hG _ (sI_ N 0 5 (nI (sp_ M n q))) n (sp_ M n q) (ph_tz gs.1 ht) gs.2.2.1 gs.2.1 hs) (Nat.le_of_ble_eq_true rfl) (fun N39 h39 => ?_)
  rw [hex] at h39
  cases hS : ex_ M n (sp_ M n q) with
  | inr y =>
    obtain ⟨f, w⟩ := y
    rw [hS] at h39 hpo hr
    exact w12_watch_f42 hG ht hJ X _ _ _ _ ⟨f, w, ph_tr gs.1 (ph_pg (pg_pf h39.1)), h39.2.1, h39.2.2.1, hpo, h39.1.2.2.2.2 (wg_ao gs hn), hr⟩
  | inl y =>
    obtain ⟨e, k4⟩ := y
    rw [hS] at h39 hr
    obtain ⟨q1, q2, q3, nd, op, q4⟩ := h39
    have g5 := wg_pf gs q1 q2 q4.2.1 q3
    have hl : N39.1 0 12 = nI (tc_ e).length := by have := q4.2.2.1.1; simpa [cs_, cu_] using this
    have hl40 : (tc_ e).length ≤ 40 := by have := (pr_len q4).1; simpa [cs_, cu_] using this
    rcases id hJ with ⟨j1, j2⟩ | ⟨j1, j2, j3⟩
    · have hm : fj_ M 8 0 < 0 := by rw [j1]; decide
      refine w_aload_n X dX12_watch_42 rfl rfl ?_
      refine g12_fault X dX12_watch_43 ?_
      try simp only [gI_sI, gI_sL, gL_sI, gL_sL, false_and, and_false, and_self, if_false, if_true, reduceIte, Nat.reduceEqDiff, q2]
      refine w_if_ne (tgt := 63) X dX12_watch_46 (by decide) (fun h46 => absurd rfl h46) (fun h46 => ?_)
      refine w_iload_n X dX12_watch_49 rfl rfl ?_
      refine w_if_lt (tgt := 63) X dX12_watch_50 (by decide) (fun h50 => ?_) (fun h50 => absurd hm h50)
      exact w12_watch_63 hG ht hJ X pt e g5 (fun y => absurd y (by omega)) hr
    · have hm : ¬ fj_ M 8 0 < 0 := by rw [j1]; exact nI_pos (by omega)
      refine w_aload_n X dX12_watch_42 rfl rfl ?_
      refine g12_fault X dX12_watch_43 ?_
      try simp only [gI_sI, gI_sL, gL_sI, gL_sL, false_and, and_false, and_self, if_false, if_true, reduceIte, Nat.reduceEqDiff, q2]
      refine w_if_ne (tgt := 63) X dX12_watch_46 (by decide) (fun h46 => absurd rfl h46) (fun h46 => ?_)
      refine w_iload_n X dX12_watch_49 rfl rfl ?_
      refine w_if_lt (tgt := 63) X dX12_watch_50 (by decide) (fun h50 => absurd h50 hm) (fun h50 => ?_)
      refine w_aload_n X dX12_watch_53 rfl rfl ?_
      refine w_bipush (v := 16) X dX12_watch_54 (by decide) ?_
      refine w_iconst (v := 2) X dX12_watch_56 (by decide) ?_
      refine w_iload_n X dX12_watch_57 rfl rfl ?_
      refine w_imul X dX12_watch_58 ?_
      refine w_iadd X dX12_watch_59 ?_
      rw [j1, nI_16]
      refine w_v1fV X dX12_watch_60 k12_keepExpression rfl rfl (c12_keepExpression G hG _ _ (16 + 2 * J) (tc_ e).length (by omega) hl (by omega)) (Nat.le_of_ble_eq_true rfl) ?_
      rw [← j1]
      exact w12_watch_63 hG ht hJ X pt e (wg_kx g5 j2 (Or.inl rfl) (by omega)) (fun y => kp_new (by omega) q4) hr
