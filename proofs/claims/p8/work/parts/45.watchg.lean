/-! watch: the good road, from behind -/
def kp5_ (N : mm_) (t : Nat) (e : Term) : Prop := sd_ N t e ∧ (tc_ e).length ≤ 40
theorem kp_cg {M N : mm_} {t : Nat} {e : Term} (h : kp5_ M t e) (h4 : N.1 4 t = M.1 4 t) (h2 : ∀ i, i < 64 → N.1 2 (64 * t + i) = M.1 2 (64 * t + i)) (h3 : ∀ i, i < 64 → N.2.1 3 (64 * t + i) = M.2.1 3 (64 * t + i)) : kp5_ N t e := ⟨sd_cg h.1 (by have := h.2; omega) h4 h2 h3, h.2⟩
theorem kp_sI {N : mm_} {t i : Nat} {v : Int32} {e : Term} (h : kp5_ N t e) : kp5_ (sI_ N 0 i v) t e := kp_cg h (sI_ne _ _ _ _ (by omega)) (fun _ _ => sI_ne _ _ _ _ (by omega)) (fun _ _ => rfl)
theorem kp_pf {M N : mm_} {t : Nat} {e : Term} (h : kp5_ M t e) (ht : t < 32) (hp : pf_ M N) : kp5_ N t e := kp_cg h (hp.1 4 t (by omega) (by omega) (by omega) (by omega) (by omega) (by omega)) (fun i hi => hp.1 2 _ (by omega) (by omega) (by omega) (by omega) (by omega) (by omega)) (fun i hi => hp.2.1 3 _ (by omega) (by omega) (by omega))
theorem kp_kx {N : mm_} {t u l : Nat} {e : Term} (h : kp5_ N t e) (hu : u < 32) (hl : l ≤ 64) (ht : t ≠ u) : kp5_ (sI_ (kx_ N u l) 4 u (nI l)) t e := by
  refine kp_cg h ?_ (fun i hi => ?_) (fun i hi => ?_)
  · rw [sI_ne _ _ _ _ (by omega), kx_I hu _ hl, if_neg (by omega)]
  · rw [sI_ne _ _ _ _ (by omega), kx_I hu _ hl, if_neg (by omega)]
  · show (kx_ N u l).2.1 3 (64 * t + i) = N.2.1 3 (64 * t + i)
    rw [kx_L hu _ hl, if_neg (by omega)]
theorem kp_new {N : mm_} {t n k nd op : Nat} {e : Term} (ht : t < 32) (h : pr_ N n k [] (some e) nd op) : kp5_ (sI_ (kx_ N t (tc_ e).length) 4 t (nI (tc_ e).length)) t e := ⟨sd_kx ht h, by have := (pr_len h).1; simpa [cs_, cu_] using this⟩
/-- no fault so far: the frame, the place, the pattern -/
def wg_ (M : mm_) (n J s p q : Nat) (N : mm_) : Prop := ph_ J M N ∧ N.1 0 3 = 0 ∧ N.1 0 5 = nI q ∧ q ≤ n ∧ N.1 0 33 = nI p ∧ p ≤ 12 ∧ ∀ i, i < p → N.1 19 i = bf_ M n (s + i)
theorem wg_s5 {M N : mm_} {n J s p q q2 : Nat} (h : wg_ M n J s p q N) (hn : n ≤ 200) (hq : q2 ≤ n) : wg_ M n J s p q2 (sI_ N 0 5 (nI q2)) := by
  obtain ⟨h1, h2, h3, h4, h5, h6, h7⟩ := h
  exact ⟨ph_s5 h1 (by omega), by simpa [sI_] using h2, by simp [sI_], hq, by simpa [sI_] using h5, h6, fun i hi => by rw [sI_ne _ _ _ _ (by omega)]; exact h7 i hi⟩
theorem wg_pf {M N N2 : mm_} {n J s p q q2 : Nat} (h : wg_ M n J s p q N) (hp : pf_ N N2) (h3 : N2.1 0 3 = 0) (h5 : N2.1 0 5 = nI q2) (hq : q2 ≤ n) : wg_ M n J s p q2 N2 := by
  obtain ⟨g1, g2, g3, g4, g5, g6, g7⟩ := h
  exact ⟨ph_tr g1 (ph_pg (pg_pf hp)), h3, h5, hq, (hp.1 0 33 (by omega) (by omega) (by omega) (by omega) (by omega) (by omega)).trans g5, g6, fun i hi => (hp.1 19 i (by omega) (by omega) (by omega) (by omega) (by omega) (by omega)).trans (g7 i hi)⟩
theorem wg_kx {M N : mm_} {n J s p q t l : Nat} (h : wg_ M n J s p q N) (hJ : J < 8) (ht : t = 16 + 2 * J ∨ t = 17 + 2 * J) (hl : l ≤ 64) : wg_ M n J s p q (sI_ (kx_ N t l) 4 t (nI l)) := by
  obtain ⟨g1, g2, g3, g4, g5, g6, g7⟩ := h
  have e : ∀ a i, a ≠ 2 → a ≠ 4 → (sI_ (kx_ N t l) 4 t (nI l)).1 a i = N.1 a i := fun a i h1 h2 => by rw [sI_ne _ _ _ _ (by omega), kx_I (by omega) _ hl, if_neg (by omega)]
  exact ⟨ph_kx g1 hJ ht hl, (e 0 3 (by omega) (by omega)).trans g2, (e 0 5 (by omega) (by omega)).trans g3, g4, (e 0 33 (by omega) (by omega)).trans g5, g6, fun i hi => (e 19 i (by omega) (by omega)).trans (g7 i hi)⟩
theorem wg_ao {M N : mm_} {n J s p q : Nat} (h : wg_ M n J s p q N) (hn : n ≤ 200) : ao5_ N := ⟨q, by have := h.2.2.2.1; omega, h.2.2.1⟩
theorem wg_wf {M N : mm_} {n J s p q w : Nat} {f : Int32} {R : wr2_ ⊕ (Int32 × Nat)} (h : wg_ M n J s p q N) (hn : n ≤ 200) (hf : 0 < f) (hr : R = .inr (f, w)) : wf_ M n J R (fa_ N f (nI w)) := by
  have hf0 : ¬ f = 0 := fun q => by rw [q] at hf; exact absurd hf (by decide)
  refine ⟨f, w, ph_fa h.1 hf0, by rw [fa_0 h.2.1]; simp [sI_], by rw [fa_0 h.2.1]; simp [sI_], hf, ⟨q, by have := h.2.2.2.1; omega, by rw [fa_0 h.2.1]; simpa [sI_] using h.2.2.1⟩, hr⟩
def w7_ (M : mm_) (n : Nat) (y : wr2_) (k : Nat) : wr2_ ⊕ (Int32 × Nat) := if sp_ M n k < n then .inr (1, sp_ M n k) else if fj_ M 8 0 < 0 then .inr (5, n) else .inl y
set_option maxRecDepth 100000 in
set_option maxHeartbeats 4000000 in
theorem w12_watch_165 {C : mc_} {G : gg_} (hG : gd_ G) {d : Nat} {M N : mm_} {n J s p q : Nat} {R : wr2_ ⊕ (Int32 × Nat)} (ht : tz_ M n) (hJ : hj_ M J) (X : cx_ C G RX12 cX12_watch 5 (some .int) (d + 8)) (pt lim : Int32) (e1 : Term) (e2 : Option Term) (g : wg_ M n J s p q N) (hk1 : J < 8 → kp5_ N (16 + 2 * J) e1) (hk2 : J < 8 → ∀ e, e2 = some e → kp5_ N (17 + 2 * J) e) (hj8 : J < 8) (hr : R = .inl (pt, s, p, e1, e2, lim)) : wq_ C G (qe_ C G (rI_ (wo_ M n R))) 165 [some (.ref (G.1 0)), some (.int pt), some (.int (nI J)), some (.int (oc_ e2)), some (.int lim)] [] N := by
  obtain ⟨g1, g2, g3, g4, g5, g6, g7⟩ := g
  have hn := ht.2
  refine w_aload_n X dX12_watch_165 rfl rfl ?_
  refine g12_fault X dX12_watch_166 ?_
  try simp only [gI_sI, gI_sL, gL_sI, gL_sL, false_and, and_false, and_self, if_false, if_true, reduceIte, Nat.reduceEqDiff, g2]
  refine w_if_le (tgt := 174) X dX12_watch_169 (by decide) (fun h169 => ?_) (fun h169 => absurd (by decide) h169)
  refine w_aload_n X dX12_watch_174 rfl rfl ?_
  refine w_iconst (v := 1) X dX12_watch_175 (by decide) ?_
  refine w_iload_n X dX12_watch_176 rfl rfl ?_
  refine w_v2fI X dX12_watch_177 k12_newJob rfl rfl (c12_newJob G hG _ _ J p hj8 g5 g6 1) (Nat.le_of_ble_eq_true rfl) ?_
  refine w_pop X dX12_watch_180 rfl ?_
  refine w_aload_n X dX12_watch_181 rfl rfl ?_
  refine g12_points X dX12_watch_182 ?_
  refine w_iload_n X dX12_watch_185 rfl rfl ?_
  refine w_iload_n X dX12_watch_186 rfl rfl ?_
  refine w_iastoreN X dX12_watch_187 rfl rfl (by omega) ?_
  refine w_aload_n X dX12_watch_188 rfl rfl ?_
  refine g12_limits X dX12_watch_189 ?_
  refine w_iload_n X dX12_watch_192 rfl rfl ?_
  refine w_iload X dX12_watch_193 rfl ?_
  refine w_iastoreN X dX12_watch_195 rfl rfl (by omega) ?_
  refine w_aload_n X dX12_watch_196 rfl rfl ?_
  refine g12_conditioned X dX12_watch_197 ?_
  refine w_iload_n X dX12_watch_200 rfl rfl ?_
  refine w_iload_n X dX12_watch_201 rfl rfl ?_
  refine w_bastoreN X dX12_watch_202 rfl rfl (by omega) ?_
  refine w_iload_n X dX12_watch_203 rfl rfl ?_
  refine w_irR X dX12_watch_204 ?_
  rw [hr]
  exact ⟨J, N, rfl, hj8, hJ, g1, g2, g6, g7, (hk1 hj8).1, fun e he => (hk2 hj8 e he).1, rfl⟩
set_option maxRecDepth 100000 in
set_option maxHeartbeats 4000000 in
theorem w12_watch_141 {C : mc_} {G : gg_} (hG : gd_ G) {d : Nat} {M N : mm_} {n J s p q : Nat} {R : wr2_ ⊕ (Int32 × Nat)} (ht : tz_ M n) (hJ : hj_ M J) (X : cx_ C G RX12 cX12_watch 5 (some .int) (d + 8)) (pt lim : Int32) (e1 : Term) (e2 : Option Term) (g : wg_ M n J s p q N) (hk1 : J < 8 → kp5_ N (16 + 2 * J) e1) (hk2 : J < 8 → ∀ e, e2 = some e → kp5_ N (17 + 2 * J) e) (hr : R = w7_ M n (pt, s, p, e1, e2, lim) q) : wq_ C G (qe_ C G (rI_ (wo_ M n R))) 141 [some (.ref (G.1 0)), some (.int pt), some (.int (fj_ M 8 0)), some (.int (oc_ e2)), some (.int lim)] [] N := by
  have hn := ht.2
  have g3 := g.2.2.1
  have g4 := g.2.2.2.1
  have g2 := g.2.1
  have gt := ph_tz g.1 ht
  have esp : sp_ N n q = sp_ M n q := ph_sp g.1
  have hs := (sp_le (M := M) g4).2
  have gs := wg_s5 (q2 := sp_ M n q) g hn hs
  have n2 : N.1 0 2 = nI n := gt.1
  unfold w7_ at hr
  by_cases hsp : sp_ M n q < n
  · rw [if_pos hsp] at hr
    refine w_aload_n X dX12_watch_141 rfl rfl ?_
    refine w_v0fV X dX12_watch_142 k12_wantEnd rfl rfl (c12_wantEnd G hG _ N n q gt g3 (by omega)) (Nat.le_of_ble_eq_true rfl) ?_
    rw [esp]
    rw [if_pos ⟨g2, hsp⟩]
    exact w12_watch_f145 hG ht hJ X _ _ _ _ (wg_wf gs hn (by decide) hr)
  · rw [if_neg hsp] at hr
    rcases hJ with ⟨j1, j2⟩ | ⟨j1, j2, j3⟩
    · rw [j1, if_pos (by decide)] at hr
      rw [j1]
      refine w_aload_n X dX12_watch_141 rfl rfl ?_
      refine w_v0fV X dX12_watch_142 k12_wantEnd rfl rfl (c12_wantEnd G hG _ N n q gt g3 (by omega)) (Nat.le_of_ble_eq_true rfl) ?_
      rw [esp]
      rw [if_neg (fun y => hsp y.2)]
      refine w_aload_n X dX12_watch_145 rfl rfl ?_
      refine g12_fault X dX12_watch_146 ?_
      try simp only [gI_sI, gI_sL, gL_sI, gL_sL, false_and, and_false, and_self, if_false, if_true, reduceIte, Nat.reduceEqDiff, g2, n2]
      refine w_if_ne (tgt := 165) X dX12_watch_149 (by decide) (fun h149 => absurd rfl h149) (fun h149 => ?_)
      refine w_iload_n X dX12_watch_152 rfl rfl ?_
      refine w_if_ge (tgt := 165) X dX12_watch_153 (by decide) (fun h153 => absurd h153 (by decide)) (fun h153 => ?_)
      refine w_aload_n X dX12_watch_156 rfl rfl ?_
      refine w_iconst (v := 5) X dX12_watch_157 (by decide) ?_
      refine w_aload_n X dX12_watch_158 rfl rfl ?_
      refine g12_size X dX12_watch_159 ?_
      try simp only [gI_sI, gI_sL, gL_sI, gL_sL, false_and, and_false, and_self, if_false, if_true, reduceIte, Nat.reduceEqDiff, g2, n2]
      refine w_v2fV X dX12_watch_162 k12_fail rfl rfl (c12_fail G hG _ _ _ _) (Nat.le_of_ble_eq_true rfl) ?_
      exact w12_watch_f165 hG ht (Or.inl ⟨j1, j2⟩) X _ _ _ _ (wg_wf gs hn (by decide) hr)
    · have hnb : ¬ nI J < 0 := nI_pos (by omega)
      rw [j1, if_neg hnb] at hr
      rw [j1]
      refine w_aload_n X dX12_watch_141 rfl rfl ?_
      refine w_v0fV X dX12_watch_142 k12_wantEnd rfl rfl (c12_wantEnd G hG _ N n q gt g3 (by omega)) (Nat.le_of_ble_eq_true rfl) ?_
      rw [esp]
      rw [if_neg (fun y => hsp y.2)]
      refine w_aload_n X dX12_watch_145 rfl rfl ?_
      refine g12_fault X dX12_watch_146 ?_
      try simp only [gI_sI, gI_sL, gL_sI, gL_sL, false_and, and_false, and_self, if_false, if_true, reduceIte, Nat.reduceEqDiff, g2, n2]
      refine w_if_ne (tgt := 165) X dX12_watch_149 (by decide) (fun h149 => absurd rfl h149) (fun h149 => ?_)
      refine w_iload_n X dX12_watch_152 rfl rfl ?_
      refine w_if_ge (tgt := 165) X dX12_watch_153 (by decide) (fun h153 => ?_) (fun h153 => absurd (Int32.not_lt.mp hnb) h153)
      exact w12_watch_165 hG ht (Or.inr ⟨j1, j2, j3⟩) X pt lim e1 e2 gs (fun y => kp_sI (hk1 y)) (fun y e he => kp_sI (hk2 y e he)) j2 hr
