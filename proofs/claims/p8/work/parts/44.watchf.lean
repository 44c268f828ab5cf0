/-! watch: its answer, and its roads behind a fault -/
/-- the free job: its number, or 8 and -1 -/
def hj_ (M : mm_) (J : Nat) : Prop := (fj_ M 8 0 = -1 ∧ J = 8) ∨ (fj_ M 8 0 = nI J ∧ J < 8 ∧ M.1 12 J = 0)
theorem hj_ex (M : mm_) : ∃ J, hj_ M J := by
  rcases fj_two (M := M) 8 0 (by omega) with h | ⟨b, -, hb, h, h0⟩
  · exact ⟨8, Or.inl ⟨h, rfl⟩⟩
  · exact ⟨b, Or.inr ⟨h, by omega, h0⟩⟩
/-- what watch is told: point, where the pattern begins, its size, expression, condition, limit -/
abbrev wr2_ : Type := Int32 × Nat × Nat × Term × Option Term × Int32
def oc_ : Option Term → Int32
  | none => 0
  | some _ => 1
def wo_ (M : mm_) (n : Nat) : wr2_ ⊕ (Int32 × Nat) → Int32 → mm_ → Prop
  | .inr (f, w), r, N => r = -1 ∧ (∃ J, hj_ M J ∧ ph_ J M N) ∧ N.1 0 3 = f ∧ N.1 0 4 = nI w ∧ 0 < f
  | .inl (pt, s, p, e1, e2, lim), r, N => ∃ b N0, r = nI b ∧ b < 8 ∧ hj_ M b ∧ ph_ b M N0 ∧ N0.1 0 3 = 0 ∧ p ≤ 12 ∧ (∀ i, i < p → N0.1 19 i = bf_ M n (s + i)) ∧ sd_ N0 (16 + 2 * b) e1 ∧ (∀ e, e2 = some e → sd_ N0 (17 + 2 * b) e) ∧ N = sI_ (sI_ (sI_ (nj_ N0 b p 1) 13 b pt) 14 b lim) 16 b (vp_nar .boolean (oc_ e2))
/-- a fault in watch -/
def wf_ (M : mm_) (n J : Nat) (R : wr2_ ⊕ (Int32 × Nat)) (N : mm_) : Prop := ∃ (f : Int32) (w : Nat), ph_ J M N ∧ N.1 0 3 = f ∧ N.1 0 4 = nI w ∧ 0 < f ∧ ao5_ N ∧ R = .inr (f, w)
theorem wf_0 {M N : mm_} {n J : Nat} {R : wr2_ ⊕ (Int32 × Nat)} (h : wf_ M n J R N) : ¬ N.1 0 3 = 0 := by
  obtain ⟨f, w, -, h3, -, hp, -, -⟩ := h
  rw [h3]
  intro q
  rw [q] at hp
  exact absurd hp (by decide)
theorem sp_b {M : mm_} {n k : Nat} (hn : n ≤ 200) (hk : k < 1073741824) : sp_ M n k < 1073741824 := by
  have := sk_ge (bf_ M n) (n - k) k
  unfold sp_
  omega
set_option maxRecDepth 100000 in
set_option maxHeartbeats 4000000 in
theorem w12_watch_f165 {C : mc_} {G : gg_} (hG : gd_ G) {d : Nat} {M N : mm_} {n J : Nat} {R : wr2_ ⊕ (Int32 × Nat)} (ht : tz_ M n) (hJ : hj_ M J) (X : cx_ C G RX12 cX12_watch 5 (some .int) (d + 8)) (l1 l2 l3 l4 : Option Value) (h : wf_ M n J R N) : wq_ C G (qe_ C G (rI_ (wo_ M n R))) 165 [some (.ref (G.1 0)), l1, l2, l3, l4] [] N := by
  have h0 := wf_0 h
  obtain ⟨f, w, hp, h3, h4, hpos, ha, hr⟩ := h
  refine w_aload_n X dX12_watch_165 rfl rfl ?_
  refine g12_fault X dX12_watch_166 ?_
  try simp only [gI_sI, gI_sL, gL_sI, gL_sL, false_and, and_false, and_self, if_false, if_true, reduceIte, Nat.reduceEqDiff, h3]
  refine w_if_le (tgt := 174) X dX12_watch_169 (by decide) (fun h169 => absurd h169 (Int32.not_le.mpr hpos)) (fun h169 => ?_)
  refine w_iconst (v := -1) X dX12_watch_172 (by decide) ?_
  refine w_irR X dX12_watch_173 ?_
  rw [hr]
  exact ⟨rfl, ⟨J, hJ, hp⟩, h3, h4, hpos⟩
set_option maxRecDepth 100000 in
set_option maxHeartbeats 4000000 in
theorem w12_watch_f145 {C : mc_} {G : gg_} (hG : gd_ G) {d : Nat} {M N : mm_} {n J : Nat} {R : wr2_ ⊕ (Int32 × Nat)} (ht : tz_ M n) (hJ : hj_ M J) (X : cx_ C G RX12 cX12_watch 5 (some .int) (d + 8)) (l1 l2 l3 l4 : Option Value) (h : wf_ M n J R N) : wq_ C G (qe_ C G (rI_ (wo_ M n R))) 145 [some (.ref (G.1 0)), l1, l2, l3, l4] [] N := by
  have h0 := wf_0 h
  refine w_aload_n X dX12_watch_145 rfl rfl ?_
  refine g12_fault X dX12_watch_146 ?_
  refine w_if_ne (tgt := 165) X dX12_watch_149 (by decide) (fun h149 => ?_) (fun h149 => absurd h149 h0)
  exact w12_watch_f165 hG ht hJ X _ _ _ _ h
set_option maxRecDepth 100000 in
set_option maxHeartbeats 4000000 in
theorem w12_watch_f141 {C : mc_} {G : gg_} (hG : gd_ G) {d : Nat} {M N : mm_} {n J : Nat} {R : wr2_ ⊕ (Int32 × Nat)} (ht : tz_ M n) (hJ : hj_ M J) (X : cx_ C G RX12 cX12_watch 5 (some .int) (d + 8)) (l1 l2 l3 l4 : Option Value) (h : wf_ M n J R N) : wq_ C G (qe_ C G (rI_ (wo_ M n R))) 141 [some (.ref (G.1 0)), l1, l2, l3, l4] [] N := by
  have h0 := wf_0 h
  obtain ⟨f, w, hp, h3, h4, hpos, ⟨q, hq, h5⟩, hr⟩ := h
  have hs := sp_b (M := N) (n := n) (k := q) ht.2 hq
  refine w_aload_n X dX12_watch_141 rfl rfl ?_
  refine w_v0fV X dX12_watch_142 k12_wantEnd rfl rfl (c12_wantEnd G hG _ N n q (ph_tz hp ht) h5 hq) (Nat.le_of_ble_eq_true rfl) ?_
  rw [if_neg (fun y => h0 y.1)]
  exact w12_watch_f145 hG ht hJ X _ _ _ _ ⟨f, w, ph_s5 hp hs, by simpa [sI_] using h3, by simpa [sI_] using h4, hpos, ⟨_, hs, by simp [sI_]⟩, hr⟩
set_option maxRecDepth 100000 in
set_option maxHeartbeats 4000000 in
theorem w12_watch_f112 {C : mc_} {G : gg_} (hG : gd_ G) {d : Nat} {M N : mm_} {n J : Nat} {R : wr2_ ⊕ (Int32 × Nat)} (ht : tz_ M n) (hJ : hj_ M J) (X : cx_ C G RX12 cX12_watch 5 (some .int) (d + 8)) (l1 l2 l3 l4 : Option Value) (h : wf_ M n J R N) : wq_ C G (qe_ C G (rI_ (wo_ M n R))) 112 [some (.ref (G.1 0)), l1, l2, l3, l4] [] N := by
  have h0 := wf_0 h
  refine w_aload_n X dX12_watch_112 rfl rfl ?_
  refine g12_fault X dX12_watch_113 ?_
  refine w_if_ne (tgt := 141) X dX12_watch_116 (by decide) (fun h116 => ?_) (fun h116 => absurd h116 h0)
  exact w12_watch_f141 hG ht hJ X _ _ _ _ h
set_option maxRecDepth 100000 in
set_option maxHeartbeats 4000000 in
theorem w12_watch_f63 {C : mc_} {G : gg_} (hG : gd_ G) {d : Nat} {M N : mm_} {n J : Nat} {R : wr2_ ⊕ (Int32 × Nat)} (ht : tz_ M n) (hJ : hj_ M J) (X : cx_ C G RX12 cX12_watch 5 (some .int) (d + 8)) (l1 l2 l3 l4 : Option Value) (h : wf_ M n J R N) : wq_ C G (qe_ C G (rI_ (wo_ M n R))) 63 [some (.ref (G.1 0)), l1, l2, l3, l4] [] N := by
  have h0 := wf_0 h
  refine w_aload_n X dX12_watch_63 rfl rfl ?_
  refine g12_fault X dX12_watch_64 ?_
  refine w_if_ne (tgt := 112) X dX12_watch_67 (by decide) (fun h67 => ?_) (fun h67 => absurd h67 h0)
  exact w12_watch_f112 hG ht hJ X _ _ _ _ h
set_option maxRecDepth 100000 in
set_option maxHeartbeats 4000000 in
theorem w12_watch_f42 {C : mc_} {G : gg_} (hG : gd_ G) {d : Nat} {M N : mm_} {n J : Nat} {R : wr2_ ⊕ (Int32 × Nat)} (ht : tz_ M n) (hJ : hj_ M J) (X : cx_ C G RX12 cX12_watch 5 (some .int) (d + 8)) (l1 l2 l3 l4 : Option Value) (h : wf_ M n J R N) : wq_ C G (qe_ C G (rI_ (wo_ M n R))) 42 [some (.ref (G.1 0)), l1, l2, l3, l4] [] N := by
  have h0 := wf_0 h
  refine w_aload_n X dX12_watch_42 rfl rfl ?_
  refine g12_fault X dX12_watch_43 ?_
  refine w_if_ne (tgt := 63) X dX12_watch_46 (by decide) (fun h46 => ?_) (fun h46 => absurd h46 h0)
  exact w12_watch_f63 hG ht hJ X _ _ _ _ h
set_option maxRecDepth 100000 in
set_option maxHeartbeats 4000000 in
theorem w12_watch_f89 {C : mc_} {G : gg_} (hG : gd_ G) {d : Nat} {M N : mm_} {n J : Nat} {R : wr2_ ⊕ (Int32 × Nat)} (ht : tz_ M n) (hJ : hj_ M J) (X : cx_ C G RX12 cX12_watch 5 (some .int) (d + 8)) (l1 l2 l3 l4 : Option Value) (h : wf_ M n J R N) : wq_ C G (qe_ C G (rI_ (wo_ M n R))) 89 [some (.ref (G.1 0)), l1, l2, l3, l4] [] N := by
  have h0 := wf_0 h
  refine w_iconst (v := 1) X dX12_watch_89 (by decide) ?_
  refine w_istore_n X dX12_watch_90 rfl (by decide) ?_
  refine w_aload_n X dX12_watch_91 rfl rfl ?_
  refine g12_fault X dX12_watch_92 ?_
  refine w_if_ne (tgt := 112) X dX12_watch_95 (by decide) (fun h95 => ?_) (fun h95 => absurd h95 h0)
  exact w12_watch_f112 hG ht hJ X _ _ _ _ h
set_option maxRecDepth 100000 in
set_option maxHeartbeats 4000000 in
theorem w12_watch_f16 {C : mc_} {G : gg_} (hG : gd_ G) {d : Nat} {M N : mm_} {n J : Nat} {R : wr2_ ⊕ (Int32 × Nat)} (ht : tz_ M n) (hJ : hj_ M J) (X : cx_ C G RX12 cX12_watch 5 (some .int) (d + 8)) (l1 l2 l3 l4 : Option Value) (h : wf_ M n J R N) : wq_ C G (qe_ C G (rI_ (wo_ M n R))) 16 [some (.ref (G.1 0)), l1, l2, l3, l4] [] N := by
  have h0 := wf_0 h
  refine w_aload_n X dX12_watch_16 rfl rfl ?_
  refine w_v0fI X dX12_watch_17 k12_freeJob rfl rfl (c12_freeJob G hG _ _) (Nat.le_of_ble_eq_true rfl) ?_
  refine w_istore_n X dX12_watch_20 rfl (by decide) ?_
  refine w_iconst (v := 0) X dX12_watch_21 (by decide) ?_
  refine w_istore_n X dX12_watch_22 rfl (by decide) ?_
  refine w_bipush (v := 99) X dX12_watch_23 (by decide) ?_
  refine w_istore X dX12_watch_25 (by decide) ?_
  refine w_aload_n X dX12_watch_27 rfl rfl ?_
  refine g12_fault X dX12_watch_28 ?_
  refine w_if_ne (tgt := 42) X dX12_watch_31 (by decide) (fun h31 => ?_) (fun h31 => absurd h31 h0)
  exact w12_watch_f42 hG ht hJ X _ _ _ _ h
