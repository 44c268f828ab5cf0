/-! patterns, described; simple -/
/-- a pattern from k: the place behind it and its size, or the fault -/
def pa4_ (f : Nat → Int32) : Nat → Nat → Nat → (Nat × Nat) ⊕ (Int32 × Nat)
  | 0, k, p => .inl (k, p)
  | u + 1, k, p => if 32 < f k then (if io_ (f k) = 0 ∧ ¬ f k = 42 ∧ ¬ f k = 63 then .inr (1, k) else if p = 12 then .inr (3, k) else pa4_ f u (k + 1) (p + 1)) else .inl (k, p)
def pd_ (M : mm_) (n s : Nat) : (Nat × Nat) ⊕ (Int32 × Nat) := if s < n then pa4_ (bf_ M n) (n - s) s 0 else .inr (1, s)
/-- nothing but the parser's cells and the new pattern has changed -/
def pg_ (M N : mm_) : Prop := (∀ a i : Nat, a ≠ 7 → a ≠ 8 → a ≠ 9 → a ≠ 11 → a ≠ 19 → ¬ (a = 2 ∧ 2048 ≤ i) → ¬ (a = 0 ∧ (i = 3 ∨ i = 4 ∨ i = 5 ∨ i = 12 ∨ i = 13 ∨ i = 20 ∨ i = 22 ∨ i = 23 ∨ i = 33)) → N.1 a i = M.1 a i) ∧ (∀ a i : Nat, a ≠ 10 → ¬ (a = 3 ∧ 2048 ≤ i) → ¬ (a = 0 ∧ i = 24) → N.2.1 a i = M.2.1 a i) ∧ N.2.2 = M.2.2 ∧ (N.1 0 3 = 0 → M.1 0 3 = 0 ∧ N.1 0 4 = M.1 0 4) ∧ (ao5_ M → ao5_ N)
theorem pg_pf {M N : mm_} (h : pf_ M N) : pg_ M N := ⟨fun a i a1 a2 a3 a4 _ a6 a7 => h.1 a i a1 a2 a3 a4 a6 (by omega), h.2.1, h.2.2⟩
theorem pg_rf (M : mm_) : pg_ M M := pg_pf (pf_rf M)
theorem pg_tr {M N O : mm_} (h1 : pg_ M N) (h2 : pg_ N O) : pg_ M O := ⟨fun a i a1 a2 a3 a4 a5 a6 a7 => (h2.1 a i a1 a2 a3 a4 a5 a6 a7).trans (h1.1 a i a1 a2 a3 a4 a5 a6 a7), fun a i a1 a2 a3 => (h2.2.1 a i a1 a2 a3).trans (h1.2.1 a i a1 a2 a3), h2.2.2.1.trans h1.2.2.1, fun h => ⟨(h1.2.2.2.1 (h2.2.2.2.1 h).1).1, (h2.2.2.2.1 h).2.trans (h1.2.2.2.1 (h2.2.2.2.1 h).1).2⟩, fun h => h2.2.2.2.2 (h1.2.2.2.2 h)⟩
theorem pg_sI {M N : mm_} {a i : Nat} {v : Int32} (h : pg_ M N) (hq : a = 19 ∨ (a = 0 ∧ i = 33)) : pg_ M (sI_ N a i v) := by
  refine ⟨fun x j b1 b2 b3 b4 b5 b6 b7 => ?_, h.2.1, h.2.2.1, fun y => ?_, fun y => ?_⟩
  · rw [sI_ne _ _ _ _ (fun z => by obtain ⟨rfl, rfl⟩ := z; omega)]
    exact h.1 x j b1 b2 b3 b4 b5 b6 b7
  · rw [sI_ne _ _ _ _ (by omega)] at y
    rw [sI_ne _ _ _ _ (by omega)]
    exact h.2.2.2.1 y
  · obtain ⟨r, hr, e⟩ := h.2.2.2.2 y
    exact ⟨r, hr, by rw [sI_ne _ _ _ _ (by omega)]; exact e⟩
theorem pg_s5 {M N : mm_} {q : Nat} (h : pg_ M N) (hq : q < 1073741824) : pg_ M (sI_ N 0 5 (nI q)) := pg_tr h (pg_pf (pf_sI (pf_rf N) (at5_ hq)))
theorem pg_fa {M N : mm_} {f w : Int32} (h : pg_ M N) (hf : ¬ f = 0 := by decide) : pg_ M (fa_ N f w) := pg_tr h (pg_pf (pf_fa (pf_rf N) hf))
theorem pg_tz {M N : mm_} {n : Nat} (h : pg_ M N) (ht : tz_ M n) : tz_ N n := ⟨(h.1 0 2 (by omega) (by omega) (by omega) (by omega) (by omega) (by omega) (by omega)).trans ht.1, ht.2⟩
theorem pg_bf {M N : mm_} {n : Nat} (h : pg_ M N) : bf_ N n = bf_ M n := by
  funext k
  unfold bf_
  rw [h.1 1 k (by omega) (by omega) (by omega) (by omega) (by omega) (by omega) (by omega)]
theorem pg_sp {M N : mm_} {n k : Nat} (h : pg_ M N) : sp_ N n k = sp_ M n k := by unfold sp_; rw [pg_bf h]
theorem fj_cg {M N : mm_} (h : ∀ i, N.1 12 i = M.1 12 i) : ∀ (u j : Nat), fj_ N u j = fj_ M u j
  | 0, _ => rfl
  | u + 1, j => by simp only [fj_]; rw [h, fj_cg h u (j + 1)]
theorem pg_fj {M N : mm_} {u j : Nat} (h : pg_ M N) : fj_ N u j = fj_ M u j := fj_cg (fun i => h.1 12 i (by omega) (by omega) (by omega) (by omega) (by omega) (by omega) (by omega)) u j
theorem fj_two {M : mm_} : ∀ (u j : Nat), j + u ≤ 8 → fj_ M u j = -1 ∨ ∃ b, j ≤ b ∧ b < j + u ∧ fj_ M u j = nI b ∧ M.1 12 b = 0
  | 0, _, _ => Or.inl rfl
  | u + 1, j, h => by
    simp only [fj_]
    by_cases q : M.1 12 j = 0
    · rw [if_pos q]; exact Or.inr ⟨j, Nat.le_refl _, by omega, rfl, q⟩
    · rw [if_neg q]
      rcases fj_two (M := M) u (j + 1) (by omega) with z | ⟨b, b1, b2, b3, b4⟩
      · exact Or.inl z
      · exact Or.inr ⟨b, by omega, by omega, b3, b4⟩
/-- the memory behind a pattern's reading -/
def pb_ (M : mm_) (n s : Nat) : (Nat × Nat) ⊕ (Int32 × Nat) → mm_ → Prop
  | .inl (q, p), N => pg_ M N ∧ N.1 0 3 = 0 ∧ N.1 0 5 = nI q ∧ q ≤ n ∧ N.1 0 33 = nI p ∧ p ≤ 12 ∧ ∀ i, i < p → N.1 19 i = bf_ M n (s + i)
  | .inr (f, w), N => pg_ M N ∧ N.1 0 3 = f ∧ N.1 0 4 = nI w ∧ 0 < f ∧ ∃ q : Nat, q ≤ n ∧ N.1 0 5 = nI q
theorem rq_pb {M : mm_} {n s : Nat} (hn : n ≤ 200) : ∀ (u : Nat) (N : mm_) (k p : Nat), k + u = n → k = s + p → pb_ M n s (.inl (k, p)) N → pb_ M n s (pa4_ (bf_ M n) u k p) (rq_ n u N k p)
  | 0, N, k, p, _, _, h => h
  | u + 1, N, k, p, hu, hk, h => by
    have h' := h
    obtain ⟨h1, h2, h3, h4, h5, h6, h7⟩ := h
    have eb : bf_ N n k = bf_ M n k := by rw [pg_bf h1]
    simp only [pa4_, rq_]
    rw [eb]
    by_cases c1 : 32 < bf_ M n k
    · rw [if_pos c1, if_pos c1]
      by_cases c2 : io_ (bf_ M n k) = 0 ∧ ¬ bf_ M n k = 42 ∧ ¬ bf_ M n k = 63
      · rw [if_pos c2, if_pos c2]
        exact ⟨pg_fa h1, by rw [fa_0 h2]; simp [sI_], by rw [fa_0 h2]; simp [sI_], by decide, k, h4, by rw [fa_0 h2]; simp [sI_, h3]⟩
      · rw [if_neg c2, if_neg c2]
        by_cases c3 : p = 12
        · rw [if_pos c3, if_pos c3]
          exact ⟨pg_fa h1, by rw [fa_0 h2]; simp [sI_], by rw [fa_0 h2]; simp [sI_], by decide, k, h4, by rw [fa_0 h2]; simp [sI_, h3]⟩
        · rw [if_neg c3, if_neg c3]
          refine rq_pb hn u _ (k + 1) (p + 1) (by omega) (by omega) ⟨pg_s5 (pg_sI (pg_sI h1 (by omega)) (by omega)) (by omega), by simp [sI_, h2], by simp [sI_], by omega, by simp [sI_], by omega, fun i hi => ?_⟩
          rw [sI_ne _ _ _ _ (by omega), sI_ne _ _ _ _ (by omega)]
          by_cases c4 : i = p
          · subst c4; rw [← hk]; simp [sI_]
          · rw [sI_ne _ _ _ _ (by omega)]; exact h7 i (by omega)
    · rw [if_neg c1, if_neg c1]
      exact h'
theorem rp_pb {M : mm_} {n k s : Nat} (hn : n ≤ 200) (hf : M.1 0 3 = 0) (hk : k ≤ n) (hs : s = sp_ M n k) : pb_ M n s (pd_ M n s) (rp_ M n k) := by
  have hsn := (sp_le (M := M) hk).2
  rw [← hs] at hsn
  unfold pd_ rp_
  rw [← hs]
  have g1 : pg_ M (sI_ (sI_ M 0 5 (nI s)) 0 33 0) := pg_sI (pg_s5 (pg_rf M) (by omega)) (by omega)
  have g2 : (sI_ (sI_ M 0 5 (nI s)) 0 33 0).1 0 3 = 0 := by simp [sI_, hf]
  by_cases c : s < n
  · rw [if_pos c, if_pos c]
    exact rq_pb hn (n - s) _ s 0 (by omega) (by omega) ⟨g1, g2, by simp [sI_], by omega, by simp [sI_]; rfl, by omega, fun i hi => absurd hi (by omega)⟩
  · rw [if_neg c, if_neg c]
    exact ⟨pg_fa g1, by rw [fa_0 g2]; simp [sI_], by rw [fa_0 g2]; simp [sI_], by decide, s, hsn, by rw [fa_0 g2]; simp [sI_]⟩
theorem c12_readPattern2 (G : gg_) (hG : gd_ G) (d : Nat) (M : mm_) (n k s : Nat) (ht : tz_ M n) (ha : M.1 0 5 = nI k) (hk : k ≤ n) (hf : M.1 0 3 = 0) (hs : s = sp_ M n k) : cm_ G yX12_readPattern cX12_readPattern 2 none (d + 2) [.ref (G.1 0)] M (rV_ (pb_ M n s (pd_ M n s))) :=
  cm_post (c12_readPattern G hG d M n k ht ha (by have := ht.2; omega) hf) (fun v N h => by
    obtain ⟨e1, e2⟩ := h
    refine ⟨e1, ?_⟩
    rw [e2]
    exact rp_pb ht.2 hf hk hs)
/-- simple: the pattern's size, or the fault -/
def sb_ (M : mm_) (n : Nat) : (Nat × Nat) ⊕ (Int32 × Nat) → Nat ⊕ (Int32 × Nat)
  | .inr q => .inr q
  | .inl (q, p) => if sp_ M n q < n then .inr (1, sp_ M n q) else if fj_ M 8 0 < 0 then .inr (5, n) else .inl p
def fo4_ (M : mm_) (f : Int32) (w : Nat) (r : Int32) (N : mm_) : Prop := r = -1 ∧ pg_ M N ∧ N.1 0 3 = f ∧ N.1 0 4 = nI w ∧ 0 < f
def so4_ (M : mm_) (n s : Nat) (kd : Int32) : Nat ⊕ (Int32 × Nat) → Int32 → mm_ → Prop
  | .inr (f, w), r, N => fo4_ M f w r N
  | .inl p, r, N => ∃ b N0, r = nI b ∧ b < 8 ∧ fj_ M 8 0 = nI b ∧ M.1 12 b = 0 ∧ pg_ M N0 ∧ N0.1 0 3 = 0 ∧ p ≤ 12 ∧ (∀ i, i < p → N0.1 19 i = bf_ M n (s + i)) ∧ N = nj_ N0 b p kd
set_option maxRecDepth 100000 in
set_option maxHeartbeats 4000000 in
theorem c12_simple (G : gg_) (hG : gd_ G) (d : Nat) (M : mm_) (n k s : Nat) (kd : Int32) (ht : tz_ M n) (h5 : M.1 0 5 = nI k) (hk : k ≤ n) (hf : M.1 0 3 = 0) (hs : s = sp_ M n k) : cm_ G yX12_simple cX12_simple 3 (some .int) (d + 3) [.ref (G.1 0), .int kd] M (rI_ (so4_ M n s kd (sb_ M n (pd_ M n s)))) := by
  refine cm_of hG (by decide) (Nat.le_of_ble_eq_true rfl) (fun C X => ?_)
  have hn := ht.2
  generalize hR : sb_ M n (pd_ M n s) = R
  have jf : ∀ (N : mm_) (f : Int32) (w : Nat) (l1 l2 : Option Value), pg_ M N → N.1 0 3 = f → N.1 0 4 = nI w → 0 < f → R = .inr (f, w) → wq_ C G (qe_ C G (rI_ (so4_ M n s kd R))) 33 [some (.ref (G.1 0)), l1, l2] [] N := by
    intro N f w l1 l2 hp h3 h4 hpos hr
    refine w_aload_n X dX12_simple_33 rfl rfl ?_
    refine g12_fault X dX12_simple_34 ?_
    try simp only [gI_sI, gI_sL, gL_sI, gL_sL, false_and, and_false, and_self, if_false, if_true, reduceIte, Nat.reduceEqDiff, h3]
    refine w_if_le (tgt := 44) X dX12_simple_37 (by decide) (fun h37 => absurd h37 (Int32.not_le.mpr hpos)) (fun h37 => ?_)
    refine w_iconst (v := -1) X dX12_simple_40 (by decide) ?_
    refine w_goto (tgt := 50) X dX12_simple_41 (by decide) ?_
    refine w_irR X dX12_simple_50 ?_
    rw [hr]
    exact ⟨rfl, hp, h3, h4, hpos⟩
  refine w_aload_n X dX12_simple_0 rfl rfl ?_
  refine w_v0rV X dX12_simple_1 k12_readPattern rfl rfl (c12_readPattern2 G hG _ M n k s ht h5 hk hf hs) (Nat.le_of_ble_eq_true rfl) (fun N1 h1 => ?_)
  cases hS : pd_ M n s with
  | inr q =>
    obtain ⟨f, w⟩ := q
    rw [hS] at h1 hR
    obtain ⟨g1, g2, g3, hpos, q, hq, g5⟩ := h1
    have hf0 : ¬ f = 0 := fun q => by rw [q] at hpos; exact absurd hpos (by decide)
    have hspN := (sp_le (M := N1) hq).2
    refine w_aload_n X dX12_simple_4 rfl rfl ?_
    refine w_v0fV X dX12_simple_5 k12_wantEnd rfl rfl (c12_wantEnd G hG _ N1 n q (pg_tz g1 ht) g5 (by omega)) (Nat.le_of_ble_eq_true rfl) ?_
    rw [if_neg (fun y => hf0 (g2.symm.trans y.1))]
    refine w_aload_n X dX12_simple_8 rfl rfl ?_
    refine w_v0fI X dX12_simple_9 k12_freeJob rfl rfl (c12_freeJob G hG _ _) (Nat.le_of_ble_eq_true rfl) ?_
    refine w_istore_n X dX12_simple_12 rfl (by decide) ?_
    refine w_aload_n X dX12_simple_13 rfl rfl ?_
    refine g12_fault X dX12_simple_14 ?_
    try simp only [gI_sI, gI_sL, gL_sI, gL_sL, false_and, and_false, and_self, if_false, if_true, reduceIte, Nat.reduceEqDiff, g2]
    refine w_if_ne (tgt := 33) X dX12_simple_17 (by decide) (fun h17 => ?_) (fun h17 => absurd h17 hf0)
    exact jf _ f w _ _ (pg_s5 g1 (by omega)) (by simpa [sI_] using g2) (by simpa [sI_] using g3) hpos hR.symm
  | inl q =>
    obtain ⟨q, p⟩ := q
    rw [hS] at h1 hR
    obtain ⟨g1, g2, g3, g4, g5, g6, g7⟩ := h1
    have esp : sp_ N1 n q = sp_ M n q := pg_sp g1
    have hspn := (sp_le (M := M) g4).2
    have gt := pg_tz g1 ht
    simp only [sb_] at hR
    have e4 : (sI_ N1 0 5 (nI (sp_ M n q))).1 0 3 = 0 := by simpa [sI_] using g2
    by_cases hsp : sp_ M n q < n
    · rw [if_pos hsp] at hR
      have k3 : (fa_ (sI_ N1 0 5 (nI (sp_ M n q))) 1 (nI (sp_ M n q))).1 0 3 = 1 := by rw [fa_0 e4]; simp [sI_]
      have k4 : (fa_ (sI_ N1 0 5 (nI (sp_ M n q))) 1 (nI (sp_ M n q))).1 0 4 = nI (sp_ M n q) := by rw [fa_0 e4]; simp [sI_]
      refine w_aload_n X dX12_simple_4 rfl rfl ?_
      refine w_v0fV X dX12_simple_5 k12_wantEnd rfl rfl (c12_wantEnd G hG _ N1 n q gt g3 (by omega)) (Nat.le_of_ble_eq_true rfl) ?_
      rw [esp]
      rw [if_pos ⟨g2, hsp⟩]
      refine w_aload_n X dX12_simple_8 rfl rfl ?_
      refine w_v0fI X dX12_simple_9 k12_freeJob rfl rfl (c12_freeJob G hG _ _) (Nat.le_of_ble_eq_true rfl) ?_
      refine w_istore_n X dX12_simple_12 rfl (by decide) ?_
      refine w_aload_n X dX12_simple_13 rfl rfl ?_
      refine g12_fault X dX12_simple_14 ?_
      try simp only [gI_sI, gI_sL, gL_sI, gL_sL, false_and, and_false, and_self, if_false, if_true, reduceIte, Nat.reduceEqDiff, k3]
      refine w_if_ne (tgt := 33) X dX12_simple_17 (by decide) (fun h17 => ?_) (fun h17 => absurd h17 (by decide))
      exact jf _ 1 _ _ _ (pg_fa (pg_s5 g1 (by omega))) k3 k4 (by decide) hR.symm
    · rw [if_neg hsp] at hR
      have n2 : N1.1 0 2 = nI n := gt.1
      have gp : pg_ M (sI_ N1 0 5 (nI (sp_ M n q))) := pg_s5 g1 (by omega)
      have efj : fj_ (sI_ N1 0 5 (nI (sp_ M n q))) 8 0 = fj_ M 8 0 := pg_fj gp
      rcases fj_two (M := M) 8 0 (by omega) with hj | ⟨b, -, hb, hj, hb0⟩
      · rw [hj, if_pos (by decide)] at hR
        refine w_aload_n X dX12_simple_4 rfl rfl ?_
        refine w_v0fV X dX12_simple_5 k12_wantEnd rfl rfl (c12_wantEnd G hG _ N1 n q gt g3 (by omega)) (Nat.le_of_ble_eq_true rfl) ?_
        rw [esp]
        rw [if_neg (fun y => hsp y.2)]
        refine w_aload_n X dX12_simple_8 rfl rfl ?_
        refine w_v0fI X dX12_simple_9 k12_freeJob rfl rfl (c12_freeJob G hG _ _) (Nat.le_of_ble_eq_true rfl) ?_
        rw [efj, hj]
        refine w_istore_n X dX12_simple_12 rfl (by decide) ?_
        refine w_aload_n X dX12_simple_13 rfl rfl ?_
        refine g12_fault X dX12_simple_14 ?_
        try simp only [gI_sI, gI_sL, gL_sI, gL_sL, false_and, and_false, and_self, if_false, if_true, reduceIte, Nat.reduceEqDiff, g2, n2]
        refine w_if_ne (tgt := 33) X dX12_simple_17 (by decide) (fun h17 => absurd rfl h17) (fun h17 => ?_)
        refine w_iload_n X dX12_simple_20 rfl rfl ?_
        refine w_if_ge (tgt := 33) X dX12_simple_21 (by decide) (fun h21 => absurd h21 (by decide)) (fun h21 => ?_)
        refine w_aload_n X dX12_simple_24 rfl rfl ?_
        refine w_iconst (v := 5) X dX12_simple_25 (by decide) ?_
        refine w_aload_n X dX12_simple_26 rfl rfl ?_
        refine g12_size X dX12_simple_27 ?_
        try simp only [gI_sI, gI_sL, gL_sI, gL_sL, false_and, and_false, and_self, if_false, if_true, reduceIte, Nat.reduceEqDiff, g2, n2]
        refine w_v2fV X dX12_simple_30 k12_fail rfl rfl (c12_fail G hG _ _ _ _) (Nat.le_of_ble_eq_true rfl) ?_
        exact jf _ 5 n _ _ (pg_fa gp) (by rw [fa_0 e4]; simp [sI_]) (by rw [fa_0 e4]; simp [sI_]) (by decide) hR.symm
      · have hnb : ¬ nI b < 0 := nI_pos (by omega)
        rw [hj, if_neg hnb] at hR
        refine w_aload_n X dX12_simple_4 rfl rfl ?_
        refine w_v0fV X dX12_simple_5 k12_wantEnd rfl rfl (c12_wantEnd G hG _ N1 n q gt g3 (by omega)) (Nat.le_of_ble_eq_true rfl) ?_
        rw [esp]
        rw [if_neg (fun y => hsp y.2)]
        refine w_aload_n X dX12_simple_8 rfl rfl ?_
        refine w_v0fI X dX12_simple_9 k12_freeJob rfl rfl (c12_freeJob G hG _ _) (Nat.le_of_ble_eq_true rfl) ?_
        rw [efj, hj]
        refine w_istore_n X dX12_simple_12 rfl (by decide) ?_
        refine w_aload_n X dX12_simple_13 rfl rfl ?_
        refine g12_fault X dX12_simple_14 ?_
        try simp only [gI_sI, gI_sL, gL_sI, gL_sL, false_and, and_false, and_self, if_false, if_true, reduceIte, Nat.reduceEqDiff, g2, n2]
        refine w_if_ne (tgt := 33) X dX12_simple_17 (by decide) (fun h17 => absurd rfl h17) (fun h17 => ?_)
        refine w_iload_n X dX12_simple_20 rfl rfl ?_
        refine w_if_ge (tgt := 33) X dX12_simple_21 (by decide) (fun h21 => ?_) (fun h21 => absurd (Int32.not_lt.mp hnb) h21)
        refine w_aload_n X dX12_simple_33 rfl rfl ?_
        refine g12_fault X dX12_simple_34 ?_
        try simp only [gI_sI, gI_sL, gL_sI, gL_sL, false_and, and_false, and_self, if_false, if_true, reduceIte, Nat.reduceEqDiff, g2, n2]
        refine w_if_le (tgt := 44) X dX12_simple_37 (by decide) (fun h37 => ?_) (fun h37 => absurd (by decide) h37)
        refine w_aload_n X dX12_simple_44 rfl rfl ?_
        refine w_iload_n X dX12_simple_45 rfl rfl ?_
        refine w_iload_n X dX12_simple_46 rfl rfl ?_
        refine w_v2fI X dX12_simple_47 k12_newJob rfl rfl (c12_newJob G hG _ _ b p (by omega) (by simpa [sI_] using g5) g6 kd) (Nat.le_of_ble_eq_true rfl) ?_
        refine w_irR X dX12_simple_50 ?_
        rw [← hR]
        refine ⟨b, _, rfl, by omega, hj, hb0, gp, e4, g6, fun i hi => ?_, rfl⟩
        rw [sI_ne _ _ _ _ (by omega)]
        exact g7 i hi
