/-! the reference: probes, by the abstract state -/
def RCo_ (k : Nat) (e : Term) (M : mm_) : Prop := wfX_ true e ∧ ixn_ 7 e ∧ nsb_ e ∧ sd_ M k (tm_ e) ∧ (tc_ (tm_ e)).length ≤ 40
theorem c12_peT (G : gg_) (hG : gd_ G) (d : Nat) (M : mm_) (k : Nat) (hk : k < 32) (e : Term) (V : Nat → Int32) (s : sgA_) (hc : RCo_ k e M) (hV : ∀ i, i < 7 → M.1 30 i = V i) : cm_ G yX12_probeExpression cX12_probeExpression 9 none (d + 1) [.ref (G.1 0), .int (nI k)] M (rV_ (fun N => fpE_ M N ∧ ((N.1 0 59 = 0 ∧ xpA_ V e s = .inl (N.1 0 58)) ∨ (N.1 0 59 = 1 ∧ xpA_ V e s = .inr (N.1 0 58))))) := by
  obtain ⟨w, hi, hn, hs, hl⟩ := hc
  obtain ⟨M0, hM0⟩ : ∃ M0, sI_ M 0 59 0 = M0 := ⟨_, rfl⟩
  have m2 : M0.2 = M.2 := by rw [← hM0]; rfl
  have mo : ∀ a i, ¬ (a = 0 ∧ i = 59) → M0.1 a i = M.1 a i := fun a i z => by rw [← hM0, gI_sI, if_neg (fun y => z ⟨y.1, y.2⟩)]
  have hR : RE_ k (tc_ (tm_ e)).length M0 (tc_ (tm_ e)) V := ⟨by rw [mo _ _ (by omega)]; exact hs.1, rfl, hl, fun i x hx => by rw [mo _ _ (by omega), m2]; exact hs.2 i x hx, fun i hi => by rw [mo _ _ (by omega)]; exact hV i hi⟩
  have f0 : ∀ N, fpE_ M0 N → fpE_ M N := fun N h => ⟨h.1.trans m2, fun a i h1 h2 h3 h4 => by rw [h.2 a i h1 h2 h3 h4, mo a i (by omega)]⟩
  refine c12_probeExpressionE G hG d M k (tc_ (tm_ e)).length hk hl _ ((tc_ (tm_ e)).length + 1) ?_
  rw [hM0]
  refine TRE_ hR true e w hi hn 0 _ [] [] s M0 (fun i q hq => by rw [Nat.zero_add]; exact hq) (by simp) (by simp) (by simp) (by omega) ⟨⟨rfl, fun _ _ _ _ _ _ => rfl⟩, trivial, trivial, by rw [← hM0, gI_sI, if_pos ⟨rfl, rfl⟩]⟩ ?_
  rw [Nat.zero_add]
  unfold xpA_
  cases ho : ES_ I0_ V e [] s with
  | mk o s2 =>
    cases o with
    | inl t2 =>
      obtain ⟨x, rfl⟩ := (ES_sh I0_ V true e w [] s t2 s2 ho).1 rfl
      intro N u hz hu
      obtain ⟨u, rfl⟩ : ∃ v, u = v + 1 := ⟨u - 1, by omega⟩
      refine ⟨by rw [hz.1.2 4 k (by decide) (by decide) (by decide) (by omega)]; exact hR.1, by simp, by simp, fun _ => ?_, fun y => by omega⟩
      have hx : N.1 31 0 = x := hz.2.1.1
      refine ⟨fpE_I (f0 N hz.1) (Or.inr (Or.inr (Or.inr ⟨rfl, Or.inl rfl⟩))), Or.inl ⟨by rw [gI_sI, if_neg (by omega)]; exact hz.2.2.2, ?_⟩⟩
      rw [gI_sI, if_pos ⟨rfl, rfl⟩, hx]
      rfl
    | inr q =>
      intro N a u hz h58 h1 h2 hu
      refine ⟨fun _ => ?_, fun y => absurd y (by simp)⟩
      refine ⟨fpE_I (f0 N hz.1) (Or.inr (Or.inr (Or.inr ⟨rfl, Or.inr rfl⟩))), Or.inr ⟨by rw [gI_sI, if_pos ⟨rfl, rfl⟩], ?_⟩⟩
      rw [gI_sI, if_neg (by omega), h58]
/-- what probes change -/
def fF_ (M N : mm_) : Prop := N.2 = M.2 ∧ ∀ a i, ¬ pzR_ a i → N.1 a i = M.1 a i
theorem fF_rf {M : mm_} : fF_ M M := ⟨rfl, fun _ _ _ => rfl⟩
theorem fF_tr {A B D : mm_} (h : fF_ A B) (g : fF_ B D) : fF_ A D := ⟨g.1.trans h.1, fun a i z => (g.2 a i z).trans (h.2 a i z)⟩
theorem fF_I {M N : mm_} {a i : Nat} {v : Int32} (h : fF_ M N) (ha : pzR_ a i) : fF_ M (sI_ N a i v) := ⟨h.1, fun b j z => by rw [gI_sI, if_neg (fun y => z (by rw [y.1, y.2]; exact ha))]; exact h.2 b j z⟩
theorem fF_pe {M N : mm_} (h : fpE_ M N) : fF_ M N := ⟨h.1, fun a i z => h.2 a i (fun y => z (by unfold pzR_; omega)) (fun y => z (by unfold pzR_; omega)) (fun y => z (by unfold pzR_; omega)) (fun y => z (by unfold pzR_; omega))⟩
/-- the moving state, in the reference -/
def DR_ (s : sgA_) (N : mm_) : Prop := (∀ j, j < 8 → N.1 12 j = s.1 j ∧ (s.1 j = 1 → N.1 15 j = s.2.1 j) ∧ (s.1 j = 2 → ∀ i, i < 48 → N.1 20 (48 * j + i) = s.2.2.1 j i)) ∧
  (N.1 0 35 = nI s.2.2.2.1.1 ∧ s.2.2.2.1.1 ≤ 300 ∧ ∀ i, i < s.2.2.2.1.1 * 5 → N.1 21 i = s.2.2.2.1.2 i) ∧
  (N.1 0 37 = nI s.2.2.2.2.1.1 ∧ s.2.2.2.2.1.1 ≤ 40 ∧ ∀ i, i < s.2.2.2.2.1.1 * 7 → N.1 22 i = s.2.2.2.2.1.2 i) ∧ N.1 0 40 = nI s.2.2.2.2.2 ∧ s.2.2.2.2.2 ≤ 1000
def dcR_ (a i : Nat) : Prop := a = 12 ∨ a = 15 ∨ a = 20 ∨ a = 21 ∨ a = 22 ∨ (a = 0 ∧ (i = 35 ∨ i = 37 ∨ i = 40))
theorem DR_cg {s : sgA_} {M N : mm_} (h : ∀ a i, dcR_ a i → N.1 a i = M.1 a i) (g : DR_ s M) : DR_ s N := by
  obtain ⟨g1, ⟨a1, a2, a3⟩, ⟨b1, b2, b3⟩, g4, g5⟩ := g
  refine ⟨fun j hj => ?_, ⟨by rw [h _ _ (by unfold dcR_; omega)]; exact a1, a2, fun i hi => by rw [h _ _ (by unfold dcR_; omega)]; exact a3 i hi⟩, ⟨by rw [h _ _ (by unfold dcR_; omega)]; exact b1, b2, fun i hi => by rw [h _ _ (by unfold dcR_; omega)]; exact b3 i hi⟩, by rw [h _ _ (by unfold dcR_; omega)]; exact g4, g5⟩
  obtain ⟨c1, c2, c3⟩ := g1 j hj
  exact ⟨by rw [h _ _ (by unfold dcR_; omega)]; exact c1, fun z => by rw [h _ _ (by unfold dcR_; omega)]; exact c2 z, fun z i hi => by rw [h _ _ (by unfold dcR_; omega)]; exact c3 z i hi⟩
theorem DR_I {s : sgA_} {N : mm_} {a i : Nat} {v : Int32} (ha : ¬ dcR_ a i) (g : DR_ s N) : DR_ s (sI_ N a i v) := DR_cg (fun b j z => by rw [gI_sI, if_neg (fun y => ha (by rw [← y.1, ← y.2]; exact z))]) g
theorem DR_pe {s : sgA_} {M N : mm_} (h : fpE_ M N) (g : DR_ s M) : DR_ s N := DR_cg (fun a i z => h.2 a i (fun y => by unfold dcR_ at z; omega) (fun y => by unfold dcR_ at z; omega) (fun y => by unfold dcR_ at z; omega) (fun y => by unfold dcR_ at z; omega)) g
theorem DR_M {s : sgA_} {N : mm_} {j : Nat} {v : Int32} (g : DR_ s N) : DR_ (sM_ s j v) (sI_ N 15 j v) := by
  obtain ⟨g1, ⟨a1, a2, a3⟩, ⟨b1, b2, b3⟩, g4, g5⟩ := g
  refine ⟨fun i hi => ?_, ⟨by rw [gI_sI, if_neg (by omega)]; exact a1, a2, fun i hi => by rw [gI_sI, if_neg (by omega)]; exact a3 i hi⟩, ⟨by rw [gI_sI, if_neg (by omega)]; exact b1, b2, fun i hi => by rw [gI_sI, if_neg (by omega)]; exact b3 i hi⟩, by rw [gI_sI, if_neg (by omega)]; exact g4, g5⟩
  obtain ⟨c1, c2, c3⟩ := g1 i hi
  refine ⟨by rw [gI_sI, if_neg (by omega)]; exact c1, fun z => ?_, fun z x hx => by rw [gI_sI, if_neg (by omega)]; exact c3 z x hx⟩
  show _ = if i = j then v else s.2.1 i
  by_cases e : i = j
  · rw [e, gI_sI, if_pos ⟨rfl, rfl⟩, if_pos rfl]
  · rw [if_neg e, gI_sI, if_neg (fun y => e y.2)]; exact c2 z
theorem DR_K {s : sgA_} {N : mm_} {j : Nat} (g : DR_ s N) : DR_ (sK_ s j 0) (sI_ N 12 j 0) := by
  obtain ⟨g1, ⟨a1, a2, a3⟩, ⟨b1, b2, b3⟩, g4, g5⟩ := g
  refine ⟨fun i hi => ?_, ⟨by rw [gI_sI, if_neg (by omega)]; exact a1, a2, fun i hi => by rw [gI_sI, if_neg (by omega)]; exact a3 i hi⟩, ⟨by rw [gI_sI, if_neg (by omega)]; exact b1, b2, fun i hi => by rw [gI_sI, if_neg (by omega)]; exact b3 i hi⟩, by rw [gI_sI, if_neg (by omega)]; exact g4, g5⟩
  obtain ⟨c1, c2, c3⟩ := g1 i hi
  show (_ = if i = j then 0 else s.1 i) ∧ ((if i = j then 0 else s.1 i) = 1 → _) ∧ ((if i = j then 0 else s.1 i) = 2 → _)
  by_cases e : i = j
  · rw [if_pos e]
    exact ⟨by rw [e, gI_sI, if_pos ⟨rfl, rfl⟩], fun z => absurd z (by decide), fun z => absurd z (by decide)⟩
  · rw [if_neg e]
    exact ⟨by rw [gI_sI, if_neg (fun y => e y.2)]; exact c1, fun z => by rw [gI_sI, if_neg (by omega)]; exact c2 z, fun z x hx => by rw [gI_sI, if_neg (by omega)]; exact c3 z x hx⟩
theorem DR_rc {s : sgA_} {N : mm_} {j m q : Nat} (g : DR_ s N) : DR_ (sR5_ s (l5_ (nI j) (nI m) (N.1 0 58) (if N.1 0 59 = 0 then 0 else 1) (nI q))) (rc_ N s.2.2.2.1.1 (nI j) (nI m) (nI q)) := by
  obtain ⟨g1, ⟨a1, a2, a3⟩, ⟨b1, b2, b3⟩, g4, g5⟩ := id g
  unfold sR5_ rc_
  by_cases h : s.2.2.2.1.1 < 300
  · rw [if_pos h, if_pos h]
    obtain ⟨er, her⟩ : ∃ er, er = (if N.1 0 59 = 0 then (0 : Int32) else 1) := ⟨_, rfl⟩
    rw [← her]
    have o : ∀ a i, ¬ a = 21 → ¬ (a = 0 ∧ i = 35) → (sI_ (sI_ (sI_ (sI_ (sI_ (sI_ N 21 (5 * s.2.2.2.1.1) (nI j)) 21 (5 * s.2.2.2.1.1 + 1) (nI m)) 21 (5 * s.2.2.2.1.1 + 2) (N.1 0 58)) 21 (5 * s.2.2.2.1.1 + 3) er) 21 (5 * s.2.2.2.1.1 + 4) (nI q)) 0 35 (nI (s.2.2.2.1.1 + 1))).1 a i = N.1 a i := fun a i z1 z2 => by
      rw [gI_sI, if_neg z2, gI_sI, if_neg (fun y => z1 y.1), gI_sI, if_neg (fun y => z1 y.1), gI_sI, if_neg (fun y => z1 y.1), gI_sI, if_neg (fun y => z1 y.1), gI_sI, if_neg (fun y => z1 y.1)]
    refine ⟨fun i hi => ?_, ⟨?_, by simp only; omega, fun i hi => ?_⟩, ⟨by rw [o _ _ (by omega) (by omega)]; exact b1, b2, fun i hi => by rw [o _ _ (by omega) (by omega)]; exact b3 i hi⟩, by rw [o _ _ (by omega) (by omega)]; exact g4, g5⟩
    · obtain ⟨c1, c2, c3⟩ := g1 i hi
      exact ⟨by rw [o _ _ (by omega) (by omega)]; exact c1, fun z => by rw [o _ _ (by omega) (by omega)]; exact c2 z, fun z x hx => by rw [o _ _ (by omega) (by omega)]; exact c3 z x hx⟩
    · rw [gI_sI, if_pos ⟨rfl, rfl⟩]
    · rw [gI_sI, if_neg (by omega)]
      have hw := w5r_ (A := N) (a := 21) (q := 5 * s.2.2.2.1.1) (i := i) (v0 := nI j) (v1 := nI m) (v2 := N.1 0 58) (v3 := er) (v4 := nI q)
      refine hw.trans ?_
      simp only
      unfold rw5_
      rw [Nat.mul_comm 5]
      by_cases z : s.2.2.2.1.1 * 5 ≤ i ∧ i < s.2.2.2.1.1 * 5 + 5
      · rw [if_pos z, if_pos z]
      · rw [if_neg z, if_neg z]; exact a3 i (by simp only at hi; omega)
  · rw [if_neg h, if_neg h]; exact g
theorem sR5_M {s : sgA_} {j : Nat} {v : Int32} {g : Nat → Int32} : sR5_ (sM_ s j v) g = sM_ (sR5_ s g) j v := by
  have e : (sM_ s j v).2.2.2.1.1 = s.2.2.2.1.1 := rfl
  unfold sR5_
  rw [e]
  by_cases h : s.2.2.2.1.1 < 300
  · rw [if_pos h, if_pos h]; rfl
  · rw [if_neg h, if_neg h]
theorem sR5_K {s : sgA_} {j : Nat} {v : Int32} {g : Nat → Int32} : sR5_ (sK_ s j v) g = sK_ (sR5_ s g) j v := by
  have e : (sK_ s j v).2.2.2.1.1 = s.2.2.2.1.1 := rfl
  unfold sR5_
  rw [e]
  by_cases h : s.2.2.2.1.1 < 300
  · rw [if_pos h, if_pos h]; rfl
  · rw [if_neg h, if_neg h]
/-- a watch that lives has room -/
def WL_ (E : se_) (s : sgA_) : Prop := ∀ j, j < 8 → s.1 j = 1 → ∃ a l, s.2.1 j = nI a ∧ E.2.2.2.2.1 j = nI l ∧ a < l ∧ l ≤ 99
theorem rc_oth {N : mm_} {c : Nat} {j m e : Int32} {a i : Nat} (z1 : ¬ a = 21) (z2 : ¬ (a = 0 ∧ i = 35)) : (rc_ N c j m e).1 a i = N.1 a i := by
  unfold rc_
  split
  · rw [gI_sI, if_neg z2, gI_sI, if_neg (fun y => z1 y.1), gI_sI, if_neg (fun y => z1 y.1), gI_sI, if_neg (fun y => z1 y.1), gI_sI, if_neg (fun y => z1 y.1), gI_sI, if_neg (fun y => z1 y.1)]
  · rfl
theorem rc_two {N : mm_} {c : Nat} {j m e : Int32} : (rc_ N c j m e).2 = N.2 := by
  unfold rc_; split <;> rfl
theorem rd_oth {N : mm_} {c b : Nat} {m e : Int32} {a i : Nat} (z : ¬ pzR_ a i) : (rd_ N c b m e).1 a i = N.1 a i := by
  unfold pzR_ at z
  unfold rd_
  split
  · rw [gI_sI, if_neg (by omega), gI_sI, if_neg (by omega), rc_oth (by omega) (by omega)]
  · rw [gI_sI, if_neg (by omega), rc_oth (by omega) (by omega)]
theorem rd_two {N : mm_} {c b : Nat} {m e : Int32} : (rd_ N c b m e).2 = N.2 := by
  unfold rd_; split
  · exact rc_two
  · exact rc_two
theorem DR_rd {E : se_} {s : sgA_} {N : mm_} {j m q : Nat} {x : Int32} (hj : j < 8) (hk : s.1 j = 1) (hL : WL_ E s) (hl : N.1 14 j = E.2.2.2.2.1 j) (h58 : N.1 0 58 = x) (g : DR_ s N) : DR_ (rcA_ E j m q x (if N.1 0 59 = 0 then 0 else 1) s) (rd_ N s.2.2.2.1.1 j (nI m) (nI q)) := by
  obtain ⟨a, l, ha, he, hal, hl99⟩ := hL j hj hk
  have h15 : N.1 15 j = nI a := ((g.1 j hj).2.1 hk).trans ha
  have hR := DR_rc (j := j) (m := m) (q := q) g
  rw [h58] at hR
  unfold rcA_ rd_
  rw [h15, hl, he, ha, nI_1]
  by_cases y : a + 1 < l
  · rw [if_pos (nI_lt y (by omega)), if_neg (show ¬ nI (a + 1) = nI l from fun z => by have := (nI_eq (by omega) (by omega)).mp z; omega), sR5_M]
    exact DR_M hR
  · rw [if_neg (fun z => y ((nI_ltI (by omega) (by omega)).mp z)), if_pos (show nI (a + 1) = nI l by rw [show a + 1 = l by omega]), sR5_K, sR5_M]
    exact DR_K (DR_M hR)
theorem rcA_12 {E : se_} {j m d : Nat} {x e : Int32} {s : sgA_} : (rcA_ E j m d x e s).1 = (if s.2.1 j + 1 < E.2.2.2.2.1 j then sM_ s j (s.2.1 j + 1) else sK_ (sM_ s j (s.2.1 j + 1)) j 0).1 ∧ (rcA_ E j m d x e s).2.1 = (sM_ s j (s.2.1 j + 1)).2.1 := by
  unfold rcA_
  split
  · rw [sR5_M]; unfold sR5_; split <;> exact ⟨rfl, rfl⟩
  · rw [sR5_K, sR5_M]; unfold sR5_; split <;> exact ⟨rfl, rfl⟩
theorem WL_rc {E : se_} {j m d : Nat} {x e : Int32} {s : sgA_} (hj : j < 8) (hk : s.1 j = 1) (h : WL_ E s) : WL_ E (rcA_ E j m d x e s) := by
  intro i hi hi1
  obtain ⟨a, l, ha, he, hal, hl99⟩ := h j hj hk
  rw [rcA_12.1, ha, he, nI_1] at hi1
  rw [rcA_12.2, ha, nI_1]
  show ∃ a2 l, (if i = j then nI (a + 1) else s.2.1 i) = nI a2 ∧ _
  by_cases e2 : i = j
  · subst e2
    rw [if_pos rfl]
    by_cases y : a + 1 < l
    · exact ⟨a + 1, l, rfl, he, y, hl99⟩
    · rw [if_neg (fun z => y ((nI_ltI (by omega) (by omega)).mp z))] at hi1
      have : (if i = i then (0 : Int32) else s.1 i) = 1 := hi1
      rw [if_pos rfl] at this
      exact absurd this (by decide)
  · rw [if_neg e2]
    refine h i hi ?_
    split at hi1
    · exact hi1
    · have : (if i = j then (0 : Int32) else s.1 i) = 1 := hi1
      rwa [if_neg e2] at this
theorem WL_wg {E : se_} {j m d : Nat} {V : Nat → Int32} {s : sgA_} (hj : j < 8) (hk : s.1 j = 1) (h : WL_ E s) : WL_ E (wgA_ E j m d V s) := by
  unfold wgA_
  split <;> exact WL_rc hj hk h
theorem WL_wt {E : se_} {j m d : Nat} {V : Nat → Int32} {s : sgA_} (hj : j < 8) (hk : s.1 j = 1) (h : WL_ E s) : WL_ E (wtA_ E j m d V s) := by
  unfold wtA_
  split
  · exact WL_wg hj hk h
  · split
    · split
      · exact h
      · exact WL_wg hj hk h
    · exact WL_rc hj hk h
theorem kp_km {j m p : Nat} {P : Nat → Int32} {v : Int32} {s : sgA_} : (kpA_ j m p P v s).1 = s.1 ∧ (kpA_ j m p P v s).2.1 = s.2.1 := by
  unfold kpA_ sE7_
  split
  · exact ⟨rfl, rfl⟩
  · split <;> exact ⟨rfl, rfl⟩
theorem DR_ko {s : sgA_} {N : mm_} {j m p q : Nat} {P : Nat → Int32} {v : Int32} (hp : p = 1 ∨ p = 2) (h23 : N.1 23 q = nI m) (hP : ∀ i, i < 3 → N.1 24 (3 * q + i) = P i) (g : DR_ s N) : DR_ (kpA_ j m p P v s) (ko_ N s.2.2.2.2.1.1 q (nI j) (nI p) v) ∧ fF_ N (ko_ N s.2.2.2.2.1.1 q (nI j) (nI p) v) := by
  obtain ⟨g1, ⟨a1, a2, a3⟩, ⟨b1, b2, b3⟩, g4, g5⟩ := id g
  unfold kpA_ sE7_ ko_
  rw [if_neg (show ¬ p = 0 by omega)]
  by_cases h : s.2.2.2.2.1.1 < 40
  · rw [if_pos h, if_neg (show ¬ s.2.2.2.2.1.1 = 40 by omega)]
    have e5 : nI p - 1 = if p = 2 then (1 : Int32) else 0 := by rcases hp with rfl | rfl <;> decide
    rw [e5, h23]
    obtain ⟨er, her⟩ : ∃ er, er = (if p = 2 then (1 : Int32) else 0) := ⟨_, rfl⟩
    rw [← her]
    unfold kp_ kp_ kp_ kp_
    rw [gI_sI, if_neg (by omega), gI_sI, if_neg (by omega), gI_sI, if_neg (by omega), gI_sI, if_neg (by omega), gI_sI, if_neg (by omega), gI_sI, if_neg (by omega), hP 0 (by omega), hP 1 (by omega), hP 2 (by omega)]
    have hw := fun i => w7_7 (A := N) (a := 22) (q := 7 * s.2.2.2.2.1.1) (i := i) (v0 := nI j) (v1 := nI m) (v2 := P 0) (v3 := P 1) (v4 := P 2) (v5 := er) (v6 := v)
    obtain ⟨B, hB⟩ : ∃ B, sI_ (sI_ (sI_ (sI_ (sI_ (sI_ (sI_ N 22 (7 * s.2.2.2.2.1.1 + 0) (nI j)) 22 (7 * s.2.2.2.2.1.1 + 1) (nI m)) 22 (7 * s.2.2.2.2.1.1 + 2) (P 0)) 22 (7 * s.2.2.2.2.1.1 + 3) (P 1)) 22 (7 * s.2.2.2.2.1.1 + 4) (P 2)) 22 (7 * s.2.2.2.2.1.1 + 5) er) 22 (7 * s.2.2.2.2.1.1 + 6) v = B := ⟨_, rfl⟩
    rw [hB] at hw
    have o : ∀ a i, ¬ a = 22 → B.1 a i = N.1 a i := fun a i z1 => by
      rw [← hB, gI_sI, if_neg (fun y => z1 y.1), gI_sI, if_neg (fun y => z1 y.1), gI_sI, if_neg (fun y => z1 y.1), gI_sI, if_neg (fun y => z1 y.1), gI_sI, if_neg (fun y => z1 y.1), gI_sI, if_neg (fun y => z1 y.1), gI_sI, if_neg (fun y => z1 y.1)]
    have o2 : B.2 = N.2 := by rw [← hB]; rfl
    show DR_ _ (sI_ (sI_ (sI_ (sI_ (sI_ (sI_ (sI_ (sI_ N 22 (7 * s.2.2.2.2.1.1 + 0) (nI j)) 22 (7 * s.2.2.2.2.1.1 + 1) (nI m)) 22 (7 * s.2.2.2.2.1.1 + 2) (P 0)) 22 (7 * s.2.2.2.2.1.1 + 3) (P 1)) 22 (7 * s.2.2.2.2.1.1 + 4) (P 2)) 22 (7 * s.2.2.2.2.1.1 + 5) er) 22 (7 * s.2.2.2.2.1.1 + 6) v) 0 37 (nI (s.2.2.2.2.1.1 + 1))) ∧ fF_ N (sI_ (sI_ (sI_ (sI_ (sI_ (sI_ (sI_ (sI_ N 22 (7 * s.2.2.2.2.1.1 + 0) (nI j)) 22 (7 * s.2.2.2.2.1.1 + 1) (nI m)) 22 (7 * s.2.2.2.2.1.1 + 2) (P 0)) 22 (7 * s.2.2.2.2.1.1 + 3) (P 1)) 22 (7 * s.2.2.2.2.1.1 + 4) (P 2)) 22 (7 * s.2.2.2.2.1.1 + 5) er) 22 (7 * s.2.2.2.2.1.1 + 6) v) 0 37 (nI (s.2.2.2.2.1.1 + 1)))
    rw [hB]
    have o3 : ∀ a i, ¬ a = 22 → ¬ (a = 0 ∧ i = 37) → (sI_ B 0 37 (nI (s.2.2.2.2.1.1 + 1))).1 a i = N.1 a i := fun a i z1 z2 => by rw [gI_sI, if_neg z2, o a i z1]
    refine ⟨⟨fun i hi => ?_, ⟨by rw [o3 _ _ (by omega) (by omega)]; exact a1, a2, fun i hi => by rw [o3 _ _ (by omega) (by omega)]; exact a3 i hi⟩, ⟨by rw [gI_sI, if_pos ⟨rfl, rfl⟩], by simp only; omega, fun i hi => ?_⟩, by rw [o3 _ _ (by omega) (by omega)]; exact g4, g5⟩, o2, fun a i z => o3 a i (fun y => z (by unfold pzR_; omega)) (fun y => z (by unfold pzR_; omega))⟩
    · obtain ⟨c1, c2, c3⟩ := g1 i hi
      exact ⟨by rw [o3 _ _ (by omega) (by omega)]; exact c1, fun z => by rw [o3 _ _ (by omega) (by omega)]; exact c2 z, fun z x hx => by rw [o3 _ _ (by omega) (by omega)]; exact c3 z x hx⟩
    · rw [gI_sI, if_neg (by omega), hw i]
      simp only
      unfold rw5_
      rw [Nat.mul_comm 7]
      by_cases z : s.2.2.2.2.1.1 * 7 ≤ i ∧ i < s.2.2.2.2.1.1 * 7 + 7
      · rw [if_pos z, if_pos z]
        obtain ⟨x, rfl⟩ : ∃ x, i = s.2.2.2.2.1.1 * 7 + x := ⟨i - s.2.2.2.2.1.1 * 7, by omega⟩
        rw [Nat.add_sub_cancel_left]
        obtain rfl | rfl | rfl | rfl | rfl | rfl | rfl : x = 0 ∨ x = 1 ∨ x = 2 ∨ x = 3 ∨ x = 4 ∨ x = 5 ∨ x = 6 := by omega
        all_goals rfl
      · rw [if_neg z, if_neg z]; exact b3 i (by simp only at hi; omega)
  · rw [if_neg h, if_pos (show s.2.2.2.2.1.1 = 40 by omega)]
    exact ⟨g, fF_rf⟩
theorem DR_ct {s : sgA_} {N : mm_} {j i : Nat} {v : Int32} (hj : j < 8) (hi : i < 48) (g : DR_ s N) : DR_ (sCA_ s j i v) (sI_ N 20 (48 * j + i) v) := by
  obtain ⟨g1, ⟨a1, a2, a3⟩, ⟨b1, b2, b3⟩, g4, g5⟩ := g
  refine ⟨fun k hk => ?_, ⟨by rw [gI_sI, if_neg (by omega)]; exact a1, a2, fun i hi => by rw [gI_sI, if_neg (by omega)]; exact a3 i hi⟩, ⟨by rw [gI_sI, if_neg (by omega)]; exact b1, b2, fun i hi => by rw [gI_sI, if_neg (by omega)]; exact b3 i hi⟩, by rw [gI_sI, if_neg (by omega)]; exact g4, g5⟩
  obtain ⟨c1, c2, c3⟩ := g1 k hk
  refine ⟨by rw [gI_sI, if_neg (by omega)]; exact c1, fun z => by rw [gI_sI, if_neg (by omega)]; exact c2 z, fun z x hx => ?_⟩
  show _ = if k = j ∧ x = i then v else s.2.2.1 k x
  by_cases e : k = j ∧ x = i
  · obtain ⟨rfl, rfl⟩ := e
    rw [gI_sI, if_pos ⟨rfl, rfl⟩, if_pos ⟨rfl, rfl⟩]
  · rw [if_neg e, gI_sI, if_neg (fun y => e (by omega))]; exact c3 z x hx
