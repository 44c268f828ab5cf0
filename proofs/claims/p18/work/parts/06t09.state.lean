/-! the reader's states: ST_ no fault, at p, m nodes, o brackets open, the code C, the stack H high; FT_ a fault -/
def ST_ (k : Nat) (M : mm_) (p m o : Nat) (C : List cq2_) (H : Int32) : Prop := M.1 37 2 = 0 ∧ M.1 37 1 = nI p ∧ M.1 39 4 = nI m ∧ M.1 39 5 = nI o ∧ M.1 39 6 = 0 ∧ hd_ k M C ∧ M.1 k 5 = H
def FT_ (k : Nat) (M : mm_) : Prop := ¬ M.1 37 2 = 0 ∧ ∃ L, L ≤ 26 ∧ M.1 k 4 = nI L
def PE_ (k n : Nat) (v : Int32) (nm : Bool) (M : mm_) : Prop := cdX_ k ∧ tpX_ M n ∧ M.2.2 39 1 = some k ∧ M.1 39 2 = v ∧ M.1 39 3 = (if nm = true then 1 else 0)
theorem PE_cf {k n : Nat} {v : Int32} {nm : Bool} {M N : mm_} (h : PE_ k n v nm M) (g : cf_ k M N) : PE_ k n v nm N := ⟨h.1, cf_tp (cd_kb h.1) g h.2.1, by rw [g.1]; exact h.2.2.1, by rw [g.2.2.2.1]; exact h.2.2.2.1, by rw [g.2.2.2.2]; exact h.2.2.2.2⟩
theorem rF37 {k i : Nat} {M : mm_} {v : Int32} (hk : kb_ k) (h : FT_ k M) (hi : ¬ i = 2) : FT_ k (sI_ M 37 i v) := by
  unfold kb_ at hk
  obtain ⟨h1, L, h2, h3⟩ := h
  refine ⟨?_, L, h2, ?_⟩
  · rw [gI_sI, if_neg (by omega)]; exact h1
  · rw [gI_sI, if_neg (by omega)]; exact h3
theorem rF39 {k i : Nat} {M : mm_} {v : Int32} (hk : kb_ k) (h : FT_ k M) : FT_ k (sI_ M 39 i v) := by
  unfold kb_ at hk
  obtain ⟨h1, L, h2, h3⟩ := h
  refine ⟨?_, L, h2, ?_⟩
  · rw [gI_sI, if_neg (by omega)]; exact h1
  · rw [gI_sI, if_neg (by omega)]; exact h3
theorem rFoF {k : Nat} {M : mm_} (hk : kb_ k) (h : FT_ k M) : FT_ k (oF_ M) := rF39 hk (rF37 hk h (by decide))
theorem rFep {k : Nat} {M : mm_} {c : Int32} (hk : kb_ k) (h : FT_ k M) : FT_ k (ep_ M c) := by
  unfold ep_
  rw [fi_F h.1]
  split <;> exact rF37 hk h (by decide)
theorem rFcN {k : Nat} {M : mm_} {x : Int32} (hk : kb_ k) (h : FT_ k M) : FT_ k (cN_ M x) := by
  unfold cN_
  rw [fi_F h.1]
  split <;> exact rF39 hk h
theorem rFk {k a i : Nat} {M : mm_} {v : Int32} (hk : kb_ k) (h : FT_ k M) (h1 : k ≤ a) (h2 : a ≤ k + 4) (h3 : ¬ (a = k ∧ i = 4)) : FT_ k (sI_ M a i v) := by
  unfold kb_ at hk
  obtain ⟨g1, L, g2, g3⟩ := h
  refine ⟨?_, L, g2, ?_⟩
  · rw [gI_sI, if_neg (by omega)]; exact g1
  · rw [gI_sI, if_neg (by omega)]; exact g3
theorem rFad {k L : Nat} {M : mm_} {p : Int32} {o : Int64} (hk : kb_ k) (h : FT_ k M) (hL : M.1 k 4 = nI L) (hl : L ≤ 26) : FT_ k (ad_ M k L p o) := by
  have e : FT_ k (sI_ M k 5 (M.1 k 5 + rsX_ p o)) := rFk hk h (by omega) (by omega) (by omega)
  unfold ad_; split
  · rename_i hlt
    refine ⟨?_, L + 1, by omega, ?_⟩
    · unfold kb_ at hk
      rw [gI_sI, if_neg (by omega), gI_sI, if_neg (by omega), gI_sL, gI_sI, if_neg (by omega)]
      exact e.1
    · rw [gI_sI, if_pos (by simp)]
  · exact e
theorem rFae {k L : Nat} {M : mm_} {x : Int32} (hk : kb_ k) (h : FT_ k M) (hL : M.1 k 4 = nI L) (hl : L ≤ 26) : FT_ k (ae_ M k L x) := by
  unfold ae_; split
  · exact rFk hk (rFad hk h hL hl) (by omega) (by omega) (by omega)
  · exact rFad hk h hL hl
theorem rFlh {k a : Nat} {M : mm_} (h : FT_ k M) : FT_ k (lh2_ M k a) := by
  unfold lh2_; split
  · exact h
  · exact h
/-- a step more, where there is no fault -/
theorem gad {k p m o : Nat} {M : mm_} {C : List cq2_} {H : Int32} {q : Int32} {d : Int64} (hk : kb_ k) (h : ST_ k M p m o C H) (hl : C.length < 26) (hq : ¬ q = 6) : ST_ k (ad_ M k C.length q d) p m o (C ++ [(q, d, 0, H + rsX_ q d)]) (H + rsX_ q d) := by
  obtain ⟨h1, h2, h3, h4, h5, ⟨h6, h7⟩, h8⟩ := h
  unfold kb_ at hk
  unfold ad_
  rw [if_pos hl, h8]
  refine ⟨?_, ?_, ?_, ?_, ?_, ⟨?_, ?_⟩, ?_⟩
  · simp only [gI_sI, gI_sL]; rw [if_neg (by omega), if_neg (by omega), if_neg (by omega), if_neg (by omega)]; exact h1
  · simp only [gI_sI, gI_sL]; rw [if_neg (by omega), if_neg (by omega), if_neg (by omega), if_neg (by omega)]; exact h2
  · simp only [gI_sI, gI_sL]; rw [if_neg (by omega), if_neg (by omega), if_neg (by omega), if_neg (by omega)]; exact h3
  · simp only [gI_sI, gI_sL]; rw [if_neg (by omega), if_neg (by omega), if_neg (by omega), if_neg (by omega)]; exact h4
  · simp only [gI_sI, gI_sL]; rw [if_neg (by omega), if_neg (by omega), if_neg (by omega), if_neg (by omega)]; exact h5
  · rw [gI_sI, if_pos (by simp), List.length_append]; rfl
  · intro j x hx
    by_cases hj : j < C.length
    · rw [List.getElem?_append_left hj] at hx
      obtain ⟨g1, g2, g3, g4⟩ := h7 j x hx
      simp only [gI_sI, gI_sL, gL_sI, gL_sL]
      refine ⟨?_, ?_, fun z => ?_, ?_⟩
      · rw [if_neg (by omega), if_neg (by omega), if_neg (by omega), if_neg (by omega)]; exact g1
      · rw [if_neg (by omega)]; exact g2
      · rw [if_neg (by omega), if_neg (by omega), if_neg (by omega), if_neg (by omega)]; exact g3 z
      · rw [if_neg (by omega), if_neg (by omega), if_neg (by omega), if_neg (by omega)]; exact g4
    · have hj2 : j = C.length := by
        have := (List.getElem?_eq_some_iff.mp hx).1
        rw [List.length_append] at this
        simp at this
        omega
      subst hj2
      rw [List.getElem?_append_right (Nat.le_refl _), Nat.sub_self] at hx
      cases hx
      simp only [gI_sI, gI_sL, gL_sI, gL_sL]
      refine ⟨?_, ?_, fun z => absurd z hq, ?_⟩
      · rw [if_neg (by omega), if_neg (by omega), if_pos (by simp)]
      · rw [if_pos (by simp)]
      · rw [if_neg (by omega), if_pos (by simp)]
  · simp only [gI_sI, gI_sL]; rw [if_neg (by omega), if_neg (by omega), if_neg (by omega), if_pos (by simp)]
theorem gae {k p m o : Nat} {M : mm_} {C : List cq2_} {H x : Int32} (hk : kb_ k) (h : ST_ k M p m o C H) (hl : C.length < 26) : ST_ k (ae_ M k C.length x) p m o (C ++ [(6, 0, x, H + -1)]) (H + -1) := by
  obtain ⟨h1, h2, h3, h4, h5, ⟨h6, h7⟩, h8⟩ := h
  unfold kb_ at hk
  unfold ae_ ad_
  rw [if_pos hl, if_pos hl, h8, show rsX_ 6 0 = -1 by decide]
  refine ⟨?_, ?_, ?_, ?_, ?_, ⟨?_, ?_⟩, ?_⟩
  · simp only [gI_sI, gI_sL]; rw [if_neg (by omega), if_neg (by omega), if_neg (by omega), if_neg (by omega), if_neg (by omega)]; exact h1
  · simp only [gI_sI, gI_sL]; rw [if_neg (by omega), if_neg (by omega), if_neg (by omega), if_neg (by omega), if_neg (by omega)]; exact h2
  · simp only [gI_sI, gI_sL]; rw [if_neg (by omega), if_neg (by omega), if_neg (by omega), if_neg (by omega), if_neg (by omega)]; exact h3
  · simp only [gI_sI, gI_sL]; rw [if_neg (by omega), if_neg (by omega), if_neg (by omega), if_neg (by omega), if_neg (by omega)]; exact h4
  · simp only [gI_sI, gI_sL]; rw [if_neg (by omega), if_neg (by omega), if_neg (by omega), if_neg (by omega), if_neg (by omega)]; exact h5
  · rw [gI_sI, if_neg (by omega), gI_sI, if_pos (by simp), List.length_append]; rfl
  · intro j y hx
    by_cases hj : j < C.length
    · rw [List.getElem?_append_left hj] at hx
      obtain ⟨g1, g2, g3, g4⟩ := h7 j y hx
      simp only [gI_sI, gI_sL, gL_sI, gL_sL]
      refine ⟨?_, ?_, fun z => ?_, ?_⟩
      · rw [if_neg (by omega), if_neg (by omega), if_neg (by omega), if_neg (by omega), if_neg (by omega)]; exact g1
      · rw [if_neg (by omega)]; exact g2
      · rw [if_neg (by omega), if_neg (by omega), if_neg (by omega), if_neg (by omega), if_neg (by omega)]; exact g3 z
      · rw [if_neg (by omega), if_neg (by omega), if_neg (by omega), if_neg (by omega), if_neg (by omega)]; exact g4
    · have hj2 : j = C.length := by
        have := (List.getElem?_eq_some_iff.mp hx).1
        rw [List.length_append] at this
        simp at this
        omega
      subst hj2
      rw [List.getElem?_append_right (Nat.le_refl _), Nat.sub_self] at hx
      cases hx
      simp only [gI_sI, gI_sL, gL_sI, gL_sL]
      refine ⟨?_, ?_, fun z => ?_, ?_⟩
      · rw [if_neg (by omega), if_neg (by omega), if_neg (by omega), if_pos (by simp)]
      · rw [if_pos (by simp)]
      · rw [if_pos (by simp)]
      · rw [if_neg (by omega), if_neg (by omega), if_pos (by simp)]
  · simp only [gI_sI, gI_sL]; rw [if_neg (by omega), if_neg (by omega), if_neg (by omega), if_neg (by omega), if_pos (by simp)]
theorem glh {k p m o a : Nat} {M : mm_} {C : List cq2_} {H : Int32} {q : cq2_} (hk : kb_ k) (h : ST_ k M p m o C H) (ha : C[a]? = some q) (hl : C.length ≤ 26) : ST_ k (lh2_ M k a) p m o (C.set a (q.1, lN C.length, q.2.2.1, q.2.2.2)) H := by
  obtain ⟨h1, h2, h3, h4, h5, ⟨h6, h7⟩, h8⟩ := h
  unfold kb_ at hk
  have hac : a < C.length := (List.getElem?_eq_some_iff.mp ha).1
  unfold lh2_
  rw [if_pos (by omega), h6, nI_l (by omega)]
  refine ⟨h1, h2, h3, h4, h5, ⟨?_, ?_⟩, h8⟩
  · rw [List.length_set]; exact h6
  · intro j y hx
    by_cases hj : j = a
    · subst hj
      rw [List.getElem?_set_self hac] at hx
      cases hx
      obtain ⟨g1, g2, g3, g4⟩ := h7 j q ha
      exact ⟨g1, by rw [gL_sL, if_pos (by simp)], g3, g4⟩
    · rw [List.getElem?_set_ne (Ne.symm hj)] at hx
      obtain ⟨g1, g2, g3, g4⟩ := h7 j y hx
      exact ⟨g1, by rw [gL_sL, if_neg (by omega)]; exact g2, g3, g4⟩
theorem g37 {k p p2 m o : Nat} {M : mm_} {C : List cq2_} {H : Int32} (hk : kb_ k) (h : ST_ k M p m o C H) : ST_ k (sI_ M 37 1 (nI p2)) p2 m o C H := by
  obtain ⟨h1, h2, h3, h4, h5, ⟨h6, h7⟩, h8⟩ := h
  unfold kb_ at hk
  have e : ∀ a i, ¬ (a = 37 ∧ i = 1) → (sI_ M 37 1 (nI p2)).1 a i = M.1 a i := fun a i z => by rw [gI_sI, if_neg z]
  refine ⟨by rw [e _ _ (by omega)]; exact h1, by rw [gI_sI, if_pos (by simp)], by rw [e _ _ (by omega)]; exact h3, by rw [e _ _ (by omega)]; exact h4, by rw [e _ _ (by omega)]; exact h5, ⟨by rw [e _ _ (by omega)]; exact h6, fun j q hq => ?_⟩, by rw [e _ _ (by omega)]; exact h8⟩
  obtain ⟨g1, g2, g3, g4⟩ := h7 j q hq
  exact ⟨by rw [e _ _ (by omega)]; exact g1, g2, fun z => by rw [e _ _ (by omega)]; exact g3 z, by rw [e _ _ (by omega)]; exact g4⟩
theorem g394 {k p m m2 o : Nat} {M : mm_} {C : List cq2_} {H : Int32} (hk : kb_ k) (h : ST_ k M p m o C H) : ST_ k (sI_ M 39 4 (nI m2)) p m2 o C H := by
  obtain ⟨h1, h2, h3, h4, h5, ⟨h6, h7⟩, h8⟩ := h
  unfold kb_ at hk
  have e : ∀ a i, ¬ (a = 39 ∧ i = 4) → (sI_ M 39 4 (nI m2)).1 a i = M.1 a i := fun a i z => by rw [gI_sI, if_neg z]
  refine ⟨by rw [e _ _ (by omega)]; exact h1, by rw [e _ _ (by omega)]; exact h2, by rw [gI_sI, if_pos (by simp)], by rw [e _ _ (by omega)]; exact h4, by rw [e _ _ (by omega)]; exact h5, ⟨by rw [e _ _ (by omega)]; exact h6, fun j q hq => ?_⟩, by rw [e _ _ (by omega)]; exact h8⟩
  obtain ⟨g1, g2, g3, g4⟩ := h7 j q hq
  exact ⟨by rw [e _ _ (by omega)]; exact g1, g2, fun z => by rw [e _ _ (by omega)]; exact g3 z, by rw [e _ _ (by omega)]; exact g4⟩
theorem g395 {k p m o o2 : Nat} {M : mm_} {C : List cq2_} {H : Int32} (hk : kb_ k) (h : ST_ k M p m o C H) : ST_ k (sI_ M 39 5 (nI o2)) p m o2 C H := by
  obtain ⟨h1, h2, h3, h4, h5, ⟨h6, h7⟩, h8⟩ := h
  unfold kb_ at hk
  have e : ∀ a i, ¬ (a = 39 ∧ i = 5) → (sI_ M 39 5 (nI o2)).1 a i = M.1 a i := fun a i z => by rw [gI_sI, if_neg z]
  refine ⟨by rw [e _ _ (by omega)]; exact h1, by rw [e _ _ (by omega)]; exact h2, by rw [e _ _ (by omega)]; exact h3, by rw [gI_sI, if_pos (by simp)], by rw [e _ _ (by omega)]; exact h5, ⟨by rw [e _ _ (by omega)]; exact h6, fun j q hq => ?_⟩, by rw [e _ _ (by omega)]; exact h8⟩
  obtain ⟨g1, g2, g3, g4⟩ := h7 j q hq
  exact ⟨by rw [e _ _ (by omega)]; exact g1, g2, fun z => by rw [e _ _ (by omega)]; exact g3 z, by rw [e _ _ (by omega)]; exact g4⟩
theorem gpe {k p m o : Nat} {M : mm_} {C : List cq2_} {H : Int32} (h : ST_ k M p m o C H) : pe_ M = tb_ M (nI p) := by unfold pe_; rw [if_pos h.1, h.2.1]
/-- a node is counted -/
theorem gcN {k p m o : Nat} {M : mm_} {C : List cq2_} {H x : Int32} (hk : kb_ k) (h : ST_ k M p m o C H) (hm : m < 20) : ST_ k (cN_ M x) p (m + 1) o C H := by
  unfold cN_
  rw [if_pos ⟨by rw [h.2.2.1]; exact nI_lt (a := m) (b := 20) hm (by decide), h.2.2.2.2.1⟩, h.2.2.1, nI_1]
  exact g394 hk h
theorem gcN0 {k p m o : Nat} {M : mm_} {C : List cq2_} {H x : Int32} (hk : kb_ k) (h : ST_ k M p m o C H) (hm : ¬ m < 20) (hm2 : m ≤ 20) (hl : C.length ≤ 26) : FT_ k (cN_ M x) := by
  unfold cN_
  rw [if_neg (fun z => absurd z.1 (by rw [h.2.2.1]; exact nI_nlt (a := m) (b := 20) (by omega) (by omega)))]
  have e : FT_ k (fiX_ M 3 x) := by
    unfold fiX_
    rw [if_pos h.1]
    unfold kb_ at hk
    refine ⟨by rw [gI_sI, if_neg (by omega), gI_sI, if_pos (by simp)]; decide, C.length, hl, ?_⟩
    rw [gI_sI, if_neg (by omega), gI_sI, if_neg (by omega)]
    exact h.2.2.2.2.2.1.1
  exact rF39 hk e
theorem gfi {k p m o : Nat} {M : mm_} {C : List cq2_} {H f x : Int32} (hk : kb_ k) (h : ST_ k M p m o C H) (hf : ¬ f = 0) (hl : C.length ≤ 26) : FT_ k (fiX_ M f x) := by
  unfold fiX_
  rw [if_pos h.1]
  unfold kb_ at hk
  refine ⟨by rw [gI_sI, if_neg (by omega), gI_sI, if_pos (by simp)]; exact hf, C.length, hl, ?_⟩
  rw [gI_sI, if_neg (by omega), gI_sI, if_neg (by omega)]
  exact h.2.2.2.2.2.1.1
theorem gtS {k p m o : Nat} {M : mm_} {C : List cq2_} {H : Int32} (hk : kb_ k) (h : ST_ k M p m o C H) (hm : m < 20) : ST_ k (tS_ M) (p + 1) (m + 1) o C H := by
  unfold tS_
  rw [h.2.1, nI_1]
  exact g37 hk (gcN hk h hm)
theorem gtS0 {k p m o : Nat} {M : mm_} {C : List cq2_} {H : Int32} (hk : kb_ k) (h : ST_ k M p m o C H) (hm : ¬ m < 20) (hm2 : m ≤ 20) (hl : C.length ≤ 26) : FT_ k (tS_ M) := by
  unfold tS_
  exact rF37 hk (gcN0 hk h hm hm2 hl) (by decide)
theorem cf_tS {k : Nat} {M : mm_} (hk : kb_ k) : cf_ k M (tS_ M) := cf_tr (cf_cN hk) (cf_37 hk)
theorem cf_oF {k : Nat} {M : mm_} (hk : kb_ k) : cf_ k M (oF_ M) := cf_tr (cf_37 hk) (cf_39 (by omega))
theorem cf_ep {k : Nat} {M : mm_} {c : Int32} (hk : kb_ k) : cf_ k M (ep_ M c) := by
  unfold ep_; split
  · exact cf_37 hk
  · exact cf_tr (cf_fi hk) (cf_37 hk)
/-- what a reading of an expression comes to -/
def PR_ (k n : Nat) (M : mm_) (p m o : Nat) (C : List cq2_) (H : Int32) (r : px2_) (N : mm_) : Prop := cf_ k M N ∧ (match r with
  | none => FT_ k N
  | some x => ST_ k N x.2.1 x.2.2 o (C ++ cqX_ x.1 C.length H) (H + 1) ∧ p < x.2.1 ∧ x.2.1 ≤ n ∧ m < x.2.2 ∧ x.2.2 ≤ 20 ∧ 3 * snX_ x.1 + 1 ≤ 4 * (x.2.2 - m))
theorem cq_len : ∀ (e : Term) (L : Nat) (H : Int32), (cqX_ e L H).length = snX_ e
  | .int _, _, _ => rfl
  | .index _, _, _ => rfl
  | .length e, L, H => by simp [cqX_, snX_, cq_len e]
  | .sum e, L, H => by simp [cqX_, snX_, cq_len e]
  | .elem _ x, L, H => by simp [cqX_, snX_, cq_len x]
  | .mul a (.div b c), L, H => by simp [cqX_, snX_, cq_len a, cq_len b, cq_len c]; omega
  | .rem a b, L, H => by simp [cqX_, snX_, cq_len a, cq_len b]; omega
  | .sub _ x, L, H => by simp [cqX_, snX_, cq_len x]
  | .add a r, L, H => by simp [cqX_, snX_, cq_len a, cq_len r]
  | .arg _, _, _ | .long _, _, _ | .null, _, _ | .field _ _ _ _, _, _ | .static _ _ _, _, _ | .string _ _, _, _ | .mirror _, _, _ | .div _ _, _, _ | .op2 _ _ _, _, _ | .op1 _ _, _, _ | .result, _, _ | .thrown, _, _ | .old _, _, _ => by simp [cqX_, snX_]
  | .mul _ (.arg _), _, _ | .mul _ (.int _), _, _ | .mul _ (.long _), _, _ | .mul _ .null, _, _ | .mul _ (.index _), _, _ | .mul _ (.field _ _ _ _), _, _ | .mul _ (.static _ _ _), _, _ | .mul _ (.string _ _), _, _ | .mul _ (.mirror _), _, _ | .mul _ (.length _), _, _ | .mul _ (.elem _ _), _, _ | .mul _ (.add _ _), _, _ | .mul _ (.sub _ _), _, _ | .mul _ (.mul _ _), _, _ | .mul _ (.rem _ _), _, _ | .mul _ (.op2 _ _ _), _, _ | .mul _ (.op1 _ _), _, _ | .mul _ (.sum _), _, _ | .mul _ .result, _, _ | .mul _ .thrown, _, _ | .mul _ (.old _), _, _ => by simp [cqX_, snX_]
theorem PR_some {k n p m o a b : Nat} {M N : mm_} {C : List cq2_} {H : Int32} {e : Term} (hc : cf_ k M N) (h1 : ST_ k N a b o (C ++ cqX_ e C.length H) (H + 1)) (h2 : p < a) (h3 : a ≤ n) (h4 : m < b) (h5 : b ≤ 20) (h6 : 3 * snX_ e + 1 ≤ 4 * (b - m)) : PR_ k n M p m o C H (some (e, a, b)) N := ⟨hc, h1, h2, h3, h4, h5, h6⟩
theorem PR_none {k n p m o : Nat} {M N : mm_} {C : List cq2_} {H : Int32} (hc : cf_ k M N) (h : FT_ k N) : PR_ k n M p m o C H none N := ⟨hc, h⟩
theorem PR_get {k n p m o : Nat} {M N : mm_} {C : List cq2_} {H : Int32} {x : Term × Nat × Nat} (h : PR_ k n M p m o C H (some x) N) : cf_ k M N ∧ ST_ k N x.2.1 x.2.2 o (C ++ cqX_ x.1 C.length H) (H + 1) ∧ p < x.2.1 ∧ x.2.1 ≤ n ∧ m < x.2.2 ∧ x.2.2 ≤ 20 ∧ 3 * snX_ x.1 + 1 ≤ 4 * (x.2.2 - m) ∧ (C ++ cqX_ x.1 C.length H).length = C.length + snX_ x.1 := ⟨h.1, h.2.1, h.2.2.1, h.2.2.2.1, h.2.2.2.2.1, h.2.2.2.2.2.1, h.2.2.2.2.2.2, by rw [List.length_append, cq_len]⟩
/-- a byte that isn't the end stands before it -/
theorem tb_lt {M : mm_} {n p : Nat} (ht : tpX_ M n) (hp : p ≤ 300) (h : ¬ tb_ M (nI p) = -1) : p < n := Nat.lt_of_not_le (fun q => h (by unfold tb_; rw [ht.2, if_neg (fun w => absurd w.2 (nI_nlt q (by omega)))]))

