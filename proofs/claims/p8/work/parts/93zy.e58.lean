/-! behind a call of both programs -/
theorem KM_in {E : se_} (hw : ∀ m, m < E.1 → wfX_ true (E.2.2.1 m)) {m : Nat} {P : Nat → Int32} {s : sgA_} (hm : m < E.1) : KM_ s (inA_ E 10 m P s).2 := in_R KM_rf KM_tr (fun m p d P v j s => KM_pj m p d P v j s) (fun _ _ _ => Or.inl rfl) hw 10 m P s hm
theorem call_back {E : se_} {s : sgA_} {J : Nat → Nat} {c : Nat} {M A N1 N2 : mm_} {o : io2_} {r1 r2 : Int32} (hJ : ∀ j, j < 8 → J j < 9) (hT : JT_ J c M) (hX : JX_ E J c s M) (hD : DX_ J s (sI_ M 247 1 0)) (hKM : KM_ s o.2) (hA2 : A.2 = M.2) (hAo : ∀ a i, ¬ a = 250 → A.1 a i = M.1 a i) (h1 : CLQ_ J A o r1 N1) (h2 : PLQ_ E c N1 o r2 N2) (hq : q12_ o.1) : r1 = r2 ∧ N2.1 247 0 = N2.1 0 41 ∧ N2.1 247 1 = N2.1 0 40 ∧ JT_ J c N2 ∧ RT_ N2 := by
  obtain ⟨a1, a2, a3, a4, a5⟩ := h1
  obtain ⟨b1, b2, b3, b4, b5, b6⟩ := h2
  have n2 : ∀ a i, 34 ≤ a → N2.1 a i = N1.1 a i := fun a i h => b2 a i (by unfold pzR_; omega) (by unfold mR_; omega)
  have f12 : N2.2 = M.2 := b1.trans (a1.trans hA2)
  have fI : ∀ a i, faX_ a i → (34 ≤ a ∨ a = 17 ∨ a = 18) → N2.1 a i = M.1 a i := fun a i h h3 => by
    have e : N2.1 a i = N1.1 a i := b2 a i (by unfold pzR_; omega) (by unfold mR_; omega)
    rw [e, a2 a i h, hAo a i (by unfold faX_ at h; omega)]
  have d2 : DX_ J o.2 N2 := DX_cg hJ (fun a i h => n2 a i (by omega)) a4
  have sk : ∀ j, j < 8 → s.1 j = M.1 12 j := fun j hj => by
    have := hJ j hj
    have h := (hD.1 j hj).1
    rw [gI_sI, if_neg (by omega)] at h
    rw [← h]; exact (hT.1 j hj).1
  have x2 : JX_ E J c o.2 N2 := by
    intro j hj h0
    have hs2 : o.2.1 j = s.1 j := (hKM j hj).resolve_right h0
    rw [hs2] at h0 ⊢
    have hJj := hJ j hj
    obtain ⟨c1, c2, c3⟩ := hX j hj h0
    have e : ∀ i, ¬ i = 0 → ¬ i = 7 → N2.1 (135 + 12 * J j) i = M.1 (135 + 12 * J j) i := fun i z1 z2 => fI _ i (by unfold faX_; omega) (by omega)
    have xc : ∀ k e, kcX_ k → 34 ≤ k → XCo_ k e M → XCo_ k e N2 := fun k e hk h34 g => ⟨g.1, g.2.1, g.2.2.1, hd_cg (fun a i z1 z2 => fI a i (by unfold kcX_ at hk; unfold faX_; omega) (by omega)) (fun i => by rw [f12]) g.2.2.2.1, g.2.2.2.2⟩
    refine ⟨c1, fun m hm => by rw [e 9 (by omega) (by omega)]; exact c2 m hm, fun h1 => ?_⟩
    obtain ⟨k1, k2, k3, k4, k5⟩ := c3 h1
    refine ⟨by rw [e 1 (by omega) (by omega)]; exact k1, by rw [e 6 (by omega) (by omega)]; exact k2, xc _ _ (kcX_e hJj) (by omega) k3, fun z => by rw [e 5 (by omega) (by omega)]; exact k4 z, fun e2 z => ?_⟩
    obtain ⟨l1, l2⟩ := k5 e2 z
    exact ⟨by rw [e 5 (by omega) (by omega)]; exact l1, xc _ _ (kcX_c hJj) (by omega) l2⟩
  have hkd : ∀ j, j < 8 → o.2.1 j = 0 ∨ o.2.1 j = 1 ∨ o.2.1 j = 2 ∨ o.2.1 j = 3 := fun j hj => by
    rcases hKM j hj with y | y
    · rw [y, sk j hj]; exact (hT.1 j hj).2
    · exact Or.inl y
  have jt := JT_of x2 b4 b5 d2 b3 hkd (fun j hj h0 => by
    have hs2 : o.2.1 j = s.1 j := (hKM j hj).resolve_right h0
    rw [hs2, sk j hj] at h0
    obtain ⟨z, g1, g2, g3, g4, -⟩ := hT.2 j hj h0
    have hpa : pa_ N2 j = pa_ M j := by funext p; exact fI 17 _ (by unfold faX_; omega) (by omega)
    exact ⟨z, g1, by rw [fI 18 j (by unfold faX_; omega) (by omega)]; exact g2, by rw [f12, hpa]; exact g3, by rw [hpa]; exact g4⟩)
  refine ⟨?_, ?_, ?_, jt⟩
  · cases ho : o.1 with
    | inl v => rw [ho] at a5 b6; exact a5.1.trans b6.1.symm
    | inr q => rw [ho] at a5 b6; exact a5.1.trans (b6 (hq q ho)).1.symm
  · rw [n2 247 0 (by omega)]
    cases ho : o.1 with
    | inl v => rw [ho] at a5 b6; exact a5.2.trans b6.2.symm
    | inr q => rw [ho] at a5 b6; exact a5.2.1.trans (b6 (hq q ho)).2.symm
  · rw [d2.2.2.2.1, b3.2.2.2.1]
