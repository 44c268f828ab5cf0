/-! the class's start at a tied memory -/
theorem ftq_ {b : Bool} {x : Int32} (h : (x = 1 ∧ b = true) ∨ (x = 0 ∧ b = false)) : x = 0 ↔ b = false := by
  rcases h with ⟨rfl, rfl⟩ | ⟨rfl, rfl⟩
  · exact ⟨fun y => absurd y (by decide), fun y => absurd y (by decide)⟩
  · exact ⟨fun _ => rfl, fun _ => rfl⟩
theorem start_X {G : gg_} (hG : gd_ G) (e : Nat) {E : se_} {s : sgA_} {J : Nat → Nat} {S c m : Nat} {M : mm_} {x y w z nn : Int32} {P : Nat → Int32} (hc : mt_ M c) (hb : mb2_ M) (hv : vq_ M) (hq : jq_ M J S) (hd : ∀ i j, i < 8 → j < 8 → J i = J j → i = j) (e1 : E.1 = c) (e2 : ∀ m, m < c → E.2.1 m = M.2.1 46 m) (e3 : ∀ m, m < c → wK_ (E.2.2.1 m) ∧ hd_ (48 + 5 * m) M (cqX_ (E.2.2.1 m) 0 0) ∧ 3 * snX_ (E.2.2.1 m) + 1 ≤ 80 ∧ sd_ M m (tm_ (E.2.2.1 m)) ∧ (tc_ (tm_ (E.2.2.1 m))).length ≤ 40 ∧ wfR_ true 3 true (tm_ (E.2.2.1 m))) (e4 : (z = 1 ∧ E.2.2.2.2.2.2.2.2 = true) ∨ (z = 0 ∧ E.2.2.2.2.2.2.2.2 = false)) (hX : JX_ E J c s M) (hiv : iv2_ s = 0) (hD : DX_ J s (sI_ M 247 1 0)) (h10 : zoX_ (M.1 247 10)) (hm : m < c) (hP : ∀ i, i < 3 → (sp1_ M nn x y w).1 250 i = P i) : cm_ G yX4_start cX4_start 3 (some .int) (e + 61) [.ref (G.1 247), .int (nI m), .int z] (sp1_ M nn x y w) (rI_ (CLQ_ J (sp1_ M nn x y w) (inA_ E 10 m P s))) := by
  have hJ : ∀ j, j < 8 → J j < 9 := fun j hj => (hq.1 j hj).1
  have o : ∀ a i, ¬ a = 250 → (sp1_ M nn x y w).1 a i = M.1 a i := fun a i h => by unfold sp1_; rw [gI_sI, if_neg (by omega), gI_sI, if_neg (by omega), gI_sI, if_neg (by omega)]
  have o2 : (sp1_ M nn x y w).2 = M.2 := rfl
  generalize sp1_ M nn x y w = A at o o2 hP ⊢
  have o9 : ∀ a i, ¬ a = 250 → ¬ (a = 247 ∧ i = 9) → (sI_ A 247 9 z).1 a i = M.1 a i := fun a i h1 h2 => by rw [gI_sI, if_neg h2, o a i h1]
  have o29 : (sI_ A 247 9 z).2 = M.2 := o2
  have hz : zoX_ z := e4.elim (fun y => Or.inr y.1) (fun y => Or.inl y.1)
  refine c4_startT G hG e A E J S c m P s z hz ?_ hm hiv ?_ ?_ hP (by rw [o _ _ (by decide)]; exact h10)
  · refine ⟨⟨hc.1, by rw [o9 45 2 (by decide) (by omega)]; exact hc.2⟩, fun i hi => by rw [o29]; exact hb i hi, fun i hi => by rw [o29]; exact hv i hi, by unfold jq_ at hq ⊢; rw [o29]; exact hq, hd, e1, fun i hi => by rw [o29]; exact (e2 i hi).symm, fun i hi => ?_, by rw [gI_sI, if_pos ⟨rfl, rfl⟩]; exact ftq_ e4⟩
    obtain ⟨f1, f2, f3, f4, f5, f6⟩ := e3 i hi
    have := hc.1
    exact ⟨f1.1, (wfR_x true _ f1.1 f6).1, hd_cg (fun a x h1 h2 => o9 a x (by omega) (by omega)) (fun x => by rw [o29]) f2, by omega⟩
  · exact DX_cg hJ (fun a i h => by
      by_cases q : a = 247 ∧ i = 1
      · rw [gI_sI, if_pos q, gI_sI, if_pos q]
      · rw [gI_sI, if_neg q, gI_sI, if_neg q, o a i (by omega)]) hD
  · exact JX_fa hJ o2 (fun a i h => o a i (by unfold faX_ at h; omega)) (KM_rf s) hX
