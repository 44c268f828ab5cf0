/-! the reference's play at a tied memory -/
theorem play_R {G : gg_} (hG : gd_ G) (d : Nat) {E : se_} {s : sgA_} {c m q3 : Nat} {M : mm_} {x y w z : Int32} {P : Nat → Int32} (hc : c ≤ 16) (h9 : M.1 0 9 = nI c) (e1 : E.1 = c) (e2 : ∀ m, m < c → NK_ (E.2.1 m) (M.2.1 5 m) (M.1 6 m)) (e3 : ∀ m, m < c → wK_ (E.2.2.1 m) ∧ sd_ M m (tm_ (E.2.2.1 m)) ∧ (tc_ (tm_ (E.2.2.1 m))).length ≤ 40 ∧ wfR_ true 3 true (tm_ (E.2.2.1 m))) (e4 : (z = 0 ∧ E.2.2.2.2.2.2.2.2 = true) ∨ (z = 1 ∧ E.2.2.2.2.2.2.2.2 = false)) (hR : JR_ E c s M) (hW : WL_ E s) (hiv : iv2_ s = 0) (hD : DR_ s (sI_ M 0 40 0)) (hm : m < c) (hq3 : q3 ≤ 3) (e6 : M.1 6 m = nI q3) (hP : ∀ i, i < 3 → P i = if i < q3 then (if i = 0 then x else if i = 1 then y else w) else 0) : cm_ G yX12_play cX12_play 6 (some .int) (d + 7) [.ref (G.1 0), .int (nI m), .int x, .int y, .int w, .int z] M (rI_ (PLQ_ E c M (inA_ E 10 m P s))) := by
  have k : ∀ a i, ¬ (a = 0 ∧ i = 42) → (sI_ M 0 42 z).1 a i = M.1 a i := fun a i h => by rw [gI_sI, if_neg h]
  refine c12_playT G hG d M E c m q3 P s x y w z ?_ hm hq3 e6 (e4.elim (fun y => Or.inl y.1) (fun y => Or.inr y.1)) hP hiv hD hR hW ?_
  · refine ⟨by rw [k _ _ (by omega)]; exact h9, hc, e1, fun i hi => by rw [k _ _ (by omega)]; exact e2 i hi, fun i hi => ?_, ?_⟩
    · obtain ⟨f1, f2, f3, f4⟩ := e3 i hi
      exact ⟨f1.1, (wfR_x true _ f1.1 f4).1, f1.2, ⟨by rw [k _ _ (by omega)]; exact f2.1, fun j q hj => by rw [k _ _ (by omega)]; exact f2.2 j q hj⟩, f3⟩
    · rw [gI_sI, if_pos ⟨rfl, rfl⟩]
      rcases e4 with ⟨rfl, h⟩ | ⟨rfl, h⟩
      · rw [h]; exact ⟨fun _ => rfl, fun _ => rfl⟩
      · rw [h]; exact ⟨fun y => absurd y (by decide), fun y => absurd y (by decide)⟩
  · exact in_q (fun i hi => by rw [e1] at hi; exact (e3 i hi).1.1) 10 m P s (by rw [e1]; exact hm)
