/-! a call, a replay: both programs -/
theorem JX_c2 {E : se_} {J : Nat → Nat} {c : Nat} {s : sgA_} {M N : mm_} (hJ : ∀ j, j < 8 → J j < 9) (h1 : ∀ a i, 135 ≤ a → a < 243 → N.1 a i = M.1 a i) (h2 : ∀ a i, 135 ≤ a → a < 243 → N.2.1 a i = M.2.1 a i) (g : JX_ E J c s M) : JX_ E J c s N := by
  intro j hj h0
  have hJj := hJ j hj
  obtain ⟨a1, a2, a3⟩ := g j hj h0
  have xc : ∀ k e, 135 ≤ k → k + 4 < 243 → XCo_ k e M → XCo_ k e N := fun k e z1 z2 g => ⟨g.1, g.2.1, g.2.2.1, hd_cg (fun a i y1 y2 => h1 a i (by omega) (by omega)) (fun i => h2 _ i (by omega) (by omega)) g.2.2.2.1, g.2.2.2.2⟩
  refine ⟨a1, fun m hm => by rw [h1 _ 9 (by omega) (by omega)]; exact a2 m hm, fun h => ?_⟩
  obtain ⟨b1, b2, b3, b4, b5⟩ := a3 h
  refine ⟨by rw [h1 _ 1 (by omega) (by omega)]; exact b1, by rw [h1 _ 6 (by omega) (by omega)]; exact b2, xc _ _ (by omega) (by omega) b3, fun z => by rw [h1 _ 5 (by omega) (by omega)]; exact b4 z, fun e2 z => ?_⟩
  obtain ⟨c1, c2⟩ := b5 e2 z
  exact ⟨by rw [h1 _ 5 (by omega) (by omega)]; exact c1, xc _ _ (by omega) (by omega) c2⟩
theorem JR_c2 {E : se_} {c : Nat} {s : sgA_} {M N : mm_} (h1 : ∀ a i, 2 ≤ a → a < 34 → N.1 a i = M.1 a i) (h2 : ∀ a i, a < 34 → N.2.1 a i = M.2.1 a i) (g : JR_ E c s M) : JR_ E c s N := by
  intro j hj h0
  obtain ⟨a1, ⟨z, a2, a3, a4⟩, a5⟩ := g j hj h0
  have hp : pa_ N j = pa_ M j := by funext p; exact h1 17 _ (by omega) (by omega)
  have rc : ∀ k e, RCo_ k e M → RCo_ k e N := fun k e g => ⟨g.1, g.2.1, g.2.2.1, ⟨by rw [h1 4 _ (by omega) (by omega)]; exact g.2.2.2.1.1, fun i x hx => by rw [h1 2 _ (by omega) (by omega), h2 3 _ (by omega)]; exact g.2.2.2.1.2 i x hx⟩, g.2.2.2.2⟩
  refine ⟨a1, ⟨z, a2, by rw [h1 18 _ (by omega) (by omega)]; exact a3, fun m hm => by rw [hp, h2 5 _ (by omega)]; exact a4 m hm⟩, fun h => ?_⟩
  obtain ⟨b1, b2, b3, b4, b5⟩ := a5 h
  refine ⟨by rw [h1 13 _ (by omega) (by omega)]; exact b1, by rw [h1 14 _ (by omega) (by omega)]; exact b2, rc _ _ b3, fun z => by rw [h1 16 _ (by omega) (by omega)]; exact b4 z, fun e he => ?_⟩
  obtain ⟨c1, c2⟩ := b5 e he
  exact ⟨by rw [h1 16 _ (by omega) (by omega)]; exact c1, rc _ _ c2⟩
def EE_ (E : se_) (s : sgA_) (J : Nat → Nat) (c : Nat) (M : mm_) (b : Bool) : Prop := E.1 = c ∧ (∀ m, m < c → E.2.1 m = M.2.1 46 m) ∧ (∀ m, m < c → wK_ (E.2.2.1 m) ∧ hd_ (48 + 5 * m) M (cqX_ (E.2.2.1 m) 0 0) ∧ 3 * snX_ (E.2.2.1 m) + 1 ≤ 80 ∧ sd_ M m (tm_ (E.2.2.1 m)) ∧ (tc_ (tm_ (E.2.2.1 m))).length ≤ 40 ∧ wfR_ true 3 true (tm_ (E.2.2.1 m))) ∧ E.2.2.2.2.2.2.2.2 = b ∧ JX_ E J c s M ∧ JR_ E c s M ∧ WL_ E s ∧ iv2_ s = 0 ∧ DX_ J s (sI_ M 247 1 0) ∧ DR_ s (sI_ M 0 40 0) ∧ ∀ j m, E.2.2.2.2.2.2.2.1 j m = true → m < c
/-- behind the class's call: the reference's cells are those from before -/
theorem CL_ref {J : Nat → Nat} {M A0 N0 : mm_} {o : io2_} {r0 : Int32} {v : Int64} (hA2 : A0.2 = M.2) (hAo : ∀ a i, ¬ a = 250 → A0.1 a i = M.1 a i) (h1 : CLQ_ J A0 o r0 N0) : (∀ a i, a < 135 → ¬ (a = 0 ∧ i = 0) → (sI_ (sL_ N0 262 0 v) 0 0 0).1 a i = M.1 a i) ∧ (∀ a i, ¬ a = 262 → (sI_ (sL_ N0 262 0 v) 0 0 0).2.1 a i = M.2.1 a i) ∧ (sI_ (sL_ N0 262 0 v) 0 0 0).2.2 = M.2.2 := by
  refine ⟨fun a i z1 z2 => ?_, fun a i z => ?_, ?_⟩
  · rw [gI_sI, if_neg z2, gI_sL, h1.2.1 a i (Or.inl (by omega)), hAo a i (by omega)]
  · rw [gL_sI, gL_sL, if_neg (by omega), h1.1, hA2]
  · show N0.2.2 = M.2.2
    rw [h1.1, hA2]
theorem play_ctr {G : gg_} (hG : gd_ G) (d : Nat) {n c S m q3 : Nat} {J : Nat → Nat} {E : se_} {s : sgA_} {P : Nat → Int32} {M A0 N0 : mm_} {v : Int64} {r0 x y w z : Int32} {b : Bool} (g : IVc_ n c J S M) (hE : EE_ E s J c M b) (hm : m < c) (hA2 : A0.2 = M.2) (hAo : ∀ a i, ¬ a = 250 → A0.1 a i = M.1 a i) (h1 : CLQ_ J A0 (inA_ E 10 m P s) r0 N0) (e4 : (z = 0 ∧ b = true) ∨ (z = 1 ∧ b = false)) (hq3 : q3 ≤ 3) (e6 : M.1 6 m = nI q3) (hP : ∀ i, i < 3 → P i = if i < q3 then (if i = 0 then x else if i = 1 then y else w) else 0) : cm_ G yX12_play cX12_play 6 (some .int) (d + 7) [.ref (G.1 0), .int (nI m), .int x, .int y, .int w, .int z] (sI_ (sL_ N0 262 0 v) 0 0 0) (rI_ (PLQ_ E c (sI_ (sL_ N0 262 0 v) 0 0 0) (inA_ E 10 m P s))) := by
  obtain ⟨k1, k2, k3⟩ := CL_ref (v := v) hA2 hAo h1
  obtain ⟨E1, E2, E3, E4, E5, E6, E7, E8, E9, E10, E11⟩ := hE
  obtain ⟨t1, t2, t3, t4, t5, t6⟩ := g.1
  refine play_R hG d t4.1 (by rw [k1 0 9 (by omega) (by omega)]; exact t5) E1 (fun m hm => ?_) (fun m hm => ?_) (by rw [E4]; exact e4) (JR_c2 (fun a i z1 z2 => k1 a i (by omega) (by omega)) (fun a i z => k2 a i (by omega)) E6) E7 E8 ?_ hm hq3 (by rw [k1 6 m (by omega) (by omega)]; exact e6) hP
  · rw [E2 m hm, k2 5 m (by omega), k1 6 m (by omega) (by omega)]
    exact (t6 m hm).1
  · obtain ⟨f1, f2, f3, f4, f5, f6⟩ := E3 m hm
    exact ⟨f1, ⟨by rw [k1 4 m (by omega) (by omega)]; exact f4.1, fun i q hi => by rw [k1 2 _ (by omega) (by omega), k2 3 _ (by omega)]; exact f4.2 i q hi⟩, f5, f6⟩
  · refine DR_cg (fun a i z => ?_) E10
    unfold dcR_ at z
    by_cases q : a = 0 ∧ i = 40
    · rw [gI_sI, if_pos q, gI_sI, if_pos q]
    · rw [gI_sI, if_neg q, k1 a i (by omega) (by omega), gI_sI, if_neg q]
theorem play_fin {n c S m : Nat} {J : Nat → Nat} {E : se_} {s : sgA_} {P : Nat → Int32} {M A0 N0 N2 : mm_} {v : Int64} {r0 r2 : Int32} {b : Bool} (g : IVc_ n c J S M) (hE : EE_ E s J c M b) (hm : m < c) (hA2 : A0.2 = M.2) (hAo : ∀ a i, ¬ a = 250 → A0.1 a i = M.1 a i) (h1 : CLQ_ J A0 (inA_ E 10 m P s) r0 N0) (h2 : PLQ_ E c (sI_ (sL_ N0 262 0 v) 0 0 0) (inA_ E 10 m P s) r2 N2) : IV_ N2 ∧ N2.1 0 0 = 0 ∧ r0 = r2 ∧ N2.2.1 262 0 = v := by
  obtain ⟨k1, k2, k3⟩ := CL_ref (v := v) hA2 hAo h1
  obtain ⟨E1, E2, E3, E4, E5, E6, E7, E8, E9, E10, E11⟩ := hE
  obtain ⟨ht, g1, g2, g3, g4, g5, g6⟩ := id g
  have hJ : ∀ j, j < 8 → J j < 9 := fun j hj => (g1.2.2.1.1 j hj).1
  have hw : ∀ m, m < E.1 → wfX_ true (E.2.2.1 m) := fun m hm => (E3 m (by omega)).1.1
  have hmE : m < E.1 := by omega
  have hKM : KM_ s (inA_ E 10 m P s).2 := KM_in hw hmE
  have hKp : KpA_ c (inA_ E 10 m P s).2 := Kp_in E11 hw hmE (Kp_DX E9 (by obtain ⟨b, h1, h2, h3⟩ := g5; exact ⟨b, h1, by rw [gI_sI, if_neg (by omega)]; exact h2, fun i hi => by rw [gI_sI, if_neg (by omega)]; exact h3 i hi⟩))
  have hq := in_q hw 10 m P s hmE
  generalize inA_ E 10 m P s = o at *
  -- the memories with what the law and thrown have done
  have gz : IVr_ c J S (sI_ (sL_ M 262 0 v) 0 0 0) := IVr_cg ht (fun a i z1 z2 z3 => by rw [gI_sI, if_neg (by omega)]; rfl) (fun i z => by rw [gI_sI, if_neg (by omega)]; rfl) (fun a i z => by rw [gL_sI, gL_sL, if_neg (by omega)]) rfl g.2
  have c1 : CLQ_ J (sI_ (sL_ A0 262 0 v) 0 0 0) o r0 (sI_ (sL_ N0 262 0 v) 0 0 0) := by
    obtain ⟨q1, q2, q3, q4, q5⟩ := h1
    refine ⟨?_, fun a i z => ?_, ?_, DX_cg hJ (fun a i z => by rw [gI_sI, if_neg (by omega)]; rfl) q4, ?_⟩
    · show (sL_ N0 262 0 v).2 = (sL_ A0 262 0 v).2
      unfold sL_
      rw [q1]
    · by_cases q : a = 0 ∧ i = 0
      · rw [gI_sI, if_pos q, gI_sI, if_pos q]
      · rw [gI_sI, if_neg q, gI_sI, if_neg q, gI_sL, gI_sL]; exact q2 a i z
    · rw [gI_sI, if_neg (by omega)]; exact q3
    · cases ho : o.1 with
      | inl x => rw [ho] at q5; exact ⟨q5.1, by rw [gI_sI, if_neg (by omega)]; exact q5.2⟩
      | inr x => rw [ho] at q5; exact ⟨q5.1, by rw [gI_sI, if_neg (by omega)]; exact q5.2.1, q5.2.2⟩
  have back := call_back (M := sI_ (sL_ M 262 0 v) 0 0 0) hJ gz.2.1 (JX_c2 hJ (fun a i z1 z2 => by rw [gI_sI, if_neg (by omega)]; rfl) (fun a i z1 z2 => by rw [gL_sI, gL_sL, if_neg (by omega)]) E5) (DX_cg hJ (fun a i z => by
    by_cases q : a = 247 ∧ i = 1
    · rw [gI_sI, if_pos q, gI_sI, if_pos q]
    · rw [gI_sI, if_neg q, gI_sI, if_neg (by omega), gI_sL, gI_sI, if_neg q]) E9) hKM (by
    show (sL_ A0 262 0 v).2 = (sL_ M 262 0 v).2
    unfold sL_
    rw [hA2]) (fun a i z => by
    by_cases q : a = 0 ∧ i = 0
    · rw [gI_sI, if_pos q, gI_sI, if_pos q]
    · rw [gI_sI, if_neg q, gI_sI, if_neg q]; exact hAo a i z) c1 h2 hq
  obtain ⟨b1, b2, b3, b4, b5⟩ := back
  generalize hN1 : sI_ (sL_ N0 262 0 v) 0 0 0 = N1 at *
  obtain ⟨p1, p2, p3, p4, p5, p6⟩ := h2
  have n2 : ∀ a i, 34 ≤ a → N2.1 a i = N1.1 a i := fun a i h => p2 a i (by unfold pzR_; omega) (by unfold mR_; omega)
  have e00 : N1.1 0 0 = 0 := by rw [← hN1, gI_sI, if_pos ⟨rfl, rfl⟩]
  have e262 : N1.2.1 262 0 = v := by rw [← hN1, gL_sI, gL_sL, if_pos ⟨rfl, rfl⟩]
  refine ⟨⟨n, c, J, S, TC_s ⟨fun a i z => ?_, fun a i z => ?_⟩ ⟨fun a i z1 z2 => ?_, fun a i z1 z2 => ?_, ?_, fun i => ?_⟩ ht, SV_cg (by rw [p1]; exact k3) g1, b4, fun j hj h0 => ?_, ⟨b5, b2, b3⟩, ?_, ?_⟩, ?_, b1, ?_⟩
  · unfold rT_ at z
    rw [p2 a i (by unfold pzR_; omega) (by unfold mR_; omega)]
    exact k1 a i (by omega) (by omega)
  · unfold rU_ at z
    rw [p1]; exact k2 a i (by omega)
  · rw [n2 a i (by omega)]; exact k1 a i (by omega) (by omega)
  · rw [p1]; exact k2 a i (by omega)
  · rw [n2 35 1 (by omega)]; exact k1 35 1 (by omega) (by omega)
  · rw [n2 36 i (by omega)]; exact k1 36 i (by omega) (by omega)
  · have hJj := hJ j hj
    rw [(p3.1 j hj).1] at h0
    have hs := (hKM j hj).resolve_right h0
    have hsM : s.1 j = M.1 12 j := by
      have := (E10.1 j hj).1
      rw [gI_sI, if_neg (by omega)] at this
      exact this.symm
    rw [hs, hsM] at h0
    rw [n2 _ 9 (by omega), c1.2.1 _ 9 (by unfold faX_; omega), gI_sI, if_neg (by omega), gI_sL, hAo _ 9 (by omega)]
    exact g3 j hj h0
  · exact KPc_DX (DX_cg hJ (fun a i z => n2 a i (by omega)) c1.2.2.2.1) hKp
  · rw [n2 247 10 (by omega)]; exact c1.2.2.1
  · rw [p2 0 0 (by unfold pzR_; omega) (by unfold mR_; omega)]; exact e00
  · rw [p1]; exact e262
