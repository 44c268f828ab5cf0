/-! behind a call: the tables are one again -/
theorem JT_of {E : se_} {J : Nat → Nat} {c : Nat} {s : sgA_} {N : mm_} (hX : JX_ E J c s N) (hR : JR_ E c s N) (hW : WL_ E s) (hD : DX_ J s N) (hDR : DR_ s N) (hkd : ∀ j, j < 8 → s.1 j = 0 ∨ s.1 j = 1 ∨ s.1 j = 2 ∨ s.1 j = 3) (hp : ∀ j, j < 8 → ¬ s.1 j = 0 → ∃ z, z ≤ 12 ∧ N.1 18 j = nI z ∧ N.2.1 (135 + 12 * J j) 2 = pwT_ (pa_ N j) 0 z ∧ ∀ p, p < z → ¬ sgX_ (pa_ N j p) = 0) : JT_ J c N ∧ RT_ N := by
  obtain ⟨d1, ⟨d2, d3, d4, d5, d6⟩, ⟨d7, d8, d9, d10, d11⟩, -, -⟩ := hD
  obtain ⟨q1, ⟨q2, q3, q4⟩, ⟨q5, q6, q7⟩, -, -⟩ := hDR
  refine ⟨⟨fun j hj => ?_, fun j hj h0 => ?_⟩, s.2.2.2.1.1, s.2.2.2.2.1.1, d5, d2, d3, d4, q2, fun i hi => (d6 i hi).trans (q4 i hi).symm, d10, d7, d8, d9, q5, fun i hi => (d11 i hi).trans (q7 i hi).symm⟩
  · rw [(d1 j hj).1, (q1 j hj).1]
    exact ⟨rfl, hkd j hj⟩
  · rw [(q1 j hj).1] at h0
    obtain ⟨z, p1, p2, p3, p4⟩ := hp j hj h0
    obtain ⟨x1, x2, x3⟩ := hX j hj h0
    obtain ⟨y1, ⟨z2, y2, y3, y4⟩, y5⟩ := hR j hj h0
    obtain rfl : z = z2 := (nI_eq (by omega) (by omega)).mp (p2.symm.trans y3)
    refine ⟨z, p1, p2, p3, p4, fun m hm => ?_, fun h1 => ?_, fun h2 i hi => ?_⟩
    · rw [x2 m hm]
      have := y4 m hm
      cases hb : E.2.2.2.2.2.2.2.1 j m with
      | true => exact ⟨fun _ y => by have := this.mp y; rw [hb] at this; exact absurd this (by decide), fun _ => rfl⟩
      | false => exact ⟨fun y => absurd y (by decide), fun y => absurd (this.mpr hb) y⟩
    · rw [(q1 j hj).1] at h1
      obtain ⟨k1, k2, k3, k4, k5⟩ := x3 h1
      obtain ⟨l1, l2, l3, l4, l5⟩ := y5 h1
      obtain ⟨a, l, w1, w2, w3, w4⟩ := hW j hj h1
      have m15 := (q1 j hj).2.1 h1
      refine ⟨k1.trans l1.symm, k2.trans l2.symm, ((d1 j hj).2.1).trans m15.symm, ⟨a, l, m15.trans w1, l2.trans w2, w3, w4⟩, ⟨_, k3, l3⟩, ?_⟩
      cases hc : E.2.2.2.2.2.2.1 j with
      | none => exact Or.inl ⟨k4 hc, l4 hc⟩
      | some e => exact Or.inr ⟨(k5 e hc).1, (l5 e hc).1, e, (k5 e hc).2, (l5 e hc).2⟩
    · rw [(q1 j hj).1] at h2
      exact ((d1 j hj).2.2 i hi).trans ((q1 j hj).2.2 h2 i hi).symm
