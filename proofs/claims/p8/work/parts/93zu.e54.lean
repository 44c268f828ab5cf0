/-! jobs, records and what was kept: the two programs' tables are one -/
def JT1_ (J : Nat → Nat) (c : Nat) (M : mm_) (j : Nat) : Prop := ∃ z, z ≤ 12 ∧ M.1 18 j = nI z ∧ M.2.1 (135 + 12 * J j) 2 = pwT_ (pa_ M j) 0 z ∧ (∀ p, p < z → ¬ sgX_ (pa_ M j p) = 0) ∧ (∀ m, m < c → (btX_ (M.1 (135 + 12 * J j) 9) (nI m) = 1 ↔ ¬ ft_ (pa_ M j) z (M.2.1 5 m) = 0)) ∧
  (M.1 12 j = 1 → M.1 (135 + 12 * J j) 1 = M.1 13 j ∧ M.1 (135 + 12 * J j) 6 = M.1 14 j ∧ M.1 (135 + 12 * J j) 7 = M.1 15 j ∧ (∃ a l, M.1 15 j = nI a ∧ M.1 14 j = nI l ∧ a < l ∧ l ≤ 99) ∧ (∃ e, XCo_ (135 + 12 * J j + 1) e M ∧ RCo_ (16 + 2 * j) e M) ∧ ((M.1 (135 + 12 * J j) 5 = 0 ∧ M.1 16 j = 0) ∨ (¬ M.1 (135 + 12 * J j) 5 = 0 ∧ ¬ M.1 16 j = 0 ∧ ∃ e, XCo_ (135 + 12 * J j + 6) e M ∧ RCo_ (17 + 2 * j) e M))) ∧
  (M.1 12 j = 2 → ∀ i, i < 48 → M.1 (135 + 12 * J j + 11) i = M.1 20 (48 * j + i))
def JT_ (J : Nat → Nat) (c : Nat) (M : mm_) : Prop := kdE_ J M M ∧ ∀ j, j < 8 → ¬ M.1 12 j = 0 → JT1_ J c M j
def RT_ (M : mm_) : Prop := ∃ a b, a ≤ 300 ∧ M.1 243 0 = 300 ∧ M.1 243 1 = 5 ∧ M.1 243 3 = nI a ∧ M.1 0 35 = nI a ∧ (∀ i, i < a * 5 → M.1 244 i = M.1 21 i) ∧ b ≤ 40 ∧ M.1 245 0 = 40 ∧ M.1 245 1 = 7 ∧ M.1 245 3 = nI b ∧ M.1 0 37 = nI b ∧ ∀ i, i < b * 7 → M.1 246 i = M.1 22 i
/-- an environment and a state for both programs -/
theorem E_of {J : Nat → Nat} {c : Nat} {M : mm_} (hT : JT_ J c M) (hM : MQ_ c M) (hR : RT_ M) (b : Bool) : ∃ (E : se_) (s : sgA_), E.1 = c ∧ (∀ m, m < c → E.2.1 m = M.2.1 46 m) ∧ (∀ m, m < c → wK_ (E.2.2.1 m) ∧ hd_ (48 + 5 * m) M (cqX_ (E.2.2.1 m) 0 0) ∧ 3 * snX_ (E.2.2.1 m) + 1 ≤ 80 ∧ sd_ M m (tm_ (E.2.2.1 m)) ∧ (tc_ (tm_ (E.2.2.1 m))).length ≤ 40 ∧ wfR_ true 3 true (tm_ (E.2.2.1 m))) ∧ E.2.2.2.2.2.2.2.2 = b ∧ JX_ E J c s M ∧ JR_ E c s M ∧ WL_ E s ∧ iv2_ s = 0 ∧ DX_ J s (sI_ M 247 1 0) ∧ DR_ s (sI_ M 0 40 0) ∧ ∀ j m, E.2.2.2.2.2.2.2.1 j m = true → m < c := by
  classical
  obtain ⟨hk, hj⟩ := hT
  obtain ⟨a, kb, r1, r2, r3, r4, r5, r6, r7, r8, r9, r10, r11, r12⟩ := hR
  let tr : Nat → Term := fun m => if h : m < c then Classical.choose (hM m h).2 else .null
  let ex : Nat → Term := fun j => if h : ∃ e, XCo_ (135 + 12 * J j + 1) e M ∧ RCo_ (16 + 2 * j) e M then Classical.choose h else .null
  let cn : Nat → Option Term := fun j => if h : ¬ M.1 16 j = 0 ∧ ∃ e, XCo_ (135 + 12 * J j + 6) e M ∧ RCo_ (17 + 2 * j) e M then some (Classical.choose h.2) else none
  let fi : Nat → Nat → Bool := fun j m => decide (m < c ∧ btX_ (M.1 (135 + 12 * J j) 9) (nI m) = 1)
  refine ⟨(c, fun m => M.2.1 46 m, tr, fun j => M.1 13 j, fun j => M.1 14 j, ex, cn, fi, b), (fun j => M.1 12 j, fun j => M.1 (135 + 12 * J j) 7, fun j i => M.1 (135 + 12 * J j + 11) i, (a, fun i => M.1 244 i), (kb, fun i => M.1 246 i), 0), rfl, fun m _ => rfl, fun m hm => ?_, rfl, fun j hj8 h0 => ?_, fun j hj8 h0 => ?_, fun j hj8 h1 => ?_, rfl, ?_, ?_, fun j m h => (of_decide_eq_true h).1⟩
  · have e : tr m = Classical.choose (hM m hm).2 := dif_pos hm
    have := Classical.choose_spec (hM m hm).2
    show wK_ (tr m) ∧ _
    rw [← e] at this
    exact ⟨this.1, this.2.1, this.2.2.1, this.2.2.2.1, this.2.2.2.2.1, this.2.2.2.2.2.1⟩
  · have h0 : ¬ M.1 12 j = 0 := h0
    obtain ⟨z, g1, g2, g3, g4, g5, g6, g7⟩ := hj j hj8 h0
    refine ⟨(hk j hj8).2.resolve_left h0, fun m hm => ?_, fun h1 => ?_⟩
    · show _ ↔ decide (m < c ∧ btX_ (M.1 (135 + 12 * J j) 9) (nI m) = 1) = true
      rw [decide_eq_true_iff]
      exact ⟨fun y => ⟨hm, y⟩, fun y => y.2⟩
    · obtain ⟨k1, k2, k3, k4, k5, k6⟩ := g6 h1
      have e : ex j = Classical.choose k5 := dif_pos k5
      have es := Classical.choose_spec k5
      rw [← e] at es
      refine ⟨k1, k2, es.1, fun hn => ?_, fun e2 he => ?_⟩
      · rcases k6 with k6 | ⟨k7, k8, k9⟩
        · exact k6.1
        · have : cn j = some (Classical.choose k9) := dif_pos ⟨k8, k9⟩
          exact absurd (this.symm.trans hn) (by simp)
      · rcases k6 with k6 | ⟨k7, k8, k9⟩
        · have : cn j = none := dif_neg (fun y => y.1 k6.2)
          exact absurd (this.symm.trans he) (by simp)
        · have : cn j = some (Classical.choose k9) := dif_pos ⟨k8, k9⟩
          have e3 : Classical.choose k9 = e2 := Option.some.inj (this.symm.trans he)
          have cs := Classical.choose_spec k9
          rw [e3] at cs
          exact ⟨k7, cs.1⟩
  · have h0 : ¬ M.1 12 j = 0 := h0
    obtain ⟨z, g1, g2, g3, g4, g5, g6, g7⟩ := hj j hj8 h0
    refine ⟨(hk j hj8).2.resolve_left h0, ⟨z, g1, g2, fun m hm => ?_⟩, fun h1 => ?_⟩
    · show _ ↔ decide (m < c ∧ btX_ (M.1 (135 + 12 * J j) 9) (nI m) = 1) = false
      rw [decide_eq_false_iff_not]
      exact ⟨fun y z => ((g5 m hm).mp z.2) y, fun y => Decidable.not_not.mp (fun z => y ⟨hm, (g5 m hm).mpr z⟩)⟩
    · obtain ⟨k1, k2, k3, k4, k5, k6⟩ := g6 h1
      have e : ex j = Classical.choose k5 := dif_pos k5
      have es := Classical.choose_spec k5
      rw [← e] at es
      refine ⟨rfl, rfl, es.2, fun hn => ?_, fun e2 he => ?_⟩
      · rcases k6 with k6 | ⟨k7, k8, k9⟩
        · exact k6.2
        · have : cn j = some (Classical.choose k9) := dif_pos ⟨k8, k9⟩
          exact absurd (this.symm.trans hn) (by simp)
      · rcases k6 with k6 | ⟨k7, k8, k9⟩
        · have : cn j = none := dif_neg (fun y => y.1 k6.2)
          exact absurd (this.symm.trans he) (by simp)
        · have : cn j = some (Classical.choose k9) := dif_pos ⟨k8, k9⟩
          have e3 : Classical.choose k9 = e2 := Option.some.inj (this.symm.trans he)
          have cs := Classical.choose_spec k9
          rw [e3] at cs
          exact ⟨k8, cs.2⟩
  · have h1 : M.1 12 j = 1 := h1
    obtain ⟨z, g1, g2, g3, g4, g5, g6, g7⟩ := hj j hj8 (by rw [h1]; decide)
    obtain ⟨k1, k2, k3, ⟨x, l, k4, k5, k6, k7⟩, -⟩ := g6 h1
    exact ⟨x, l, k3.trans k4, k5, k6, k7⟩
  · refine ⟨fun j hj8 => ⟨?_, ?_, fun i hi => ?_⟩, ⟨?_, ?_, ?_, r1, fun i hi => ?_⟩, ⟨?_, ?_, ?_, r7, fun i hi => ?_⟩, ?_, ?_⟩
    · rw [gI_sI, if_neg (by omega)]; exact (hk j hj8).1
    · rw [gI_sI, if_neg (by omega)]
    · rw [gI_sI, if_neg (by omega)]
    · rw [gI_sI, if_neg (by omega)]; exact r2
    · rw [gI_sI, if_neg (by omega)]; exact r3
    · rw [gI_sI, if_neg (by omega)]; exact r4
    · rw [gI_sI, if_neg (by omega)]
    · rw [gI_sI, if_neg (by omega)]; exact r8
    · rw [gI_sI, if_neg (by omega)]; exact r9
    · rw [gI_sI, if_neg (by omega)]; exact r10
    · rw [gI_sI, if_neg (by omega)]
    · rw [gI_sI, if_pos ⟨rfl, rfl⟩]; rfl
    · show 0 ≤ 1000; omega
  · refine ⟨fun j hj8 => ⟨?_, fun h1 => ?_, fun h2 i hi => ?_⟩, ⟨?_, r1, fun i hi => ?_⟩, ⟨?_, r7, fun i hi => ?_⟩, ?_, ?_⟩
    · rw [gI_sI, if_neg (by omega)]
    · have h1 : M.1 12 j = 1 := h1
      obtain ⟨z, g1, g2, g3, g4, g5, g6, g7⟩ := hj j hj8 (by rw [h1]; decide)
      rw [gI_sI, if_neg (by omega)]; exact (g6 h1).2.2.1.symm
    · have h2 : M.1 12 j = 2 := h2
      obtain ⟨z, g1, g2, g3, g4, g5, g6, g7⟩ := hj j hj8 (by rw [h2]; decide)
      rw [gI_sI, if_neg (by omega)]; exact (g7 h2 i hi).symm
    · rw [gI_sI, if_neg (by omega)]; exact r5
    · rw [gI_sI, if_neg (by omega)]; exact (r6 i hi).symm
    · rw [gI_sI, if_neg (by omega)]; exact r11
    · rw [gI_sI, if_neg (by omega)]; exact (r12 i hi).symm
    · rw [gI_sI, if_pos ⟨rfl, rfl⟩]; rfl
    · show 0 ≤ 1000; omega
