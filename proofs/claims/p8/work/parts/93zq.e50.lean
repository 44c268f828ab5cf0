/-! the tables of jobs -/
/-- the jobs' kinds are the same -/
def kdE_ (J : Nat → Nat) (A B : mm_) : Prop := ∀ i, i < 8 → A.1 (135 + 12 * J i) 0 = B.1 12 i ∧ (B.1 12 i = 0 ∨ B.1 12 i = 1 ∨ B.1 12 i = 2 ∨ B.1 12 i = 3)
theorem fj_T {J : Nat → Nat} {A B : mm_} (h : kdE_ J A B) : ∀ u i, i + u ≤ 8 → fj_ B u i = match fj1_ A J u i with | none => -1 | some b => nI b
  | 0, _, _ => rfl
  | u + 1, i, hi => by
    rw [fj_, fj1_, (h i (by omega)).1]
    by_cases q : B.1 12 i = 0
    · rw [if_pos q, if_pos q]
    · rw [if_neg q, if_neg q]; exact fj_T h u (i + 1) (by omega)
theorem fj1_in {J : Nat → Nat} {A : mm_} : ∀ u i b, fj1_ A J u i = some b → i ≤ b ∧ b < i + u ∧ A.1 (135 + 12 * J b) 0 = 0
  | 0, _, _, h => by cases h
  | u + 1, i, b, h => by
    rw [fj1_] at h
    split at h
    · rename_i y; cases h; exact ⟨by omega, by omega, y⟩
    · obtain ⟨h1, h2, h3⟩ := fj1_in u (i + 1) b h
      exact ⟨by omega, by omega, h3⟩
theorem fj_neg {J : Nat → Nat} {A B : mm_} (h : kdE_ J A B) : fj_ B 8 0 < 0 ↔ fj1_ A J 8 0 = none := by
  rw [fj_T h 8 0 (by omega)]
  cases e : fj1_ A J 8 0 with
  | none => exact ⟨fun _ => rfl, fun _ => by decide⟩
  | some b =>
    have := fj1_in 8 0 b e
    exact ⟨fun y => absurd y (nI_n0 b (by omega)), fun y => by cases y⟩
theorem ea_T {J : Nat → Nat} {B : mm_} (hd : ∀ i j, i < 8 → j < 8 → J i = J j → i = j) : ∀ (u i : Nat) (r : Int32) (A : mm_), i + u ≤ 8 → (∀ j, i ≤ j → j < 8 → A.1 (135 + 12 * J j) 0 = B.1 12 j ∧ (B.1 12 j = 0 ∨ B.1 12 j = 1 ∨ B.1 12 j = 2 ∨ B.1 12 j = 3)) → r = nI (nk_ B i) → (ea1_ J u i r A).1 = nI (nk_ B (i + u))
  | 0, i, r, A, _, _, hr => hr
  | u + 1, i, r, A, hi, h, hr => by
    rw [ea1_, show i + (u + 1) = i + 1 + u by omega]
    refine ea_T hd u (i + 1) _ _ (by omega) (fun j h1 h2 => ?_) ?_
    · rw [gI_sI, if_neg (fun y => by have := hd j i h2 (by omega) (by omega); omega)]
      exact h j (by omega) h2
    · obtain ⟨k1, k2⟩ := h i (Nat.le_refl _) (by omega)
      rw [k1, hr, nk_]
      rcases k2 with k | k | k | k
      · rw [k, if_pos rfl, if_pos (by decide)]; exact Int32.add_zero _
      · rw [k, if_neg (by decide), if_neg (by decide), nI_1]
      · rw [k, if_neg (by decide), if_neg (by decide), nI_1]
      · rw [k, if_neg (by decide), if_neg (by decide), nI_1]
theorem ea_o {J : Nat → Nat} : ∀ (u i : Nat) (r : Int32) (A : mm_) (a x : Nat), ¬ (x = 0 ∧ ∃ j, i ≤ j ∧ j < i + u ∧ a = 135 + 12 * J j) → (ea1_ J u i r A).2.1 a x = A.1 a x
  | 0, _, _, _, _, _, _ => rfl
  | u + 1, i, r, A, a, x, h => by
    rw [ea1_, ea_o u (i + 1) _ _ a x (fun ⟨h1, j, h2, h3, h4⟩ => h ⟨h1, j, by omega, by omega, h4⟩), gI_sI, if_neg (fun y => h ⟨y.2, i, Nat.le_refl _, by omega, y.1⟩)]
theorem ea_0 {J : Nat → Nat} : ∀ (u i : Nat) (r : Int32) (A : mm_) (j : Nat), i ≤ j → j < i + u → (ea1_ J u i r A).2.1 (135 + 12 * J j) 0 = 0
  | 0, _, _, _, _, h1, h2 => by omega
  | u + 1, i, r, A, j, h1, h2 => by
    rw [ea1_]
    by_cases e : ∃ j2, i + 1 ≤ j2 ∧ j2 < i + 1 + u ∧ 135 + 12 * J j = 135 + 12 * J j2
    · obtain ⟨j2, g1, g2, g3⟩ := e
      rw [g3]
      exact ea_0 u (i + 1) _ _ j2 g1 g2
    · rw [ea_o u (i + 1) _ _ _ _ (fun ⟨_, j2, g1, g2, g3⟩ => e ⟨j2, g1, g2, g3⟩)]
      have : j = i := by
        by_cases q : j = i
        · exact q
        · exact absurd ⟨j, by omega, by omega, rfl⟩ e
      rw [this, gI_sI, if_pos ⟨rfl, rfl⟩]
theorem ea_2 {J : Nat → Nat} : ∀ (u i : Nat) (r : Int32) (A : mm_), (ea1_ J u i r A).2.2 = A.2
  | 0, _, _, _ => rfl
  | u + 1, i, r, A => by rw [ea1_, ea_2 u (i + 1)]; rfl
/-- behind a reset both have none -/
theorem kd_reset {J : Nat → Nat} {A B : mm_} {r : Int32} : kdE_ J (ea1_ J 8 0 r A).2 (zk_ B 8) := fun i hi => by
  have z : (zk_ B 8).1 12 i = 0 := by
    have : ∀ j, i < j → (zk_ B j).1 12 i = 0 := by
      intro j
      induction j with
      | zero => intro h; omega
      | succ j ih =>
        intro h
        rw [zk_, gI_sI]
        split
        · rfl
        · rename_i y
          exact ih (by omega)
    exact this 8 hi
  rw [z]
  exact ⟨ea_0 8 0 r A i (by omega) (by omega), Or.inl rfl⟩
