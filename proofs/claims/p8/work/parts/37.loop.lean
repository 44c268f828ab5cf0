/-! the parser's steps: they go on, their faults are faults, and what stands before an argument -/
def nz_ : ss_ ⊕ (Int32 × Nat) → Prop
  | .inl _ => True
  | .inr (f, _) => ¬ f = 0
/-- a step from place k: the place grows, and stays on the tape -/
def gk_ (n k : Nat) : ss_ ⊕ (Int32 × Nat) → Prop
  | .inl S => k < S.1 ∧ S.1 ≤ n
  | .inr _ => True
def iw_ (f : Nat → Int32) (k : Nat) : List fr_ → Prop
  | [] => True
  | g :: _ => g.1 = 8 → 1 ≤ k ∧ (ac_ g.2.2.1 = 0 ↔ f (k - 1) = 40)
def iq_ (f : Nat → Int32) : ss_ ⊕ (Int32 × Nat) → Prop
  | .inl S => S.2.2.1 = none → iw_ f S.1 S.2.1
  | .inr _ => True
theorem bf_lt {M : mm_} {n k : Nat} (h : ¬ bf_ M n k < 0) : k < n := by
  rcases Nat.lt_or_ge k n with q | q
  · exact q
  · exact absurd (show bf_ M n k < 0 by unfold bf_; rw [if_neg (by omega)]; decide) h
theorem ac_sa1 (x e : Term) : ¬ ac_ (sa_ x e) = 0 := by cases x <;> simp [sa_, ac_]
theorem nz_rn {f : Nat → Int32} {n k nd op : Nat} {W : List fr_} : nz_ (rn2_ f n k W nd op) := by
  unfold rn2_
  split
  · simp [nz_]
  · split <;> simp [nz_]
theorem nz_rr {M : mm_} {n k nd op : Nat} {W : List fr_} : nz_ (rr_ M n k W nd op) := by
  unfold rr_
  repeat' split
  all_goals simp [nz_]
theorem nz_so {M : mm_} {n k nd op : Nat} {W : List fr_} : nz_ (so_ M n k W nd op) := by
  unfold so_
  split
  · simp [nz_]
  · split
    · unfold co0_; split <;> simp [nz_]
    · unfold so2_
      split
      · simp [nz_]
      · split
        · exact nz_rn
        · split
          · split <;> simp [nz_]
          · split
            · split <;> simp [nz_]
            · split
              · exact nz_rr
              · simp [nz_]
theorem gk_rn {f : Nat → Int32} {n k nd op : Nat} {W : List fr_} (hk : k < n) (h : ¬ ig_ (f k) = 0) : gk_ n k (rn2_ f n k W nd op) := by
  unfold rn2_
  split
  · trivial
  · split
    · trivial
    · obtain ⟨u, hu⟩ : ∃ u, n - k = u + 1 := ⟨n - k - 1, by omega⟩
      have h1 : ig_ (f k) = 1 := (ig_01 _).resolve_left h
      have e : nv_ f (n - k) k 0 = nv_ f u (k + 1) (dn_ 0 (dg_ (f k))) := by rw [hu]; simp only [nv_]; rw [if_pos h1]
      have g := nv_le f u (k + 1) (dn_ 0 (dg_ (f k))) (dn_le _ _)
      rw [e]
      exact ⟨by simp only; omega, by simp only; omega⟩
theorem gk_rr {M : mm_} {n k nd op : Nat} {W : List fr_} (hk : k < n) : gk_ n k (rr_ M n k W nd op) := by
  unfold rr_
  split
  · split
    · trivial
    · split
      · trivial
      · exact ⟨by simp only; omega, by simp only; omega⟩
  · split
    · trivial
    · split
      · trivial
      · split
        · trivial
        · split
          · trivial
          · split
            · trivial
            · rename_i h40
              split
              · trivial
              · have h41 : bf_ M n (k + rz_ M n k) = 40 := Decidable.not_not.mp h40
                have := bf_lt (M := M) (n := n) (k := k + rz_ M n k) (by rw [h41]; decide)
                exact ⟨by simp only; omega, by simp only; omega⟩
theorem gk_so {M : mm_} {n k nd op : Nat} {W : List fr_} : gk_ n k (so_ M n k W nd op) := by
  unfold so_
  split
  · trivial
  · rename_i hne
    have hk : k < n := bf_lt (fun q => hne (Or.inl q))
    split
    · unfold co0_
      split
      · trivial
      · exact ⟨by simp only; omega, by simp only; omega⟩
    · unfold so2_
      split
      · trivial
      · split
        · rename_i hg
          exact gk_rn hk hg
        · split
          · split
            · trivial
            · exact ⟨by simp only; omega, by simp only; omega⟩
          · split
            · split
              · trivial
              · exact ⟨by simp only; omega, by simp only; omega⟩
            · split
              · exact gk_rr hk
              · trivial
theorem iq_so {M : mm_} {n k nd op : Nat} {W : List fr_} : iq_ (bf_ M n) (so_ M n k W nd op) := by
  unfold so_
  split
  · trivial
  · split
    · unfold co0_
      split
      · trivial
      · intro q; simp at q
    · unfold so2_
      split
      · trivial
      · split
        · unfold rn2_
          split
          · trivial
          · split
            · trivial
            · intro q; simp at q
        · split
          · split
            · trivial
            · intro _ q; simp at q
          · split
            · split
              · trivial
              · intro _ q; simp at q
            · split
              · unfold rr_
                split
                · split
                  · trivial
                  · split
                    · trivial
                    · intro q; simp at q
                · split
                  · trivial
                  · split
                    · trivial
                    · split
                      · trivial
                      · split
                        · trivial
                        · split
                          · trivial
                          · rename_i h40
                            split
                            · trivial
                            · intro _ _
                              refine ⟨by simp only; omega, ?_⟩
                              simp only [ac_, Nat.add_sub_cancel, true_iff]
                              exact Decidable.not_not.mp h40
              · trivial
/-- a sign's step -/
def s1_ (f : Nat → Int32) (k : Nat) : ss_ ⊕ (Int32 × Nat) → Prop
  | .inl S => S.1 = k + 1 ∧ (f k = 40 ∨ S.2.2.1 = none → iw_ f S.1 S.2.1)
  | .inr (g, _) => ¬ g = 0
theorem s1_ha {f : Nat → Int32} {k nd op : Nat} {W : List fr_} {e : Term} : s1_ f k (ha_ k W e nd op) := by
  unfold ha_
  split
  · simp [s1_]
  · exact ⟨rfl, fun _ q => by simp at q⟩
theorem s1_qu {f : Nat → Int32} {k nd op : Nat} {W : List fr_} {e : Term} : s1_ f k (qu_ k W e nd op) := by
  unfold qu_
  split
  · simp [s1_]
  · exact ⟨rfl, fun _ q => by simp at q⟩
theorem s1_cl {f : Nat → Int32} {k nd op : Nat} {W : List fr_} {e : Term} : s1_ f k (cl_ k W e nd op) := by
  unfold cl_
  split
  · simp [s1_]
  · split
    · exact ⟨rfl, fun _ q => by simp at q⟩
    · simp [s1_]
theorem s1_bt {f : Nat → Int32} {k nd op L : Nat} {c : Int32} {W : List fr_} {e : Term} (hL : L ≤ 7) : s1_ f k (bt_ L c k W e nd op) := by
  unfold bt_
  generalize rt_ (if L = 3 then 4 else L) W e = q
  split
  · simp [s1_]
  · split
    · simp [s1_]
    · exact ⟨rfl, fun _ q => by simp at q; omega⟩
theorem s1_cm {f : Nat → Int32} {k nd op : Nat} {W : List fr_} {e : Term} (h : f k = 44) : s1_ f k (cm2_ k W e nd op) := by
  unfold cm2_
  split
  · simp [s1_]
  · split
    · refine ⟨rfl, fun _ _ => ⟨by simp only; omega, ?_⟩⟩
      simp only [Nat.add_sub_cancel]
      constructor
      · intro q; exact absurd q (ac_sa1 _ _)
      · intro q; rw [h] at q; exact absurd q (by decide)
    · simp [s1_]
