/-! what updates keep of the parser's state -/
/-- the place of reading is on the tape or near -/
def ao5_ (M : mm_) : Prop := ∃ q : Nat, q < 1073741824 ∧ M.1 0 5 = nI q
/-- nothing but the parser's cells has changed; where there is no fault now, there was none, and the fault's place is the same; the place of reading is still a place -/
def pf_ (M N : mm_) : Prop := (∀ a i : Nat, a ≠ 7 → a ≠ 8 → a ≠ 9 → a ≠ 11 → ¬ (a = 2 ∧ 2048 ≤ i) → ¬ (a = 0 ∧ (i = 3 ∨ i = 4 ∨ i = 5 ∨ i = 12 ∨ i = 13 ∨ i = 20 ∨ i = 22 ∨ i = 23)) → N.1 a i = M.1 a i) ∧ (∀ a i : Nat, a ≠ 10 → ¬ (a = 3 ∧ 2048 ≤ i) → ¬ (a = 0 ∧ i = 24) → N.2.1 a i = M.2.1 a i) ∧ N.2.2 = M.2.2 ∧ (N.1 0 3 = 0 → M.1 0 3 = 0 ∧ N.1 0 4 = M.1 0 4) ∧ (ao5_ M → ao5_ N)
theorem pf_rf (M : mm_) : pf_ M M := ⟨fun _ _ _ _ _ _ _ _ => rfl, fun _ _ _ _ _ => rfl, rfl, fun h => ⟨h, rfl⟩, id⟩
theorem pf_tr {M N O : mm_} (h1 : pf_ M N) (h2 : pf_ N O) : pf_ M O := ⟨fun a i a1 a2 a3 a4 a5 a6 => (h2.1 a i a1 a2 a3 a4 a5 a6).trans (h1.1 a i a1 a2 a3 a4 a5 a6), fun a i a1 a2 a3 => (h2.2.1 a i a1 a2 a3).trans (h1.2.1 a i a1 a2 a3), h2.2.2.1.trans h1.2.2.1, fun h => ⟨(h1.2.2.2.1 (h2.2.2.2.1 h).1).1, (h2.2.2.2.1 h).2.trans (h1.2.2.2.1 (h2.2.2.2.1 h).1).2⟩, fun h => h2.2.2.2.2 (h1.2.2.2.2 h)⟩
theorem at5_ {q : Nat} (h : q < 1073741824) : (0 : Nat) = 7 ∨ (0 : Nat) = 8 ∨ (0 : Nat) = 9 ∨ (0 : Nat) = 11 ∨ ((0 : Nat) = 2 ∧ 2048 ≤ 5) ∨ ((0 : Nat) = 0 ∧ ((5 : Nat) = 12 ∨ (5 : Nat) = 13 ∨ (5 : Nat) = 20 ∨ (5 : Nat) = 22 ∨ (5 : Nat) = 23)) ∨ ((0 : Nat) = 0 ∧ (5 : Nat) = 5 ∧ ∃ r : Nat, r < 1073741824 ∧ nI q = nI r) := Or.inr (Or.inr (Or.inr (Or.inr (Or.inr (Or.inr ⟨rfl, rfl, q, h, rfl⟩)))))
theorem pf_sI {M N : mm_} {a i : Nat} {v : Int32} (h : pf_ M N) (hq : a = 7 ∨ a = 8 ∨ a = 9 ∨ a = 11 ∨ (a = 2 ∧ 2048 ≤ i) ∨ (a = 0 ∧ (i = 12 ∨ i = 13 ∨ i = 20 ∨ i = 22 ∨ i = 23)) ∨ (a = 0 ∧ i = 5 ∧ ∃ r : Nat, r < 1073741824 ∧ v = nI r)) : pf_ M (sI_ N a i v) := by
  have hq2 : a = 7 ∨ a = 8 ∨ a = 9 ∨ a = 11 ∨ (a = 2 ∧ 2048 ≤ i) ∨ (a = 0 ∧ (i = 3 ∨ i = 4 ∨ i = 5 ∨ i = 12 ∨ i = 13 ∨ i = 20 ∨ i = 22 ∨ i = 23)) := by
    rcases hq with q | q | q | q | q | q | ⟨q1, q2, -⟩ <;> omega
  have h34 : ¬ ((0 : Nat) = a ∧ 3 = i) ∧ ¬ ((0 : Nat) = a ∧ 4 = i) := by
    rcases hq with q | q | q | q | q | q | ⟨q1, q2, -⟩ <;> omega
  refine ⟨fun x j b1 b2 b3 b4 b5 b6 => ?_, h.2.1, h.2.2.1, fun y => ?_, fun y => ?_⟩
  · rw [sI_ne _ _ _ _ (fun z => by obtain ⟨rfl, rfl⟩ := z; omega)]
    exact h.1 x j b1 b2 b3 b4 b5 b6
  · rw [sI_ne _ _ _ _ h34.1] at y
    rw [sI_ne _ _ _ _ h34.2]
    exact h.2.2.2.1 y
  · by_cases z : (0 : Nat) = a ∧ 5 = i
    · obtain ⟨rfl, rfl⟩ := z
      rcases hq with q | q | q | q | q | q | ⟨-, -, r, hr, q⟩
      all_goals first | omega | exact ⟨r, hr, by rw [q]; simp [sI_]⟩
    · obtain ⟨r, hr, e⟩ := h.2.2.2.2 y
      exact ⟨r, hr, by rw [sI_ne _ _ _ _ z]; exact e⟩
theorem pf_sL {M N : mm_} {a i : Nat} {v : Int64} (h : pf_ M N) (hq : a = 10 ∨ (a = 3 ∧ 2048 ≤ i) ∨ (a = 0 ∧ i = 24)) : pf_ M (sL_ N a i v) := by
  refine ⟨h.1, fun x j b1 b2 b3 => ?_, h.2.2⟩
  rw [sL_ne _ _ _ _ (fun z => by obtain ⟨rfl, rfl⟩ := z; omega)]
  exact h.2.1 x j b1 b2 b3
theorem pf_pu {M N : mm_} {n : Nat} {t : Int32} {v : Int64} (h : pf_ M N) : pf_ M (pu_ N n t v) := pf_sI (pf_sL (pf_sI h (by omega)) (by omega)) (by omega)
theorem mid_get {α : Type} (A B : List α) (x : α) (i : Nat) : (A ++ x :: B)[i]? = if i < A.length then A[i]? else if i = A.length then some x else B[i - A.length - 1]? := by
  by_cases h : i < A.length
  · rw [if_pos h, List.getElem?_append_left h]
  · rw [if_neg h, List.getElem?_append_right (by omega)]
    by_cases h2 : i = A.length
    · rw [if_pos h2, h2]; simp
    · rw [if_neg h2]
      obtain ⟨k, hk⟩ : ∃ k, i - A.length = k + 1 := ⟨i - A.length - 1, by omega⟩
      rw [hk, List.getElem?_cons_succ]
      simp
theorem cd_patch {M : mm_} {A B : List sv_} {x : Int32} {y v : Int64} (h : cd_ M (A ++ (x, y) :: B)) : cd_ (sL_ M 3 (2048 + A.length) v) (A ++ (x, v) :: B) := by
  refine ⟨by rw [gI_sL, h.1]; simp, fun i z hi => ?_⟩
  rw [mid_get] at hi
  have hh := h.2 i
  simp only [mid_get] at hh
  rw [gI_sL, gL_sL]
  by_cases h1 : i < A.length
  · rw [if_pos h1] at hi
    simp only [if_pos h1] at hh
    rw [if_neg (by omega)]
    exact hh z hi
  · rw [if_neg h1] at hi
    simp only [if_neg h1] at hh
    by_cases h2 : i = A.length
    · rw [if_pos h2] at hi
      simp only [if_pos h2] at hh
      cases hi
      rw [if_pos ⟨rfl, by omega⟩]
      exact ⟨(hh (x, y) rfl).1, rfl⟩
    · rw [if_neg h2] at hi
      simp only [if_neg h2] at hh
      rw [if_neg (by omega)]
      exact hh z hi
theorem cd_sI {M : mm_} {c : List sv_} {a i : Nat} {v : Int32} (h : cd_ M c) (h1 : ¬ (a = 0 ∧ i = 12)) (h2 : a ≠ 2) : cd_ (sI_ M a i v) c := by
  refine ⟨by rw [sI_ne _ _ _ _ (fun z => h1 ⟨z.1.symm, z.2.symm⟩)]; exact h.1, fun j x hj => ?_⟩
  rw [sI_ne _ _ _ _ (fun z => h2 z.1.symm)]
  exact h.2 j x hj
theorem cd_sL {M : mm_} {c : List sv_} {a i : Nat} {v : Int64} (h : cd_ M c) (h2 : a ≠ 3) : cd_ (sL_ M a i v) c := by
  refine ⟨h.1, fun j x hj => ?_⟩
  rw [sL_ne _ _ _ _ (fun z => h2 z.1.symm)]
  exact h.2 j x hj
theorem cd_pu {M : mm_} {c : List sv_} {t : Int32} {v : Int64} (h : cd_ M c) : cd_ (pu_ M c.length t v) (c ++ [(t, v)]) := by
  refine ⟨by simp [pu_, sI_], fun i x hi => ?_⟩
  by_cases h1 : i < c.length
  · rw [List.getElem?_append_left h1] at hi
    have := h.2 i x hi
    simp only [pu_, gI_sI, gL_sI, gI_sL, gL_sL]
    rw [if_neg (by omega), if_neg (by omega), if_neg (by omega)]
    exact this
  · rw [List.getElem?_append_right (by omega)] at hi
    have h2 : i - c.length < 1 := (List.getElem?_eq_some_iff.mp hi).1
    obtain rfl : i = c.length := by omega
    rw [Nat.sub_self] at hi
    cases hi
    simp [pu_, gI_sI, gL_sI, gI_sL, gL_sL]
theorem od_cut {M : mm_} {o : List Nat} {x : Nat} (h : od_ M (o ++ [x])) : od_ (sI_ M 0 22 (nI o.length)) o := by
  refine ⟨by simp [sI_], fun i y hi => ?_⟩
  have h1 := (List.getElem?_eq_some_iff.mp hi).1
  rw [sI_ne _ _ _ _ (by omega)]
  exact h.2 i y (by rw [List.getElem?_append_left h1]; exact hi)
theorem od_new {M : mm_} {o : List Nat} {x y : Nat} (h : od_ M (o ++ [x])) : od_ (sI_ M 11 o.length (nI y)) (o ++ [y]) := by
  refine ⟨by rw [sI_ne _ _ _ _ (by omega), h.1]; simp, fun i z hi => ?_⟩
  by_cases h1 : i < o.length
  · rw [List.getElem?_append_left h1] at hi
    rw [sI_ne _ _ _ _ (by omega)]
    exact h.2 i z (by rw [List.getElem?_append_left h1]; exact hi)
  · rw [List.getElem?_append_right (by omega)] at hi
    have h2 : i - o.length < 1 := (List.getElem?_eq_some_iff.mp hi).1
    obtain rfl : i = o.length := by omega
    rw [Nat.sub_self] at hi
    cases hi
    rw [sI_at]
theorem od_op {M : mm_} {o : List Nat} {x : Nat} (h : od_ M o) : od_ (op_ M o.length (nI x)) (o ++ [x]) := by
  refine ⟨by simp [op_, sI_], fun i z hi => ?_⟩
  unfold op_
  by_cases h1 : i < o.length
  · rw [List.getElem?_append_left h1] at hi
    rw [sI_ne _ _ _ _ (by omega), sI_ne _ _ _ _ (by omega)]
    exact h.2 i z hi
  · rw [List.getElem?_append_right (by omega)] at hi
    have h2 : i - o.length < 1 := (List.getElem?_eq_some_iff.mp hi).1
    obtain rfl : i = o.length := by omega
    rw [Nat.sub_self] at hi
    cases hi
    rw [sI_ne _ _ _ _ (by omega), sI_at]
theorem od_sI {M : mm_} {o : List Nat} {a i : Nat} {v : Int32} (h : od_ M o) (h1 : ¬ (a = 0 ∧ i = 22)) (h2 : a ≠ 11) : od_ (sI_ M a i v) o := by
  refine ⟨by rw [sI_ne _ _ _ _ (fun z => h1 ⟨z.1.symm, z.2.symm⟩)]; exact h.1, fun j x hj => ?_⟩
  rw [sI_ne _ _ _ _ (fun z => h2 z.1.symm)]
  exact h.2 j x hj
theorem od_sL {M : mm_} {o : List Nat} {a i : Nat} {v : Int64} (h : od_ M o) : od_ (sL_ M a i v) o := h
theorem od_pu {M : mm_} {o : List Nat} {n : Nat} {t : Int32} {v : Int64} (h : od_ M o) : od_ (pu_ M n t v) o := od_sI (od_sL (od_sI h (by omega) (by omega))) (by omega) (by omega)
theorem wr_eq {M N : mm_} : ∀ {W : List fr_}, (∀ a i : Nat, (a = 7 ∨ a = 8 ∨ a = 9) → i < W.length → N.1 a i = M.1 a i) → (∀ i : Nat, i < W.length → N.2.1 10 i = M.2.1 10 i) → wr_ M W → wr_ N W
  | [], _, _, h => h
  | f :: r, h1, h2, h => by
    obtain ⟨g0, g1, g2, g3, g4, g5⟩ := h
    refine ⟨wr_eq (fun a i ha hi => h1 a i ha (by simp; omega)) (fun i hi => h2 i (by simp; omega)) g0, g1, ?_, ?_, ?_, fun z => ?_⟩
    · rw [h1 7 _ (Or.inl rfl) (by simp)]; exact g2
    · rw [h1 8 _ (Or.inr (Or.inl rfl)) (by simp)]; exact g3
    · rw [h1 9 _ (Or.inr (Or.inr rfl)) (by simp)]; exact g4
    · rw [h2 _ (by simp)]; exact g5 z
theorem wr_sI {M : mm_} {W : List fr_} {a i : Nat} {v : Int32} (h : wr_ M W) (hq : (a ≠ 7 ∧ a ≠ 8 ∧ a ≠ 9) ∨ W.length ≤ i) : wr_ (sI_ M a i v) W :=
  wr_eq (fun b j hb hj => sI_ne _ _ _ _ (fun z => by omega)) (fun _ _ => rfl) h
theorem wr_sL {M : mm_} {W : List fr_} {a i : Nat} {v : Int64} (h : wr_ M W) (hq : a ≠ 10 ∨ W.length ≤ i) : wr_ (sL_ M a i v) W :=
  wr_eq (M := M) (N := sL_ M a i v) (fun _ _ _ _ => rfl) (fun j hj => sL_ne _ _ _ _ (fun z => by omega)) h
theorem wr_pu {M : mm_} {W : List fr_} {n : Nat} {t : Int32} {v : Int64} (h : wr_ M W) : wr_ (pu_ M n t v) W := wr_sI (wr_sL (wr_sI h (Or.inl (by omega))) (Or.inl (by omega))) (Or.inl (by omega))
theorem tz_pu {M : mm_} {n m : Nat} {t : Int32} {v : Int64} (h : tz_ M n) : tz_ (pu_ M m t v) n := tz_sI (tz_sL (tz_sI h (by omega))) (by omega)
/-- a frame and the tree on its right become one -/
def rf_ (f : fr_) (e : Term) : Term := match f.1 with
  | 1 => .rem f.2.2.1 e
  | 2 => .mul f.2.2.1 (.div f.2.2.2.1 e)
  | 6 => if f.2.1 = 45 then .length e else .sum e
  | _ => .elem (.int f.2.1) (.add f.2.2.1 e)
