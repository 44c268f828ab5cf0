/-! kill's number; how a command's reading ends in the class -/
def klT_ (T : Int32 → Int32) (q : Option Nat) : Int32 × Option Nat := match q with
  | none => (0, none)
  | some p => if fg_ (T (nI p)) = 0 then (0, none) else ((nuP_ T 200 p 0).2.toInt32, if (nuP_ T 200 p 0).2 ≤ 99 then some (nuP_ T 200 p 0).1 else none)
theorem LS_kl {q : Option Nat} {M : mm_} (h : LS_ q M) : (nu1_ 200 (nuA_ M) 0).2.toInt32 = (klT_ (tb_ M) q).1 ∧ LS_ (klT_ (tb_ M) q).2 (nuB_ (nu1_ 200 (nuA_ M) 0).1 (M.1 37 1) (nu1_ 200 (nuA_ M) 0).2 99) := by
  have dead : ∀ N : mm_, LS_ none N → LS_ none (nuB_ N (M.1 37 1) 0 99) := fun N hN => by
    unfold nuB_
    rw [if_pos (by decide +kernel)]
    exact hN
  cases q with
  | none =>
    have e : LS_ none (nuA_ M) := by
      unfold nuA_
      rw [pe_F h, if_pos (by decide)]
      exact LS_fn h
    rw [nu_n e]
    exact ⟨rfl, dead _ e⟩
  | some p =>
    unfold klT_
    simp only
    by_cases z : fg_ (tb_ M (nI p)) = 0
    · have e : LS_ none (nuA_ M) := by
        unfold nuA_
        rw [LS_pe h, if_pos z]
        exact LS_fi h (by decide)
      rw [nu_n e, if_pos z]
      exact ⟨rfl, dead _ e⟩
    · rw [nuG h.1 h.2 (by rw [LS_pe h]; exact z), if_neg z]
      refine ⟨rfl, ?_⟩
      have e : LS_ (some (nuP_ (tb_ M) 200 p 0).1) (sI_ M 37 1 (nI (nuP_ (tb_ M) 200 p 0).1)) := ⟨h.1, rfl⟩
      unfold nuB_
      simp only
      rw [show Int32.toInt64 99 = 99 by decide +kernel]
      by_cases y : (nuP_ (tb_ M) 200 p 0).2 ≤ 99
      · rw [if_pos y, if_pos y]
        exact e
      · rw [if_neg y, if_neg y]
        exact LS_fi e (by decide)
section KLT
variable {T : Int32 → Int32} {M : mm_} {n : Nat}
theorem kl_T (h : TF_ T (bf_ M n) n) {s : Nat} (hs : s ≤ n) : (∃ q, sm_ M n s 0 = .inr q ∧ qw_ T (klT_ T (some s)).2 = none) ∨ (∃ l k, sm_ M n s 0 = .inl (nI l, k) ∧ l ≤ 99 ∧ k ≤ n ∧ (klT_ T (some s)).1 = nI l ∧ qw_ T (klT_ T (some s)).2 = some (sp_ M n k)) := by
  have hn := h.1
  obtain ⟨a, k, e1, ha, hk, e2⟩ := nu_T h hs
  have l1 : klT_ T (some s) = if ig_ (bf_ M n s) = 0 then (0, none) else ((lN a).toInt32, if lN a ≤ 99 then some k else none) := by
    unfold klT_
    simp only
    rw [h.2.1 s (by omega), fg_ig, e1]
  have l2 : sm_ M n s 0 = if ig_ (bf_ M n s) = 0 then .inr (1, s) else if nI (nd_ a) < 0 ∨ ¬ nI (nd_ a) ≤ 99 then .inr (2, s) else if ¬ bf_ M n k ≤ 32 then .inr (1, k) else .inl (nI (nd_ a), k) := by
    unfold sm_
    rw [e2]
  rw [l1, l2]
  rcases ig_01 (bf_ M n s) with z | z
  · rw [if_pos z, if_pos z]
    exact Or.inl ⟨_, rfl, rfl⟩
  · have z' : ¬ ig_ (bf_ M n s) = 0 := by rw [z]; decide
    rw [if_neg z', if_neg z']
    by_cases q : a ≤ 99
    · have hnd : nd_ a = a := by unfold nd_; rw [if_pos (by omega)]
      rw [hnd, lN_i99 a q]
      rw [if_pos (show lN a ≤ 99 from (lN_99 ha).mpr q), if_neg (show ¬ (nI a < 0 ∨ ¬ nI a ≤ 99) from fun y => y.elim (fun y => absurd ((nI_ltI (a := a) (b := 0) (by omega) (by decide)).mp y) (by omega)) (fun y => y (nI_le (a := a) (b := 99) q (by decide))))]
      simp only
      rw [qw_T h hk]
      by_cases t : bf_ M n k ≤ 32
      · rw [if_pos t, if_neg (fun y => y t)]
        exact Or.inr ⟨a, k, rfl, q, hk, rfl, rfl⟩
      · rw [if_neg t, if_pos t]
        exact Or.inl ⟨_, rfl, rfl⟩
    · have hnd : 99 < nd_ a ∧ nd_ a ≤ 999 := by unfold nd_; split <;> omega
      rw [if_neg (show ¬ lN a ≤ 99 from fun y => q ((lN_99 ha).mp y)), if_pos (show nI (nd_ a) < 0 ∨ ¬ nI (nd_ a) ≤ 99 from Or.inr (fun y => absurd ((nI_leI (a := nd_ a) (b := 99) (by omega) (by decide)).mp y) (by omega)))]
      exact Or.inl ⟨_, rfl, rfl⟩
end KLT
theorem tb_cg {M N : mm_} (h1 : N.1 35 1 = M.1 35 1) (h2 : ∀ i, N.1 36 i = M.1 36 i) : tb_ N = tb_ M := by
  funext k
  unfold tb_
  rw [h1, h2]
theorem xE_ok {q : Option Nat} {M : mm_} (h : LS_ q M) : (xE_ M).1 37 2 = 0 ↔ okE_ (tb_ M) q := by
  have e := LS_xE h
  cases q with
  | none => exact ⟨fun y => absurd y e, fun ⟨p, y, _⟩ => by cases y⟩
  | some p =>
    unfold qE_ at e
    simp only at e
    by_cases t : tb_ M (nI p) = -1
    · rw [if_pos t] at e
      exact ⟨fun _ => ⟨p, rfl, t⟩, fun _ => e.1⟩
    · rw [if_neg t] at e
      exact ⟨fun y => absurd y e, fun ⟨p2, y, t2⟩ => by cases y; exact absurd t2 t⟩
/-- what the class's reading of a command comes to, by the text -/
def RCT_ (k : Nat) (T : Int32 → Int32) (M : mm_) (v : Int32) (N : mm_) : Prop := ∃ (p : Nat) (V : Int32 × Option Nat) (fin : Option Nat), skP_ T 200 0 = p ∧ vbT_ T p = V ∧ v = V.1 ∧ (N.1 37 2 = 0 ↔ okE_ T fin) ∧ N.1 k 0 = v ∧
  ((V.1 = 5 ∧ fin = V.2) ∨
   (V.1 = 4 ∧ fin = qw_ T (klT_ T V.2).2 ∧ N.1 38 0 = (klT_ T V.2).1) ∨
   ((V.1 = 2 ∨ V.1 = 3) ∧ fin = qw_ T (patT_ T V.2).2 ∧ N.2.1 k 2 = (patT_ T V.2).1 ∧ N.1 k 7 = 0 ∧ N.1 k 9 = 0 ∧ ∀ j, j < 48 → N.1 (k + 11) j = 0) ∨
   (V.1 = 1 ∧ ∃ p2 PO PT W1 X1 W2 X2 q c b, V.2 = some p2 ∧ poT_ T p2 = PO ∧ patT_ T PO.2 = PT ∧ qw_ T PT.2 = W1 ∧ pe2_ T 7 false W1 = X1 ∧ qw_ T (qx_ X1) = W2 ∧ pe2_ T 7 false W2 = X2 ∧ wa3_ T W2 X2 q c ∧ wa4_ T q fin b ∧ N.1 k 1 = PO.1 ∧ N.2.1 k 2 = PT.1 ∧ N.1 k 5 = (if c = true then 1 else 0) ∧ N.1 k 6 = (if b = true then (lmT_ T q).1 else 99) ∧ N.1 k 7 = 0 ∧ N.1 k 9 = 0 ∧ hx_ (k + 1) X1 N ∧ (c = true → hx_ (k + 6) X2 N)))
