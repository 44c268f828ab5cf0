/-! watch's text: the two programs read the same -/
section WTX
variable {T : Int32 → Int32} {M : mm_} {n : Nat}
theorem sk_sk {f : Nat → Int32} : ∀ (u k v : Nat), sk_ f u k + v = k + u → sk_ f v (sk_ f u k) = sk_ f u k
  | 0, k, v, e => by
    have : v = 0 := by rw [sk_] at e; omega
    subst this; rfl
  | u + 1, k, v, e => by
    rw [sk_] at e ⊢
    by_cases q : f k ≤ 32
    · rw [if_pos q] at e ⊢
      exact sk_sk u (k + 1) v (by omega)
    · rw [if_neg q] at e ⊢
      obtain ⟨w, rfl⟩ : ∃ w, v = w + 1 := ⟨v - 1, by omega⟩
      rw [sk_, if_neg q]
theorem sp_sp {k : Nat} (hk : k ≤ n) : sp_ M n (sp_ M n k) = sp_ M n k := by
  have := sp_le (M := M) hk
  exact sk_sk (n - k) k (n - sp_ M n k) (by show sp_ M n k + _ = _; omega)
theorem mo_T (h : TF_ T (bf_ M n) n) {k : Nat} (hk : k ≤ n) : moX_ T (some k) ↔ k < n := by
  have hn := h.1
  show ¬ T (nI k) = -1 ↔ k < n
  rw [h.2.1 k (by omega)]
  rcases Nat.lt_or_ge k n with z | z
  · exact ⟨fun _ => z, fun _ y => by have := h.2.2.2 k z; rw [y] at this; exact absurd this (by decide)⟩
  · exact ⟨fun y => absurd (h.2.2.1 k z) y, fun y => by omega⟩
theorem en_T (h : TF_ T (bf_ M n) n) (h14 : ¬ M.1 0 14 = 0) {k : Nat} : en_d M n k ↔ bf_ M n k ≤ 32 := by
  unfold en_d
  exact ⟨fun y => y.elim (fun y => Int32.le_trans (Int32.le_of_lt y) (by decide)) (fun y => y.2), fun y => Or.inr ⟨h14, y⟩⟩
/-- one expression and what stands behind it -/
theorem xp_T (h : TF_ T (bf_ M n) n) (hK : KN_ M 7 false) (h14 : ¬ M.1 0 14 = 0) {k : Nat} (hk : k ≤ n) : (∃ z, ex_ M n k = .inr z ∧ qw_ T (qx_ (pe2_ T 7 false (some k))) = none) ∨ (∃ x, pe2_ T 7 false (some k) = some x ∧ x.2.1 ≤ n ∧ ex_ M n k = .inl (tm_ x.1, x.2.1) ∧ qw_ T (qx_ (pe2_ T 7 false (some k))) = some (sp_ M n x.2.1)) := by
  have t := ex_tie h hK hk
  generalize pe2_ T 7 false (some k) = X at t
  cases X with
  | none =>
    obtain ⟨z, t⟩ := t
    exact Or.inl ⟨z, t, rfl⟩
  | some x =>
    obtain ⟨t1, t2, t3, t4⟩ := t
    have e : qw_ T (qx_ (some x)) = qw_ T (some x.2.1) := rfl
    rw [e, qw_T h t1]
    by_cases q : bf_ M n x.2.1 ≤ 32
    · rw [if_pos q]
      exact Or.inr ⟨x, rfl, t1, t3 ((en_T h h14).mpr q), rfl⟩
    · rw [if_neg q]
      obtain ⟨z, t4⟩ := t4 (fun y => q ((en_T h h14).mp y))
      exact Or.inl ⟨z, t4, rfl⟩
/-- all is read, and it is the end -/
def okE_ (T : Int32 → Int32) (r : Option Nat) : Prop := ∃ p, r = some p ∧ T (nI p) = -1
theorem ok_n : ¬ okE_ T none := fun ⟨p, e, _⟩ => by cases e
theorem ok_s (h : TF_ T (bf_ M n) n) {k : Nat} (hk : k ≤ n) : okE_ T (some k) ↔ ¬ k < n := by
  have := mo_T h hk
  constructor
  · rintro ⟨p, e, t⟩ y
    cases e
    exact (this.mpr y) t
  · intro y
    exact ⟨k, rfl, Decidable.not_not.mp (fun z => y (this.mp z))⟩
def lmq_ (T : Int32 → Int32) (q : Option Nat) (b : Bool) (lim : Int32) : Prop := (b = false ∧ lim = 99) ∨ (b = true ∧ ∃ l, 1 ≤ l ∧ l ≤ 99 ∧ lim = nI l ∧ (lmT_ T q).1 = nI l)
theorem w7_T (h : TF_ T (bf_ M n) n) {k : Nat} (hk : k ≤ n) (y : wr2_) : (∃ z, w7_ M n y k = .inr z ∧ (¬ okE_ T (some (sp_ M n k)) ∨ fj_ M 8 0 < 0)) ∨ (w7_ M n y k = .inl y ∧ okE_ T (some (sp_ M n k)) ∧ ¬ fj_ M 8 0 < 0) := by
  have hs := sp_le (M := M) hk
  have o := ok_s h hs.2
  unfold w7_
  by_cases q : sp_ M n k < n
  · rw [if_pos q]
    exact Or.inl ⟨_, rfl, Or.inl (fun z => (o.mp z) q)⟩
  · rw [if_neg q]
    by_cases f : fj_ M 8 0 < 0
    · rw [if_pos f]; exact Or.inl ⟨_, rfl, Or.inr f⟩
    · rw [if_neg f]; exact Or.inr ⟨rfl, o.mpr q, f⟩
/-- the limit -/
theorem w6_T (h : TF_ T (bf_ M n) n) {k : Nat} (hk : k ≤ n) (y : Int32 → wr2_) {r : Option Nat} {b : Bool} (h4 : wa4_ T (some (sp_ M n k)) r b) : (∃ z, w6_ M n y k = .inr z ∧ (¬ okE_ T r ∨ fj_ M 8 0 < 0)) ∨ (∃ lim, w6_ M n y k = .inl (y lim) ∧ okE_ T r ∧ ¬ fj_ M 8 0 < 0 ∧ lmq_ T (some (sp_ M n k)) b lim) := by
  have hs := sp_le (M := M) hk
  have hm := mo_T h hs.2
  unfold w6_
  rw [sp_sp hk]
  rcases h4 with ⟨hb, h1, h2⟩ | ⟨hb, h1, h2⟩
  · rw [if_pos (hm.mp h1)]
    rcases lm_T h hs.2 with ⟨q, g1, g2⟩ | ⟨l, k4, g1, g3, g4, g5, g6, g7⟩
    · rw [g1, h2, g2]
      exact Or.inl ⟨q, rfl, Or.inl ok_n⟩
    · rw [g1, h2, g7]
      show (∃ z, w7_ M n (y (nI l)) k4 = .inr z ∧ _) ∨ _
      rcases w7_T h g5 (y (nI l)) with ⟨z, e1, e2⟩ | ⟨e1, e2, e3⟩
      · exact Or.inl ⟨z, e1, e2⟩
      · exact Or.inr ⟨nI l, e1, e2, e3, Or.inr ⟨hb, l, g3, g4, rfl, g6⟩⟩
  · rw [if_neg (fun z => h1 (hm.mpr z)), h2]
    rcases w7_T h hs.2 (y 99) with ⟨z, e1, e2⟩ | ⟨e1, e2, e3⟩
    · rw [sp_sp hk] at e2
      exact Or.inl ⟨z, e1, e2⟩
    · rw [sp_sp hk] at e2
      exact Or.inr ⟨99, e1, e2, e3, Or.inl ⟨hb, rfl⟩⟩
theorem wa_n {W2 : Option Nat} {X2 : px2_} {q r : Option Nat} {c b : Bool} (h2 : W2 = none) (h3 : wa3_ T W2 X2 q c) (h4 : wa4_ T q r b) : ¬ okE_ T r := by
  subst h2
  rcases h3 with ⟨-, h, -⟩ | ⟨-, -, h⟩
  · exact absurd h id
  · subst h
    rcases h4 with ⟨-, h, -⟩ | ⟨-, -, h⟩
    · exact absurd h id
    · rw [h]; exact ok_n
def cnd_ (X2 : px2_) (c : Bool) (e2 : Option Term) : Prop := (c = false ∧ e2 = none) ∨ (c = true ∧ ∃ x, X2 = some x ∧ e2 = some (tm_ x.1))
/-- the condition, and the limit -/
theorem w5_T (h : TF_ T (bf_ M n) n) (hK : KN_ M 7 false) (h14 : ¬ M.1 0 14 = 0) {k : Nat} (hk : k ≤ n) (y : Option Term → Int32 → wr2_) {X2 : px2_} {q r : Option Nat} {c b : Bool} (hX : pe2_ T 7 false (some (sp_ M n k)) = X2) (h3 : wa3_ T (some (sp_ M n k)) X2 q c) (h4 : wa4_ T q r b) : (∃ z, w5_ M n y k = .inr z ∧ (¬ okE_ T r ∨ fj_ M 8 0 < 0)) ∨ (∃ e2 lim, w5_ M n y k = .inl (y e2 lim) ∧ okE_ T r ∧ ¬ fj_ M 8 0 < 0 ∧ cnd_ X2 c e2 ∧ lmq_ T q b lim) := by
  have hs := sp_le (M := M) hk
  have hm := mo_T h hs.2
  unfold w5_
  rcases h3 with ⟨hc, h1, h2⟩ | ⟨hc, h1, h2⟩
  · rw [if_pos (hm.mp h1)]
    rcases xp_T h hK h14 hs.2 with ⟨z, g1, g2⟩ | ⟨x, g1, g2, g3, g4⟩
    · rw [hX] at g2
      rw [g2] at h2
      subst h2
      rw [g1]
      refine Or.inl ⟨z, rfl, Or.inl ?_⟩
      rcases h4 with ⟨-, h, -⟩ | ⟨-, -, h⟩
      · exact absurd h id
      · rw [h]; exact ok_n
    · rw [hX] at g1 g4
      rw [g4] at h2
      subst h2
      rw [g3]
      show (∃ z, w6_ M n (y (some (tm_ x.1))) x.2.1 = .inr z ∧ _) ∨ _
      rcases w6_T h g2 (y (some (tm_ x.1))) h4 with ⟨z, e1, e2⟩ | ⟨lim, e1, e2, e3, e4⟩
      · exact Or.inl ⟨z, e1, e2⟩
      · exact Or.inr ⟨_, lim, e1, e2, e3, Or.inr ⟨hc, x, g1, rfl⟩, e4⟩
  · rw [if_neg (fun z => h1 (hm.mpr z))]
    subst h2
    have h4' : wa4_ T (some (sp_ M n (sp_ M n k))) r b := by rw [sp_sp hk]; exact h4
    rcases w6_T h hs.2 (y none) h4' with ⟨z, e1, e2⟩ | ⟨lim, e1, e2, e3, e4⟩
    · exact Or.inl ⟨z, e1, e2⟩
    · rw [sp_sp hk] at e4
      exact Or.inr ⟨none, lim, e1, e2, e3, Or.inl ⟨hc, rfl⟩, e4⟩
/-- the pattern -/
theorem pd_T (h : TF_ T (bf_ M n) n) {s : Nat} (hs : s ≤ n) : (∃ z, pd_ M n s = .inr z ∧ qw_ T (patT_ T (some s)).2 = none) ∨ (∃ p, pd_ M n s = .inl (s + p, p) ∧ p ≤ 12 ∧ s + p ≤ n ∧ bf_ M n (s + p) ≤ 32 ∧ (∀ x, x < p → ¬ sgX_ (bf_ M n (s + x)) = 0) ∧ (patT_ T (some s)).1 = pwT_ (bf_ M n) s p ∧ qw_ T (patT_ T (some s)).2 = some (sp_ M n (s + p))) := by
  have hn := h.1
  unfold pd_ patT_
  simp only
  rw [h.2.1 s (by omega)]
  by_cases q : s < n
  · have h0 := h.2.2.2 s q
    rw [if_pos q, if_neg (fun y => by rw [y] at h0; exact absurd h0 (by decide))]
    rcases paT_T h (s := s) 13 (n - s) 0 (by omega) (by omega) (by omega) with ⟨z, g1, g2⟩ | ⟨p, g1, g2, g3, g4, g5, g6, g7, g8⟩
    · exact Or.inl ⟨z, g1, g2⟩
    · exact Or.inr ⟨p, g1, g3, g4, g5, fun x hx => g6 x (by omega) hx, g7, g8⟩
  · rw [if_neg q, if_pos (h.2.2.1 s (by omega))]
    exact Or.inl ⟨_, rfl, rfl⟩
/-- watch -/
theorem wt_T (h : TF_ T (bf_ M n) n) (hK : KN_ M 7 false) (h14 : ¬ M.1 0 14 = 0) {p : Nat} (hp : p ≤ n) {PO : Int32 × Option Nat} {PT : Int64 × Option Nat} {W1 : Option Nat} {X1 : px2_} {W2 : Option Nat} {X2 : px2_} {q r : Option Nat} {c b : Bool} (e1 : poT_ T p = PO) (e2 : patT_ T PO.2 = PT) (e3 : qw_ T PT.2 = W1) (e4 : pe2_ T 7 false W1 = X1) (e5 : qw_ T (qx_ X1) = W2) (e6 : pe2_ T 7 false W2 = X2) (h3 : wa3_ T W2 X2 q c) (h4 : wa4_ T q r b) :
    (∃ z, wt_ M n p (rz_ M n p) (rv_ (bf_ M n) p (rz_ M n p)) = .inr z ∧ (¬ okE_ T r ∨ fj_ M 8 0 < 0)) ∨
    (∃ s2 pl x1 c2 lim, wt_ M n p (rz_ M n p) (rv_ (bf_ M n) p (rz_ M n p)) = .inl (PO.1, s2, pl, tm_ x1, c2, lim) ∧ okE_ T r ∧ ¬ fj_ M 8 0 < 0 ∧ pl ≤ 12 ∧ s2 + pl ≤ n ∧ (∀ x, x < pl → ¬ sgX_ (bf_ M n (s2 + x)) = 0) ∧ PT.1 = pwT_ (bf_ M n) s2 pl ∧ (∃ k m, X1 = some (x1, k, m)) ∧ cnd_ X2 c c2 ∧ lmq_ T q b lim) := by
  have hz := rz_le M n p
  have dead : W1 = none → ¬ okE_ T r := fun y => by
    subst y
    have : X1 = none := by rw [← e4]; rfl
    subst this
    exact wa_n (by rw [← e5]; rfl) h3 h4
  unfold wt_
  rcases po_T h hp with ⟨g1, g2⟩ | ⟨g1, g2⟩
  · rw [if_pos g1]
    rw [g2] at e1
    subst e1
    have hPT : PT = (0, none) := by rw [← e2]; rfl
    subst hPT
    exact Or.inl ⟨_, rfl, Or.inl (dead (by rw [← e3]; rfl))⟩
  · rw [if_neg g1]
    rw [g2] at e1
    subst e1
    have hs := sp_le (M := M) (n := n) (k := p + rz_ M n p) (by omega)
    have e2 : patT_ T (some (sp_ M n (p + rz_ M n p))) = PT := e2
    generalize sp_ M n (p + rz_ M n p) = s2 at *
    rcases pd_T h hs.2 with ⟨z, k1, k2⟩ | ⟨pl, k1, k3, k4, k5, k6, k7, k8⟩
    · rw [k1]
      rw [e2] at k2
      exact Or.inl ⟨z, rfl, Or.inl (dead (e3.symm.trans k2))⟩
    · rw [k1]
      rw [e2] at k7 k8
      have hW1 : W1 = some (sp_ M n (s2 + pl)) := e3.symm.trans k8
      subst hW1
      have hs3 := sp_le (M := M) k4
      show (∃ z, w4_ M n _ (s2 + pl) = .inr z ∧ _) ∨ (∃ a1 a2 a3 a4 a5, w4_ M n _ (s2 + pl) = _ ∧ _)
      unfold w4_
      rcases xp_T h hK h14 hs3.2 with ⟨z, f1, f2⟩ | ⟨x, f1, f2, f3, f4⟩
      · rw [f1]
        rw [e4] at f2
        exact Or.inl ⟨z, rfl, Or.inl (wa_n (e5.symm.trans f2) h3 h4)⟩
      · rw [f3]
        rw [e4] at f1 f4
        have hW2 : W2 = some (sp_ M n x.2.1) := e5.symm.trans f4
        subst hW2
        show (∃ z, w5_ M n (fun e2 l => (_, s2, pl, tm_ x.1, e2, l)) x.2.1 = .inr z ∧ _) ∨ (∃ a1 a2 a3 a4 a5, w5_ M n (fun e2 l => (_, s2, pl, tm_ x.1, e2, l)) x.2.1 = _ ∧ _)
        rcases w5_T h hK h14 f2 (fun e2 l => (pt_ (rv_ (bf_ M n) p (rz_ M n p)) (rz_ M n p), s2, pl, tm_ x.1, e2, l)) e6 h3 h4 with ⟨z, d1, d2⟩ | ⟨c2, lim, d1, d2, d3, d4, d5⟩
        · exact Or.inl ⟨z, d1, d2⟩
        · exact Or.inr ⟨s2, pl, x.1, c2, lim, d1, d2, d3, k3, k4, k6, k7, ⟨x.2.1, x.2.2, f1⟩, d4, d5⟩
end WTX
