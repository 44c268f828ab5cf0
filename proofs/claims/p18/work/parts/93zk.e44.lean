section
/-! watch's text: the two programs read the same -/
section WTX
variable {T : Int32 → Int32} {M : mm_} {n : Nat}
theorem sk_sk {f : Nat → Int32} : ∀ (u k v : Nat), sk_ f u k + v = k + u → sk_ f v (sk_ f u k) = sk_ f u k
  | 0, k, v, e => by
    have : v = 0 := by rw [sk_] at e; omega
    subst this; rfl
  | u + 1, k, v, e => by
    rw [sk_] at e ⊢
    by_cases q : f k ≤ 32
    · rw [if_pos q] at e ⊢
      exact sk_sk u (k + 1) v (by omega)
    · rw [if_neg q] at e ⊢
      obtain ⟨w, rfl⟩ : ∃ w, v = w + 1 := ⟨v - 1, by omega⟩
      rw [sk_, if_neg q]
theorem sp_sp {k : Nat} (hk : k ≤ n) : sp_ M n (sp_ M n k) = sp_ M n k := by
  have := sp_le (M := M) hk
  exact sk_sk (n - k) k (n - sp_ M n k) (by show sp_ M n k + _ = _; omega)
theorem mo_T (h : TF_ T (bf_ M n) n) {k : Nat} (hk : k ≤ n) : moX_ T (some k) ↔ k < n := by
  have hn := h.1
  show ¬ T (nI k) = -1 ↔ k < n
  rw [h.2.1 k (by omega)]
  rcases Nat.lt_or_ge k n with z | z
  · exact ⟨fun _ => z, fun _ y => by have := h.2.2.2 k z; rw [y] at this; exact absurd this (by decide)⟩
  · exact ⟨fun y => absurd (h.2.2.1 k z) y, fun y => by omega⟩
theorem en_T (h : TF_ T (bf_ M n) n) (h14 : ¬ M.1 0 14 = 0) {k : Nat} : en_d M n k ↔ bf_ M n k ≤ 32 := by
  unfold en_d
  exact ⟨fun y => y.elim (fun y => Int32.le_trans (Int32.le_of_lt y) (by decide)) (fun y => y.2), fun y => Or.inr ⟨h14, y⟩⟩
/-- one expression and what stands behind it -/
theorem xp_T (h : TF_ T (bf_ M n) n) (hK : KN_ M 7 false) (h14 : ¬ M.1 0 14 = 0) {k : Nat} (hk : k ≤ n) : (∃ z, ex_ M n k = .inr z ∧ qw_ T (qx_ (pe2_ T 7 false (some k))) = none) ∨ (∃ x, pe2_ T 7 false (some k) = some x ∧ x.2.1 ≤ n ∧ ex_ M n k = .inl (tm_ x.1, x.2.1) ∧ qw_ T (qx_ (pe2_ T 7 false (some k))) = some (sp_ M n x.2.1)) := by
  have t := ex_tie h hK hk
  generalize pe2_ T 7 false (some k) = X at t
  cases X with
  | none =>
    obtain ⟨z, t⟩ := t
    exact Or.inl ⟨z, t, rfl⟩
  | some x =>
    obtain ⟨t1, t2, t3, t4⟩ := t
    have e : qw_ T (qx_ (some x)) = qw_ T (some x.2.1) := rfl
    rw [e, qw_T h t1]
    by_cases q : bf_ M n x.2.1 ≤ 32
    · rw [if_pos q]
      exact Or.inr ⟨x, rfl, t1, t3 ((en_T h h14).mpr q), rfl⟩
    · rw [if_neg q]
      obtain ⟨z, t4⟩ := t4 (fun y => q ((en_T h h14).mp y))
      exact Or.inl ⟨z, t4, rfl⟩
/-- all is read, and it is the end -/
def okE_ (T : Int32 → Int32) (r : Option Nat) : Prop := ∃ p, r = some p ∧ T (nI p) = -1
theorem ok_n : ¬ okE_ T none := fun ⟨p, e, _⟩ => by cases e
theorem ok_s (h : TF_ T (bf_ M n) n) {k : Nat} (hk : k ≤ n) : okE_ T (some k) ↔ ¬ k < n := by
  have := mo_T h hk
  constructor
  · rintro ⟨p, e, t⟩ y
    cases e
    exact (this.mpr y) t
  · intro y
    exact ⟨k, rfl, Decidable.not_not.mp (fun z => y (this.mp z))⟩
def lmq_ (T : Int32 → Int32) (q : Option Nat) (b : Bool) (lim : Int32) : Prop := (b = false ∧ lim = 99) ∨ (b = true ∧ ∃ l, 1 ≤ l ∧ l ≤ 99 ∧ lim = nI l ∧ (lmT_ T q).1 = nI l)
theorem w7_T (h : TF_ T (bf_ M n) n) {k : Nat} (hk : k ≤ n) (y : wr2_) : (∃ z, w7_ M n y k = .inr z ∧ (¬ okE_ T (some (sp_ M n k)) ∨ fj_ M 8 0 < 0)) ∨ (w7_ M n y k = .inl y ∧ okE_ T (some (sp_ M n k)) ∧ ¬ fj_ M 8 0 < 0) := by
  have hs := sp_le (M := M) hk
  have o := ok_s h hs.2
  unfold w7_
  by_cases q : sp_ M n k < n
  · rw [if_pos q]
    exact Or.inl ⟨_, rfl, Or.inl (fun z => (o.mp z) q)⟩
  · rw [if_neg q]
    by_cases f : fj_ M 8 0 < 0
    · rw [if_pos f]; exact Or.inl ⟨_, rfl, Or.inr f⟩
    · rw [if_neg f]; exact Or.inr ⟨rfl, o.mpr q, f⟩
/-- the limit -/
theorem w6_T (h : TF_ T (bf_ M n) n) {k : Nat} (hk : k ≤ n) (y : Int32 → wr2_) {r : Option Nat} {b : Bool} (h4 : wa4_ T (some (sp_ M n k)) r b) : (∃ z, w6_ M n y k = .inr z ∧ (¬ okE_ T r ∨ fj_ M 8 0 < 0)) ∨ (∃ lim, w6_ M n y k = .inl (y lim) ∧ okE_ T r ∧ ¬ fj_ M 8 0 < 0 ∧ lmq_ T (some (sp_ M n k)) b lim) := by
  have hs := sp_le (M := M) hk
  have hm := mo_T h hs.2
  unfold w6_
  rw [sp_sp hk]
  rcases h4 with ⟨hb, h1, h2⟩ | ⟨hb, h1, h2⟩
  · rw [if_pos (hm.mp h1)]
    rcases lm_T h hs.2 with ⟨q, g1, g2⟩ | ⟨l, k4, g1, g3, g4, g5, g6, g7⟩
    · rw [g1, h2, g2]
      exact Or.inl ⟨q, rfl, Or.inl ok_n⟩
    · rw [g1, h2, g7]
      show (∃ z, w7_ M n (y (nI l)) k4 = .inr z ∧ _) ∨ _
      rcases w7_T h g5 (y (nI l)) with ⟨z, e1, e2⟩ | ⟨e1, e2, e3⟩
      · exact Or.inl ⟨z, e1, e2⟩
      · exact Or.inr ⟨nI l, e1, e2, e3, Or.inr ⟨hb, l, g3, g4, rfl, g6⟩⟩
  · rw [if_neg (fun z => h1 (hm.mpr z)), h2]
    rcases w7_T h hs.2 (y 99) with ⟨z, e1, e2⟩ | ⟨e1, e2, e3⟩
    · rw [sp_sp hk] at e2
      exact Or.inl ⟨z, e1, e2⟩
    · rw [sp_sp hk] at e2
      exact Or.inr ⟨99, e1, e2, e3, Or.inl ⟨hb, rfl⟩⟩
theorem wa_n {W2 : Option Nat} {X2 : px2_} {q r : Option Nat} {c b : Bool} (h2 : W2 = none) (h3 : wa3_ T W2 X2 q c) (h4 : wa4_ T q r b) : ¬ okE_ T r := by
  subst h2
  rcases h3 with ⟨-, h, -⟩ | ⟨-, -, h⟩
  · exact absurd h id
  · subst h
    rcases h4 with ⟨-, h, -⟩ | ⟨-, -, h⟩
    · exact absurd h id
    · rw [h]; exact ok_n
def cnd_ (X2 : px2_) (c : Bool) (e2 : Option Term) : Prop := (c = false ∧ e2 = none) ∨ (c = true ∧ ∃ x, X2 = some x ∧ e2 = some (tm_ x.1))
/-- the condition, and the limit -/
theorem w5_T (h : TF_ T (bf_ M n) n) (hK : KN_ M 7 false) (h14 : ¬ M.1 0 14 = 0) {k : Nat} (hk : k ≤ n) (y : Option Term → Int32 → wr2_) {X2 : px2_} {q r : Option Nat} {c b : Bool} (hX : pe2_ T 7 false (some (sp_ M n k)) = X2) (h3 : wa3_ T (some (sp_ M n k)) X2 q c) (h4 : wa4_ T q r b) : (∃ z, w5_ M n y k = .inr z ∧ (¬ okE_ T r ∨ fj_ M 8 0 < 0)) ∨ (∃ e2 lim, w5_ M n y k = .inl (y e2 lim) ∧ okE_ T r ∧ ¬ fj_ M 8 0 < 0 ∧ cnd_ X2 c e2 ∧ lmq_ T q b lim) := by
  have hs := sp_le (M := M) hk
  have hm := mo_T h hs.2
  unfold w5_
  rcases h3 with ⟨hc, h1, h2⟩ | ⟨hc, h1, h2⟩
  · rw [if_pos (hm.mp h1)]
    rcases xp_T h hK h14 hs.2 with ⟨z, g1, g2⟩ | ⟨x, g1, g2, g3, g4⟩
    · rw [hX] at g2
      rw [g2] at h2
      subst h2
      rw [g1]
      refine Or.inl ⟨z, rfl, Or.inl ?_⟩
      rcases h4 with ⟨-, h, -⟩ | ⟨-, -, h⟩
      · exact absurd h id
      · rw [h]; exact ok_n
    · rw [hX] at g1 g4
      rw [g4] at h2
      subst h2
      rw [g3]
      show (∃ z, w6_ M n (y (some (tm_ x.1))) x.2.1 = .inr z ∧ _) ∨ _
      rcases w6_T h g2 (y (some (tm_ x.1))) h4 with ⟨z, e1, e2⟩ | ⟨lim, e1, e2, e3, e4⟩
      · exact Or.inl ⟨z, e1, e2⟩
      · exact Or.inr ⟨_, lim, e1, e2, e3, Or.inr ⟨hc, x, g1, rfl⟩, e4⟩
  · rw [if_neg (fun z => h1 (hm.mpr z))]
    subst h2
    have h4' : wa4_ T (some (sp_ M n (sp_ M n k))) r b := by rw [sp_sp hk]; exact h4
    rcases w6_T h hs.2 (y none) h4' with ⟨z, e1, e2⟩ | ⟨lim, e1, e2, e3, e4⟩
    · exact Or.inl ⟨z, e1, e2⟩
    · rw [sp_sp hk] at e4
      exact Or.inr ⟨none, lim, e1, e2, e3, Or.inl ⟨hc, rfl⟩, e4⟩
/-- the pattern -/
theorem pd_T (h : TF_ T (bf_ M n) n) {s : Nat} (hs : s ≤ n) : (∃ z, pd_ M n s = .inr z ∧ qw_ T (patT_ T (some s)).2 = none) ∨ (∃ p, pd_ M n s = .inl (s + p, p) ∧ p ≤ 12 ∧ s + p ≤ n ∧ bf_ M n (s + p) ≤ 32 ∧ (∀ x, x < p → ¬ sgX_ (bf_ M n (s + x)) = 0) ∧ (patT_ T (some s)).1 = pwT_ (bf_ M n) s p ∧ qw_ T (patT_ T (some s)).2 = some (sp_ M n (s + p))) := by
  have hn := h.1
  unfold pd_ patT_
  simp only
  rw [h.2.1 s (by omega)]
  by_cases q : s < n
  · have h0 := h.2.2.2 s q
    rw [if_pos q, if_neg (fun y => by rw [y] at h0; exact absurd h0 (by decide))]
    rcases paT_T h (s := s) 13 (n - s) 0 (by omega) (by omega) (by omega) with ⟨z, g1, g2⟩ | ⟨p, g1, g2, g3, g4, g5, g6, g7, g8⟩
    · exact Or.inl ⟨z, g1, g2⟩
    · exact Or.inr ⟨p, g1, g3, g4, g5, fun x hx => g6 x (by omega) hx, g7, g8⟩
  · rw [if_neg q, if_pos (h.2.2.1 s (by omega))]
    exact Or.inl ⟨_, rfl, rfl⟩
/-- watch -/
theorem wt_T (h : TF_ T (bf_ M n) n) (hK : KN_ M 7 false) (h14 : ¬ M.1 0 14 = 0) {p : Nat} (hp : p ≤ n) {PO : Int32 × Option Nat} {PT : Int64 × Option Nat} {W1 : Option Nat} {X1 : px2_} {W2 : Option Nat} {X2 : px2_} {q r : Option Nat} {c b : Bool} (e1 : poT_ T p = PO) (e2 : patT_ T PO.2 = PT) (e3 : qw_ T PT.2 = W1) (e4 : pe2_ T 7 false W1 = X1) (e5 : qw_ T (qx_ X1) = W2) (e6 : pe2_ T 7 false W2 = X2) (h3 : wa3_ T W2 X2 q c) (h4 : wa4_ T q r b) :
    (∃ z, wt_ M n p (rz_ M n p) (rv_ (bf_ M n) p (rz_ M n p)) = .inr z ∧ (¬ okE_ T r ∨ fj_ M 8 0 < 0)) ∨
    (∃ s2 pl x1 c2 lim, wt_ M n p (rz_ M n p) (rv_ (bf_ M n) p (rz_ M n p)) = .inl (PO.1, s2, pl, tm_ x1, c2, lim) ∧ okE_ T r ∧ ¬ fj_ M 8 0 < 0 ∧ pl ≤ 12 ∧ s2 + pl ≤ n ∧ (∀ x, x < pl → ¬ sgX_ (bf_ M n (s2 + x)) = 0) ∧ PT.1 = pwT_ (bf_ M n) s2 pl ∧ (∃ k m, X1 = some (x1, k, m)) ∧ cnd_ X2 c c2 ∧ lmq_ T q b lim) := by
  have hz := rz_le M n p
  have dead : W1 = none → ¬ okE_ T r := fun y => by
    subst y
    have : X1 = none := by rw [← e4]; rfl
    subst this
    exact wa_n (by rw [← e5]; rfl) h3 h4
  unfold wt_
  rcases po_T h hp with ⟨g1, g2⟩ | ⟨g1, g2⟩
  · rw [if_pos g1]
    rw [g2] at e1
    subst e1
    have hPT : PT = (0, none) := by rw [← e2]; rfl
    subst hPT
    exact Or.inl ⟨_, rfl, Or.inl (dead (by rw [← e3]; rfl))⟩
  · rw [if_neg g1]
    rw [g2] at e1
    subst e1
    have hs := sp_le (M := M) (n := n) (k := p + rz_ M n p) (by omega)
    have e2 : patT_ T (some (sp_ M n (p + rz_ M n p))) = PT := e2
    generalize sp_ M n (p + rz_ M n p) = s2 at *
    rcases pd_T h hs.2 with ⟨z, k1, k2⟩ | ⟨pl, k1, k3, k4, k5, k6, k7, k8⟩
    · rw [k1]
      rw [e2] at k2
      exact Or.inl ⟨z, rfl, Or.inl (dead (e3.symm.trans k2))⟩
    · rw [k1]
      rw [e2] at k7 k8
      have hW1 : W1 = some (sp_ M n (s2 + pl)) := e3.symm.trans k8
      subst hW1
      have hs3 := sp_le (M := M) k4
      show (∃ z, w4_ M n _ (s2 + pl) = .inr z ∧ _) ∨ (∃ a1 a2 a3 a4 a5, w4_ M n _ (s2 + pl) = _ ∧ _)
      unfold w4_
      rcases xp_T h hK h14 hs3.2 with ⟨z, f1, f2⟩ | ⟨x, f1, f2, f3, f4⟩
      · rw [f1]
        rw [e4] at f2
        exact Or.inl ⟨z, rfl, Or.inl (wa_n (e5.symm.trans f2) h3 h4)⟩
      · rw [f3]
        rw [e4] at f1 f4
        have hW2 : W2 = some (sp_ M n x.2.1) := e5.symm.trans f4
        subst hW2
        show (∃ z, w5_ M n (fun e2 l => (_, s2, pl, tm_ x.1, e2, l)) x.2.1 = .inr z ∧ _) ∨ (∃ a1 a2 a3 a4 a5, w5_ M n (fun e2 l => (_, s2, pl, tm_ x.1, e2, l)) x.2.1 = _ ∧ _)
        rcases w5_T h hK h14 f2 (fun e2 l => (pt_ (rv_ (bf_ M n) p (rz_ M n p)) (rz_ M n p), s2, pl, tm_ x.1, e2, l)) e6 h3 h4 with ⟨z, d1, d2⟩ | ⟨c2, lim, d1, d2, d3, d4, d5⟩
        · exact Or.inl ⟨z, d1, d2⟩
        · exact Or.inr ⟨s2, pl, x.1, c2, lim, d1, d2, d3, k3, k4, k6, k7, ⟨x.2.1, x.2.2, f1⟩, d4, d5⟩
end WTX
end
section
/-! fitting: the class's way and the reference's are one -/
theorem bv_sh (v : BitVec 32) (p : Nat) (hp : p < 32) : (v >>> p) &&& 1#32 = (v.sshiftRight p) &&& 1#32 := by
  apply BitVec.eq_of_getLsbD_eq
  intro i hi
  simp only [BitVec.getLsbD_and, BitVec.getLsbD_ushiftRight, BitVec.getLsbD_sshiftRight, BitVec.getLsbD_one]
  by_cases h : i = 0
  · subst h
    simp [hp]
  · simp [h]
theorem bt_sh (x : Int32) : ∀ p, p ≤ 12 → btX_ x (nI p) = (x >>> (nI p &&& 31)) &&& 1 := by
  intro p hp
  have e1 : ∀ p, p ≤ 12 → ((nI p).toUInt32 &&& Int32.toUInt32 31).toBitVec.toNat % 32 = p := by decide +kernel
  have e2 : ∀ p, p ≤ 12 → ((nI p &&& 31).toBitVec.smod 32#32).toNat = p := by decide +kernel
  unfold btX_
  apply Int32.toBitVec_inj.mp
  rw [Int32.toBitVec_and, Int32.toBitVec_and, Int32.toBitVec_shiftRight, BitVec.sshiftRight_eq']
  have a1 : (x.toUInt32 >>> ((nI p).toUInt32 &&& Int32.toUInt32 31)).toInt32.toBitVec = x.toBitVec >>> p := by
    show (x.toUInt32 >>> ((nI p).toUInt32 &&& Int32.toUInt32 31)).toBitVec = x.toBitVec >>> p
    rw [UInt32.toBitVec_shiftRight, BitVec.ushiftRight_eq']
    congr 1
    rw [BitVec.toNat_umod]
    exact e1 p hp
  have a2 : ((nI p &&& 31).toBitVec.smod 32).toNat = p := e2 p hp
  rw [a1, a2]
  exact bv_sh x.toBitVec p (by omega)
theorem s1_2 : ∀ p, p ≤ 12 → (1 : Int32) <<< (nI (p + 1) &&& 31) = (2 : Int32) <<< (nI p &&& 31) := by decide +kernel
theorem sg_of {c : Int32} : (io_ c = 1 ∧ ∃ d, 1 ≤ d ∧ d ≤ 27 ∧ sgX_ c = nI d) ∨ (io_ c = 0 ∧ ((c = 42 ∧ sgX_ c = 28) ∨ (c = 63 ∧ sgX_ c = 29) ∨ (¬ c = 42 ∧ ¬ c = 63 ∧ sgX_ c = 0))) := by
  rcases io_01 c with z | z
  · refine Or.inr ⟨z, ?_⟩
    by_cases h1 : c = 42
    · exact Or.inl ⟨h1, by rw [h1]; decide⟩
    · by_cases h2 : c = 63
      · exact Or.inr (Or.inl ⟨h2, by rw [h2]; decide⟩)
      · exact Or.inr (Or.inr ⟨h1, h2, sg_io.mpr ⟨z, h1, h2⟩⟩)
  · obtain ⟨-, h1, h2, h3⟩ := nc_io z
    exact Or.inl ⟨z, dN_ c, h2, h3, h1⟩
theorem sg_28 {c : Int32} : sgX_ c = 28 ↔ c = 42 := by
  constructor
  · intro y
    rcases sg_of (c := c) with ⟨-, d, h1, h2, h3⟩ | ⟨-, h | h | h⟩
    · have := (nI_eq (a := d) (b := 28) (by omega) (by decide)).mp (h3.symm.trans y); omega
    · exact h.1
    · exact absurd (h.2.symm.trans y) (by decide)
    · exact absurd (h.2.2.symm.trans y) (by decide)
  · intro y; rw [y]; decide
theorem sg_29 {c : Int32} : sgX_ c = 29 ↔ c = 63 := by
  constructor
  · intro y
    rcases sg_of (c := c) with ⟨-, d, h1, h2, h3⟩ | ⟨-, h | h | h⟩
    · have := (nI_eq (a := d) (b := 29) (by omega) (by decide)).mp (h3.symm.trans y); omega
    · exact absurd (h.2.symm.trans y) (by decide)
    · exact h.1
    · exact absurd (h.2.2.symm.trans y) (by decide)
  · intro y; rw [y]; decide
theorem sg_inj {c e : Int32} (he : io_ e = 1) : sgX_ c = sgX_ e ↔ c = e := by
  constructor
  · intro y
    obtain ⟨a1, a2, a3, a4⟩ := nc_io he
    rw [a2] at y
    rcases io_01 c with z | z
    · exfalso
      rcases sg_of (c := c) with ⟨h, -⟩ | ⟨-, h | h | h⟩
      · rw [z] at h; exact absurd h (by decide)
      · have := (nI_eq (a := 28) (b := dN_ e) (by decide) (by omega)).mp (h.2.symm.trans y); omega
      · have := (nI_eq (a := 29) (b := dN_ e) (by decide) (by omega)).mp (h.2.symm.trans y); omega
      · have := (nI_eq (a := 0) (b := dN_ e) (by decide) (by omega)).mp (h.2.2.symm.trans y); omega
    · obtain ⟨b1, b2, b3, b4⟩ := nc_io z
      rw [b2] at y
      exact nc_inj z he (by rw [a1, b1, y])
  · intro y; rw [y]
section FIT
variable {t k : Int64} {f g : Nat → Int32} {z L : Nat}
def tSg_ (t : Int64) (f : Nat → Int32) (z : Nat) : Prop := z ≤ 12 ∧ ∀ p, p < 12 → saX_ t (nI p) = if p < z then sgX_ (f p) else 0
theorem ps1_0 (h : tSg_ t f z) : ∀ (u p : Nat) (x : Int32), u + p = 12 → z ≤ p → ps1_ t u p x = x
  | 0, _, _, _, _ => rfl
  | u + 1, p, x, e, hz => by
    rw [ps1_, h.2 p (by omega), if_neg (show ¬ p < z by omega), if_neg (fun y => absurd y.2 (by decide))]
    exact ps1_0 h u (p + 1) x (by omega) (by omega)
theorem ps_T (h : tSg_ t f z) : ∀ (u v p : Nat) (x : Int32), u + p = 12 → v + p = z → ps1_ t u p x = sr_ f v p x
  | u, 0, p, x, e1, e2 => by rw [ps1_0 h u p x e1 (by omega)]; rfl
  | 0, v + 1, p, x, e1, e2 => by have := h.1; omega
  | u + 1, v + 1, p, x, e1, e2 => by
    rw [ps1_, sr_, h.2 p (by omega), if_pos (show p < z by omega), bt_sh x p (by omega), s1_2 p (by omega), ps_T h u v (p + 1) _ (by omega) (by omega)]
    congr 1
    by_cases b : (x >>> (nI p &&& 31)) &&& 1 = 1 ∧ f p = 42
    · rw [if_pos b, if_pos ⟨b.1, sg_28.mpr b.2⟩]
    · rw [if_neg b, if_neg (fun q => b ⟨q.1, sg_28.mp q.2⟩)]
theorem pg1_0 (h : tSg_ t f z) {x c : Int32} (hc : ¬ c = 0) : ∀ (u p : Nat) (y : Int32), u + p = 12 → z ≤ p → pg1_ t x c u p y = y
  | 0, _, _, _, _ => rfl
  | u + 1, p, y, e, hz => by
    rw [pg1_, h.2 p (by omega), if_neg (show ¬ p < z by omega), if_neg (fun q => absurd q.2 (by decide)), if_neg (fun q => q.2.elim (fun q => absurd q (by decide)) (fun q => hc q.symm))]
    exact pg1_0 h hc u (p + 1) y (by omega) (by omega)
theorem pg_T (h : tSg_ t f z) {x e : Int32} (he : io_ e = 1) : ∀ (u v p : Nat) (y : Int32), u + p = 12 → v + p = z → pg1_ t x (sgX_ e) u p y = fi_ f x e v p y
  | u, 0, p, y, e1, e2 => by
    have hc : ¬ sgX_ e = 0 := fun q => by
      have := (sg_io.mp q).1
      rw [he] at this
      exact absurd this (by decide)
    rw [pg1_0 h hc u p y e1 (by omega)]; rfl
  | 0, v + 1, p, y, e1, e2 => by have := h.1; omega
  | u + 1, v + 1, p, y, e1, e2 => by
    rw [pg1_, fi_, h.2 p (by omega), if_pos (show p < z by omega), bt_sh x p (by omega), s1_2 p (by omega), pg_T h he u v (p + 1) _ (by omega) (by omega)]
    congr 1
    by_cases b1 : (x >>> (nI p &&& 31)) &&& 1 = 1
    · rw [if_pos b1]
      by_cases b2 : f p = 42
      · rw [if_pos ⟨b1, sg_28.mpr b2⟩, if_pos b2]
      · rw [if_neg (fun q => b2 (sg_28.mp q.2)), if_neg b2]
        by_cases b3 : f p = 63 ∨ f p = e
        · rw [if_pos ⟨b1, b3.imp sg_29.mpr (sg_inj he).mpr⟩, if_pos b3]
        · rw [if_neg (fun q => b3 (q.2.imp sg_29.mp (sg_inj he).mp)), if_neg b3]
    · rw [if_neg b1, if_neg (fun q => b1 q.1), if_neg (fun q => b1 q.1)]
theorem ft_2 (h : tSg_ t f z) (hne : ∀ p, p < z → ¬ sgX_ (f p) = 0) : ∀ (u i : Nat) (x e : Int32), u + i = 12 → e = nI (min i z) → (ft1_ t k u i x e).2 = nI z
  | 0, i, x, e, e1, e2 => by
    have := h.1
    rw [ft1_, e2, show min i z = z by omega]
  | u + 1, i, x, e, e1, e2 => by
    rw [ft1_]
    refine ft_2 h hne u (i + 1) _ _ (by omega) ?_
    rw [h.2 i (by omega)]
    by_cases q : i < z
    · rw [if_pos q, if_neg (hne i q), show min (i + 1) z = i + 1 by omega]
    · rw [if_neg q, if_pos rfl, e2, show min i z = z by omega, show min (i + 1) z = z by omega]
theorem ft_1 (h : tSg_ t f z) (hk : tSg_ k g L) (hg : ∀ i, i < L → io_ (g i) = 1) : ∀ (u v i : Nat) (x e : Int32), u + i = 12 → v + i = L → (ft1_ t k u i x e).1 = fo_ f z g v i x
  | 0, 0, _, _, _, _, _ => rfl
  | u + 1, 0, i, x, e, e1, e2 => by
    rw [ft1_, hk.2 i (by omega), if_neg (show ¬ i < L by omega), if_pos rfl]
    have : ∀ (u i : Nat) (e : Int32), u + i = 12 → L ≤ i → (ft1_ t k u i x e).1 = x := by
      intro u
      induction u with
      | zero => intro i e _ _; rfl
      | succ u ih =>
        intro i e e1 e2
        rw [ft1_, hk.2 i (by omega), if_neg (show ¬ i < L by omega), if_pos rfl]
        exact ih (i + 1) _ (by omega) (by omega)
    rw [this u (i + 1) _ (by omega) (by omega)]; rfl
  | 0, v + 1, i, x, e, e1, e2 => by have := hk.1; omega
  | u + 1, v + 1, i, x, e, e1, e2 => by
    have hi := hg i (by omega)
    have hc : ¬ sgX_ (g i) = 0 := fun q => by
      have := (sg_io.mp q).1
      rw [hi] at this
      exact absurd this (by decide)
    have hz := h.1
    rw [ft1_, fo_, hk.2 i (by omega), if_pos (show i < L by omega), if_neg hc, ft_1 h hk hg u v (i + 1) _ _ (by omega) (by omega)]
    congr 1
    unfold psX_ pgn_
    rw [ps_T h 12 z 0 _ (by omega) (by omega), pg_T h hi 12 z 0 0 (by omega) (by omega)]
theorem ft_T (h : tSg_ t f z) (hk : tSg_ k g L) (hne : ∀ p, p < z → ¬ sgX_ (f p) = 0) (hg : ∀ i, i < L → io_ (g i) = 1) : ftX_ t k = if (fo_ f z g L 0 (sr_ f z 0 1) >>> (nI z &&& 31)) &&& 1 = 1 then 1 else 0 := by
  have hz := h.1
  unfold ftX_
  rw [ft_2 h hne 12 0 _ 0 (by omega) (by rw [Nat.zero_min]; rfl), ft_1 h hk hg 12 L 0 _ 0 (by omega) (by omega), bt_sh _ z hz]
  unfold psX_
  rw [ps_T h 12 z 0 1 (by omega) (by omega)]
end FIT
end
section
/-! names and patterns as digits -/
def gN_ (D : Nat → Nat) : Nat → Nat
  | 0 => 0
  | z + 1 => gN_ D z + D z * 32 ^ z
theorem gN_lt {D : Nat → Nat} : ∀ z, (∀ j, j < z → D j < 32) → gN_ D z < 32 ^ z
  | 0, _ => by simp [gN_]
  | z + 1, h => by
    have i := gN_lt z (fun j hj => h j (by omega))
    have d := h z (by omega)
    rw [gN_, Nat.pow_succ]
    have : D z * 32 ^ z ≤ 31 * 32 ^ z := Nat.mul_le_mul_right _ (by omega)
    omega
theorem gN_dig {D : Nat → Nat} : ∀ z i, (∀ j, j < z → D j < 32) → gN_ D z / 32 ^ i % 32 = if i < z then D i else 0
  | 0, i, _ => by simp [gN_]
  | z + 1, i, h => by
    have hz := gN_lt z (fun j hj => h j (by omega))
    have ih := gN_dig z i (fun j hj => h j (by omega))
    have d := h z (by omega)
    have pp : 0 < (32 : Nat) ^ i := Nat.pow_pos (by decide)
    rw [gN_]
    by_cases h1 : i < z
    · rw [if_pos (show i < z + 1 by omega)]
      rw [if_pos h1] at ih
      obtain ⟨e, rfl⟩ : ∃ e, z = i + (e + 1) := ⟨z - i - 1, by omega⟩
      rw [show D (i + (e + 1)) * 32 ^ (i + (e + 1)) = 32 ^ i * (32 * (D (i + (e + 1)) * 32 ^ e)) by rw [Nat.pow_add, Nat.pow_succ]; simp [Nat.mul_comm, Nat.mul_left_comm]]
      rw [Nat.add_mul_div_left _ _ pp, Nat.add_mul_mod_self_left]
      exact ih
    · by_cases h2 : i = z
      · subst h2
        rw [if_pos (show i < i + 1 by omega), Nat.add_mul_div_right _ _ pp, Nat.div_eq_of_lt hz, Nat.zero_add, Nat.mod_eq_of_lt d]
      · rw [if_neg (show ¬ i < z + 1 by omega)]
        have hl := gN_lt (z + 1) h
        rw [gN_] at hl
        have hp : (32 : Nat) ^ (z + 1) ≤ 32 ^ i := Nat.pow_le_pow_right (by decide) (by omega)
        rw [Nat.div_eq_of_lt (by omega)]
theorem sa_N (x : Int64) {i : Nat} (hi : i < 12) : saX_ x (nI i) = nI (x.toBitVec.toNat / 32 ^ i % 32) := by
  have e1 : ∀ i, i < 12 → ((5 * nI i).toInt64.toUInt64 &&& Int64.toUInt64 63).toBitVec.toNat % 64 = 5 * i := by decide +kernel
  have e3 : ∀ m, m < 32 → (nI m).toBitVec.toNat = m := by decide +kernel
  unfold saX_
  apply Int32.toBitVec_inj.mp
  apply BitVec.eq_of_toNat_eq
  rw [Int32.toBitVec_and, BitVec.toNat_and, e3 _ (Nat.mod_lt _ (by decide))]
  have a1 : (x.toUInt64 >>> ((5 * nI i).toInt64.toUInt64 &&& Int64.toUInt64 63)).toBitVec.toNat = x.toBitVec.toNat / 32 ^ i := by
    rw [UInt64.toBitVec_shiftRight, BitVec.ushiftRight_eq', BitVec.toNat_ushiftRight, BitVec.toNat_umod, show (64 : BitVec 64).toNat = 64 from rfl, e1 i hi, Nat.shiftRight_eq_div_pow, Nat.pow_mul]
    rfl
  have a2 : ∀ y : Int64, y.toInt32.toBitVec.toNat = y.toBitVec.toNat % 2 ^ 32 := fun y => by
    rw [Int64.toBitVec_toInt32, BitVec.signExtend_eq_setWidth_of_le _ (by decide), BitVec.toNat_setWidth]
  rw [a2]
  show (x.toUInt64 >>> ((5 * nI i).toInt64.toUInt64 &&& Int64.toUInt64 63)).toBitVec.toNat % 2 ^ 32 &&& 31 = _
  rw [a1, show (31 : Nat) = 2 ^ 5 - 1 from rfl, Nat.and_two_pow_sub_one_eq_mod]
  omega
def sN_ (c : Int32) : Nat := (sgX_ c).toNatClampNeg
theorem sN_e (c : Int32) : sgX_ c = nI (sN_ c) ∧ sN_ c ≤ 29 := by
  have k : ∀ d, d ≤ 29 → sgX_ c = nI d → sgX_ c = nI (sN_ c) ∧ sN_ c ≤ 29 := fun d hd e => by
    have : sN_ c = d := by unfold sN_; rw [e]; exact nI_clamp (by omega)
    rw [this]; exact ⟨e, hd⟩
  rcases sg_of (c := c) with ⟨-, d, h1, h2, h3⟩ | ⟨-, h | h | h⟩
  · exact k d (by omega) h3
  · exact k 28 (by omega) h.2
  · exact k 29 (by omega) h.2
  · exact k 0 (by omega) h.2.2
theorem pwT_N {f : Nat → Int32} {s : Nat} : ∀ z, z ≤ 12 → pwT_ f s z = lN (gN_ (fun j => sN_ (f (s + j))) z)
  | 0, _ => rfl
  | z + 1, hz => by
    have hl := gN_lt (D := fun j => sN_ (f (s + j))) z (fun j _ => by have := (sN_e (f (s + j))).2; omega)
    rw [pwT_, pwT_N z (by omega), (sN_e (f (s + z))).1, wi_st (by omega) hl (by have := (sN_e (f (s + z))).2; omega)]
    rfl
theorem pw_tS {f : Nat → Int32} {s z : Nat} (hz : z ≤ 12) : tSg_ (pwT_ f s z) (fun p => f (s + p)) z := by
  refine ⟨hz, fun p hp => ?_⟩
  have hl := gN_lt (D := fun j => sN_ (f (s + j))) z (fun j _ => by have := (sN_e (f (s + j))).2; omega)
  have p60 := p32_le hz
  rw [pwT_N z hz, sa_N _ hp, tbl_ (by omega), gN_dig z p (fun j _ => by have := (sN_e (f (s + j))).2; omega)]
  by_cases q : p < z
  · rw [if_pos q, if_pos q]; exact (sN_e _).1.symm
  · rw [if_neg q, if_neg q]; rfl
theorem LE_gN {g : Nat → Int32} {k : Nat} : ∀ z, LE_ g k z = gN_ (fun j => dN_ (g (k + j))) z
  | 0 => rfl
  | z + 1 => by rw [LE_, gN_, LE_gN z]
theorem ky_tS {g : Nat → Int32} {k L j : Nat} (hL : L ≤ 12) (h : ry_ g k L) (hj : j < 4) : tSg_ (ky_ (lN (LE_ g k L)) (nI j)) (fun i => g (k + i)) L := by
  refine ⟨hL, fun p hp => ?_⟩
  have h1 : LE_ g k L < 2 ^ 60 := Nat.lt_of_lt_of_le (LE_lt L h) (p32_le hL)
  have hd : ∀ i, i < L → dN_ (g (k + i)) < 32 := fun i hi => by have := (nc_io (h i hi)).2.2.2; omega
  rw [sa_N _ hp, ky_N h1 hj]
  have e : (LE_ g k L + j * 2 ^ 60) / 32 ^ p % 32 = LE_ g k L / 32 ^ p % 32 := by
    obtain ⟨e, he⟩ : ∃ e, 12 = p + (e + 1) := ⟨11 - p, by omega⟩
    have : j * 2 ^ 60 = 32 ^ p * (32 * (j * 32 ^ e)) := by
      rw [← p32_, he, Nat.pow_add, Nat.pow_succ]; simp [Nat.mul_comm, Nat.mul_left_comm]
    rw [this, Nat.add_mul_div_left _ _ (Nat.pow_pos (by decide)), Nat.add_mul_mod_self_left]
  rw [e, LE_gN, gN_dig L p hd]
  by_cases q : p < L
  · rw [if_pos q, if_pos q]; exact (nc_io (h p q)).2.1.symm
  · rw [if_neg q, if_neg q]; rfl
theorem BE_dig {g : Nat → Int32} {k : Nat} : ∀ L i, ry_ g k L → i < L → BE_ g k L / 32 ^ (L - 1 - i) % 32 = dN_ (g (k + i))
  | 0, _, _, h => by omega
  | L + 1, i, h, hi => by
    have d := (nc_io (h L (by omega))).2.2.2
    rw [BE_]
    by_cases q : i = L
    · subst q
      rw [show i + 1 - 1 - i = 0 by omega, Nat.pow_zero, Nat.div_one]
      omega
    · have ih := BE_dig L i (fun j hj => h j (by omega)) (by omega)
      rw [show L + 1 - 1 - i = (L - 1 - i) + 1 by omega, Nat.pow_succ, Nat.mul_comm (32 ^ (L - 1 - i)), ← Nat.div_div_eq_div_mul, show (BE_ g k L * 32 + dN_ (g (k + L))) / 32 = BE_ g k L by omega]
      exact ih
theorem BE_ge {g : Nat → Int32} {k : Nat} : ∀ L, ry_ g k (L + 1) → 32 ^ L ≤ BE_ g k (L + 1)
  | 0, h => by
    have d := (nc_io (h 0 (by omega))).2.2.1
    rw [BE_, Nat.pow_zero]
    omega
  | L + 1, h => by
    have ih := BE_ge L (fun j hj => h j (by omega))
    rw [BE_, Nat.pow_succ]
    omega
theorem sr5_ {a i : Nat} (ha : a < 2 ^ 60) (hi : i < 12) : lN a >>> (((5 : Int32) * nI i).toInt64 &&& 63) = lN (a / 32 ^ i) := by
  have e1 : ∀ i, i < 12 → ((((5 : Int32) * nI i).toInt64 &&& 63).toBitVec.smod 64).toNat = 5 * i := by decide +kernel
  have hd : a / 32 ^ i ≤ a := Nat.div_le_self _ _
  apply Int64.toBitVec_inj.mp
  apply BitVec.eq_of_toNat_eq
  rw [Int64.toBitVec_shiftRight, BitVec.sshiftRight_eq', e1 i hi, BitVec.toNat_sshiftRight_of_msb_false, tbl_ (by omega), tbl_ (by omega), Nat.shiftRight_eq_div_pow, Nat.pow_mul]
  rw [BitVec.msb_eq_decide, tbl_ (by omega)]
  simp
  omega
theorem lN_z {a : Nat} (ha : a < 2 ^ 60) : lN a = 0 ↔ a = 0 := by
  constructor
  · intro y
    have := congrArg (fun x : Int64 => x.toBitVec.toNat) y
    rw [tbl_ (by omega)] at this
    exact this
  · intro y; rw [y]; rfl
theorem ns_L {g : Nat → Int32} {k L : Nat} (hL : L ≤ 12) (h : ry_ g k L) : ns_ (nm_ g k L) 12 0 = L := by
  have hb : BE_ g k L < 32 ^ L := BE_lt L h
  have p60 := p32_le hL
  rw [nm_BE L hL h]
  have lp : ∀ u m, m + u = 12 → m ≤ L → ns_ (lN (BE_ g k L)) u m = L := by
    intro u
    induction u with
    | zero => intro m h1 h2; rw [ns_]; omega
    | succ u ih =>
      intro m h1 h2
      rw [ns_, sr5_ (by omega) (by omega)]
      have hd : BE_ g k L / 32 ^ m ≤ BE_ g k L := Nat.div_le_self _ _
      by_cases q : m = L
      · subst q
        rw [Nat.div_eq_of_lt hb, if_pos (show lN 0 = 0 from rfl)]
      · obtain ⟨e, rfl⟩ : ∃ e, L = e + 1 := ⟨L - 1, by omega⟩
        have hg := BE_ge e h
        have hp : (32 : Nat) ^ m ≤ 32 ^ e := Nat.pow_le_pow_right (by decide) (by omega)
        have hpos : 0 < BE_ g k (e + 1) / 32 ^ m := Nat.div_pos (by omega) (Nat.pow_pos (by decide))
        rw [if_neg (fun y => by have := (lN_z (by omega)).mp y; omega)]
        exact ih (m + 1) (by omega) (by omega)
  exact lp 12 0 (by omega) (by omega)
theorem la_31 {a : Nat} (ha : a < 2 ^ 60) : (lN a &&& 31).toInt32 = nI (a % 32) := by
  have e : lN a &&& 31 = lN (a % 32) := by
    apply Int64.toBitVec_inj.mp
    apply BitVec.eq_of_toNat_eq
    rw [Int64.toBitVec_and, BitVec.toNat_and, tbl_ (by omega), tbl_ (by omega)]
    show a &&& 31 = _
    rw [show (31 : Nat) = 2 ^ 5 - 1 from rfl, Nat.and_two_pow_sub_one_eq_mod]
  have e3 : ∀ m, m < 32 → (lN m).toInt32 = nI m := by decide +kernel
  rw [e]
  exact e3 _ (Nat.mod_lt _ (by decide))
theorem nb_L {g : Nat → Int32} {k L i : Nat} (hL : L ≤ 12) (h : ry_ g k L) (hi : i < L) : nb_ (nm_ g k L) (nI i) (nI L) = g (k + i) := by
  have hb : BE_ g k L < 32 ^ L := BE_lt L h
  have p60 := p32_le hL
  have hd : BE_ g k L / 32 ^ (L - 1 - i) ≤ BE_ g k L := Nat.div_le_self _ _
  have e1 : nI L - 1 - nI i = nI (L - 1 - i) := by rw [show (1 : Int32) = nI 1 from rfl, pk_sub (by omega), pk_sub (by omega)]
  have io := h i hi
  unfold nb_
  rw [e1, nm_BE L hL h, sr5_ (by omega) (by omega), la_31 (by omega), BE_dig L i h hi, ← (nc_io io).1]
  unfold nc_
  by_cases q : g (k + i) = 46
  · rw [if_pos q, if_pos rfl, q]
  · rw [if_neg q, if_neg (fun y => by
      have e2 : g (k + i) = 123 := by
        have := congrArg (fun w : Int32 => w + 96) y
        simp only [Int32.sub_add_cancel] at this
        exact this
      rw [e2] at io
      exact absurd io (by decide))]
    rw [Int32.add_comm, Int32.sub_add_cancel]
theorem fo_cg {f : Nat → Int32} {z : Nat} {c e : Nat → Int32} : ∀ u k x, (∀ i, k ≤ i → i < k + u → c i = e i) → fo_ f z c u k x = fo_ f z e u k x
  | 0, _, _, _ => rfl
  | u + 1, k, x, h => by rw [fo_, fo_, h k (by omega) (by omega)]; exact fo_cg u (k + 1) _ (fun i h1 h2 => h i (by omega) (by omega))
/-- the class's fitting of a pattern and a key is the reference's of the pattern's bytes and the name -/
theorem fit_T {f g : Nat → Int32} {s z k L j : Nat} (hz : z ≤ 12) (hL : L ≤ 12) (h : ry_ g k L) (hj : j < 4) (hne : ∀ p, p < z → ¬ sgX_ (f (s + p)) = 0) : ftX_ (pwT_ f s z) (ky_ (lN (LE_ g k L)) (nI j)) = ft_ (fun p => f (s + p)) z (nm_ g k L) := by
  rw [ft_T (pw_tS hz) (ky_tS hL h hj) hne (fun i hi => h i hi)]
  unfold ft_
  rw [ns_L hL h, fo_cg L 0 _ (fun i _ h2 => nb_L hL h (by omega))]

end
section
/-! kill's number; how a command's reading ends in the class -/
def klT_ (T : Int32 → Int32) (q : Option Nat) : Int32 × Option Nat := match q with
  | none => (0, none)
  | some p => if fg_ (T (nI p)) = 0 then (0, none) else ((nuP_ T 200 p 0).2.toInt32, if (nuP_ T 200 p 0).2 ≤ 99 then some (nuP_ T 200 p 0).1 else none)
theorem LS_kl {q : Option Nat} {M : mm_} (h : LS_ q M) : (nu1_ 200 (nuA_ M) 0).2.toInt32 = (klT_ (tb_ M) q).1 ∧ LS_ (klT_ (tb_ M) q).2 (nuB_ (nu1_ 200 (nuA_ M) 0).1 (M.1 37 1) (nu1_ 200 (nuA_ M) 0).2 99) := by
  have dead : ∀ N : mm_, LS_ none N → LS_ none (nuB_ N (M.1 37 1) 0 99) := fun N hN => by
    unfold nuB_
    rw [if_pos (by decide +kernel)]
    exact hN
  cases q with
  | none =>
    have e : LS_ none (nuA_ M) := by
      unfold nuA_
      rw [pe_F h, if_pos (by decide)]
      exact LS_fn h
    rw [nu_n e]
    exact ⟨rfl, dead _ e⟩
  | some p =>
    unfold klT_
    simp only
    by_cases z : fg_ (tb_ M (nI p)) = 0
    · have e : LS_ none (nuA_ M) := by
        unfold nuA_
        rw [LS_pe h, if_pos z]
        exact LS_fi h (by decide)
      rw [nu_n e, if_pos z]
      exact ⟨rfl, dead _ e⟩
    · rw [nuG h.1 h.2 (by rw [LS_pe h]; exact z), if_neg z]
      refine ⟨rfl, ?_⟩
      have e : LS_ (some (nuP_ (tb_ M) 200 p 0).1) (sI_ M 37 1 (nI (nuP_ (tb_ M) 200 p 0).1)) := ⟨h.1, rfl⟩
      unfold nuB_
      simp only
      rw [show Int32.toInt64 99 = 99 by decide +kernel]
      by_cases y : (nuP_ (tb_ M) 200 p 0).2 ≤ 99
      · rw [if_pos y, if_pos y]
        exact e
      · rw [if_neg y, if_neg y]
        exact LS_fi e (by decide)
section KLT
variable {T : Int32 → Int32} {M : mm_} {n : Nat}
theorem kl_T (h : TF_ T (bf_ M n) n) {s : Nat} (hs : s ≤ n) : (∃ q, sm_ M n s 0 = .inr q ∧ qw_ T (klT_ T (some s)).2 = none) ∨ (∃ l k, sm_ M n s 0 = .inl (nI l, k) ∧ l ≤ 99 ∧ k ≤ n ∧ (klT_ T (some s)).1 = nI l ∧ qw_ T (klT_ T (some s)).2 = some (sp_ M n k)) := by
  have hn := h.1
  obtain ⟨a, k, e1, ha, hk, e2⟩ := nu_T h hs
  have l1 : klT_ T (some s) = if ig_ (bf_ M n s) = 0 then (0, none) else ((lN a).toInt32, if lN a ≤ 99 then some k else none) := by
    unfold klT_
    simp only
    rw [h.2.1 s (by omega), fg_ig, e1]
  have l2 : sm_ M n s 0 = if ig_ (bf_ M n s) = 0 then .inr (1, s) else if nI (nd_ a) < 0 ∨ ¬ nI (nd_ a) ≤ 99 then .inr (2, s) else if ¬ bf_ M n k ≤ 32 then .inr (1, k) else .inl (nI (nd_ a), k) := by
    unfold sm_
    rw [e2]
  rw [l1, l2]
  rcases ig_01 (bf_ M n s) with z | z
  · rw [if_pos z, if_pos z]
    exact Or.inl ⟨_, rfl, rfl⟩
  · have z' : ¬ ig_ (bf_ M n s) = 0 := by rw [z]; decide
    rw [if_neg z', if_neg z']
    by_cases q : a ≤ 99
    · have hnd : nd_ a = a := by unfold nd_; rw [if_pos (by omega)]
      rw [hnd, lN_i99 a q]
      rw [if_pos (show lN a ≤ 99 from (lN_99 ha).mpr q), if_neg (show ¬ (nI a < 0 ∨ ¬ nI a ≤ 99) from fun y => y.elim (fun y => absurd ((nI_ltI (a := a) (b := 0) (by omega) (by decide)).mp y) (by omega)) (fun y => y (nI_le (a := a) (b := 99) q (by decide))))]
      simp only
      rw [qw_T h hk]
      by_cases t : bf_ M n k ≤ 32
      · rw [if_pos t, if_neg (fun y => y t)]
        exact Or.inr ⟨a, k, rfl, q, hk, rfl, rfl⟩
      · rw [if_neg t, if_pos t]
        exact Or.inl ⟨_, rfl, rfl⟩
    · have hnd : 99 < nd_ a ∧ nd_ a ≤ 999 := by unfold nd_; split <;> omega
      rw [if_neg (show ¬ lN a ≤ 99 from fun y => q ((lN_99 ha).mp y)), if_pos (show nI (nd_ a) < 0 ∨ ¬ nI (nd_ a) ≤ 99 from Or.inr (fun y => absurd ((nI_leI (a := nd_ a) (b := 99) (by omega) (by decide)).mp y) (by omega)))]
      exact Or.inl ⟨_, rfl, rfl⟩
end KLT
theorem tb_cg {M N : mm_} (h1 : N.1 35 1 = M.1 35 1) (h2 : ∀ i, N.1 36 i = M.1 36 i) : tb_ N = tb_ M := by
  funext k
  unfold tb_
  rw [h1, h2]
theorem xE_ok {q : Option Nat} {M : mm_} (h : LS_ q M) : (xE_ M).1 37 2 = 0 ↔ okE_ (tb_ M) q := by
  have e := LS_xE h
  cases q with
  | none => exact ⟨fun y => absurd y e, fun ⟨p, y, _⟩ => by cases y⟩
  | some p =>
    unfold qE_ at e
    simp only at e
    by_cases t : tb_ M (nI p) = -1
    · rw [if_pos t] at e
      exact ⟨fun _ => ⟨p, rfl, t⟩, fun _ => e.1⟩
    · rw [if_neg t] at e
      exact ⟨fun y => absurd y e, fun ⟨p2, y, t2⟩ => by cases y; exact absurd t2 t⟩
/-- what the class's reading of a command comes to, by the text -/
def RCT_ (k : Nat) (T : Int32 → Int32) (M : mm_) (v : Int32) (N : mm_) : Prop := ∃ (p : Nat) (V : Int32 × Option Nat) (fin : Option Nat), skP_ T 200 0 = p ∧ vbT_ T p = V ∧ v = V.1 ∧ (N.1 37 2 = 0 ↔ okE_ T fin) ∧ N.1 k 0 = v ∧
  ((V.1 = 5 ∧ fin = V.2) ∨
   (V.1 = 4 ∧ fin = qw_ T (klT_ T V.2).2 ∧ N.1 38 0 = (klT_ T V.2).1) ∨
   ((V.1 = 2 ∨ V.1 = 3) ∧ fin = qw_ T (patT_ T V.2).2 ∧ N.2.1 k 2 = (patT_ T V.2).1 ∧ N.1 k 7 = 0 ∧ N.1 k 9 = 0 ∧ ∀ j, j < 48 → N.1 (k + 11) j = 0) ∨
   (V.1 = 1 ∧ ∃ p2 PO PT W1 X1 W2 X2 q c b, V.2 = some p2 ∧ poT_ T p2 = PO ∧ patT_ T PO.2 = PT ∧ qw_ T PT.2 = W1 ∧ pe2_ T 7 false W1 = X1 ∧ qw_ T (qx_ X1) = W2 ∧ pe2_ T 7 false W2 = X2 ∧ wa3_ T W2 X2 q c ∧ wa4_ T q fin b ∧ N.1 k 1 = PO.1 ∧ N.2.1 k 2 = PT.1 ∧ N.1 k 5 = (if c = true then 1 else 0) ∧ N.1 k 6 = (if b = true then (lmT_ T q).1 else 99) ∧ N.1 k 7 = 0 ∧ N.1 k 9 = 0 ∧ hx_ (k + 1) X1 N ∧ (c = true → hx_ (k + 6) X2 N)))

end
section
/-! the class's reading of a command, by the text -/
theorem vb_15 {T : Int32 → Int32} {p : Nat} : (vbT_ T p).1 = 1 ∨ (vbT_ T p).1 = 2 ∨ (vbT_ T p).1 = 3 ∨ (vbT_ T p).1 = 4 ∨ (vbT_ T p).1 = 5 := by
  unfold vbT_
  split
  · exact Or.inl rfl
  split
  · exact Or.inr (Or.inl rfl)
  split
  · exact Or.inr (Or.inr (Or.inl rfl))
  split
  · exact Or.inr (Or.inr (Or.inr (Or.inl rfl)))
  split
  · exact Or.inr (Or.inr (Or.inr (Or.inr rfl)))
  · exact Or.inr (Or.inr (Or.inr (Or.inr rfl)))
theorem RC_T {k : Nat} {M N : mm_} {v : Int32} (hk : 135 ≤ k) (h : RC_ k M v N) : RCT_ k (tb_ M) M v N := by
  obtain ⟨hcz, p, V, A, B, e1, e2, e3, hcw, hLS, hrnf, hczB, hRV, hN⟩ := h
  have tA : tb_ A = tb_ M := cw_tb hk hcw
  have tB : tb_ B = tb_ M := (tb_cg (hczB.2.1 35 1 (by omega) (by omega) (by omega) (by omega)) (fun i => hczB.2.1 36 i (by omega) (by omega) (by omega) (by omega))).trans tA
  have xB : c37_ B (xE_ B) := c37_xE
  have n37 : N.1 37 2 = (xE_ B).1 37 2 := by rw [hN, gI_sI, if_neg (by omega)]
  have nI_ : ∀ a i, a ≠ 37 → ¬ (a = k ∧ i = 0) → N.1 a i = B.1 a i := fun a i h1 h2 => by rw [hN, gI_sI, if_neg h2]; exact xB.2.1 a i h1
  have nL_ : ∀ a i, a ≠ 37 → N.2.1 a i = B.2.1 a i := fun a i h1 => by rw [hN, gL_sI]; exact xB.2.2 a i h1
  have nk0 : N.1 k 0 = v := by rw [hN, gI_sI, if_pos ⟨rfl, rfl⟩]
  obtain ⟨z0, z5, z6, z7, z9, z11⟩ := hrnf
  have hV := vb_15 (T := tb_ M) (p := p)
  rw [e2] at hV
  have fin : ∀ q, LS_ q B → (N.1 37 2 = 0 ↔ okE_ (tb_ M) q) := fun q hq => by rw [n37, xE_ok hq, tB]
  rcases hRV with ⟨v4, R, hR, hB⟩ | ⟨v1, p2, hp2, hRW⟩ | ⟨v5, hB⟩ | ⟨n4, n1, n5, P, hP, hB⟩
  · have kl := LS_kl hLS
    rw [tA, hR] at kl
    have cX : c37_ (sI_ (nuB_ R.1 (A.1 37 1) R.2 99) 38 0 R.2.toInt32) B := by rw [hB]; exact c37_ew
    have tX : tb_ (sI_ (nuB_ R.1 (A.1 37 1) R.2 99) 38 0 R.2.toInt32) = tb_ M := (c37_tb cX).symm.trans tB
    have l1 : LS_ (klT_ (tb_ M) V.2).2 (sI_ (nuB_ R.1 (A.1 37 1) R.2 99) 38 0 R.2.toInt32) := LS_37x kl.2 (by rw [gI_sI, if_neg (by omega)]) (by rw [gI_sI, if_neg (by omega)])
    have l2 := LS_ew l1
    rw [tX, ← hB] at l2
    refine ⟨p, V, _, e1, e2, e3, fin _ l2, nk0, Or.inr (Or.inl ⟨v4, rfl, ?_⟩)⟩
    rw [nI_ 38 0 (by decide) (by omega), cX.2.1 38 0 (by decide), gI_sI, if_pos ⟨rfl, rfl⟩]
    exact kl.1
  · obtain ⟨hcw2, PO, PT, W1, X1, W2, X2, q, r, c, b, g1, g2, g3, g4, g5, g6, g7, g8, g9, g10, g11, g12, g13, g14, g15, g16, g17⟩ := hRW
    rw [tA] at g1 g2 g3 g4 g5 g6 g7 g8 g13
    refine ⟨p, V, r, e1, e2, e3, fin _ g9, nk0, Or.inr (Or.inr (Or.inr ⟨v1, p2, PO, PT, W1, X1, W2, X2, q, c, b, hp2, g1, g2, g3, g4, g5, g6, g7, g8, ?_, ?_, ?_, ?_, ?_, ?_, ?_, ?_⟩))⟩
    · rw [nI_ k 1 (by omega) (by omega)]; exact g10
    · rw [nL_ k 2 (by omega)]; exact g11
    · rw [nI_ k 5 (by omega) (by omega), g12, z5]
    · rw [nI_ k 6 (by omega) (by omega), g13, z6]
    · rw [nI_ k 7 (by omega) (by omega), g14 7 (by omega) (by omega) (by omega)]; exact z7
    · rw [nI_ k 9 (by omega) (by omega), g14 9 (by omega) (by omega) (by omega)]; exact z9
    · exact hx_k g16 (fun a i h1 h2 => nI_ a i (by omega) (by omega)) (fun i => nL_ _ i (by omega))
    · exact fun hc => hx_k (g17 hc) (fun a i h1 h2 => nI_ a i (by omega) (by omega)) (fun i => nL_ _ i (by omega))
  · subst hB
    exact ⟨p, V, V.2, e1, e2, e3, fin _ hLS, nk0, Or.inl ⟨v5, rfl⟩⟩
  · have pt := LS_pat hLS
    rw [tA, hP] at pt
    have cP : c37_ A P.2 := by rw [← hP]; exact c37_tr c37_p0 (c37_pa _ _ _ _)
    have cE : c37_ A (ew_ P.2) := c37_tr cP c37_ew
    have l2 := LS_ew pt.2
    rw [c37_tb cP, tA] at l2
    generalize ew_ P.2 = X9 at hB cE l2
    have l3 : LS_ (qw_ (tb_ M) (patT_ (tb_ M) V.2).2) B := LS_37x l2 (by rw [hB, gI_sL]) (by rw [hB, gI_sL])
    have bI : ∀ a i, a ≠ 37 → B.1 a i = A.1 a i := fun a i h1 => by rw [hB, gI_sL]; exact cE.2.1 a i h1
    refine ⟨p, V, _, e1, e2, e3, fin _ l3, nk0, Or.inr (Or.inr (Or.inl ⟨?_, rfl, ?_, ?_, ?_, fun j hj => ?_⟩))⟩
    · rcases hV with y | y | y | y | y
      · exact absurd y n1
      · exact Or.inl y
      · exact Or.inr y
      · exact absurd y n4
      · exact absurd y n5
    · rw [nL_ k 2 (by omega), hB, gL_sL, if_pos ⟨rfl, rfl⟩]; exact pt.1
    · rw [nI_ k 7 (by omega) (by omega), bI k 7 (by omega)]; exact z7
    · rw [nI_ k 9 (by omega) (by omega), bI k 9 (by omega)]; exact z9
    · rw [nI_ (k + 11) j (by omega) (by omega), bI (k + 11) j (by omega)]; exact z11 j hj

end
section
/-! what is thrown: by a program, or by the 1001st invocation -/
def q12_ {α : Type} (o : α ⊕ (Nat × Int32)) : Prop := ∀ q, o = .inr q → q.1 = 1 ∨ q.1 = 2
theorem q12_l {α : Type} {x : α} : q12_ (Sum.inl x : α ⊕ (Nat × Int32)) := fun _ h => by cases h
theorem ES_q2 {I : Int64 → List Int32 → sgA_ → io2_} (hI : ∀ K a s, q12_ (I K a s).1) (V : Nat → Int32) : ∀ (g : Bool) (e : Term), wfX_ g e → ∀ (t : List Int32) (s : sgA_), q12_ (ES_ I V e t s).1
  | true, .int v, _, t, s => by rw [ES_]; exact q12_l
  | true, .index i, _, t, s => by rw [ES_]; exact q12_l
  | true, .length e, w, t, s => by
    have h := ES_q2 hI V true e w t s
    rw [ES_]
    generalize ES_ I V e t s = o at h ⊢
    obtain ⟨o, s2⟩ := o
    match o with
    | .inr q => exact h
    | .inl [] => exact h
    | .inl (x :: t2) => exact q12_l
  | true, .sum e, w, t, s => by
    have h := ES_q2 hI V true e w t s
    rw [ES_]
    generalize ES_ I V e t s = o at h ⊢
    obtain ⟨o, s2⟩ := o
    match o with
    | .inr q => exact h
    | .inl [] => exact h
    | .inl (x :: t2) => exact fun q y => by cases y; exact Or.inl rfl
  | true, .elem c (.add a b), w, t, s => by
    have h := ES_q2 hI V true a w.2.1 t s
    rw [ES_, ES_]
    generalize ES_ I V a t s = o at h ⊢
    obtain ⟨o, s2⟩ := o
    cases o with
    | inr q => exact h
    | inl u =>
      simp only
      have h2 := ES_q2 hI V true b w.2.2 u s2
      generalize ES_ I V b u s2 = o2 at h2 ⊢
      obtain ⟨o2, s3⟩ := o2
      match o2 with
      | .inr q => exact h2
      | .inl [] => exact h2
      | .inl [_] => exact h2
      | .inl (y :: x :: t2) =>
        unfold o2_
        simp only
        split
        · exact fun q y => by cases y; exact Or.inl rfl
        · exact q12_l
  | true, .mul a (.div b c), w, t, s => by
    have h := ES_q2 hI V true a w.1 t s
    rw [ES_]
    generalize ES_ I V a t s = o at h ⊢
    obtain ⟨o, s2⟩ := o
    match o with
    | .inr q => exact h
    | .inl [] => exact h
    | .inl (x :: t2) =>
      unfold o1_
      simp only
      split
      · exact ES_q2 hI V true c w.2.2 t2 s2
      · exact ES_q2 hI V true b w.2.1 t2 s2
  | true, .rem a b, w, t, s => by
    have h := ES_q2 hI V true a w.1 t s
    rw [ES_]
    split
    · exact ES_q2 hI V true b w.2 t _
    · exact h
  | true, .sub k x, w, t, s => by
    have h := ES_q2 hI V false x w.1 t s
    rw [ES_]
    generalize ES_ I V x t s = o at h ⊢
    obtain ⟨o, s2⟩ := o
    cases o with
    | inr q => exact h
    | inl u =>
      simp only
      have h2 := hI (kv2_ k) (u.take (an_ x)) s2
      generalize I (kv2_ k) (u.take (an_ x)) s2 = o2 at h2 ⊢
      obtain ⟨o2, s3⟩ := o2
      cases o2 with
      | inr q => exact fun q2 y => h2 q2 (by cases y; rfl)
      | inl v => exact q12_l
  | false, .null, _, t, s => q12_l
  | false, .add a r, w, t, s => by
    have h := ES_q2 hI V true a w.1 t s
    rw [ES_]
    generalize ES_ I V a t s = o at h ⊢
    obtain ⟨o, s2⟩ := o
    cases o with
    | inr q => exact h
    | inl u => exact ES_q2 hI V false r w.2 u s2
theorem in_q {E : se_} (hw : ∀ m, m < E.1 → wfX_ true (E.2.2.1 m)) : ∀ (u m : Nat) (P : Nat → Int32) (s : sgA_), m < E.1 → q12_ (inA_ E u m P s).1
  | 0, _, _, s, _ => fun q y => by cases y; exact Or.inl rfl
  | u + 1, m, P, s, hm => by
    rw [inA_]
    have hI : ∀ K a s, q12_ (nmA_ E (10 - u) (inA_ E u) K a s).1 := fun K a s => by
      unfold nmA_
      cases hf : fnA_ E K E.1 0 with
      | none => exact fun q y => by cases y; exact Or.inl rfl
      | some m2 =>
        simp only
        split
        · exact fun q y => by cases y; exact Or.inl rfl
        split
        · exact fun q y => by cases y; exact Or.inr rfl
        exact in_q hw u m2 _ s (by have := fn_lt E K E.1 0 m2 hf; omega)
    have h := ES_q2 hI P true (E.2.2.1 m) (hw m hm) [] (pbA_ E m 0 (10 - u) P 0 (ivA_ s))
    generalize ES_ (nmA_ E (10 - u) (inA_ E u)) P (E.2.2.1 m) [] (pbA_ E m 0 (10 - u) P 0 (ivA_ s)) = o at h ⊢
    obtain ⟨o, s2⟩ := o
    cases o with
    | inr q => exact fun q2 y => h q2 (by cases y; rfl)
    | inl t => exact q12_l

end
section
/-! the tables of jobs -/
/-- the jobs' kinds are the same -/
def kdE_ (J : Nat → Nat) (A B : mm_) : Prop := ∀ i, i < 8 → A.1 (135 + 12 * J i) 0 = B.1 12 i ∧ (B.1 12 i = 0 ∨ B.1 12 i = 1 ∨ B.1 12 i = 2 ∨ B.1 12 i = 3)
theorem fj_T {J : Nat → Nat} {A B : mm_} (h : kdE_ J A B) : ∀ u i, i + u ≤ 8 → fj_ B u i = match fj1_ A J u i with | none => -1 | some b => nI b
  | 0, _, _ => rfl
  | u + 1, i, hi => by
    rw [fj_, fj1_, (h i (by omega)).1]
    by_cases q : B.1 12 i = 0
    · rw [if_pos q, if_pos q]
    · rw [if_neg q, if_neg q]; exact fj_T h u (i + 1) (by omega)
theorem fj1_in {J : Nat → Nat} {A : mm_} : ∀ u i b, fj1_ A J u i = some b → i ≤ b ∧ b < i + u ∧ A.1 (135 + 12 * J b) 0 = 0
  | 0, _, _, h => by cases h
  | u + 1, i, b, h => by
    rw [fj1_] at h
    split at h
    · rename_i y; cases h; exact ⟨by omega, by omega, y⟩
    · obtain ⟨h1, h2, h3⟩ := fj1_in u (i + 1) b h
      exact ⟨by omega, by omega, h3⟩
theorem fj_neg {J : Nat → Nat} {A B : mm_} (h : kdE_ J A B) : fj_ B 8 0 < 0 ↔ fj1_ A J 8 0 = none := by
  rw [fj_T h 8 0 (by omega)]
  cases e : fj1_ A J 8 0 with
  | none => exact ⟨fun _ => rfl, fun _ => by decide⟩
  | some b =>
    have := fj1_in 8 0 b e
    exact ⟨fun y => absurd y (nI_n0 b (by omega)), fun y => by cases y⟩
theorem ea_T {J : Nat → Nat} {B : mm_} (hd : ∀ i j, i < 8 → j < 8 → J i = J j → i = j) : ∀ (u i : Nat) (r : Int32) (A : mm_), i + u ≤ 8 → (∀ j, i ≤ j → j < 8 → A.1 (135 + 12 * J j) 0 = B.1 12 j ∧ (B.1 12 j = 0 ∨ B.1 12 j = 1 ∨ B.1 12 j = 2 ∨ B.1 12 j = 3)) → r = nI (nk_ B i) → (ea1_ J u i r A).1 = nI (nk_ B (i + u))
  | 0, i, r, A, _, _, hr => hr
  | u + 1, i, r, A, hi, h, hr => by
    rw [ea1_, show i + (u + 1) = i + 1 + u by omega]
    refine ea_T hd u (i + 1) _ _ (by omega) (fun j h1 h2 => ?_) ?_
    · rw [gI_sI, if_neg (fun y => by have := hd j i h2 (by omega) (by omega); omega)]
      exact h j (by omega) h2
    · obtain ⟨k1, k2⟩ := h i (Nat.le_refl _) (by omega)
      rw [k1, hr, nk_]
      rcases k2 with k | k | k | k
      · rw [k, if_pos rfl, if_pos (by decide)]; exact Int32.add_zero _
      · rw [k, if_neg (by decide), if_neg (by decide), nI_1]
      · rw [k, if_neg (by decide), if_neg (by decide), nI_1]
      · rw [k, if_neg (by decide), if_neg (by decide), nI_1]
theorem ea_o {J : Nat → Nat} : ∀ (u i : Nat) (r : Int32) (A : mm_) (a x : Nat), ¬ (x = 0 ∧ ∃ j, i ≤ j ∧ j < i + u ∧ a = 135 + 12 * J j) → (ea1_ J u i r A).2.1 a x = A.1 a x
  | 0, _, _, _, _, _, _ => rfl
  | u + 1, i, r, A, a, x, h => by
    rw [ea1_, ea_o u (i + 1) _ _ a x (fun ⟨h1, j, h2, h3, h4⟩ => h ⟨h1, j, by omega, by omega, h4⟩), gI_sI, if_neg (fun y => h ⟨y.2, i, Nat.le_refl _, by omega, y.1⟩)]
theorem ea_0 {J : Nat → Nat} : ∀ (u i : Nat) (r : Int32) (A : mm_) (j : Nat), i ≤ j → j < i + u → (ea1_ J u i r A).2.1 (135 + 12 * J j) 0 = 0
  | 0, _, _, _, _, h1, h2 => by omega
  | u + 1, i, r, A, j, h1, h2 => by
    rw [ea1_]
    by_cases e : ∃ j2, i + 1 ≤ j2 ∧ j2 < i + 1 + u ∧ 135 + 12 * J j = 135 + 12 * J j2
    · obtain ⟨j2, g1, g2, g3⟩ := e
      rw [g3]
      exact ea_0 u (i + 1) _ _ j2 g1 g2
    · rw [ea_o u (i + 1) _ _ _ _ (fun ⟨_, j2, g1, g2, g3⟩ => e ⟨j2, g1, g2, g3⟩)]
      have : j = i := by
        by_cases q : j = i
        · exact q
        · exact absurd ⟨j, by omega, by omega, rfl⟩ e
      rw [this, gI_sI, if_pos ⟨rfl, rfl⟩]
theorem ea_2 {J : Nat → Nat} : ∀ (u i : Nat) (r : Int32) (A : mm_), (ea1_ J u i r A).2.2 = A.2
  | 0, _, _, _ => rfl
  | u + 1, i, r, A => by rw [ea1_, ea_2 u (i + 1)]; rfl
/-- behind a reset both have none -/
theorem kd_reset {J : Nat → Nat} {A B : mm_} {r : Int32} : kdE_ J (ea1_ J 8 0 r A).2 (zk_ B 8) := fun i hi => by
  have z : (zk_ B 8).1 12 i = 0 := by
    have : ∀ j, i < j → (zk_ B j).1 12 i = 0 := by
      intro j
      induction j with
      | zero => intro h; omega
      | succ j ih =>
        intro h
        rw [zk_, gI_sI]
        split
        · rfl
        · rename_i y
          exact ih (by omega)
    exact this 8 hi
  rw [z]
  exact ⟨ea_0 8 0 r A i (by omega) (by omega), Or.inl rfl⟩

end
section
/-! command: the two answers -/
theorem CE_r {x r : Int32} {B N : mm_} (h : CE_ x B r N) : r = x := h.elim (fun y => y.2.1) (fun y => y.2.1)
/-- the answers of command are the same, where tape and kinds are -/
theorem cmd_ans {n c S p : Nat} {J : Nat → Nat} {M N N2 R : mm_} {r r2 : Int32} (hS : S < 9) (hJ : ∀ i, i < 8 → J i < 9 ∧ ¬ J i = S) (hd : ∀ i j, i < 8 → j < 8 → J i = J j → i = j) (hT : TF_ (tb_ M) (bf_ R n) n) (hkd : kdE_ J M R) (hCR : CR_ n c S J M r N) (hp : sp_ R n 0 = p) (hcmd : cmd_ R n p (rz_ R n p) (rv_ (bf_ R n) p (rz_ R n p)) r2 N2) : r2 = r := by
  have hn := hT.1
  obtain ⟨v, A, hRC, hCR⟩ := hCR
  have hkA : kdE_ J A R := fun i hi => by
    have := hJ i hi
    rw [hRC.1.2.1 (135 + 12 * J i) 0 (by omega) (by omega) (by omega) (by omega)]
    exact hkd i hi
  obtain ⟨p0, V, fin, e1, e2, e3, e4, -, hV⟩ := RC_T (by omega) hRC
  have hp0 : p0 = p := by rw [← e1, ← hp]; exact sp_T hT (by omega)
  subst hp0
  have hpn : p0 ≤ n := by rw [← hp]; exact (sp_le (by omega)).2
  have hz := rz_le R n p0
  -- what the class answers
  have cNo : ¬ okE_ (tb_ M) fin → r = -1 := fun h => by
    rcases hCR with ⟨-, h2, -⟩ | ⟨h1, -⟩
    · exact h2
    · exact absurd (e4.mp h1) h
  have cJob : okE_ (tb_ M) fin → ¬ v = 5 → ¬ v = 4 → r = fj_ R 8 0 := fun h h5 h4 => by
    rcases hCR with ⟨h1, -⟩ | ⟨-, h2⟩
    · exact absurd (e4.mpr h) h1
    · rcases h2 with ⟨y, -⟩ | ⟨y, -⟩ | ⟨-, x, B, ⟨hx, -⟩, hE⟩
      · exact absurd y h5
      · exact absurd y h4
      · rw [CE_r hE, hx, fj_T hkA 8 0 (by omega)]
        cases fj1_ A J 8 0 <;> rfl
  unfold cmd_ at hcmd
  rcases vb_T hT hpn with ⟨g1, g2⟩ | ⟨g1, g2⟩
  · rw [if_pos g1] at hcmd
    rw [hcmd.1]
    refine (cNo ?_).symm
    rw [e2] at g2
    subst g2
    rcases hV with ⟨-, h⟩ | ⟨h, -⟩ | ⟨h, -⟩ | ⟨h, -⟩
    · rw [h]; exact ok_n
    · exact absurd h (by decide)
    · exact absurd h (by decide)
    · exact absurd h (by decide)
  · rw [if_neg g1] at hcmd
    rw [e2] at g2
    generalize ha : sp_ R n (p0 + rz_ R n p0) = a at hcmd g2
    have han : a ≤ n := by rw [← ha]; exact (sp_le (by omega)).2
    generalize hw : wc_ (rv_ (bf_ R n) p0 (rz_ R n p0)) (rz_ R n p0) = w at hcmd g2
    subst g2
    -- the reference's memory
    obtain ⟨B, hB⟩ : ∃ B, ce5_ R n p0 (rz_ R n p0) = B := ⟨_, rfl⟩
    rw [hB] at hcmd
    have bI : ∀ a i, ¬ a = 0 → B.1 a i = R.1 a i := fun a i h => by
      rw [← hB]; unfold ce5_ ra_ cb_ bg_
      rw [gI_sI, if_neg (by omega), gI_sL, gI_sI, if_neg (by omega), gI_sI, if_neg (by omega), gI_sI, if_neg (by omega), gI_sI, if_neg (by omega), gI_sI, if_neg (by omega), gI_sI, if_neg (by omega), gI_sI, if_neg (by omega)]
    have b14 : B.1 0 14 = 1 := by
      rw [← hB]; unfold ce5_ ra_ cb_
      rw [gI_sI, if_neg (by omega), gI_sL, gI_sI, if_neg (by omega), gI_sI, if_neg (by omega), gI_sI, if_pos ⟨rfl, rfl⟩]
    have b15 : B.1 0 15 = 3 := by
      rw [← hB]; unfold ce5_ ra_ cb_
      rw [gI_sI, if_neg (by omega), gI_sL, gI_sI, if_neg (by omega), gI_sI, if_pos ⟨rfl, rfl⟩]
    have bbf : bf_ B n = bf_ R n := by funext q; unfold bf_; rw [bI 1 q (by decide)]
    have hTB : TF_ (tb_ M) (bf_ B n) n := by rw [bbf]; exact hT
    have n14 : ¬ B.1 0 14 = 0 := by rw [b14]; decide
    have hK : KN_ B 7 false := Or.inr ⟨rfl, n14, rfl, b15⟩
    have hkB : kdE_ J A B := fun i hi => by rw [bI 12 i (by decide)]; exact hkA i hi
    have vw : v = w := e3
    have fjB : fj_ R 8 0 = fj_ B 8 0 := by rw [fj_T hkA 8 0 (by omega), fj_T hkB 8 0 (by omega)]
    have fjn : fj_ B 8 0 < 0 → fj_ B 8 0 = -1 := fun f => by
      rcases fj_two (M := B) 8 0 (by omega) with y | ⟨x, -, y2, y3, -⟩
      · exact y
      · rw [y3] at f; exact absurd f (nI_n0 x (by omega))
    unfold cd5_ at hcmd
    rcases hV with ⟨h5, hf⟩ | ⟨h4, hf, h38⟩ | ⟨h23, hf, -⟩ | ⟨h1, p2, PO, PT, W1, X1, W2, X2, q, cc, b, hp2, k1, k2, k3, k4, k5, k6, k7, k8, -⟩
    · -- reset
      have h5 : w = 5 := h5
      have hf : fin = some a := hf
      subst hf
      have o := ok_s hTB han
      rw [h5, if_neg (by decide), if_neg (by decide), if_neg (by decide)] at hcmd
      by_cases q : a < n
      · rw [if_pos q] at hcmd
        rw [hcmd.1]
        exact (cNo (fun y => o.mp y q)).symm
      · rw [if_neg q] at hcmd
        rw [hcmd.1]
        rcases hCR with ⟨y, -⟩ | ⟨-, hh⟩
        · exact absurd (e4.mpr (o.mpr q)) y
        · rcases hh with ⟨-, y, -⟩ | ⟨y, -⟩ | ⟨y, -⟩
          · rw [y, ea_T hd 8 0 0 A (by omega) (fun j _ hj => hkB j hj) rfl]
          · rw [vw, h5] at y; exact absurd y (by decide)
          · exact absurd (vw.trans h5) y.1
    · -- kill
      have h4 : w = 4 := h4
      have hf : fin = qw_ (tb_ M) (klT_ (tb_ M) (some a)).2 := hf
      have h38 : A.1 38 0 = (klT_ (tb_ M) (some a)).1 := h38
      rw [h4, if_neg (by decide), if_neg (by decide), if_pos rfl] at hcmd
      rcases kl_T hTB han with ⟨z, j1, j2⟩ | ⟨l, k, j1, j2, j3, j4, j5⟩
      · rw [j1] at hcmd
        obtain ⟨f, w2⟩ := z
        rw [show r2 = -1 from hcmd.1]
        exact (cNo (by rw [hf, j2]; exact ok_n)).symm
      · rw [j5] at hf
        rw [j4] at h38
        rw [j1] at hcmd
        have hsk := sp_le (M := B) j3
        have o := ok_s hTB hsk.2
        rw [← hf] at o
        unfold kl2_ at hcmd
        simp only at hcmd
        by_cases q : sp_ B n k < n
        · rw [if_pos q] at hcmd
          rw [show r2 = -1 from hcmd.1]
          exact (cNo (fun y => o.mp y q)).symm
        · rw [if_neg q, nI_clamp (by omega)] at hcmd
          have hr : ∀ x B2, CE_ x B2 r N → r = x := fun x B2 h => CE_r h
          rcases hCR with ⟨y, -⟩ | ⟨-, hh⟩
          · exact absurd (e4.mpr (o.mpr q)) y
          · rcases hh with ⟨y, -⟩ | ⟨-, x, B2, hx, hE⟩ | ⟨y, -⟩
            · rw [vw, h4] at y; exact absurd y (by decide)
            · rw [hr x B2 hE]
              rw [h38] at hx
              rcases hx with ⟨y, hx, -⟩ | ⟨i, hi, ei, hx, -⟩
              · have hl8 : 8 ≤ nI l := y.elim (fun y => absurd ((nI_ltI (a := l) (b := 0) (by omega) (by decide)).mp y) (by omega)) id
                rw [if_pos (Or.inl hl8)] at hcmd
                rw [show r2 = -1 from hcmd.1, hx]
              · have hli : l = i := (nI_eq (by omega) (by omega)).mp ei
                subst hli
                have n8 : ¬ (8 : Int32) ≤ nI l := fun y => absurd ((nI_leI (a := 8) (b := l) (by decide) (by omega)).mp y) (by omega)
                rw [(hkB l hi).1] at hx
                by_cases q0 : B.1 12 l = 0
                · rw [if_pos (Or.inr q0)] at hcmd
                  rw [if_pos q0] at hx
                  rw [show r2 = -1 from hcmd.1, hx]
                · rw [if_neg (fun y => y.elim n8 q0)] at hcmd
                  rw [if_neg q0] at hx
                  rw [show r2 = nI l from hcmd.1, hx]
            · exact absurd (vw.trans h4) y.2
    · -- monitor, keep
      have h23 : w = 2 ∨ w = 3 := h23
      have hf : fin = qw_ (tb_ M) (patT_ (tb_ M) (some a)).2 := hf
      have w1 : ¬ w = 1 := fun y => by rw [y] at h23; exact absurd h23 (by decide)
      have w4 : w < 4 := h23.elim (fun y => by rw [y]; decide) (fun y => by rw [y]; decide)
      have v5 : ¬ v = 5 := fun y => by rw [← vw, y] at h23; exact absurd h23 (by decide)
      have v4 : ¬ v = 4 := fun y => by rw [← vw, y] at h23; exact absurd h23 (by decide)
      rw [if_neg w1, if_pos w4] at hcmd
      rcases pd_T hTB han with ⟨z, j1, j2⟩ | ⟨pl, j1, j2, j3, j4, j5, j6, j7⟩
      · rw [j1] at hcmd
        obtain ⟨f, w2⟩ := z
        rw [show r2 = -1 from hcmd.1]
        exact (cNo (by rw [hf, j2]; exact ok_n)).symm
      · rw [j7] at hf
        rw [j1] at hcmd
        have hsk := sp_le (M := B) j3
        have o := ok_s hTB hsk.2
        rw [← hf] at o
        unfold sb_ at hcmd
        simp only at hcmd
        by_cases q : sp_ B n (a + pl) < n
        · rw [if_pos q] at hcmd
          rw [show r2 = -1 from hcmd.1]
          exact (cNo (fun y => o.mp y q)).symm
        · rw [if_neg q] at hcmd
          have hr := cJob (o.mpr q) v5 v4
          rw [fjB] at hr
          by_cases f : fj_ B 8 0 < 0
          · rw [if_pos f] at hcmd
            rw [show r2 = -1 from hcmd.1, hr]
            exact (fjn f).symm
          · rw [if_neg f] at hcmd
            obtain ⟨x, N0, y1, y2, y3, -⟩ := hcmd
            rw [y1, hr, y3]
    · -- watch
      have h1 : w = 1 := h1
      have v5 : ¬ v = 5 := fun y => by rw [vw, h1] at y; exact absurd y (by decide)
      have v4 : ¬ v = 4 := fun y => by rw [vw, h1] at y; exact absurd y (by decide)
      obtain rfl : a = p2 := Option.some.inj hp2
      rw [h1, if_pos rfl] at hcmd
      rcases wt_T hTB hK n14 han k1 k2 k3 k4 k5 k6 k7 k8 with ⟨z, j1, j2⟩ | ⟨s2, pl, x1, c2, lim, j1, j2, j3, -⟩
      · rw [j1] at hcmd
        obtain ⟨f, w2⟩ := z
        rw [show r2 = -1 from hcmd.1]
        by_cases ok : okE_ (tb_ M) fin
        · have hr := cJob ok v5 v4
          have f := j2.resolve_left (fun y => y ok)
          rw [fjB, fjn f] at hr
          exact hr.symm
        · exact (cNo ok).symm
      · rw [j1] at hcmd
        obtain ⟨x, N0, y1, y2, y3, -⟩ := hcmd
        have hr := cJob j2 v5 v4
        rw [fjB] at hr
        rcases y3 with ⟨-, y⟩ | ⟨y, -⟩
        · omega
        · rw [y1, hr, y]

end
