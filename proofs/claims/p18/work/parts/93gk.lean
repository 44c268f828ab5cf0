section
/-! the keys of the trees that are read are told alike by both -/
def KK_ : Term → Prop
  | .length e => KK_ e
  | .sum e => KK_ e
  | .elem _ x => KK_ x
  | .mul a (.div b c) => KK_ a ∧ KK_ b ∧ KK_ c
  | .rem a b => KK_ a ∧ KK_ b
  | .sub k x => NK_ (kv2_ k) (de_ (kv2_ k)) (nI (an_ x)) ∧ KK_ x
  | .add a r => KK_ a ∧ KK_ r
  | _ => True
def KgX_ (n : Nat) (x : px2_) : Prop := ∀ y, x = some y → y.2.1 ≤ n ∧ KK_ y.1
def KPP_ (n : Nat) (P : pf2_) : Prop := ∀ q l k m o, 1 ≤ q ∧ q ≤ 8 → k ≤ n → (∀ e, l = some e → KK_ e) → KgX_ n (P q l k m o)
theorem Kg_n {n : Nat} : KgX_ n none := fun _ h => by cases h
theorem Kg_s {n : Nat} {y : Term × Nat × Nat} (h1 : y.2.1 ≤ n) (h2 : KK_ y.1) : KgX_ n (some y) := fun z hz => by cases hz; exact ⟨h1, h2⟩
theorem Kn_ : ∀ e, (none : Option Term) = some e → KK_ e := fun _ h => by cases h
theorem Ks_ {a : Term} (h : KK_ a) : ∀ e, some a = some e → KK_ e := fun _ z => by cases z; exact h
section KKS
variable {T : Int32 → Int32} {M : mm_} {n : Nat} {P : pf2_}
theorem T_lt {f : Nat → Int32} {k : Nat} {c : Int32} (h : TF_ T f n) (hk : k ≤ n + 300) (e : T (nI k) = c) (hc : 0 ≤ c) : k < n := TF_lt h ((h.2.1 k (by have := h.1; omega)).symm.trans e) hc
theorem kz1 (hT : TF_ T (bf_ M n) n) (h : KPP_ n P) (l : Option Term) (k m o : Nat) (hk : k ≤ n) (hl : ∀ e, l = some e → KK_ e) : KgX_ n (z1_ P T l k m o) := by
  unfold z1_
  cases l with
  | none =>
    simp only
    cases h2 : P 2 none k m o with
    | none => exact Kg_n
    | some r =>
      obtain ⟨g1, g2⟩ := h 2 none k m o (by omega) hk Kn_ r h2
      exact h 1 _ _ _ _ (by omega) g1 (Ks_ g2)
  | some e =>
    simp only
    split
    · rename_i hc
      have := T_lt hT (by omega) hc (by decide)
      split
      · cases h2 : P 2 none (k + 1) (m + 1) o with
        | none => exact Kg_n
        | some r =>
          obtain ⟨g1, g2⟩ := h 2 none (k + 1) (m + 1) o (by omega) (by omega) Kn_ r h2
          exact h 1 _ _ _ _ (by omega) g1 (Ks_ ⟨hl e rfl, g2⟩)
      · exact Kg_n
    · exact Kg_s hk (hl e rfl)
theorem kz2 (hT : TF_ T (bf_ M n) n) (h : KPP_ n P) (k m o : Nat) (hk : k ≤ n) : KgX_ n (z2_ P T k m o) := by
  unfold z2_
  cases h3 : P 3 none k m o with
  | none => exact Kg_n
  | some a =>
    simp only
    obtain ⟨a1, a2⟩ := h 3 none k m o (by omega) hk Kn_ a h3
    split
    · rename_i hc
      have := T_lt hT (by omega) hc (by decide)
      split
      · cases h1 : P 1 none (a.2.1 + 1) (a.2.2 + 1) o with
        | none => exact Kg_n
        | some t =>
          simp only
          obtain ⟨t1, t2⟩ := h 1 none _ _ o (by omega) (by omega) Kn_ t h1
          split
          · rename_i hc2
            have := T_lt hT (by omega) hc2 (by decide)
            cases h2 : P 2 none (t.2.1 + 1) t.2.2 o with
            | none => exact Kg_n
            | some c =>
              obtain ⟨c1, c2⟩ := h 2 none _ _ o (by omega) (by omega) Kn_ c h2
              exact Kg_s c1 ⟨a2, t2, c2⟩
          · exact Kg_n
      · exact Kg_n
    · exact Kg_s a1 a2
theorem kz3 (hT : TF_ T (bf_ M n) n) (h : KPP_ n P) (q : Nat) (hq1 : 3 ≤ q) (hq : q ≤ 5) (l : Option Term) (k m o : Nat) (hk : k ≤ n) (hl : ∀ e, l = some e → KK_ e) : KgX_ n (z3_ P T q l k m o) := by
  unfold z3_
  cases l with
  | none =>
    simp only
    cases h2 : P (q + 1) none k m o with
    | none => exact Kg_n
    | some r =>
      obtain ⟨g1, g2⟩ := h (q + 1) none k m o (by omega) hk Kn_ r h2
      exact h q _ _ _ _ (by omega) g1 (Ks_ g2)
  | some e =>
    simp only
    split
    · rename_i hkd
      have hkn : k < n := by
        rcases Nat.lt_or_ge k n with z | z
        · exact z
        · rw [hT.2.1 k (by have := hT.1; omega), hT.2.2.1 k z] at hkd
          exfalso
          obtain rfl | rfl | rfl : q = 3 ∨ q = 4 ∨ q = 5 := by omega
          all_goals exact absurd hkd (by decide)
      split
      · cases h2 : P (q + 1) none (k + 1) (m + 1) o with
        | none => exact Kg_n
        | some r =>
          simp only
          obtain ⟨g1, g2⟩ := h (q + 1) none (k + 1) (m + 1) o (by omega) (by omega) Kn_ r h2
          have w : KK_ (.elem (.int (T (nI k))) (.add e r.1)) := ⟨hl e rfl, g2⟩
          split
          · exact Kg_s g1 w
          · exact h q _ _ _ _ (by omega) g1 (Ks_ w)
      · exact Kg_n
    · exact Kg_s hk (hl e rfl)
theorem kz6 (hT : TF_ T (bf_ M n) n) (h : KPP_ n P) (k m o : Nat) (hk : k ≤ n) : KgX_ n (z6_ P T k m o) := by
  unfold z6_
  split
  · rename_i hc
    have : k < n := hc.elim (fun y => T_lt hT (by omega) y (by decide)) (fun y => T_lt hT (by omega) y (by decide))
    split
    · cases h2 : P 6 none (k + 1) (m + 1) o with
      | none => exact Kg_n
      | some r =>
        simp only
        obtain ⟨g1, g2⟩ := h 6 none (k + 1) (m + 1) o (by omega) (by omega) Kn_ r h2
        refine Kg_s g1 ?_
        show KK_ (if T (nI k) = 45 then .length r.1 else .sum r.1)
        split
        · exact g2
        · exact g2
    · exact Kg_n
  · exact h 7 none k m o (by omega) hk Kn_
theorem kzw (hT : TF_ T (bf_ M n) n) (h : KPP_ n P) (hw : wP_ P) (v : Int32) (nm : Bool) (k m o : Nat) (hk : k < n) : KgX_ n (zw_ P T v nm k m o (srT_ T (nI k) 200 0 0 0)) := by
  obtain ⟨hsr, hry⟩ := srT_rz hT (show k ≤ n by omega)
  rw [hsr]
  generalize rz_ M n k = z at hry ⊢
  have key : ∀ j, j < 4 → z ≤ 12 → NK_ (ky_ (lN (LE_ (bf_ M n) k (min z 12))) (nI j)) (de_ (ky_ (lN (LE_ (bf_ M n) k (min z 12))) (nI j))) (nI j) := fun j hj hz => by
    rw [Nat.min_eq_left hz]
    exact ⟨bf_ M n, k, z, j, hry, hz, hj, rfl, de_ky hz hry hj, rfl⟩
  unfold zw_
  simp only
  split
  · split
    · rename_i hc
      split
      · rename_i hc2
        have := T_lt hT (by have := hc.2.2.1; omega) hc2 (by decide)
        refine Kg_s (by show k + z + 2 ≤ n; omega) ⟨key 0 (by omega) hc.2.2.1, trivial⟩
      · have hp := T_lt hT (by have := hc.2.2.1; omega) hc.2.2.2.1 (by decide)
        cases h8 : P 8 none (k + z + 1) (m + 1) (o + 1) with
        | none => exact Kg_n
        | some x =>
          simp only
          obtain ⟨g1, g2⟩ := h 8 none _ _ _ (by omega) (by omega) Kn_ x h8
          have w3 := (hw 8 none _ _ _ (by omega) nl_ x h8).2 (by omega)
          split
          · rename_i hc3
            have := T_lt hT (by omega) hc3 (by decide)
            exact Kg_s (by show x.2.1 + 1 ≤ n; omega) ⟨key (an_ x.1) (by omega) hc.2.2.1, g2⟩
          · exact Kg_n
    · exact Kg_n
  · split
    · exact Kg_s (by show k + 1 ≤ n; omega) trivial
    · exact Kg_n
theorem nv_n {f : Nat → Int32} (hf : ∀ k, n ≤ k → f k = -1) : ∀ (u k w : Nat), k ≤ n → (nv_ f u k w).1 ≤ n
  | 0, k, w, hk => hk
  | u + 1, k, w, hk => by
    rw [nv_]
    split
    · rename_i hc
      rcases Nat.lt_or_ge k n with z | z
      · exact nv_n hf u (k + 1) _ (by omega)
      · rw [hf k z] at hc
        exact absurd hc (by decide)
    · exact hk
theorem kz7 (hT : TF_ T (bf_ M n) n) (h : KPP_ n P) (hw : wP_ P) (v : Int32) (nm : Bool) (k m o : Nat) (hk : k ≤ n) : KgX_ n (z7_ P T v nm k m o) := by
  have hn := hT.1
  unfold z7_
  split
  · split
    · split
      · rename_i hc
        have := T_lt hT (by omega) hc.1 (by decide)
        cases h1 : P 1 none (k + 1) m (o + 1) with
        | none => exact Kg_n
        | some x =>
          simp only
          obtain ⟨g1, g2⟩ := h 1 none _ _ _ (by omega) (by omega) Kn_ x h1
          split
          · rename_i hc3
            have := T_lt hT (by omega) hc3 (by decide)
            exact Kg_s (by show x.2.1 + 1 ≤ n; omega) g2
          · exact Kg_n
      · exact Kg_n
    · rename_i hr
      refine kzw hT h hw v nm k m o ?_
      rcases Nat.lt_or_ge k n with z | z
      · exact z
      · rw [hT.2.1 k (by omega), hT.2.2.1 k z] at hr
        exact absurd (by decide) hr
  · split
    · obtain ⟨a2, e, -⟩ := nuP_nv hT (n - k) 200 k 0 0 (by omega) (by omega) (by omega) (by omega) ⟨by omega, by omega, Or.inl ⟨rfl, by omega⟩⟩
      have e2 : nuP_ T 200 k 0 = ((nv_ (bf_ M n) (n - k) k 0).1, lN a2) := e
      refine Kg_s ?_ trivial
      show (nuP_ T 200 k 0).1 ≤ n
      rw [e2]
      exact nv_n hT.2.2.1 (n - k) k 0 hk
    · exact Kg_n
theorem kz8 (hT : TF_ T (bf_ M n) n) (h : KPP_ n P) (k m o : Nat) (hk : k ≤ n) : KgX_ n (z8_ P T k m o) := by
  unfold z8_
  cases h1 : P 1 none k m o with
  | none => exact Kg_n
  | some a =>
    simp only
    obtain ⟨a1, a2⟩ := h 1 none k m o (by omega) hk Kn_ a h1
    split
    · rename_i hc
      have := T_lt hT (by omega) hc (by decide)
      cases h2 : P 1 none (a.2.1 + 1) a.2.2 o with
      | none => exact Kg_n
      | some b =>
        simp only
        obtain ⟨b1, b2⟩ := h 1 none _ _ _ (by omega) (by omega) Kn_ b h2
        split
        · rename_i hc2
          have := T_lt hT (by omega) hc2 (by decide)
          cases h3 : P 1 none (b.2.1 + 1) b.2.2 o with
          | none => exact Kg_n
          | some c =>
            simp only
            obtain ⟨c1, c2⟩ := h 1 none _ _ _ (by omega) (by omega) Kn_ c h3
            split
            · exact Kg_n
            · exact Kg_s c1 ⟨a2, b2, c2, trivial⟩
        · exact Kg_s b1 ⟨a2, b2, trivial⟩
    · exact Kg_s a1 ⟨a2, trivial⟩
theorem KP_all (hT : TF_ T (bf_ M n) n) (v : Int32) (nm : Bool) : ∀ f, KPP_ n (pz2_ T v nm f) := by
  intro f
  induction f with
  | zero => intro q l k m o _ _ _; exact Kg_n
  | succ f ih =>
    have iw := wP_all T v nm f
    intro q l k m o hq hk hl
    show KgX_ n (zs_ (pz2_ T v nm f) T v nm q l k m o)
    unfold zs_
    generalize pz2_ T v nm f = P at ih iw
    by_cases h1 : q = 1
    · subst h1; rw [if_pos rfl]; exact kz1 hT ih l k m o hk hl
    rw [if_neg h1]
    by_cases h2 : q = 2
    · subst h2; rw [if_pos rfl]; exact kz2 hT ih k m o hk
    rw [if_neg h2]
    by_cases h5 : q ≤ 5
    · rw [if_pos h5]; exact kz3 hT ih q (by omega) h5 l k m o hk hl
    rw [if_neg h5]
    by_cases h6 : q = 6
    · subst h6; rw [if_pos rfl]; exact kz6 hT ih k m o hk
    rw [if_neg h6]
    by_cases h7 : q = 7
    · subst h7; rw [if_pos rfl]; exact kz7 hT ih iw v nm k m o hk
    rw [if_neg h7]
    obtain rfl : q = 8 := by omega
    exact kz8 hT ih k m o hk
theorem KK_pe (hT : TF_ T (bf_ M n) n) {v : Int32} {nm : Bool} {q : Option Nat} (hq : ∀ p, q = some p → p ≤ n) {x : Term × Nat × Nat} (h : pe2_ T v nm q = some x) : KK_ x.1 := by
  cases q with
  | none => exact absurd (show (none : px2_) = some x from h) (by simp)
  | some p => exact (KP_all hT v nm 297 1 none p 0 0 (by omega) (hq p rfl) Kn_ x h).2
end KKS
end
section
/-! tapes and methods of the two programs: what keeps them the same -/
def wK_ (e : Term) : Prop := wfX_ true e ∧ KK_ e
theorem qe_inv {T : Int32 → Int32} {c : Int32} {q : Option Nat} {p : Nat} (h : qe2_ T c q = some p) : ∃ a, q = some a ∧ T (nI a) = c ∧ p = a + 1 := by
  cases q with
  | none => cases h
  | some a =>
    unfold qe2_ at h
    simp only at h
    split at h
    · rename_i z; cases h; exact ⟨a, rfl, z, rfl⟩
    · cases h
theorem qp_inv {T : Int32 → Int32} {q : Option Nat} {p : Nat} (h : qp_ T q = some p) : ∃ a, q = some a ∧ p = a + 1 := by
  cases q with
  | none => cases h
  | some a =>
    unfold qp_ at h
    simp only at h
    split at h
    · cases h; exact ⟨a, rfl, rfl⟩
    · cases h
theorem mq5_in {T : Int32 → Int32} {f : Nat → Int32} {n p : Nat} (hT : TF_ T f n) (h : mq5_ T = some p) : p ≤ n := by
  unfold mq5_ at h
  obtain ⟨a, h1, h2, rfl⟩ := qe_inv h
  obtain ⟨b, h3, -, rfl⟩ := qe_inv h1
  obtain ⟨c, h4, rfl⟩ := qp_inv h3
  unfold mq2_ at h4
  obtain ⟨d, h5, -, rfl⟩ := qe_inv h4
  have hd : d ≤ 12 := by
    unfold mq1_ at h5
    by_cases z1 : (if (mr_ T).2.1 = 1 ∧ ¬ T (nI 0) = 46 ∧ ¬ T (nI 0 + nI (mr_ T).1 - 1) = 46 then (1 : Int32) else 0) = 0
    · rw [if_pos z1] at h5; exact absurd h5 (by simp)
    · rw [if_neg z1] at h5
      by_cases z2 : (mr_ T).1 ≤ 12
      · rw [if_pos z2] at h5
        have := Option.some.inj h5
        omega
      · rw [if_neg z2] at h5; exact absurd h5 (by simp)
  have := T_lt hT (by omega) h2 (by decide)
  omega
def MQ_ (c : Nat) (M : mm_) : Prop := ∀ m, m < c → NK_ (M.2.1 46 m) (M.2.1 5 m) (M.1 6 m) ∧ ∃ e, wK_ e ∧ hd_ (48 + 5 * m) M (cqX_ e 0 0) ∧ 3 * snX_ e + 1 ≤ 80 ∧ sd_ M m (tm_ e) ∧ (tc_ (tm_ e)).length ≤ 40 ∧ wfR_ true 3 true (tm_ e) ∧ nt_ (tm_ e) ≤ 20
def TC_ (n c : Nat) (M : mm_) : Prop := tpX_ M n ∧ M.1 0 2 = nI n ∧ TQ_ n M ∧ mt_ M c ∧ M.1 0 9 = nI c ∧ MQ_ c M
def TM_ (M : mm_) : Prop := ∃ n c, TC_ n c M
/-- the reference's cells of tape and methods -/
def rT_ (a i : Nat) : Prop := a = 1 ∨ (a = 2 ∧ i < 1024) ∨ (a = 4 ∧ i < 16) ∨ a = 6 ∨ (a = 0 ∧ (i = 2 ∨ i = 9))
def rU_ (a i : Nat) : Prop := a = 5 ∨ (a = 3 ∧ i < 1024)
def hT_ (M N : mm_) : Prop := (∀ a i, rT_ a i → N.1 a i = M.1 a i) ∧ ∀ a i, rU_ a i → N.2.1 a i = M.2.1 a i
/-- the class's -/
def hC_ (M N : mm_) : Prop := (∀ a i, 40 ≤ a → a < 133 → N.1 a i = M.1 a i) ∧ (∀ a i, 40 ≤ a → a < 133 → N.2.1 a i = M.2.1 a i) ∧ N.1 35 1 = M.1 35 1 ∧ ∀ i, N.1 36 i = M.1 36 i
theorem hT_rf {M : mm_} : hT_ M M := ⟨fun _ _ _ => rfl, fun _ _ _ => rfl⟩
theorem hT_tr {A B D : mm_} (h : hT_ A B) (g : hT_ B D) : hT_ A D := ⟨fun a i z => (g.1 a i z).trans (h.1 a i z), fun a i z => (g.2 a i z).trans (h.2 a i z)⟩
theorem hC_rf {M : mm_} : hC_ M M := ⟨fun _ _ _ _ => rfl, fun _ _ _ _ => rfl, rfl, fun _ => rfl⟩
theorem hC_tr {A B D : mm_} (h : hC_ A B) (g : hC_ B D) : hC_ A D := ⟨fun a i z1 z2 => (g.1 a i z1 z2).trans (h.1 a i z1 z2), fun a i z1 z2 => (g.2.1 a i z1 z2).trans (h.2.1 a i z1 z2), g.2.2.1.trans h.2.2.1, fun i => (g.2.2.2 i).trans (h.2.2.2 i)⟩
theorem hC_hR {M N : mm_} (h : hR_ M N) : hC_ M N := ⟨fun a i z1 z2 => h.2.2.1 a i (by omega), fun a i z1 z2 => h.2.2.2 a i (by omega), h.2.2.1 35 1 (by omega), fun i => h.2.2.1 36 i (by omega)⟩
theorem hT_hX {M N : mm_} (h : hX_ M N) : hT_ M N := ⟨fun a i z => h.1 a i (by unfold rT_ at z; omega), fun a i z => h.2 a i (by unfold rU_ at z; omega)⟩
theorem hd_cg {k : Nat} {M N : mm_} {C : List cq2_} (h1 : ∀ a i, k ≤ a → a ≤ k + 4 → N.1 a i = M.1 a i) (h2 : ∀ i, N.2.1 (k + 2) i = M.2.1 (k + 2) i) (h : hd_ k M C) : hd_ k N C := by
  refine ⟨by rw [h1 k 4 (by omega) (by omega)]; exact h.1, fun j q hq => ?_⟩
  obtain ⟨a1, a2, a3, a4⟩ := h.2 j q hq
  exact ⟨by rw [h1 _ _ (by omega) (by omega)]; exact a1, by rw [h2]; exact a2, fun z => by rw [h1 _ _ (by omega) (by omega)]; exact a3 z, by rw [h1 _ _ (by omega) (by omega)]; exact a4⟩
theorem MQ_s {c : Nat} {M N : mm_} (hc : c ≤ 16) (h1 : ∀ a i, 40 ≤ a → a < 48 + 5 * c → ¬ (a = 45 ∧ i = 2) → N.1 a i = M.1 a i) (h2 : ∀ a i, 40 ≤ a → a < 48 + 5 * c → ¬ (a = 46 ∧ i = c) → N.2.1 a i = M.2.1 a i) (h3 : ∀ a i, (a = 2 ∧ i < 64 * c) ∨ (a = 4 ∧ i < c) ∨ (a = 6 ∧ i < c) → N.1 a i = M.1 a i) (h4 : ∀ a i, (a = 5 ∧ i < c) ∨ (a = 3 ∧ i < 64 * c) → N.2.1 a i = M.2.1 a i) (h : MQ_ c M) : MQ_ c N := by
  intro m hm
  obtain ⟨a1, e, a2, a3, a4, a5, a6, a7⟩ := h m hm
  refine ⟨by rw [h2 46 m (by omega) (by omega) (by omega), h4 5 m (by omega), h3 6 m (by omega)]; exact a1, e, a2, hd_cg (fun a i z1 z2 => h1 a i (by omega) (by omega) (by omega)) (fun i => h2 _ i (by omega) (by omega) (by omega)) a3, a4, sd_cg a5 (by omega) (h3 4 m (by omega)) (fun i hi => h3 2 _ (by omega)) (fun i hi => h4 3 _ (by omega)), a6, a7⟩
theorem TC_s {n c : Nat} {M N : mm_} (hT : hT_ M N) (hC : hC_ M N) (h : TC_ n c M) : TC_ n c N := by
  obtain ⟨a1, a2, a3, a4, a5, a6⟩ := h
  have hc := a4.1
  refine ⟨⟨a1.1, by rw [hC.2.2.1]; exact a1.2⟩, by rw [hT.1 0 2 (by unfold rT_; omega)]; exact a2, fun k hk => ?_, ⟨hc, by rw [hC.1 45 2 (by omega) (by omega)]; exact a4.2⟩, by rw [hT.1 0 9 (by unfold rT_; omega)]; exact a5, MQ_s hc (fun a i z1 z2 _ => hC.1 a i z1 (by omega)) (fun a i z1 z2 _ => hC.2.1 a i z1 (by omega)) (fun a i z => hT.1 a i (by unfold rT_; omega)) (fun a i z => hT.2 a i (by unfold rU_; omega)) a6⟩
  rw [hC.2.2.2, hT.1 1 k (by unfold rT_; omega)]
  exact a3 k hk
/-! the reference's calls -/
theorem hT_I {M : mm_} {a i : Nat} {v : Int32} (hn : ¬ rT_ a i) : hT_ M (sI_ M a i v) := ⟨fun b j z => by rw [gI_sI, if_neg (fun q => hn (by rw [← q.1, ← q.2]; exact z))], fun _ _ _ => rfl⟩
theorem hT_L {M : mm_} {a i : Nat} {v : Int64} (hn : ¬ rU_ a i) : hT_ M (sL_ M a i v) := ⟨fun _ _ _ => rfl, fun b j z => by rw [gL_sL, if_neg (fun q => hn (by rw [← q.1, ← q.2]; exact z))]⟩
theorem hT_0 {M : mm_} {i : Nat} {v : Int32} (hn : ¬ i = 2 ∧ ¬ i = 9) : hT_ M (sI_ M 0 i v) := hT_I (by unfold rT_; omega)
theorem hT_pf {M N : mm_} (h : pf_ M N) : hT_ M N := ⟨fun a i z => h.1 a i (by unfold rT_ at z; omega) (by unfold rT_ at z; omega) (by unfold rT_ at z; omega) (by unfold rT_ at z; omega) (by unfold rT_ at z; omega) (by unfold rT_ at z; omega), fun a i z => h.2.1 a i (by unfold rU_ at z; omega) (by unfold rU_ at z; omega) (by unfold rU_ at z; omega)⟩
theorem hT_pg {M N : mm_} (h : pg_ M N) : hT_ M N := ⟨fun a i z => h.1 a i (by unfold rT_ at z; omega) (by unfold rT_ at z; omega) (by unfold rT_ at z; omega) (by unfold rT_ at z; omega) (by unfold rT_ at z; omega) (by unfold rT_ at z; omega) (by unfold rT_ at z; omega), fun a i z => h.2.1 a i (by unfold rU_ at z; omega) (by unfold rU_ at z; omega) (by unfold rU_ at z; omega)⟩
theorem hT_ph {J : Nat} {M N : mm_} (h : ph_ J M N) : hT_ M N := ⟨fun a i z => h.1 a i (by unfold rT_ at z; omega) (by unfold rT_ at z; omega) (by unfold rT_ at z; omega) (by unfold rT_ at z; omega) (by unfold rT_ at z; omega) (by unfold rT_ at z; omega) (by unfold rT_ at z; omega) (by unfold rT_ at z; omega) (by unfold rT_ at z; omega), fun a i z => h.2.1 a i (by unfold rU_ at z; omega) (by unfold rU_ at z; omega) (by unfold rU_ at z; omega) (by unfold rU_ at z; omega)⟩
theorem hT_fa {M : mm_} {f w : Int32} : hT_ M (fa_ M f w) := by
  unfold fa_; split
  · exact hT_tr (hT_0 (by omega)) (hT_0 (by omega))
  · exact hT_rf
theorem hT_nj {M : mm_} {b z : Nat} {kd : Int32} : hT_ M (nj_ M b z kd) := ⟨fun a i h => nj_o (by unfold rT_ at h; omega) (by unfold rT_ at h; omega) (by unfold rT_ at h; omega), fun a i h => by rw [nj_R2]⟩
theorem hT_zk {M : mm_} : ∀ j : Nat, hT_ M (zk_ M j)
  | 0 => hT_rf
  | j + 1 => hT_tr (hT_zk j) (hT_I (by unfold rT_; omega))
theorem hT_bg {M : mm_} : hT_ M (bg_ M) := hT_tr (hT_tr (hT_tr (hT_0 (by omega)) (hT_0 (by omega))) (hT_0 (by omega))) (hT_0 (by omega))
theorem hT_mw {M : mm_} {v : Int32} : hT_ M (mw_ M v) := hT_tr (hT_tr hT_bg (hT_0 (by omega))) (hT_0 (by omega))
theorem hT_ra {M : mm_} {n s : Nat} : hT_ M (ra_ M n s) := hT_tr (hT_0 (i := 5) (by omega)) (hT_L (by unfold rU_; omega))
theorem hT_cb {M : mm_} : hT_ M (cb_ M) := hT_tr (hT_tr hT_bg (hT_0 (by omega))) (hT_0 (by omega))
theorem hT_cmd {M N : mm_} {n s z : Nat} {v : Int64} {r : Int32} (h : cmd_ M n s z v r N) : hT_ M N := by
  unfold cmd_ at h
  split at h
  · rw [h.2]; exact hT_tr (hT_tr hT_cb hT_ra) hT_fa
  · have gB : hT_ M (ce5_ M n s z) := hT_tr (hT_tr hT_cb hT_ra) (hT_0 (by omega))
    generalize ce5_ M n s z = B at h gB
    generalize sp_ M n (s + z) = t at h
    refine hT_tr gB ?_
    unfold cd5_ at h
    split at h
    · cases hw : wt_ B n t (rz_ B n t) (rv_ (bf_ B n) t (rz_ B n t)) with
      | inr q =>
        rw [hw] at h
        obtain ⟨f, w⟩ := q
        obtain ⟨-, ⟨J, j1, j2⟩, -⟩ := h
        exact hT_ph j2
      | inl x =>
        rw [hw] at h
        obtain ⟨pt, s3, p, e1, e2, lim⟩ := x
        obtain ⟨b, N0, -, hb, hj, hph, -, hp, -, sd1, sd2, rfl⟩ := h
        exact hT_tr (hT_ph hph) (hT_tr (hT_tr (hT_tr hT_nj (hT_I (by unfold rT_; omega))) (hT_I (by unfold rT_; omega))) (hT_I (by unfold rT_; omega)))
    · split at h
      · cases hs : sb_ B n (pd_ B n t) with
        | inr q =>
          rw [hs] at h
          obtain ⟨f, w⟩ := q
          exact hT_pg h.2.1
        | inl p =>
          rw [hs] at h
          obtain ⟨b, N0, -, hb, -, hb0, hpg, -, hp, -, rfl⟩ := h
          exact hT_tr (hT_pg hpg) hT_nj
      · split at h
        · cases hs : kl2_ B n (sm_ B n t 0) with
          | inr q =>
            rw [hs] at h
            obtain ⟨f, w⟩ := q
            exact hT_pf h.2.1
          | inl j =>
            rw [hs] at h
            obtain ⟨-, hj, -, rfl⟩ := h
            exact hT_tr (hT_0 (by omega)) (hT_I (by unfold rT_; omega))
        · split at h
          · rw [h.2]; exact hT_tr (hT_0 (by omega)) hT_fa
          · rw [h.2]; exact hT_tr (hT_0 (by omega)) (hT_zk 8)
/-! the class's calls -/
theorem hC_I {M : mm_} {a i : Nat} {v : Int32} (hn : 37 ≤ a ∧ (a < 40 ∨ 133 ≤ a)) : hC_ M (sI_ M a i v) := ⟨fun b j z1 z2 => by rw [gI_sI, if_neg (by omega)], fun _ _ _ _ => rfl, by rw [gI_sI, if_neg (by omega)], fun j => by rw [gI_sI, if_neg (by omega)]⟩
theorem hC_fi {M : mm_} {f w : Int32} : hC_ M (fiX_ M f w) := by
  unfold fiX_; split
  · exact hC_tr (hC_I (by omega)) (hC_I (by omega))
  · exact hC_rf
theorem hC_mee {M : mm_} {k : Nat} {x : Int32} {y : Int64} (hk : 135 ≤ k) : hC_ M (mee_ M k x y) := by
  unfold mee_; split
  · exact hC_rf
  · exact hC_I (by omega)
theorem hC_jm {J : Nat → Nat} {x : Int32} {y : Int64} : ∀ (u i : Nat) (M : mm_), hC_ M (jm1_ J x y u i M)
  | 0, _, _ => hC_rf
  | u + 1, i, M => hC_tr (hC_mee (by omega)) (hC_jm u (i + 1) _)
theorem hC_me {c k : Nat} (hk : 135 ≤ k) : ∀ (u m : Nat) (M : mm_), hC_ M (me1_ c k u m M)
  | 0, _, _ => hC_rf
  | u + 1, m, M => hC_tr (hC_mee hk) (hC_me hk u (m + 1) _)
theorem hC_ea {J : Nat → Nat} : ∀ (u i : Nat) (r : Int32) (M : mm_), hC_ M (ea1_ J u i r M).2
  | 0, _, _, _ => hC_rf
  | u + 1, i, r, M => hC_tr (hC_I (by omega)) (hC_ea u (i + 1) _ _)
theorem hC_CE {x r : Int32} {B N : mm_} (h : CE_ x B r N) : hC_ B N := by
  rcases h with ⟨-, -, rfl⟩ | ⟨-, -, rfl⟩
  · exact hC_rf
  · exact hC_fi
theorem hC_CR {n c S : Nat} {J : Nat → Nat} {M N : mm_} {r : Int32} (h : CR_ n c S J M r N) : hC_ M N := by
  obtain ⟨v, A, ⟨hcz, -⟩, h⟩ := h
  have hA : hC_ M A := ⟨fun a i z1 z2 => hcz.2.1 a i (by omega) (by omega) (by omega) (by omega), fun a i z1 z2 => hcz.2.2 a i (by omega) (by omega) (by omega), hcz.2.1 35 1 (by omega) (by omega) (by omega) (by omega), fun i => hcz.2.1 36 i (by omega) (by omega) (by omega) (by omega)⟩
  refine hC_tr hA ?_
  rcases h with ⟨-, -, rfl⟩ | ⟨h0, h⟩
  · exact hC_rf
  rcases h with ⟨-, -, rfl⟩ | ⟨-, x, D, hD, hCE⟩ | ⟨-, x, D, ⟨-, hD⟩, hCE⟩
  · exact hC_ea 8 0 0 A
  · refine hC_tr ?_ (hC_CE hCE)
    rcases hD with ⟨-, -, rfl⟩ | ⟨i, hi, -, -, rfl⟩
    · exact hC_rf
    · split
      · exact hC_rf
      · exact hC_I (by omega)
  · refine hC_tr ?_ (hC_CE hCE)
    cases hf : fj1_ A J 8 0 with
    | none => rw [hf] at hD; rw [hD]; exact hC_rf
    | some i =>
      rw [hf] at hD
      simp only at hD
      rw [hD]
      exact hC_tr (B := sR_ (sR_ A 133 1 (some (135 + 12 * J i))) 134 i (some (135 + 12 * S))) ⟨fun _ _ _ _ => rfl, fun _ _ _ _ => rfl, rfl, fun _ => rfl⟩ (hC_me (by omega) _ _ _)
/-! feed -/
theorem b255 : ∀ i, i < 32 → (255#32).getLsbD i = (255#64).getLsbD i ∧ (8 ≤ i → (255#64).getLsbD i = false) := by decide
theorem bv_by (b : BitVec 64) (s : Nat) (hs : s ≤ 56) : (b >>> s).setWidth 32 &&& 255#32 = ((b.sshiftRight s) &&& 255#64).setWidth 32 := by
  apply BitVec.eq_of_getLsbD_eq
  intro i hi
  obtain ⟨e1, e2⟩ := b255 i hi
  rw [BitVec.getLsbD_and, BitVec.getLsbD_setWidth, BitVec.getLsbD_ushiftRight, BitVec.getLsbD_setWidth, BitVec.getLsbD_and, BitVec.getLsbD_sshiftRight, e1]
  by_cases h8 : i < 8
  · simp [hi, show s + i < 64 by omega, show ¬ 64 ≤ i by omega]
  · rw [e2 (by omega)]; simp
theorem sx_32 (b : BitVec 64) : b.signExtend 32 = b.setWidth 32 := BitVec.signExtend_eq_setWidth_of_le b (by decide)
theorem by_s1 : ∀ j, j < 8 → (((8 * nI j).toInt64.toUInt64 &&& Int64.toUInt64 63).toBitVec.toNat % 64 = 8 * j ∧ (((8 * nI j).toInt64 &&& 63).toBitVec.smod 64).toNat = 8 * j) := by decide +kernel
theorem by_fb (x : Int64) (j : Nat) (hj : j < 8) : byX_ x (8 * nI j) = fb_ x j ∧ 0 ≤ fb_ x j := by
  obtain ⟨s1, s2⟩ := by_s1 j hj
  have e1 : (byX_ x (8 * nI j)).toBitVec = (x.toBitVec >>> (8 * j)).setWidth 32 &&& 255#32 := by
    unfold byX_
    show ((x.toBitVec >>> (((8 * nI j).toInt64.toUInt64 &&& Int64.toUInt64 63).toBitVec.toNat % 64)).signExtend 32) &&& 255#32 = _
    rw [s1, sx_32]
  have e2 : (fb_ x j).toBitVec = ((x.toBitVec.sshiftRight (8 * j)) &&& 255#64).setWidth 32 := by
    unfold fb_
    show ((x.toBitVec.sshiftRight (((8 * nI j).toInt64 &&& 63).toBitVec.smod 64).toNat) &&& 255#64).signExtend 32 = _
    rw [s2, sx_32]
  refine ⟨Int32.toBitVec_inj.mp (by rw [e1, e2]; exact bv_by _ _ (by omega)), ?_⟩
  rw [Int32.le_iff_toInt_le]
  show 0 ≤ (fb_ x j).toBitVec.toInt
  rw [e2, BitVec.toInt_eq_toNat_cond, BitVec.toNat_setWidth, BitVec.toNat_and]
  have h : (x.toBitVec.sshiftRight (8 * j)).toNat &&& (255#64).toNat ≤ 255 := Nat.and_le_right
  rw [if_pos (by omega)]
  omega
theorem ap_36 {M : mm_} {x : Int64} {n : Nat} : ∀ (k i : Nat), (apX_ M x n k).1 36 i = if n ≤ i ∧ i < n + k then byX_ x (8 * nI (i - n)) else M.1 36 i
  | 0, i => by rw [apX_, if_neg (by omega)]
  | k + 1, i => by
    rw [apX_, gI_sI, if_neg (by omega), gI_sI, ap_36 k i]
    by_cases q : i = n + k
    · rw [if_pos ⟨rfl, q⟩, if_pos (by omega), q, Nat.add_sub_cancel_left]
    · rw [if_neg (fun z => q z.2)]
      by_cases q2 : n ≤ i ∧ i < n + k
      · rw [if_pos q2, if_pos (by omega)]
      · rw [if_neg q2, if_neg (by omega)]
theorem fd_1 {M : mm_} {x : Int64} {n : Nat} : ∀ (k i : Nat), (fd_ M x n k).1 1 i = if n ≤ i ∧ i < n + k then fb_ x (i - n) else M.1 1 i
  | 0, i => by rw [fd_, if_neg (by omega)]
  | k + 1, i => by
    rw [fd_, gI_sI, if_neg (by omega), gI_sI, fd_1 k i]
    by_cases q : i = n + k
    · rw [if_pos ⟨rfl, q⟩, if_pos (by omega), q, Nat.add_sub_cancel_left]
    · rw [if_neg (fun z => q z.2)]
      by_cases q2 : n ≤ i ∧ i < n + k
      · rw [if_pos q2, if_pos (by omega)]
      · rw [if_neg q2, if_neg (by omega)]
theorem fd_o {M : mm_} {x : Int64} {n : Nat} : ∀ (k a i : Nat), ¬ a = 1 → ¬ (a = 0 ∧ i = 2) → (fd_ M x n k).1 a i = M.1 a i
  | 0, _, _, _, _ => rfl
  | k + 1, a, i, h1, h2 => by rw [fd_, gI_sI, if_neg h2, gI_sI, if_neg (fun z => h1 z.1), fd_o k a i h1 h2]
theorem fd_R9 {M : mm_} {x : Int64} {z : Nat} : ∀ j : Nat, (fd_ M x z j).2 = M.2
  | 0 => rfl
  | j + 1 => fd_R9 (M := M) (x := x) (z := z) j
/-- both tapes fed with the same bytes -/
theorem TC_fd {M : mm_} {x v : Int64} {n k c : Nat} {w : Int32} (hk : k ≤ 8) (hn : n + k ≤ 200) (h : TC_ n c M) : TC_ (n + k) c (fd_ (sI_ (sL_ (apX_ M x n k) 262 0 v) 0 0 w) x n k) := by
  obtain ⟨a1, a2, a3, a4, a5, a6⟩ := h
  have hc := a4.1
  generalize hA : sI_ (sL_ (apX_ M x n k) 262 0 v) 0 0 w = A
  have eA : ∀ a i, ¬ a = 36 → ¬ (a = 35 ∧ i = 1) → ¬ (a = 0 ∧ i = 0) → A.1 a i = M.1 a i := fun a i z1 z2 z3 => by
    rw [← hA, gI_sI, if_neg z3]
    exact ap_o k a i z1 z2
  have eL : ∀ a i, ¬ a = 262 → A.2.1 a i = M.2.1 a i := fun a i z => by
    rw [← hA, gL_sI, gL_sL, if_neg (fun y => z y.1), ap_2]
  have e36 : ∀ i, A.1 36 i = if n ≤ i ∧ i < n + k then byX_ x (8 * nI (i - n)) else M.1 36 i := fun i => by
    rw [← hA, gI_sI, if_neg (by omega)]
    exact ap_36 k i
  have e35 : A.1 35 1 = nI (n + k) := by
    rw [← hA, gI_sI, if_neg (by omega)]
    exact ap_1 a1.2 k
  have e2 : A.1 0 2 = nI n := by rw [eA 0 2 (by omega) (by omega) (by omega)]; exact a2
  refine ⟨⟨hn, by rw [fd_o k 35 1 (by omega) (by omega)]; exact e35⟩, fd_2 e2 k, fun i hi => ?_, ⟨hc, by rw [fd_o k 45 2 (by omega) (by omega), eA 45 2 (by omega) (by omega) (by omega)]; exact a4.2⟩, by rw [fd_o k 0 9 (by omega) (by omega), eA 0 9 (by omega) (by omega) (by omega)]; exact a5, MQ_s hc (fun a i z1 z2 _ => ?_) (fun a i z1 z2 _ => ?_) (fun a i z => ?_) (fun a i z => ?_) a6⟩
  · rw [fd_o k 36 i (by omega) (by omega), fd_1, e36]
    by_cases q : n ≤ i ∧ i < n + k
    · rw [if_pos q, if_pos q]
      exact by_fb x _ (by omega)
    · rw [if_neg q, if_neg q, eA 1 i (by omega) (by omega) (by omega)]
      exact a3 i (by omega)
  · rw [fd_o k a i (by omega) (by omega), eA a i (by omega) (by omega) (by omega)]
  · rw [fd_R9, eL a i (by omega)]
  · rw [fd_o k a i (by omega) (by omega), eA a i (by omega) (by omega) (by omega)]
  · rw [fd_R9, eL a i (by omega)]
theorem TC_wipe {M : mm_} {n c : Nat} (h : TC_ n c M) : TC_ 0 c (sI_ (sI_ (sI_ M 35 1 0) 0 0 0) 0 2 0) := by
  obtain ⟨a1, a2, a3, a4, a5, a6⟩ := h
  have eA : ∀ a i, ¬ (a = 35 ∧ i = 1) → ¬ (a = 0 ∧ (i = 0 ∨ i = 2)) → (sI_ (sI_ (sI_ M 35 1 0) 0 0 0) 0 2 0).1 a i = M.1 a i := fun a i z1 z2 => by rw [gI_sI, if_neg (by omega), gI_sI, if_neg (by omega), gI_sI, if_neg z1]
  refine ⟨⟨by omega, by rw [gI_sI, if_neg (by omega), gI_sI, if_neg (by omega), gI_sI, if_pos ⟨rfl, rfl⟩]; rfl⟩, by rw [gI_sI, if_pos ⟨rfl, rfl⟩]; rfl, fun k hk => by omega, ⟨a4.1, by rw [eA _ _ (by omega) (by omega)]; exact a4.2⟩, by rw [eA _ _ (by omega) (by omega)]; exact a5, MQ_s a4.1 (fun a i z1 z2 _ => eA _ _ (by omega) (by omega)) (fun a i z1 z2 _ => rfl) (fun a i z => eA _ _ (by omega) (by omega)) (fun a i z => rfl) a6⟩
/-! method -/
/-- behind the class's method: the answer r, the reference's method still to come -/
def MDc_ (n c : Nat) (r : Int32) (N : mm_) : Prop := tpX_ N n ∧ N.1 0 2 = nI n ∧ TQ_ n N ∧ N.1 0 9 = nI c ∧ c ≤ 16 ∧ MQ_ c N ∧
  ((r = -1 ∧ mt_ N c ∧ ∃ q, me_ N n c = .inr q) ∨
   (r = nI c ∧ mt_ N (c + 1) ∧ ∃ e a p, me_ N n c = .inl (tm_ e, a, p) ∧ NK_ (N.2.1 46 c) a p ∧ wK_ e ∧ hd_ (48 + 5 * c) N (cqX_ e 0 0) ∧ 3 * snX_ e + 1 ≤ 80))
theorem pr_5 {N : mm_} {n k nd op c : Nat} {e : Term} {a : Int64} {p : Int32} (h : pr_ N n k [] (some e) nd op) : pr_ (sI_ (sL_ N 5 c a) 6 c p) n k [] (some e) nd op := by
  obtain ⟨h0, h5, hc, h20, hw, ho, h13, h23, r⟩ := h
  exact ⟨tz_sI (show tz_ (sL_ N 5 c a) n from h0) (by omega), by rw [gI_sI, if_neg (by omega)]; exact h5, cd_sI (M := sL_ N 5 c a) ⟨hc.1, fun i x hx => ⟨(hc.2 i x hx).1, by rw [gL_sL, if_neg (by omega)]; exact (hc.2 i x hx).2⟩⟩ (by omega) (by omega), by rw [gI_sI, if_neg (by omega)]; exact h20, trivial, od_sI (show od_ (sL_ N 5 c a) _ from ho) (by omega) (by omega), by rw [gI_sI, if_neg (by omega)]; exact h13, by rw [gI_sI, if_neg (by omega)]; exact h23, r⟩
theorem me_wf {M : mm_} {n c : Nat} {e : Term} {av : Int64} {p : Int32} (hm : me_ M n c = .inl (e, av, p)) : wfR_ true 3 true e ∧ nt_ e ≤ 20 := by
  unfold me_ at hm
  cases hh : mh_ M n with
  | some q => rw [hh] at hm; cases hm
  | none =>
    rw [hh] at hm
    have hm2 : me2_ M n c (nm_ (bf_ M n) 0 (rz_ M n 0)) (bf_ M n (rz_ M n 0 + 1) - 48) (ex_ (mw_ M (bf_ M n (rz_ M n 0 + 1) - 48)) n (rz_ M n 0 + 4)) = .inl (e, av, p) := hm
    generalize hv : bf_ M n (rz_ M n 0 + 1) - 48 = v at hm2
    cases hx : ex_ (mw_ M v) n (rz_ M n 0 + 4) with
    | inr q => rw [hx] at hm2; cases hm2
    | inl y =>
      obtain ⟨e2, k2⟩ := y
      have w1 := wf_ex hx
      have w2 := nt_ex hx
      rw [hx] at hm2
      unfold me2_ at hm2
      simp only at hm2
      split at hm2
      · cases hm2
      · cases hm2
        have e14 : (mw_ M p).1 0 14 = 0 := rfl
        have s1 : sB_ (mw_ M p) = true := by unfold sB_; rw [decide_eq_true_iff]; exact e14
        have s2 : vB_ (mw_ M p) = 3 := if_pos e14
        rw [s1, s2] at w1
        exact ⟨w1, w2⟩
theorem TM_mo {n c : Nat} {r r2 : Int32} {N N2 : mm_} (h : MDc_ n c r N) (hm : mo_ N n c (me_ N n c) r2 N2) : TM_ N2 ∧ r2 = r := by
  obtain ⟨a1, a2, a3, a5, hc, a6, h⟩ := h
  rcases h with ⟨rfl, a4, q, hq⟩ | ⟨rfl, a4, e, a, p, hq, k1, k2, k3, k4⟩
  · have hR := hR_mo hm
    rw [hq] at hm
    obtain ⟨f, w⟩ := q
    obtain ⟨rfl, ⟨v, h1⟩, -⟩ := hm
    exact ⟨⟨n, c, TC_s (hT_tr hT_mw (hT_pf h1)) (hC_hR hR) ⟨a1, a2, a3, a4, a5, a6⟩⟩, rfl⟩
  · have hR := hR_mo hm
    rw [hq] at hm
    obtain ⟨rfl, hc16, N0, k, nd, op, h1, h2, h3, hN2⟩ := hm
    have hl : (tc_ (tm_ e)).length ≤ 40 := by have := (pr_len h2).1; simpa [cs_, cu_] using this
    have hsd := sd_kx (t := c) (M := sI_ (sL_ N0 5 c a) 6 c p) (by omega) (pr_5 h2)
    have hT := hT_tr (hT_mw (v := p)) (hT_pf h1)
    have hI : ∀ a2 i, ¬ (a2 = 0 ∧ i = 9) → ¬ (a2 = 4 ∧ i = c) → ¬ (a2 = 6 ∧ i = c) → ¬ (a2 = 2 ∧ 64 * c ≤ i ∧ i < 64 * c + (tc_ (tm_ e)).length) → N2.1 a2 i = N0.1 a2 i := fun a2 i z1 z2 z3 z4 => by
      rw [hN2]
      unfold mk_
      rw [gI_sI, if_neg z1, gI_sI, if_neg z2, kx_I (by omega) _ (by omega), if_neg z4, gI_sI, if_neg z3]
      rfl
    have hL : ∀ a2 i, ¬ (a2 = 3 ∧ 64 * c ≤ i ∧ i < 64 * c + (tc_ (tm_ e)).length) → ¬ (a2 = 5 ∧ i = c) → N2.2.1 a2 i = N0.2.1 a2 i := fun a2 i z z2 => by
      rw [hN2]
      unfold mk_
      rw [gL_sI, gL_sI, kx_L (by omega) _ (by omega), if_neg z, gL_sI, gL_sL, if_neg z2]
    have e45 : N2.1 45 2 = nI (c + 1) := by rw [hR.2.2.1 45 2 (by omega)]; exact a4.2
    refine ⟨⟨n, c + 1, ⟨a1.1, by rw [hR.2.2.1 35 1 (by omega)]; exact a1.2⟩, by rw [hR.2.1]; exact a2, fun i hi => ?_, ⟨by omega, e45⟩, ?_, fun m hm => ?_⟩, rfl⟩
    · rw [hR.2.2.1 36 i (by omega), hI 1 i (by omega) (by omega) (by omega) (by omega), hT.1 1 i (by unfold rT_; omega)]
      exact a3 i hi
    · rw [hN2]; unfold mk_; rw [gI_sI, if_pos ⟨rfl, rfl⟩]
    · by_cases hmc : m = c
      · subst hmc
        refine ⟨?_, e, k2, hd_cg (fun a2 i z1 z2 => hR.2.2.1 a2 i (by omega)) (fun i => hR.2.2.2 _ i (by omega)) k3, k4, ?_, hl, me_wf hq⟩
        · have q1 : N2.2.1 5 m = a := by
            rw [hN2]; unfold mk_
            rw [gL_sI, gL_sI, kx_L (by omega) _ (by omega), if_neg (by omega), gL_sI, gL_sL, if_pos ⟨rfl, rfl⟩]
          have q2 : N2.1 6 m = p := by
            rw [hN2]; unfold mk_
            rw [gI_sI, if_neg (by omega), gI_sI, if_neg (by omega), kx_I (by omega) _ (by omega), if_neg (by omega), gI_sI, if_pos ⟨rfl, rfl⟩]
          rw [hR.2.2.2 46 m (by omega), q1, q2]
          exact k1
        · rw [hN2]
          unfold mk_
          exact sd_cg hsd (by omega) (by rw [gI_sI, if_neg (by omega)]) (fun i hi => by rw [gI_sI, if_neg (by omega)]) (fun i hi => rfl)
      · have hm2 : m < c := by omega
        exact MQ_s hc (fun a2 i z1 z2 _ => hR.2.2.1 a2 i (by omega)) (fun a2 i z1 z2 _ => hR.2.2.2 a2 i (by omega)) (fun a2 i z => by rw [hI a2 i (by omega) (by omega) (by omega) (by omega), hT.1 a2 i (by unfold rT_; omega)]) (fun a2 i z => by rw [hL a2 i (by omega) (by omega), hT.2 a2 i (by unfold rU_; omega)]) a6 m hm2

end
section
/-! What a call does, told once for both programs. The moving state: the jobs' kinds, records made and counts, the records, what was kept, how many invocations. -/
abbrev sgA_ : Type := (Nat → Int32) × (Nat → Int32) × (Nat → Nat → Int32) × (Nat × (Nat → Int32)) × (Nat × (Nat → Int32)) × Nat
/-- what stays: how many methods, their keys, their trees; of the jobs: points, limits, expressions, conditions, which methods fit; whether probes see -/
abbrev se_ : Type := Nat × (Nat → Int64) × (Nat → Term) × (Nat → Int32) × (Nat → Int32) × (Nat → Term) × (Nat → Option Term) × (Nat → Nat → Bool) × Bool
abbrev io2_ : Type := (Int32 ⊕ (Nat × Int32)) × sgA_
abbrev eo_ : Type := (List Int32 ⊕ (Nat × Int32)) × sgA_
/-- signs between two values -/
def jn_ (c x y : Int32) : Int32 := if c = 43 then x + y else if c = 45 then x - y else if c = 42 then x * y else if c = 47 then x / y else if c = 37 then x - x / y * y else if c = 60 then (if x < y then 1 else 0) else if c = 61 then (if x = y then 1 else 0) else if y < x then 1 else 0
def o1_ (f : Int32 → List Int32 → sgA_ → eo_) (r : eo_) : eo_ := match r with
  | (.inl (x :: t), s) => f x t s
  | r => r
def o2_ (f : Int32 → Int32 → List Int32 → sgA_ → eo_) (r : eo_) : eo_ := match r with
  | (.inl (y :: x :: t), s) => f x y t s
  | r => r
def oi_ (t : List Int32) (r : io2_) : eo_ := match r with
  | (.inl v, s) => (.inl (v :: t), s)
  | (.inr q, s) => (.inr q, s)
/-- the value of a tree on the stack t; arguments one behind the other -/
def ES_ (I : Int64 → List Int32 → sgA_ → io2_) (V : Nat → Int32) : Term → List Int32 → sgA_ → eo_
  | .int v, t, s => (.inl (v :: t), s)
  | .index i, t, s => (.inl (V i :: t), s)
  | .length e, t, s => o1_ (fun x t s => (.inl (-x :: t), s)) (ES_ I V e t s)
  | .sum e, t, s => o1_ (fun x _ s => (.inr (1, x), s)) (ES_ I V e t s)
  | .elem c x, t, s => o2_ (fun x y t s => if y = 0 ∧ (sg2_ c = 47 ∨ sg2_ c = 37) then (.inr (1, -1), s) else (.inl (jn_ (sg2_ c) x y :: t), s)) (ES_ I V x t s)
  | .mul a (.div b c), t, s => o1_ (fun x t s => if x = 0 then ES_ I V c t s else ES_ I V b t s) (ES_ I V a t s)
  | .rem a b, t, s => match ES_ I V a t s with
    | (.inr (1, _), s) => ES_ I V b t s
    | r => r
  | .sub k x, t, s => match ES_ I V x t s with
    | (.inl u, s) => oi_ (u.drop (an_ x)) (I (kv2_ k) (u.take (an_ x)) s)
    | r => r
  | .add a r, t, s => match ES_ I V a t s with
    | (.inl u, s) => ES_ I V r u s
    | r => r
  | _, t, s => (.inl t, s)
def I0_ : Int64 → List Int32 → sgA_ → io2_ := fun _ _ s => (.inl 0, s)
/-! probes -/
def sK_ (s : sgA_) (j : Nat) (v : Int32) : sgA_ := (fun i => if i = j then v else s.1 i, s.2)
def sM_ (s : sgA_) (j : Nat) (v : Int32) : sgA_ := (s.1, fun i => if i = j then v else s.2.1 i, s.2.2)
def sCA_ (s : sgA_) (j i : Nat) (v : Int32) : sgA_ := (s.1, s.2.1, fun a b => if a = j ∧ b = i then v else s.2.2.1 a b, s.2.2.2)
def rw5_ (f : Nat → Int32) (n w : Nat) (g : Nat → Int32) : Nat → Int32 := fun i => if n * w ≤ i ∧ i < n * w + w then g (i - n * w) else f i
def sR5_ (s : sgA_) (g : Nat → Int32) : sgA_ := if s.2.2.2.1.1 < 300 then (s.1, s.2.1, s.2.2.1, (s.2.2.2.1.1 + 1, rw5_ s.2.2.2.1.2 s.2.2.2.1.1 5 g), s.2.2.2.2) else s
def sE7_ (s : sgA_) (g : Nat → Int32) : sgA_ := if s.2.2.2.2.1.1 < 40 then (s.1, s.2.1, s.2.2.1, s.2.2.2.1, (s.2.2.2.2.1.1 + 1, rw5_ s.2.2.2.2.1.2 s.2.2.2.2.1.1 7 g), s.2.2.2.2.2) else s
def l5_ (a b c d e : Int32) : Nat → Int32 := fun i => if i = 0 then a else if i = 1 then b else if i = 2 then c else if i = 3 then d else e
/-- a record more: the job's count, and its end at the limit -/
def rcA_ (E : se_) (j m d : Nat) (x e : Int32) (s : sgA_) : sgA_ :=
  sR5_ (if s.2.1 j + 1 < E.2.2.2.2.1 j then sM_ s j (s.2.1 j + 1) else sK_ (sM_ s j (s.2.1 j + 1)) j 0) (l5_ (nI j) (nI m) x e (nI d))
/-- the variables that a probe's expressions see -/
def va5_ (P : Nat → Int32) (p d : Nat) (v k : Int32) : Nat → Int32 := fun i => if i < 3 then P i else if i = 3 then (if p = 1 then v else 0) else if i = 4 then (if p = 2 then v else 0) else if i = 5 then nI d else k
def xpA_ (V : Nat → Int32) (e : Term) (s : sgA_) : Int32 ⊕ Int32 := match (ES_ I0_ V e [] s).1 with
  | .inl t => .inl (t.headD 0)
  | .inr q => .inr q.2
def wgA_ (E : se_) (j m d : Nat) (V : Nat → Int32) (s : sgA_) : sgA_ := match xpA_ V (E.2.2.2.2.2.1 j) s with
  | .inl x => rcA_ E j m d x 0 s
  | .inr x => rcA_ E j m d x 1 s
def wtA_ (E : se_) (j m d : Nat) (V : Nat → Int32) (s : sgA_) : sgA_ := match E.2.2.2.2.2.2.1 j with
  | none => wgA_ E j m d V s
  | some e => match xpA_ V e s with
    | .inl x => if x = 0 then s else wgA_ E j m d V s
    | .inr x => rcA_ E j m d x 1 s
def kpA_ (j m p : Nat) (P : Nat → Int32) (v : Int32) (s : sgA_) : sgA_ := if p = 0 then s else sE7_ s (fun i => if i = 0 then nI j else if i = 1 then nI m else if i < 5 then P (i - 2) else if i = 5 then (if p = 2 then 1 else 0) else v)
def pjA_ (E : se_) (m p d : Nat) (P : Nat → Int32) (v : Int32) (j : Nat) (s : sgA_) : sgA_ :=
  if s.1 j = 0 ∨ E.2.2.2.2.2.2.2.1 j m = false then s
  else if s.1 j = 2 then sCA_ s j (3 * m + p) (s.2.2.1 j (3 * m + p) + 1)
  else if s.1 j = 3 then kpA_ j m p P v s
  else if E.2.2.2.1 j = nI p then wtA_ E j m d (va5_ P p d v (s.2.1 j)) s else s
def pkA_ (E : se_) (m p d : Nat) (P : Nat → Int32) (v : Int32) : Nat → Nat → sgA_ → sgA_
  | 0, _, s => s
  | u + 1, j, s => pkA_ E m p d P v u (j + 1) (pjA_ E m p d P v j s)
def pbA_ (E : se_) (m p d : Nat) (P : Nat → Int32) (v : Int32) (s : sgA_) : sgA_ := if E.2.2.2.2.2.2.2.2 = true then pkA_ E m p d P v 8 0 s else s
/-! invocations -/
def fnA_ (E : se_) (K : Int64) : Nat → Nat → Option Nat
  | 0, _ => none
  | u + 1, i => if E.2.1 i = K then some i else fnA_ E K u (i + 1)
def ivA_ (s : sgA_) : sgA_ := (s.1, s.2.1, s.2.2.1, s.2.2.2.1, s.2.2.2.2.1, s.2.2.2.2.2 + 1)
def nmA_ (E : se_) (d : Nat) (IV : Nat → (Nat → Int32) → sgA_ → io2_) (K : Int64) (a : List Int32) (s : sgA_) : io2_ := match fnA_ E K E.1 0 with
  | none => (.inr (1, -4), s)
  | some m => if 10 ≤ d then (.inr (1, -2), s) else if 1000 ≤ s.2.2.2.2.2 then (.inr (2, -3), s) else IV m (fun i => a.reverse.getD i 0) s
/-- behind the body -/
def bbA_ (E : se_) (m d : Nat) (P : Nat → Int32) (r : eo_) : io2_ := match r with
  | (.inl t, s) => (.inl (t.headD 0), pbA_ E m 1 d P (t.headD 0) s)
  | (.inr q, s) => (.inr q, pbA_ E m 2 d P q.2 s)
/-- an invocation at depth 11 - u -/
def inA_ (E : se_) : Nat → Nat → (Nat → Int32) → sgA_ → io2_
  | 0, _, _, s => (.inr (1, -2), s)
  | u + 1, m, P, s => bbA_ E m (10 - u) P (ES_ (nmA_ E (10 - u) (inA_ E u)) P (E.2.2.1 m) [] (pbA_ E m 0 (10 - u) P 0 (ivA_ s)))

end
