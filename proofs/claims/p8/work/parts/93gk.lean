/-! the keys of the trees that are read are told alike by both -/
def KK_ : Term → Prop
  | .length e => KK_ e
  | .sum e => KK_ e
  | .elem _ x => KK_ x
  | .mul a (.div b c) => KK_ a ∧ KK_ b ∧ KK_ c
  | .rem a b => KK_ a ∧ KK_ b
  | .sub k x => NK_ (kv2_ k) (de_ (kv2_ k)) (nI (an_ x)) ∧ KK_ x
  | .add a r => KK_ a ∧ KK_ r
  | _ => True
def KgX_ (n : Nat) (x : px2_) : Prop := ∀ y, x = some y → y.2.1 ≤ n ∧ KK_ y.1
def KPP_ (n : Nat) (P : pf2_) : Prop := ∀ q l k m o, 1 ≤ q ∧ q ≤ 8 → k ≤ n → (∀ e, l = some e → KK_ e) → KgX_ n (P q l k m o)
theorem Kg_n {n : Nat} : KgX_ n none := fun _ h => by cases h
theorem Kg_s {n : Nat} {y : Term × Nat × Nat} (h1 : y.2.1 ≤ n) (h2 : KK_ y.1) : KgX_ n (some y) := fun z hz => by cases hz; exact ⟨h1, h2⟩
theorem Kn_ : ∀ e, (none : Option Term) = some e → KK_ e := fun _ h => by cases h
theorem Ks_ {a : Term} (h : KK_ a) : ∀ e, some a = some e → KK_ e := fun _ z => by cases z; exact h
section KKS
variable {T : Int32 → Int32} {M : mm_} {n : Nat} {P : pf2_}
theorem T_lt {f : Nat → Int32} {k : Nat} {c : Int32} (h : TF_ T f n) (hk : k ≤ n + 300) (e : T (nI k) = c) (hc : 0 ≤ c) : k < n := TF_lt h ((h.2.1 k (by have := h.1; omega)).symm.trans e) hc
theorem kz1 (hT : TF_ T (bf_ M n) n) (h : KPP_ n P) (l : Option Term) (k m o : Nat) (hk : k ≤ n) (hl : ∀ e, l = some e → KK_ e) : KgX_ n (z1_ P T l k m o) := by
  unfold z1_
  cases l with
  | none =>
    simp only
    cases h2 : P 2 none k m o with
    | none => exact Kg_n
    | some r =>
      obtain ⟨g1, g2⟩ := h 2 none k m o (by omega) hk Kn_ r h2
      exact h 1 _ _ _ _ (by omega) g1 (Ks_ g2)
  | some e =>
    simp only
    split
    · rename_i hc
      have := T_lt hT (by omega) hc (by decide)
      split
      · cases h2 : P 2 none (k + 1) (m + 1) o with
        | none => exact Kg_n
        | some r =>
          obtain ⟨g1, g2⟩ := h 2 none (k + 1) (m + 1) o (by omega) (by omega) Kn_ r h2
          exact h 1 _ _ _ _ (by omega) g1 (Ks_ ⟨hl e rfl, g2⟩)
      · exact Kg_n
    · exact Kg_s hk (hl e rfl)
theorem kz2 (hT : TF_ T (bf_ M n) n) (h : KPP_ n P) (k m o : Nat) (hk : k ≤ n) : KgX_ n (z2_ P T k m o) := by
  unfold z2_
  cases h3 : P 3 none k m o with
  | none => exact Kg_n
  | some a =>
    simp only
    obtain ⟨a1, a2⟩ := h 3 none k m o (by omega) hk Kn_ a h3
    split
    · rename_i hc
      have := T_lt hT (by omega) hc (by decide)
      split
      · cases h1 : P 1 none (a.2.1 + 1) (a.2.2 + 1) o with
        | none => exact Kg_n
        | some t =>
          simp only
          obtain ⟨t1, t2⟩ := h 1 none _ _ o (by omega) (by omega) Kn_ t h1
          split
          · rename_i hc2
            have := T_lt hT (by omega) hc2 (by decide)
            cases h2 : P 2 none (t.2.1 + 1) t.2.2 o with
            | none => exact Kg_n
            | some c =>
              obtain ⟨c1, c2⟩ := h 2 none _ _ o (by omega) (by omega) Kn_ c h2
              exact Kg_s c1 ⟨a2, t2, c2⟩
          · exact Kg_n
      · exact Kg_n
    · exact Kg_s a1 a2
theorem kz3 (hT : TF_ T (bf_ M n) n) (h : KPP_ n P) (q : Nat) (hq1 : 3 ≤ q) (hq : q ≤ 5) (l : Option Term) (k m o : Nat) (hk : k ≤ n) (hl : ∀ e, l = some e → KK_ e) : KgX_ n (z3_ P T q l k m o) := by
  unfold z3_
  cases l with
  | none =>
    simp only
    cases h2 : P (q + 1) none k m o with
    | none => exact Kg_n
    | some r =>
      obtain ⟨g1, g2⟩ := h (q + 1) none k m o (by omega) hk Kn_ r h2
      exact h q _ _ _ _ (by omega) g1 (Ks_ g2)
  | some e =>
    simp only
    split
    · rename_i hkd
      have hkn : k < n := by
        rcases Nat.lt_or_ge k n with z | z
        · exact z
        · rw [hT.2.1 k (by have := hT.1; omega), hT.2.2.1 k z] at hkd
          exfalso
          obtain rfl | rfl | rfl : q = 3 ∨ q = 4 ∨ q = 5 := by omega
          all_goals exact absurd hkd (by decide)
      split
      · cases h2 : P (q + 1) none (k + 1) (m + 1) o with
        | none => exact Kg_n
        | some r =>
          simp only
          obtain ⟨g1, g2⟩ := h (q + 1) none (k + 1) (m + 1) o (by omega) (by omega) Kn_ r h2
          have w : KK_ (.elem (.int (T (nI k))) (.add e r.1)) := ⟨hl e rfl, g2⟩
          split
          · exact Kg_s g1 w
          · exact h q _ _ _ _ (by omega) g1 (Ks_ w)
      · exact Kg_n
    · exact Kg_s hk (hl e rfl)
theorem kz6 (hT : TF_ T (bf_ M n) n) (h : KPP_ n P) (k m o : Nat) (hk : k ≤ n) : KgX_ n (z6_ P T k m o) := by
  unfold z6_
  split
  · rename_i hc
    have : k < n := hc.elim (fun y => T_lt hT (by omega) y (by decide)) (fun y => T_lt hT (by omega) y (by decide))
    split
    · cases h2 : P 6 none (k + 1) (m + 1) o with
      | none => exact Kg_n
      | some r =>
        simp only
        obtain ⟨g1, g2⟩ := h 6 none (k + 1) (m + 1) o (by omega) (by omega) Kn_ r h2
        refine Kg_s g1 ?_
        show KK_ (if T (nI k) = 45 then .length r.1 else .sum r.1)
        split
        · exact g2
        · exact g2
    · exact Kg_n
  · exact h 7 none k m o (by omega) hk Kn_
theorem kzw (hT : TF_ T (bf_ M n) n) (h : KPP_ n P) (hw : wP_ P) (v : Int32) (nm : Bool) (k m o : Nat) (hk : k < n) : KgX_ n (zw_ P T v nm k m o (srT_ T (nI k) 200 0 0 0)) := by
  obtain ⟨hsr, hry⟩ := srT_rz hT (show k ≤ n by omega)
  rw [hsr]
  generalize rz_ M n k = z at hry ⊢
  have key : ∀ j, j < 4 → z ≤ 12 → NK_ (ky_ (lN (LE_ (bf_ M n) k (min z 12))) (nI j)) (de_ (ky_ (lN (LE_ (bf_ M n) k (min z 12))) (nI j))) (nI j) := fun j hj hz => by
    rw [Nat.min_eq_left hz]
    exact ⟨bf_ M n, k, z, j, hry, hz, hj, rfl, de_ky hz hry hj, rfl⟩
  unfold zw_
  simp only
  split
  · split
    · rename_i hc
      split
      · rename_i hc2
        have := T_lt hT (by have := hc.2.2.1; omega) hc2 (by decide)
        refine Kg_s (by show k + z + 2 ≤ n; omega) ⟨key 0 (by omega) hc.2.2.1, trivial⟩
      · have hp := T_lt hT (by have := hc.2.2.1; omega) hc.2.2.2.1 (by decide)
        cases h8 : P 8 none (k + z + 1) (m + 1) (o + 1) with
        | none => exact Kg_n
        | some x =>
          simp only
          obtain ⟨g1, g2⟩ := h 8 none _ _ _ (by omega) (by omega) Kn_ x h8
          have w3 := (hw 8 none _ _ _ (by omega) nl_ x h8).2 (by omega)
          split
          · rename_i hc3
            have := T_lt hT (by omega) hc3 (by decide)
            exact Kg_s (by show x.2.1 + 1 ≤ n; omega) ⟨key (an_ x.1) (by omega) hc.2.2.1, g2⟩
          · exact Kg_n
    · exact Kg_n
  · split
    · exact Kg_s (by show k + 1 ≤ n; omega) trivial
    · exact Kg_n
theorem nv_n {f : Nat → Int32} (hf : ∀ k, n ≤ k → f k = -1) : ∀ (u k w : Nat), k ≤ n → (nv_ f u k w).1 ≤ n
  | 0, k, w, hk => hk
  | u + 1, k, w, hk => by
    rw [nv_]
    split
    · rename_i hc
      rcases Nat.lt_or_ge k n with z | z
      · exact nv_n hf u (k + 1) _ (by omega)
      · rw [hf k z] at hc
        exact absurd hc (by decide)
    · exact hk
theorem kz7 (hT : TF_ T (bf_ M n) n) (h : KPP_ n P) (hw : wP_ P) (v : Int32) (nm : Bool) (k m o : Nat) (hk : k ≤ n) : KgX_ n (z7_ P T v nm k m o) := by
  have hn := hT.1
  unfold z7_
  split
  · split
    · split
      · rename_i hc
        have := T_lt hT (by omega) hc.1 (by decide)
        cases h1 : P 1 none (k + 1) m (o + 1) with
        | none => exact Kg_n
        | some x =>
          simp only
          obtain ⟨g1, g2⟩ := h 1 none _ _ _ (by omega) (by omega) Kn_ x h1
          split
          · rename_i hc3
            have := T_lt hT (by omega) hc3 (by decide)
            exact Kg_s (by show x.2.1 + 1 ≤ n; omega) g2
          · exact Kg_n
      · exact Kg_n
    · rename_i hr
      refine kzw hT h hw v nm k m o ?_
      rcases Nat.lt_or_ge k n with z | z
      · exact z
      · rw [hT.2.1 k (by omega), hT.2.2.1 k z] at hr
        exact absurd (by decide) hr
  · split
    · obtain ⟨a2, e, -⟩ := nuP_nv hT (n - k) 200 k 0 0 (by omega) (by omega) (by omega) (by omega) ⟨by omega, by omega, Or.inl ⟨rfl, by omega⟩⟩
      have e2 : nuP_ T 200 k 0 = ((nv_ (bf_ M n) (n - k) k 0).1, lN a2) := e
      refine Kg_s ?_ trivial
      show (nuP_ T 200 k 0).1 ≤ n
      rw [e2]
      exact nv_n hT.2.2.1 (n - k) k 0 hk
    · exact Kg_n
theorem kz8 (hT : TF_ T (bf_ M n) n) (h : KPP_ n P) (k m o : Nat) (hk : k ≤ n) : KgX_ n (z8_ P T k m o) := by
  unfold z8_
  cases h1 : P 1 none k m o with
  | none => exact Kg_n
  | some a =>
    simp only
    obtain ⟨a1, a2⟩ := h 1 none k m o (by omega) hk Kn_ a h1
    split
    · rename_i hc
      have := T_lt hT (by omega) hc (by decide)
      cases h2 : P 1 none (a.2.1 + 1) a.2.2 o with
      | none => exact Kg_n
      | some b =>
        simp only
        obtain ⟨b1, b2⟩ := h 1 none _ _ _ (by omega) (by omega) Kn_ b h2
        split
        · rename_i hc2
          have := T_lt hT (by omega) hc2 (by decide)
          cases h3 : P 1 none (b.2.1 + 1) b.2.2 o with
          | none => exact Kg_n
          | some c =>
            simp only
            obtain ⟨c1, c2⟩ := h 1 none _ _ _ (by omega) (by omega) Kn_ c h3
            split
            · exact Kg_n
            · exact Kg_s c1 ⟨a2, b2, c2, trivial⟩
        · exact Kg_s b1 ⟨a2, b2, trivial⟩
    · exact Kg_s a1 ⟨a2, trivial⟩
theorem KP_all (hT : TF_ T (bf_ M n) n) (v : Int32) (nm : Bool) : ∀ f, KPP_ n (pz2_ T v nm f) := by
  intro f
  induction f with
  | zero => intro q l k m o _ _ _; exact Kg_n
  | succ f ih =>
    have iw := wP_all T v nm f
    intro q l k m o hq hk hl
    show KgX_ n (zs_ (pz2_ T v nm f) T v nm q l k m o)
    unfold zs_
    generalize pz2_ T v nm f = P at ih iw
    by_cases h1 : q = 1
    · subst h1; rw [if_pos rfl]; exact kz1 hT ih l k m o hk hl
    rw [if_neg h1]
    by_cases h2 : q = 2
    · subst h2; rw [if_pos rfl]; exact kz2 hT ih k m o hk
    rw [if_neg h2]
    by_cases h5 : q ≤ 5
    · rw [if_pos h5]; exact kz3 hT ih q (by omega) h5 l k m o hk hl
    rw [if_neg h5]
    by_cases h6 : q = 6
    · subst h6; rw [if_pos rfl]; exact kz6 hT ih k m o hk
    rw [if_neg h6]
    by_cases h7 : q = 7
    · subst h7; rw [if_pos rfl]; exact kz7 hT ih iw v nm k m o hk
    rw [if_neg h7]
    obtain rfl : q = 8 := by omega
    exact kz8 hT ih k m o hk
theorem KK_pe (hT : TF_ T (bf_ M n) n) {v : Int32} {nm : Bool} {q : Option Nat} (hq : ∀ p, q = some p → p ≤ n) {x : Term × Nat × Nat} (h : pe2_ T v nm q = some x) : KK_ x.1 := by
  cases q with
  | none => exact absurd (show (none : px2_) = some x from h) (by simp)
  | some p => exact (KP_all hT v nm 297 1 none p 0 0 (by omega) (hq p rfl) Kn_ x h).2
end KKS
