/-! the trees that the reference's reader makes: S whether names may come, V how many variables there may be -/
def wfR_ (S : Bool) (V : Nat) : Bool → Term → Prop
  | true, .int _ => True
  | true, .index i => i < V
  | true, .length e => wfR_ S V true e
  | true, .sum e => wfR_ S V true e
  | true, .elem _ (.add a b) => wfR_ S V true a ∧ wfR_ S V true b
  | true, .mul a (.div b c) => wfR_ S V true a ∧ wfR_ S V true b ∧ wfR_ S V true c
  | true, .rem a b => wfR_ S V true a ∧ wfR_ S V true b
  | true, .sub _ x => S = true ∧ wfR_ S V false x ∧ ac_ x ≤ 3
  | false, .null => True
  | false, .add a r => wfR_ S V true a ∧ wfR_ S V false r
  | _, _ => False
/-- a frame whose trees are so, with at most b arguments -/
def wfF_ (S : Bool) (V b : Nat) (f : fr_) : Prop := match f.1 with
  | 0 => True
  | 1 => wfR_ S V true f.2.2.1
  | 2 => wfR_ S V true f.2.2.1 ∧ wfR_ S V true f.2.2.2.1
  | 6 => True
  | 8 => S = true ∧ wfR_ S V false f.2.2.1 ∧ ac_ f.2.2.1 ≤ b
  | _ => wfR_ S V true f.2.2.1
def wfW_ (S : Bool) (V : Nat) : List fr_ → Prop
  | [] => True
  | f :: r => wfF_ S V 2 f ∧ wfW_ S V r
def wfS_ (S : Bool) (V : Nat) (x : ss_) : Prop := match x.2.2.1 with
  | some e => wfR_ S V true e ∧ wfW_ S V x.2.1
  | none => match x.2.1 with
    | [] => True
    | f :: r => wfF_ S V 3 f ∧ wfW_ S V r
def wfO_ (S : Bool) (V : Nat) : ss_ ⊕ (Int32 × Nat) → Prop
  | .inl x => wfS_ S V x
  | .inr _ => True
theorem wfF_up {S : Bool} {V : Nat} {f : fr_} (h : wfF_ S V 2 f) : wfF_ S V 3 f := by
  obtain ⟨k, c, a, b, x⟩ := f
  unfold wfF_ at h ⊢
  match k with
  | 0 => trivial
  | 1 => exact h
  | 2 => exact h
  | 3 => exact h
  | 4 => exact h
  | 5 => exact h
  | 6 => trivial
  | 7 => exact h
  | 8 => exact ⟨h.1, h.2.1, Nat.le_trans h.2.2 (by decide)⟩
  | k + 9 => exact h
theorem wfO_n {S : Bool} {V k nd op : Nat} {f : fr_} {r : List fr_} (h : wfF_ S V 3 f) (g : wfW_ S V r) : wfO_ S V (.inl (k, f :: r, none, nd, op)) := ⟨h, g⟩
theorem wfR_sa {S : Bool} {V : Nat} : ∀ {x e : Term}, wfR_ S V false x → wfR_ S V true e → wfR_ S V false (sa_ x e)
  | .null, e, _, h => ⟨h, True.intro⟩
  | .add a r, e, g, h => ⟨g.1, wfR_sa g.2 h⟩
theorem wfR_ao {S : Bool} {V : Nat} : ∀ {x : Term}, wfR_ S V false x → ao_ x
  | .null, _ => True.intro
  | .add _ r, h => wfR_ao (x := r) h.2
/-- what frames put together make -/
theorem wfR_rf {S : Bool} {V : Nat} {f : fr_} {e : Term} (h : wfF_ S V 2 f) (h1 : 1 ≤ f.1) (h6 : f.1 ≤ 6) (he : wfR_ S V true e) : wfR_ S V true (rf_ f e) := by
  obtain ⟨k, c, a, b, x⟩ := f
  unfold wfF_ at h
  unfold rf_
  simp only at h h1 h6 ⊢
  match k, h1, h6, h with
  | 1, _, _, h => exact ⟨h, he⟩
  | 2, _, _, h => exact ⟨h.1, h.2, he⟩
  | 3, _, _, h => exact ⟨h, he⟩
  | 4, _, _, h => exact ⟨h, he⟩
  | 5, _, _, h => exact ⟨h, he⟩
  | 6, _, _, h =>
    show wfR_ S V true (if c = 45 then Term.length e else Term.sum e)
    split
    · exact he
    · exact he
theorem wfR_rt {S : Bool} {V L : Nat} (hL : 1 ≤ L) : ∀ (W : List fr_) (e : Term), wfW_ S V W → wfR_ S V true e → wfW_ S V (rt_ L W e).1 ∧ wfR_ S V true (rt_ L W e).2
  | [], e, _, he => ⟨True.intro, he⟩
  | f :: r, e, h, he => by
    rw [rt_]
    split
    · rename_i g
      exact wfR_rt hL r _ h.2 (wfR_rf h.1 (by omega) g.2 he)
    · exact ⟨h, he⟩
theorem wfO_bt {S : Bool} {V L k nd op : Nat} {c : Int32} {W : List fr_} {e : Term} (hL : L = 3 ∨ L = 4 ∨ L = 5) (h : wfW_ S V W) (he : wfR_ S V true e) : wfO_ S V (bt_ L c k W e nd op) := by
  have g := wfR_rt (L := if L = 3 then 4 else L) (by split <;> omega) W e h he
  unfold bt_
  generalize (if L = 3 then 4 else L) = L2 at g ⊢
  split
  · trivial
  · split
    · trivial
    · refine wfO_n ?_ g.1
      unfold wfF_
      rcases hL with rfl | rfl | rfl <;> exact g.2
theorem wfO_qu {S : Bool} {V k nd op : Nat} {W : List fr_} {e : Term} (h : wfW_ S V W) (he : wfR_ S V true e) : wfO_ S V (qu_ k W e nd op) := by
  have g := wfR_rt (L := 3) (by omega) W e h he
  unfold qu_
  split
  · trivial
  · exact wfO_n g.2 g.1
theorem wfO_ha {S : Bool} {V k nd op : Nat} {W : List fr_} {e : Term} (h : wfW_ S V W) (he : wfR_ S V true e) : wfO_ S V (ha_ k W e nd op) := by
  have g := wfR_rt (L := 1) (by omega) W e h he
  unfold ha_
  split
  · trivial
  · exact wfO_n g.2 g.1
theorem wfF_8 {S : Bool} {V b : Nat} {f : fr_} (h : wfF_ S V b f) (h8 : f.1 = 8) : S = true ∧ wfR_ S V false f.2.2.1 ∧ ac_ f.2.2.1 ≤ b := by
  unfold wfF_ at h; rw [h8] at h; exact h
theorem wfF_7 {S : Bool} {V b : Nat} {f : fr_} (h : wfF_ S V b f) (h7 : f.1 = 7) : wfR_ S V true f.2.2.1 := by
  unfold wfF_ at h; rw [h7] at h; exact h
theorem wfO_cm {S : Bool} {V k nd op : Nat} {W : List fr_} {e : Term} (h : wfW_ S V W) (he : wfR_ S V true e) : wfO_ S V (cm2_ k W e nd op) := by
  have g := wfR_rt (L := 1) (by omega) W e h he
  unfold cm2_
  cases hr : (rt_ 1 W e).1 with
  | nil => trivial
  | cons f r =>
    rw [hr] at g
    simp only
    split
    · rename_i h8
      have q := wfF_8 g.1.1 h8
      refine wfO_n ⟨q.1, wfR_sa q.2.1 g.2, ?_⟩ g.1.2
      show ac_ (sa_ f.2.2.1 (rt_ 1 W e).2) ≤ 3
      rw [ac_sa _ _ (wfR_ao q.2.1)]
      have := q.2.2
      omega
    · trivial
theorem wfO_cl {S : Bool} {V k nd op : Nat} {W : List fr_} {e : Term} (h : wfW_ S V W) (he : wfR_ S V true e) : wfO_ S V (cl_ k W e nd op) := by
  have g := wfR_rt (L := 1) (by omega) W e h he
  unfold cl_
  cases hr : (rt_ 1 W e).1 with
  | nil => trivial
  | cons f r =>
    rw [hr] at g
    simp only
    split
    · rename_i h7
      have q := wfF_7 g.1.1 h7
      exact wfO_n (show wfR_ S V true f.2.2.1 ∧ wfR_ S V true (rt_ 1 W e).2 from ⟨q, g.2⟩) g.1.2
    · trivial
theorem wfO_cz {S : Bool} {V k nd op : Nat} {W : List fr_} {e : Term} (h : wfW_ S V W) (he : wfR_ S V true e) : wfO_ S V (cz_ k W e nd op) := by
  have g := wfR_rt (L := 1) (by omega) W e h he
  unfold cz_
  cases hr : (rt_ 1 W e).1 with
  | nil => trivial
  | cons f r =>
    rw [hr] at g
    simp only
    split
    · exact ⟨g.2, g.1.2⟩
    · split
      · rename_i h8
        have q := wfF_8 g.1.1 h8
        refine ⟨⟨q.1, wfR_sa q.2.1 g.2, ?_⟩, g.1.2⟩
        rw [ac_sa _ _ (wfR_ao q.2.1)]
        have := q.2.2
        omega
      · trivial
theorem wfO_si {S : Bool} {V k nd op : Nat} {c : Int32} {W : List fr_} {e : Term} (h : wfW_ S V W) (he : wfR_ S V true e) : wfO_ S V (si_ c k W e nd op) := by
  unfold si_
  split
  · exact wfO_ha h he
  · split
    · exact wfO_qu h he
    · split
      · exact wfO_cl h he
      · split
        · exact wfO_bt (Or.inl rfl) h he
        · split
          · exact wfO_bt (Or.inr (Or.inl rfl)) h he
          · split
            · exact wfO_bt (Or.inr (Or.inr rfl)) h he
            · split
              · exact wfO_cm h he
              · split
                · exact wfO_cz h he
                · trivial
/-- where an operand is wanted and the frame at the top has room for one more -/
theorem wfW_top {S : Bool} {V k nd op : Nat} {W : List fr_} (h : wfS_ S V (k, W, none, nd, op)) (h3 : ¬ f3b_ W = true) : wfW_ S V W := by
  cases W with
  | nil => trivial
  | cons f r =>
    refine ⟨?_, h.2⟩
    have g := h.1
    obtain ⟨x, c, a, b, y⟩ := f
    unfold wfF_ at g ⊢
    match x, g, h3 with
    | 0, _, _ => trivial
    | 1, g, _ => exact g
    | 2, g, _ => exact g
    | 3, g, _ => exact g
    | 4, g, _ => exact g
    | 5, g, _ => exact g
    | 6, _, _ => trivial
    | 7, g, _ => exact g
    | 8, g, h3 =>
      refine ⟨g.1, g.2.1, ?_⟩
      have e : ¬ ac_ a = 3 := fun z => h3 (by show (decide ((8 : Nat) = 8) && decide (ac_ a = 3)) = true; rw [z]; rfl)
      have g3 : ac_ a ≤ 3 := g.2.2
      show ac_ a ≤ 2
      omega
    | x + 9, g, _ => exact g
theorem wfO_co {S : Bool} {V k nd op : Nat} {W : List fr_} (h : wfS_ S V (k, W, none, nd, op)) (hq : fqb_ W = true) : wfO_ S V (co0_ k W nd op) := by
  unfold co0_
  cases W with
  | nil => trivial
  | cons f r =>
    have e : (decide (f.1 = 8) && decide (ac_ f.2.2.1 = 0)) = true := hq
    rw [Bool.and_eq_true, decide_eq_true_iff, decide_eq_true_iff] at e
    exact ⟨⟨(wfF_8 h.1 e.1).1, True.intro, by show 0 ≤ 3; omega⟩, h.2⟩
def sB_ (M : mm_) : Bool := decide (M.1 0 14 = 0)
def vB_ (M : mm_) : Nat := if M.1 0 14 = 0 then 3 else 7
theorem vv_own {c : Int32} (h : ¬ ow_ c = 0) : (vv_ c).toNatClampNeg < 3 := by
  unfold ow_ at h
  by_cases g : 97 ≤ c ∧ c ≤ 99
  · rw [Int32.le_iff_toInt_le, Int32.le_iff_toInt_le] at g
    have e1 : (97 : Int32).toInt = 97 := by decide
    have e2 : (99 : Int32).toInt = 99 := by decide
    rw [e1, e2] at g
    have e := Int32.ofInt_toInt c
    obtain z | z | z : c.toInt = 97 ∨ c.toInt = 98 ∨ c.toInt = 99 := by omega
    · rw [← e, z]; decide
    · rw [← e, z]; decide
    · rw [← e, z]; decide
  · rw [if_neg g] at h; exact absurd rfl h
theorem vo_lt {M : mm_} {c : Int32} (h : ¬ vo_ M c < 0) : (vo_ M c).toNatClampNeg < vB_ M := by
  unfold vo_ at h ⊢
  unfold vB_
  split
  · rename_i g
    rcases g with ⟨g1, -⟩ | ⟨g0, g1 | g1⟩
    · have := vv_own g1
      split <;> omega
    · have := vv_own g1
      split <;> omega
    · rw [if_neg g0]
      have a1 := Int32.not_lt.mp g1.1
      have a2 := Int32.not_lt.mp g1.2.1
      rw [Int32.le_iff_toInt_le] at a1 a2
      have e3 : (3 : Int32).toInt = 3 := by decide
      have e6 : (6 : Int32).toInt = 6 := by decide
      rw [e3] at a1
      rw [e6] at a2
      have e : (vv_ c).toNatClampNeg = (vv_ c).toInt.toNat := rfl
      rw [e]
      omega
  · rename_i g
    rw [if_neg g] at h
    exact absurd (by decide) h
theorem wfO_rr {M : mm_} {n k nd op : Nat} {W : List fr_} (h : wfW_ (sB_ M) (vB_ M) W) : wfO_ (sB_ M) (vB_ M) (rr_ M n k W nd op) := by
  unfold rr_
  split
  · split
    · trivial
    · split
      · trivial
      · rename_i g
        exact ⟨vo_lt g, h⟩
  · split
    · trivial
    · split
      · trivial
      · split
        · trivial
        · split
          · trivial
          · rename_i g
            split
            · trivial
            · split
              · trivial
              · refine wfO_n ⟨?_, True.intro, by show 0 ≤ 3; omega⟩ h
                unfold sB_
                rw [decide_eq_true_iff]
                exact Decidable.not_not.mp g
theorem wfO_so {M : mm_} {n k nd op : Nat} {W : List fr_} (h : wfS_ (sB_ M) (vB_ M) (k, W, none, nd, op)) : wfO_ (sB_ M) (vB_ M) (so_ M n k W nd op) := by
  unfold so_
  split
  · trivial
  · split
    · rename_i g
      exact wfO_co h g.1
    · unfold so2_
      split
      · trivial
      · rename_i g3
        have hW := wfW_top h g3
        split
        · unfold rn2_
          split
          · trivial
          · split
            · trivial
            · exact ⟨True.intro, hW⟩
        · split
          · split
            · trivial
            · exact wfO_n True.intro hW
          · split
            · split
              · trivial
              · exact wfO_n True.intro hW
            · split
              · exact wfO_rr hW
              · trivial
theorem wfO_lo {M : mm_} {n : Nat} : ∀ (t : Nat) (x : ss_), wfS_ (sB_ M) (vB_ M) x → wfO_ (sB_ M) (vB_ M) (lo_ M n t x)
  | 0, x, h => h
  | t + 1, x, h => by
    obtain ⟨k, W, u, nd, op⟩ := x
    rw [lo_]
    cases u with
    | none =>
      simp only
      have g := wfO_so (n := n) h
      cases hs : so_ M n k W nd op with
      | inl y => rw [hs] at g; exact wfO_lo t y g
      | inr q => trivial
    | some e =>
      simp only
      split
      · exact h
      · have g := wfO_si (c := bf_ M n k) (k := k) (nd := nd) (op := op) h.2 h.1
        cases hs : si_ (bf_ M n k) k W e nd op with
        | inl y => rw [hs] at g; exact wfO_lo t y g
        | inr q => trivial
theorem wf_ex {M : mm_} {n k k2 : Nat} {e : Term} (h : ex_ M n k = .inl (e, k2)) : wfR_ (sB_ M) (vB_ M) true e := by
  unfold ex_ at h
  have g := wfO_lo (M := M) (n := n) (n + 1 - k) (k, [], none, 0, 0) True.intro
  cases hs : lo_ M n (n + 1 - k) (k, [], none, 0, 0) with
  | inr q => rw [hs] at h; cases h
  | inl x =>
    rw [hs] at h g
    obtain ⟨k1, W, u, nd, op⟩ := x
    cases u with
    | none => cases h
    | some e1 =>
      have g2 := wfR_rt (L := 1) (by omega) W e1 g.2 g.1
      have h2 : (if (rt_ 1 W e1).1.isEmpty = true then (Sum.inl ((rt_ 1 W e1).2, k1) : (Term × Nat) ⊕ (Int32 × Nat)) else .inr (1, k1)) = .inl (e, k2) := h
      split at h2
      · cases h2; exact g2.2
      · cases h2
