/-! the trees that the class's reader makes (wfX_), and that their codes can be run (okX_) -/
def wfX_ : Bool → Term → Prop
  | true, .int _ => True
  | true, .index _ => True
  | true, .length e => wfX_ true e
  | true, .sum e => wfX_ true e
  | true, .elem s (.add a b) => ¬ kd_ (sg2_ s) = 0 ∧ wfX_ true a ∧ wfX_ true b
  | true, .mul a (.div b c) => wfX_ true a ∧ wfX_ true b ∧ wfX_ true c
  | true, .rem a b => wfX_ true a ∧ wfX_ true b
  | true, .sub k x => wfX_ false x ∧ an_ x ≤ 3 ∧ poX_ (kv2_ k) = nI (an_ x)
  | false, .null => True
  | false, .add a r => wfX_ true a ∧ wfX_ false r
  | _, _ => False
/-- what a reading gives: a tree, or (kind 8) arguments -/
def wgX_ (q : Nat) (x : px2_) : Prop := ∀ y, x = some y → wfX_ (decide (q ≤ 7)) y.1 ∧ (8 ≤ q → an_ y.1 ≤ 3)
def wP_ (P : pf2_) : Prop := ∀ q l k m o, 1 ≤ q ∧ q ≤ 8 → (∀ e, l = some e → wfX_ true e) → wgX_ q (P q l k m o)
theorem wr_none {q : Nat} : wgX_ q none := fun _ h => by cases h
theorem wr_t {q : Nat} {y : Term × Nat × Nat} (hq : q ≤ 7) (h : wfX_ true y.1) : wgX_ q (some y) := fun z hz => by
  cases hz
  exact ⟨by rw [decide_eq_true hq]; exact h, fun w => by omega⟩
theorem wP_t {P : pf2_} (h : wP_ P) {q : Nat} {l : Option Term} {k m o : Nat} (hq : 1 ≤ q ∧ q ≤ 7) (hl : ∀ e, l = some e → wfX_ true e) {y : Term × Nat × Nat} (hy : P q l k m o = some y) : wfX_ true y.1 := by
  have z := (h q l k m o (by omega) hl y hy).1
  rw [decide_eq_true hq.2] at z
  exact z
theorem nl_ : ∀ e, (none : Option Term) = some e → wfX_ true e := fun _ h => by cases h
theorem sl_ {a : Term} (h : wfX_ true a) : ∀ e, some a = some e → wfX_ true e := fun _ z => by cases z; exact h
theorem wz1 {P : pf2_} (h : wP_ P) (T : Int32 → Int32) (l : Option Term) (k m o : Nat) (hl : ∀ e, l = some e → wfX_ true e) : wgX_ 1 (z1_ P T l k m o) := by
  unfold z1_
  cases l with
  | none =>
    simp only
    cases h2 : P 2 none k m o with
    | none => exact wr_none
    | some r => exact h 1 _ _ _ _ (by omega) (sl_ (wP_t h (by omega) nl_ h2))
  | some e =>
    simp only
    split
    · split
      · cases h2 : P 2 none (k + 1) (m + 1) o with
        | none => exact wr_none
        | some r => exact h 1 _ _ _ _ (by omega) (sl_ ⟨hl e rfl, wP_t h (by omega) nl_ h2⟩)
      · exact wr_none
    · exact wr_t (by omega) (hl e rfl)
theorem wz2 {P : pf2_} (h : wP_ P) (T : Int32 → Int32) (k m o : Nat) : wgX_ 2 (z2_ P T k m o) := by
  unfold z2_
  cases h3 : P 3 none k m o with
  | none => exact wr_none
  | some a =>
    simp only
    have wa := wP_t h (by omega) nl_ h3
    split
    · split
      · cases h1 : P 1 none (a.2.1 + 1) (a.2.2 + 1) o with
        | none => exact wr_none
        | some t =>
          simp only
          split
          · cases h2 : P 2 none (t.2.1 + 1) t.2.2 o with
            | none => exact wr_none
            | some c => exact wr_t (by omega) ⟨wa, wP_t h (by omega) nl_ h1, wP_t h (by omega) nl_ h2⟩
          · exact wr_none
      · exact wr_none
    · exact wr_t (by omega) wa
theorem wz3 {P : pf2_} (h : wP_ P) (T : Int32 → Int32) (q : Nat) (hq1 : 3 ≤ q) (hq : q ≤ 5) (l : Option Term) (k m o : Nat) (hl : ∀ e, l = some e → wfX_ true e) : wgX_ q (z3_ P T q l k m o) := by
  unfold z3_
  cases l with
  | none =>
    simp only
    cases h2 : P (q + 1) none k m o with
    | none => exact wr_none
    | some r => exact h q _ _ _ _ (by omega) (sl_ (wP_t h (by omega) nl_ h2))
  | some e =>
    simp only
    split
    · rename_i hk
      have hk0 : ¬ kd_ (T (nI k)) = 0 := by
        rw [hk]
        intro z
        rw [nI_z (by omega)] at z
        omega
      split
      · cases h2 : P (q + 1) none (k + 1) (m + 1) o with
        | none => exact wr_none
        | some r =>
          simp only
          have w : wfX_ true (.elem (.int (T (nI k))) (.add e r.1)) := ⟨hk0, hl e rfl, wP_t h (by omega) nl_ h2⟩
          split
          · exact wr_t (by omega) w
          · exact h q _ _ _ _ (by omega) (sl_ w)
      · exact wr_none
    · exact wr_t (by omega) (hl e rfl)
theorem wz6 {P : pf2_} (h : wP_ P) (T : Int32 → Int32) (k m o : Nat) : wgX_ 6 (z6_ P T k m o) := by
  unfold z6_
  split
  · split
    · cases h2 : P 6 none (k + 1) (m + 1) o with
      | none => exact wr_none
      | some r =>
        simp only
        have w := wP_t h (by omega) nl_ h2
        refine wr_t (by omega) ?_
        show wfX_ true (if T (nI k) = 45 then .length r.1 else .sum r.1)
        split
        · exact w
        · exact w
    · exact wr_none
  · intro y hy
    have z := wP_t h (q := 7) (by omega) nl_ hy
    exact ⟨z, fun w => by omega⟩
theorem wzw {P : pf2_} (h : wP_ P) (T : Int32 → Int32) (v : Int32) (nm : Bool) (k m o : Nat) (r : Nat × Int32 × Int64) (hw : r.2.2.toBitVec.toNat < 2 ^ 60) : wgX_ 7 (zw_ P T v nm k m o r) := by
  unfold zw_
  split
  · split
    · split
      · refine wr_t (by omega) ⟨True.intro, by show 0 ≤ 3; omega, ?_⟩
        exact po_ky (j := 0) (by omega) hw
      · cases h8 : P 8 none (k + r.1 + 1) (m + 1) (o + 1) with
        | none => exact wr_none
        | some x =>
          simp only
          obtain ⟨w1, w2⟩ := h 8 none _ _ _ (by omega) nl_ x h8
          have w3 := w2 (by omega)
          split
          · exact wr_t (by omega) ⟨w1, w3, po_ky (by omega) hw⟩
          · exact wr_none
    · exact wr_none
  · split
    · exact wr_t (by omega) True.intro
    · exact wr_none
theorem wz7 {P : pf2_} (h : wP_ P) (T : Int32 → Int32) (v : Int32) (nm : Bool) (k m o : Nat) : wgX_ 7 (z7_ P T v nm k m o) := by
  unfold z7_
  split
  · split
    · split
      · cases h1 : P 1 none (k + 1) m (o + 1) with
        | none => exact wr_none
        | some x =>
          simp only
          split
          · exact wr_t (by omega) (show wfX_ true x.1 from wP_t h (q := 1) (y := x) (by omega) nl_ h1)
          · exact wr_none
      · exact wr_none
    · exact wzw h T v nm k m o _ (srT_w 200 0 0 0 (by decide))
  · split
    · exact wr_t (by omega) True.intro
    · exact wr_none
theorem wz8 {P : pf2_} (h : wP_ P) (T : Int32 → Int32) (k m o : Nat) : wgX_ 8 (z8_ P T k m o) := by
  unfold z8_
  cases h1 : P 1 none k m o with
  | none => exact wr_none
  | some a =>
    simp only
    have wa := wP_t h (by omega) nl_ h1
    split
    · cases h2 : P 1 none (a.2.1 + 1) a.2.2 o with
      | none => exact wr_none
      | some b =>
        simp only
        have wb := wP_t h (by omega) nl_ h2
        split
        · cases h3 : P 1 none (b.2.1 + 1) b.2.2 o with
          | none => exact wr_none
          | some c =>
            simp only
            have wc := wP_t h (by omega) nl_ h3
            split
            · exact wr_none
            · intro y hy; cases hy; exact ⟨⟨wa, wb, wc, True.intro⟩, fun _ => by show 3 ≤ 3; omega⟩
        · intro y hy; cases hy; exact ⟨⟨wa, wb, True.intro⟩, fun _ => by show 2 ≤ 3; omega⟩
    · intro y hy; cases hy; exact ⟨⟨wa, True.intro⟩, fun _ => by show 1 ≤ 3; omega⟩
theorem wP_all (T : Int32 → Int32) (v : Int32) (nm : Bool) : ∀ f, wP_ (pz2_ T v nm f) := by
  intro f
  induction f with
  | zero => intro q l k m o _ _; exact wr_none
  | succ f ih =>
    intro q l k m o hq hl
    show wgX_ q (zs_ (pz2_ T v nm f) T v nm q l k m o)
    unfold zs_
    generalize pz2_ T v nm f = P at ih
    by_cases h1 : q = 1
    · subst h1; rw [if_pos rfl]; exact wz1 ih T l k m o hl
    rw [if_neg h1]
    by_cases h2 : q = 2
    · subst h2; rw [if_pos rfl]; exact wz2 ih T k m o
    rw [if_neg h2]
    by_cases h5 : q ≤ 5
    · rw [if_pos h5]; exact wz3 ih T q (by omega) h5 l k m o hl
    rw [if_neg h5]
    by_cases h6 : q = 6
    · subst h6; rw [if_pos rfl]; exact wz6 ih T k m o
    rw [if_neg h6]
    by_cases h7 : q = 7
    · subst h7; rw [if_pos rfl]; exact wz7 ih T v nm k m o
    rw [if_neg h7]
    obtain rfl : q = 8 := by omega
    exact wz8 ih T k m o
theorem wf_pe {T : Int32 → Int32} {v : Int32} {nm : Bool} {q : Option Nat} {x : Term × Nat × Nat} (h : pe2_ T v nm q = some x) : wfX_ true x.1 := by
  cases q with
  | none => exact absurd (show (none : px2_) = some x from h) (by simp)
  | some p => exact wP_t (wP_all T v nm 297) (q := 1) (by omega) nl_ h
