/-! what is thrown: by a program, or by the 1001st invocation -/
def q12_ {α : Type} (o : α ⊕ (Nat × Int32)) : Prop := ∀ q, o = .inr q → q.1 = 1 ∨ q.1 = 2
theorem q12_l {α : Type} {x : α} : q12_ (Sum.inl x : α ⊕ (Nat × Int32)) := fun _ h => by cases h
theorem ES_q2 {I : Int64 → List Int32 → sgA_ → io2_} (hI : ∀ K a s, q12_ (I K a s).1) (V : Nat → Int32) : ∀ (g : Bool) (e : Term), wfX_ g e → ∀ (t : List Int32) (s : sgA_), q12_ (ES_ I V e t s).1
  | true, .int v, _, t, s => by rw [ES_]; exact q12_l
  | true, .index i, _, t, s => by rw [ES_]; exact q12_l
  | true, .length e, w, t, s => by
    have h := ES_q2 hI V true e w t s
    rw [ES_]
    generalize ES_ I V e t s = o at h ⊢
    obtain ⟨o, s2⟩ := o
    match o with
    | .inr q => exact h
    | .inl [] => exact h
    | .inl (x :: t2) => exact q12_l
  | true, .sum e, w, t, s => by
    have h := ES_q2 hI V true e w t s
    rw [ES_]
    generalize ES_ I V e t s = o at h ⊢
    obtain ⟨o, s2⟩ := o
    match o with
    | .inr q => exact h
    | .inl [] => exact h
    | .inl (x :: t2) => exact fun q y => by cases y; exact Or.inl rfl
  | true, .elem c (.add a b), w, t, s => by
    have h := ES_q2 hI V true a w.2.1 t s
    rw [ES_, ES_]
    generalize ES_ I V a t s = o at h ⊢
    obtain ⟨o, s2⟩ := o
    cases o with
    | inr q => exact h
    | inl u =>
      simp only
      have h2 := ES_q2 hI V true b w.2.2 u s2
      generalize ES_ I V b u s2 = o2 at h2 ⊢
      obtain ⟨o2, s3⟩ := o2
      match o2 with
      | .inr q => exact h2
      | .inl [] => exact h2
      | .inl [_] => exact h2
      | .inl (y :: x :: t2) =>
        unfold o2_
        simp only
        split
        · exact fun q y => by cases y; exact Or.inl rfl
        · exact q12_l
  | true, .mul a (.div b c), w, t, s => by
    have h := ES_q2 hI V true a w.1 t s
    rw [ES_]
    generalize ES_ I V a t s = o at h ⊢
    obtain ⟨o, s2⟩ := o
    match o with
    | .inr q => exact h
    | .inl [] => exact h
    | .inl (x :: t2) =>
      unfold o1_
      simp only
      split
      · exact ES_q2 hI V true c w.2.2 t2 s2
      · exact ES_q2 hI V true b w.2.1 t2 s2
  | true, .rem a b, w, t, s => by
    have h := ES_q2 hI V true a w.1 t s
    rw [ES_]
    split
    · exact ES_q2 hI V true b w.2 t _
    · exact h
  | true, .sub k x, w, t, s => by
    have h := ES_q2 hI V false x w.1 t s
    rw [ES_]
    generalize ES_ I V x t s = o at h ⊢
    obtain ⟨o, s2⟩ := o
    cases o with
    | inr q => exact h
    | inl u =>
      simp only
      have h2 := hI (kv2_ k) (u.take (an_ x)) s2
      generalize I (kv2_ k) (u.take (an_ x)) s2 = o2 at h2 ⊢
      obtain ⟨o2, s3⟩ := o2
      cases o2 with
      | inr q => exact fun q2 y => h2 q2 (by cases y; rfl)
      | inl v => exact q12_l
  | false, .null, _, t, s => q12_l
  | false, .add a r, w, t, s => by
    have h := ES_q2 hI V true a w.1 t s
    rw [ES_]
    generalize ES_ I V a t s = o at h ⊢
    obtain ⟨o, s2⟩ := o
    cases o with
    | inr q => exact h
    | inl u => exact ES_q2 hI V false r w.2 u s2
theorem in_q {E : se_} (hw : ∀ m, m < E.1 → wfX_ true (E.2.2.1 m)) : ∀ (u m : Nat) (P : Nat → Int32) (s : sgA_), m < E.1 → q12_ (inA_ E u m P s).1
  | 0, _, _, s, _ => fun q y => by cases y; exact Or.inl rfl
  | u + 1, m, P, s, hm => by
    rw [inA_]
    have hI : ∀ K a s, q12_ (nmA_ E (10 - u) (inA_ E u) K a s).1 := fun K a s => by
      unfold nmA_
      cases hf : fnA_ E K E.1 0 with
      | none => exact fun q y => by cases y; exact Or.inl rfl
      | some m2 =>
        simp only
        split
        · exact fun q y => by cases y; exact Or.inl rfl
        split
        · exact fun q y => by cases y; exact Or.inr rfl
        exact in_q hw u m2 _ s (by have := fn_lt E K E.1 0 m2 hf; omega)
    have h := ES_q2 hI P true (E.2.2.1 m) (hw m hm) [] (pbA_ E m 0 (10 - u) P 0 (ivA_ s))
    generalize ES_ (nmA_ E (10 - u) (inA_ E u)) P (E.2.2.1 m) [] (pbA_ E m 0 (10 - u) P 0 (ivA_ s)) = o at h ⊢
    obtain ⟨o, s2⟩ := o
    cases o with
    | inr q => exact fun q2 y => h q2 (by cases y; rfl)
    | inl t => exact q12_l
