/-! what keeps through all that a call does -/
theorem ES_R {R : sgA_ → sgA_ → Prop} (hr : ∀ s, R s s) (ht : ∀ a b c, R a b → R b c → R a c) {I : Int64 → List Int32 → sgA_ → io2_} (hI : ∀ K a s, R s (I K a s).2) (V : Nat → Int32) : ∀ (g : Bool) (e : Term), wfX_ g e → ∀ (t : List Int32) (s : sgA_), R s (ES_ I V e t s).2
  | true, .int v, _, t, s => by rw [ES_]; exact hr s
  | true, .index i, _, t, s => by rw [ES_]; exact hr s
  | true, .length e, w, t, s => by
    have h := ES_R hr ht hI V true e w t s
    rw [ES_]
    generalize ES_ I V e t s = o at h ⊢
    obtain ⟨o, s2⟩ := o
    match o with
    | .inr q => exact h
    | .inl [] => exact h
    | .inl (x :: t2) => exact h
  | true, .sum e, w, t, s => by
    have h := ES_R hr ht hI V true e w t s
    rw [ES_]
    generalize ES_ I V e t s = o at h ⊢
    obtain ⟨o, s2⟩ := o
    match o with
    | .inr q => exact h
    | .inl [] => exact h
    | .inl (x :: t2) => exact h
  | true, .elem c (.add a b), w, t, s => by
    have h := ES_R hr ht hI V true a w.2.1 t s
    rw [ES_, ES_]
    generalize ES_ I V a t s = o at h ⊢
    obtain ⟨o, s2⟩ := o
    cases o with
    | inr q => exact h
    | inl u =>
      simp only
      have h2 := ht _ _ _ h (ES_R hr ht hI V true b w.2.2 u s2)
      generalize ES_ I V b u s2 = o2 at h2 ⊢
      obtain ⟨o2, s3⟩ := o2
      match o2 with
      | .inr q => exact h2
      | .inl [] => exact h2
      | .inl [_] => exact h2
      | .inl (y :: x :: t2) =>
        unfold o2_
        simp only
        split <;> exact h2
  | true, .mul a (.div b c), w, t, s => by
    have h := ES_R hr ht hI V true a w.1 t s
    rw [ES_]
    generalize ES_ I V a t s = o at h ⊢
    obtain ⟨o, s2⟩ := o
    match o with
    | .inr q => exact h
    | .inl [] => exact h
    | .inl (x :: t2) =>
      unfold o1_
      simp only
      split
      · exact ht _ _ _ h (ES_R hr ht hI V true c w.2.2 t2 s2)
      · exact ht _ _ _ h (ES_R hr ht hI V true b w.2.1 t2 s2)
  | true, .rem a b, w, t, s => by
    have h := ES_R hr ht hI V true a w.1 t s
    rw [ES_]
    split
    · rename_i h2
      rw [h2] at h
      exact ht _ _ _ h (ES_R hr ht hI V true b w.2 t _)
    · exact h
  | true, .sub k x, w, t, s => by
    have h := ES_R hr ht hI V false x w.1 t s
    rw [ES_]
    generalize ES_ I V x t s = o at h ⊢
    obtain ⟨o, s2⟩ := o
    cases o with
    | inr q => exact h
    | inl u =>
      simp only
      have h2 := ht _ _ _ h (hI (kv2_ k) (u.take (an_ x)) s2)
      generalize I (kv2_ k) (u.take (an_ x)) s2 = o2 at h2 ⊢
      obtain ⟨o2, s3⟩ := o2
      cases o2 with
      | inr q => exact h2
      | inl v => exact h2
  | false, .null, _, t, s => hr s
  | false, .add a r, w, t, s => by
    have h := ES_R hr ht hI V true a w.1 t s
    rw [ES_]
    generalize ES_ I V a t s = o at h ⊢
    obtain ⟨o, s2⟩ := o
    cases o with
    | inr q => exact h
    | inl u => exact ht _ _ _ h (ES_R hr ht hI V false r w.2 u s2)
theorem pk_R {R : sgA_ → sgA_ → Prop} (hr : ∀ s, R s s) (ht : ∀ a b c, R a b → R b c → R a c) {E : se_} (hp : ∀ m p d P v j s, R s (pjA_ E m p d P v j s)) (m p d : Nat) (P : Nat → Int32) (v : Int32) : ∀ (u j : Nat) (s : sgA_), R s (pkA_ E m p d P v u j s)
  | 0, _, s => hr s
  | u + 1, j, s => ht _ _ _ (hp m p d P v j s) (pk_R hr ht hp m p d P v u (j + 1) _)
theorem pb_R {R : sgA_ → sgA_ → Prop} (hr : ∀ s, R s s) (ht : ∀ a b c, R a b → R b c → R a c) {E : se_} (hp : ∀ m p d P v j s, R s (pjA_ E m p d P v j s)) (m p d : Nat) (P : Nat → Int32) (v : Int32) (s : sgA_) : R s (pbA_ E m p d P v s) := by
  unfold pbA_
  split
  · exact pk_R hr ht hp m p d P v 8 0 s
  · exact hr s
theorem fn_lt (E : se_) (K : Int64) : ∀ (u i m : Nat), fnA_ E K u i = some m → m < i + u
  | 0, _, _, h => by cases h
  | u + 1, i, m, h => by
    rw [fnA_] at h
    split at h
    · cases h; omega
    · have := fn_lt E K u (i + 1) m h; omega
theorem in_R {R : sgA_ → sgA_ → Prop} (hr : ∀ s, R s s) (ht : ∀ a b c, R a b → R b c → R a c) {E : se_} (hp : ∀ m p d P v j s, R s (pjA_ E m p d P v j s)) (hi : ∀ s, R s (ivA_ s)) (hw : ∀ m, m < E.1 → wfX_ true (E.2.2.1 m)) : ∀ (u m : Nat) (P : Nat → Int32) (s : sgA_), m < E.1 → R s (inA_ E u m P s).2
  | 0, _, _, s, _ => hr s
  | u + 1, m, P, s, hm => by
    rw [inA_]
    have hI : ∀ K a s, R s (nmA_ E (10 - u) (inA_ E u) K a s).2 := fun K a s => by
      unfold nmA_
      cases hf : fnA_ E K E.1 0 with
      | none => exact hr s
      | some m2 =>
        simp only
        split
        · exact hr s
        split
        · exact hr s
        exact in_R hr ht hp hi hw u m2 _ s (by have := fn_lt E K E.1 0 m2 hf; omega)
    have h := ht _ _ _ (ht _ _ _ (hi s) (pb_R hr ht hp m 0 (10 - u) P 0 (ivA_ s))) (ES_R hr ht hI P true (E.2.2.1 m) (hw m hm) [] _)
    generalize ES_ (nmA_ E (10 - u) (inA_ E u)) P (E.2.2.1 m) [] (pbA_ E m 0 (10 - u) P 0 (ivA_ s)) = o at h ⊢
    obtain ⟨o, s2⟩ := o
    cases o with
    | inr q => exact ht _ _ _ h (pb_R hr ht hp m 2 (10 - u) P q.2 s2)
    | inl t => exact ht _ _ _ h (pb_R hr ht hp m 1 (10 - u) P (t.headD 0) s2)
/-- jobs stay what they are, or end -/
def KM_ (s s2 : sgA_) : Prop := ∀ j, j < 8 → (s2.1 j = s.1 j ∨ s2.1 j = 0)
theorem KM_rf (s : sgA_) : KM_ s s := fun _ _ => Or.inl rfl
theorem KM_tr (a b c : sgA_) (h : KM_ a b) (g : KM_ b c) : KM_ a c := fun j hj => by
  rcases g j hj with z | z
  · rw [z]; exact h j hj
  · exact Or.inr z
theorem KM_rc {E : se_} {j m d : Nat} {x e : Int32} {s : sgA_} : KM_ s (rcA_ E j m d x e s) := by
  intro i _
  have h : ∀ s2 : sgA_, s2 = (if s.2.1 j + 1 < E.2.2.2.2.1 j then sM_ s j (s.2.1 j + 1) else sK_ (sM_ s j (s.2.1 j + 1)) j 0) → s2.1 i = s.1 i ∨ s2.1 i = 0 := by
    intro s2 e2
    split at e2
    · rw [e2]; exact Or.inl rfl
    · rw [e2]
      show (if i = j then (0 : Int32) else s.1 i) = s.1 i ∨ (if i = j then (0 : Int32) else s.1 i) = 0
      split
      · exact Or.inr rfl
      · exact Or.inl rfl
  unfold rcA_
  have h2 := h _ rfl
  generalize (if s.2.1 j + 1 < E.2.2.2.2.1 j then sM_ s j (s.2.1 j + 1) else sK_ (sM_ s j (s.2.1 j + 1)) j 0) = q at h2 ⊢
  unfold sR5_
  split
  · exact h2
  · exact h2
theorem KM_wg {E : se_} {j m d : Nat} {V : Nat → Int32} {s : sgA_} : KM_ s (wgA_ E j m d V s) := by
  unfold wgA_
  split <;> exact KM_rc
theorem KM_wt {E : se_} {j m d : Nat} {V : Nat → Int32} {s : sgA_} : KM_ s (wtA_ E j m d V s) := by
  unfold wtA_
  split
  · exact KM_wg
  · split
    · split
      · exact KM_rf s
      · exact KM_wg
    · exact KM_rc
theorem KM_pj {E : se_} (m p d : Nat) (P : Nat → Int32) (v : Int32) (j : Nat) (s : sgA_) : KM_ s (pjA_ E m p d P v j s) := by
  unfold pjA_
  split
  · exact KM_rf s
  split
  · exact fun _ _ => Or.inl rfl
  split
  · unfold kpA_ sE7_
    split
    · exact KM_rf s
    · split
      · exact fun _ _ => Or.inl rfl
      · exact KM_rf s
  split
  · exact KM_wt
  · exact KM_rf s
