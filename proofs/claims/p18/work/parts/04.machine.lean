/-! A memory for a fixed set of cells, and the machine's rows over it. M.1: ints, M.2.1: longs, M.2.2: references, each by (cell, place).
G.1: where the cells lie; G.2.1: the arrays' kinds; G.2.2.1: kinds and slots of the objects; G.2.2.2: from which address on all may change. -/
abbrev mm_ : Type := (Nat → Nat → Int32) × (Nat → Nat → Int64) × (Nat → Nat → Option Nat)
abbrev gg_ : Type := (Nat → Nat) × (Nat → ClassId) × va_G × Nat
def fv_ (G : gg_) (M : mm_) (k j : Nat) : Nat → Value
  | 0 => .int (M.1 k j)
  | 1 => .long (M.2.1 k j)
  | 2 => va_rf ((M.2.2 k j).map G.1)
  | t + 3 => .ref (G.1 t)
def fl_ (G : gg_) (M : mm_) (k : Nat) : Nat → List Nat → List Value
  | _, [] => []
  | j, f :: fs => fv_ G M k j f :: fl_ G M k (j + 1) fs
def ce_ (G : gg_) (M : mm_) (k : Nat) : dd_ → va_E
  | .inl (t, n, 0) => .inl (G.2.1 t, n, .inl (M.1 k))
  | .inl (t, n, 1) => .inl (G.2.1 t, n, .inr (.inl (M.2.1 k)))
  | .inl (t, n, _ + 2) => .inl (G.2.1 t, n, .inr (.inr (.inr (.inr (fun i => (M.2.2 k i).map G.1)))))
  | .inr (ci, fs) => .inr (ci, fl_ G M k 0 fs)
def wk_ (G : gg_) (M : mm_) : Nat → List dd_ → va_W
  | _, [] => []
  | k, d :: ds => (G.1 k, ce_ G M k d) :: wk_ G M (k + 1) ds
abbrev wl_ (G : gg_) (M : mm_) : va_W := wk_ G M 0 ds_
def tk_ (tc : Nat → ClassId) : Nat → List FieldType → List (ClassId × FieldType)
  | _, [] => []
  | t, y :: ys => (tc t, y) :: tk_ tc (t + 1) ys
abbrev tt_ (G : gg_) : List (ClassId × FieldType) := tk_ G.2.1 0 tl_
theorem wk_get (G : gg_) (M : mm_) : ∀ (ds : List dd_) (k0 k : Nat), (wk_ G M k0 ds)[k]? = (ds[k]?).map (fun d => (G.1 (k0 + k), ce_ G M (k0 + k) d))
  | [], k0, k => by simp [wk_]
  | d :: ds, k0, 0 => by simp [wk_]
  | d :: ds, k0, k + 1 => by
    rw [wk_, List.getElem?_cons_succ, wk_get G M ds (k0 + 1) k, List.getElem?_cons_succ, Nat.add_right_comm, Nat.add_assoc]
theorem wl_at {G : gg_} {M : mm_} {k : Nat} {d : dd_} (h : ds_[k]? = some d) : (wl_ G M)[k]? = some (G.1 k, ce_ G M k d) := by
  rw [wk_get, h, Nat.zero_add]; rfl
theorem wl_set {G : gg_} {M M' : mm_} {k : Nat} {d : dd_} (h : ds_[k]? = some d) (he : ∀ (j : Nat) (d' : dd_), j ≠ k → ce_ G M' j d' = ce_ G M j d') : (wl_ G M).set k (G.1 k, ce_ G M' k d) = wl_ G M' := by
  apply List.ext_getElem?
  intro j
  by_cases hj : j = k
  · subst hj
    have hl : j < (wl_ G M).length := (List.getElem?_eq_some_iff.mp (wl_at (G := G) (M := M) h)).1
    rw [List.getElem?_set_self hl, wl_at h]
  · rw [List.getElem?_set_ne (Ne.symm hj), wk_get, wk_get]
    cases hd : ds_[j]? with
    | none => rfl
    | some d' =>
      simp only [Option.map_some, Nat.zero_add]
      rw [he j d' hj]
def sI_ (M : mm_) (a i : Nat) (v : Int32) : mm_ := (fun x j => if x = a ∧ j = i then v else M.1 x j, M.2.1, M.2.2)
def sL_ (M : mm_) (a i : Nat) (v : Int64) : mm_ := (M.1, fun x j => if x = a ∧ j = i then v else M.2.1 x j, M.2.2)
def sR_ (M : mm_) (a i : Nat) (v : Option Nat) : mm_ := (M.1, M.2.1, fun x j => if x = a ∧ j = i then v else M.2.2 x j)
theorem fl_eq {G : gg_} {M M' : mm_} {j : Nat} (h1 : M'.1 j = M.1 j) (h2 : M'.2.1 j = M.2.1 j) (h3 : M'.2.2 j = M.2.2 j) : ∀ (fs : List Nat) (n : Nat), fl_ G M' j n fs = fl_ G M j n fs
  | [], n => rfl
  | f :: fs, n => by
    rw [fl_, fl_, fl_eq h1 h2 h3 fs (n + 1)]
    match f with
    | 0 => simp only [fv_, h1]
    | 1 => simp only [fv_, h2]
    | 2 => simp only [fv_, h3]
    | t + 3 => rfl
theorem ce_eq {G : gg_} {M M' : mm_} {j : Nat} (h1 : M'.1 j = M.1 j) (h2 : M'.2.1 j = M.2.1 j) (h3 : M'.2.2 j = M.2.2 j) (d : dd_) : ce_ G M' j d = ce_ G M j d := by
  match d with
  | .inl (t, n, 0) => simp only [ce_, h1]
  | .inl (t, n, 1) => simp only [ce_, h2]
  | .inl (t, n, i + 2) => simp only [ce_, h3]
  | .inr (ci, fs) => simp only [ce_, fl_eq h1 h2 h3 fs 0]
theorem ce_sI {G : gg_} {M : mm_} {a i : Nat} {v : Int32} (j : Nat) (d : dd_) (h : j ≠ a) : ce_ G (sI_ M a i v) j d = ce_ G M j d := ce_eq (M := M) (M' := sI_ M a i v) (funext fun x => by simp [sI_, h]) rfl rfl d
theorem ce_sL {G : gg_} {M : mm_} {a i : Nat} {v : Int64} (j : Nat) (d : dd_) (h : j ≠ a) : ce_ G (sL_ M a i v) j d = ce_ G M j d := ce_eq (M := M) (M' := sL_ M a i v) rfl (funext fun x => by simp [sL_, h]) rfl d
theorem ce_sR {G : gg_} {M : mm_} {a i : Nat} {v : Option Nat} (j : Nat) (d : dd_) (h : j ≠ a) : ce_ G (sR_ M a i v) j d = ce_ G M j d := ce_eq (M := M) (M' := sR_ M a i v) rfl rfl (funext fun x => by simp [sR_, h]) d
theorem fl_get {G : gg_} {M : mm_} {k : Nat} : ∀ (fs : List Nat) (n j : Nat), (fl_ G M k n fs)[j]? = (fs[j]?).map (fv_ G M k (n + j))
  | [], n, j => by simp [fl_]
  | f :: fs, n, 0 => by simp [fl_]
  | f :: fs, n, j + 1 => by
    rw [fl_, List.getElem?_cons_succ, fl_get fs (n + 1) j, List.getElem?_cons_succ, Nat.add_right_comm, Nat.add_assoc]
theorem fl_at {G : gg_} {M : mm_} {k j f : Nat} {fs : List Nat} (h : fs[j]? = some f) : (fl_ G M k 0 fs)[j]? = some (fv_ G M k j f) := by
  rw [fl_get, h, Nat.zero_add]; rfl
theorem fl_set {G : gg_} {M M' : mm_} {k j f : Nat} {fs : List Nat} (h : fs[j]? = some f) (he : ∀ i g, i ≠ j → fv_ G M' k i g = fv_ G M k i g) : (fl_ G M k 0 fs).set j (fv_ G M' k j f) = fl_ G M' k 0 fs := by
  apply List.ext_getElem?
  intro i
  by_cases hi : i = j
  · subst hi
    have hl : i < (fl_ G M k 0 fs).length := (List.getElem?_eq_some_iff.mp (fl_at (G := G) (M := M) (k := k) h)).1
    rw [List.getElem?_set_self hl, fl_at h]
  · rw [List.getElem?_set_ne (Ne.symm hi), fl_get, fl_get]
    cases hd : fs[i]? with
    | none => rfl
    | some g => simp only [Option.map_some, Nat.zero_add]; rw [he i g hi]
theorem fv_sI {G : gg_} {M : mm_} {k j : Nat} {v : Int32} (i g : Nat) (h : i ≠ j) : fv_ G (sI_ M k j v) k i g = fv_ G M k i g := by
  match g with
  | 0 => simp [fv_, sI_, h]
  | 1 => rfl
  | 2 => rfl
  | t + 3 => rfl
theorem fv_sL {G : gg_} {M : mm_} {k j : Nat} {v : Int64} (i g : Nat) (h : i ≠ j) : fv_ G (sL_ M k j v) k i g = fv_ G M k i g := by
  match g with
  | 0 => rfl
  | 1 => simp [fv_, sL_, h]
  | 2 => rfl
  | t + 3 => rfl
def aw_ (G : gg_) : Nat → Prop := fun q => G.2.2.2 ≤ q
def gd_ (G : gg_) : Prop := (∀ i j : Nat, i < ds_.length → j < ds_.length → G.1 i = G.1 j → i = j) ∧ ∀ k : Nat, k < ds_.length → G.2.2.2 ≤ G.1 k
theorem wl_D {G : gg_} {M : mm_} (h : gd_ G) : va_D (aw_ G) (wl_ G M) := by
  have key : ∀ (k : Nat) (q : Nat × va_E), (wl_ G M)[k]? = some q → k < ds_.length ∧ q.1 = G.1 k := by
    intro k q hk
    rw [wk_get] at hk
    cases hd : ds_[k]? with
    | none => rw [hd] at hk; cases hk
    | some d =>
      rw [hd] at hk
      cases hk
      exact ⟨(List.getElem?_eq_some_iff.mp hd).1, by simp⟩
  refine ⟨fun i j x y hi hj hxy => ?_, fun k q hk => ?_⟩
  · obtain ⟨a1, a2⟩ := key i x hi
    obtain ⟨b1, b2⟩ := key j y hj
    exact h.1 i j a1 b1 (by rw [← a2, ← b2]; exact hxy)
  · obtain ⟨a1, a2⟩ := key k q hk
    rw [a2]
    exact h.2 k a1
/-! the locals: a list, none where nothing is known -/
def al_ : Nat → List (Option Value) → List (Nat × Value)
  | _, [] => []
  | i, none :: t => al_ (i + 1) t
  | i, some v :: t => (i, v) :: al_ (i + 1) t
def dp_ : Option Value → Option Value
  | some (.long _) => none
  | some (.double _) => none
  | o => o
def l1_ : List (Option Value) → Nat → Value → List (Option Value)
  | [], _, _ => []
  | _ :: t, 0, v => some v :: t
  | o :: t, 1, v => dp_ o :: l1_ t 0 v
  | o :: t, i + 2, v => o :: l1_ t (i + 1) v
def l2_ : List (Option Value) → Nat → Value → List (Option Value)
  | [], _, _ => []
  | [_], 0, v => [some v]
  | _ :: _ :: t, 0, v => some v :: none :: t
  | o :: t, 1, v => dp_ o :: l2_ t 0 v
  | o :: t, i + 2, v => o :: l2_ t (i + 1) v
theorem al_mem : ∀ (lv : List (Option Value)) (i0 : Nat) (q : Nat × Value), q ∈ al_ i0 lv ↔ ∃ i, q.1 = i0 + i ∧ lv[i]? = some (some q.2)
  | [], i0, q => by simp [al_]
  | none :: t, i0, q => by
    rw [al_, al_mem t (i0 + 1) q]
    constructor
    · rintro ⟨i, h1, h2⟩
      exact ⟨i + 1, by omega, by simpa using h2⟩
    · rintro ⟨i, h1, h2⟩
      match i, h2 with
      | 0, h2 => simp at h2
      | i + 1, h2 => exact ⟨i, by omega, by simpa using h2⟩
  | some v :: t, i0, q => by
    rw [al_, List.mem_cons, al_mem t (i0 + 1) q]
    constructor
    · rintro (h | ⟨i, h1, h2⟩)
      · subst h; exact ⟨0, rfl, rfl⟩
      · exact ⟨i + 1, by omega, by simpa using h2⟩
    · rintro ⟨i, h1, h2⟩
      match i, h2 with
      | 0, h2 =>
        left
        simp at h2
        obtain ⟨a, b⟩ := q
        simp at h1 h2
        rw [h1, ← h2]
      | i + 1, h2 => exact Or.inr ⟨i, by omega, by simpa using h2⟩
theorem dp_some {o : Option Value} {w : Value} (h : dp_ o = some w) : o = some w ∧ ¬ w.category = 2 := by
  match o, h with
  | none, h => cases h
  | some (.int x), h => cases h; exact ⟨rfl, by simp [Value.category]⟩
  | some (.long x), h => cases h
  | some (.float x), h => cases h; exact ⟨rfl, by simp [Value.category]⟩
  | some (.double x), h => cases h
  | some .null, h => cases h; exact ⟨rfl, by simp [Value.category]⟩
  | some (.ref x), h => cases h; exact ⟨rfl, by simp [Value.category]⟩
  | some (.retAddr x), h => cases h; exact ⟨rfl, by simp [Value.category]⟩
theorem l1_get : ∀ (lv : List (Option Value)) (i : Nat) (v : Value) (j : Nat) (w : Value), (l1_ lv i v)[j]? = some (some w) → (j = i ∧ w = v) ∨ (j ≠ i ∧ lv[j]? = some (some w) ∧ ¬ (j + 1 = i ∧ w.category = 2))
  | [], i, v, j, w, h => by simp [l1_] at h
  | o :: t, 0, v, j, w, h => by
    match j, h with
    | 0, h => left; simp [l1_] at h; exact ⟨rfl, h.symm⟩
    | j + 1, h => right; exact ⟨by omega, by simpa [l1_] using h, by omega⟩
  | o :: t, 1, v, j, w, h => by
    match j, h with
    | 0, h =>
      right
      simp only [l1_, List.getElem?_cons_zero, Option.some.injEq] at h
      obtain ⟨h1, h2⟩ := dp_some h
      exact ⟨by omega, by rw [h1]; rfl, fun q => h2 q.2⟩
    | j + 1, h =>
      simp only [l1_, List.getElem?_cons_succ] at h
      rcases l1_get t 0 v j w h with ⟨h1, h2⟩ | ⟨h1, h2, h3⟩
      · exact Or.inl ⟨by omega, h2⟩
      · exact Or.inr ⟨by omega, by simpa using h2, fun q => by omega⟩
  | o :: t, i + 2, v, j, w, h => by
    match j, h with
    | 0, h => right; exact ⟨by omega, by simpa [l1_] using h, by omega⟩
    | j + 1, h =>
      simp only [l1_, List.getElem?_cons_succ] at h
      rcases l1_get t (i + 1) v j w h with ⟨h1, h2⟩ | ⟨h1, h2, h3⟩
      · exact Or.inl ⟨by omega, h2⟩
      · exact Or.inr ⟨by omega, by simpa using h2, fun q => h3 ⟨by omega, q.2⟩⟩
theorem l2_get : ∀ (lv : List (Option Value)) (i : Nat) (v : Value) (j : Nat) (w : Value), (l2_ lv i v)[j]? = some (some w) → (j = i ∧ w = v) ∨ (j ≠ i ∧ j ≠ i + 1 ∧ lv[j]? = some (some w) ∧ ¬ (j + 1 = i ∧ w.category = 2))
  | [], i, v, j, w, h => by simp [l2_] at h
  | [o], 0, v, j, w, h => by
    match j, h with
    | 0, h => left; simp [l2_] at h; exact ⟨rfl, h.symm⟩
    | j + 1, h => simp [l2_] at h
  | o :: o2 :: t, 0, v, j, w, h => by
    match j, h with
    | 0, h => left; simp [l2_] at h; exact ⟨rfl, h.symm⟩
    | 1, h => simp [l2_] at h
    | j + 2, h => right; exact ⟨by omega, by omega, by simpa [l2_] using h, by omega⟩
  | o :: t, 1, v, j, w, h => by
    match j, h with
    | 0, h =>
      right
      simp only [l2_, List.getElem?_cons_zero, Option.some.injEq] at h
      obtain ⟨h1, h2⟩ := dp_some h
      exact ⟨by omega, by omega, by rw [h1]; rfl, fun q => h2 q.2⟩
    | j + 1, h =>
      simp only [l2_, List.getElem?_cons_succ] at h
      rcases l2_get t 0 v j w h with ⟨h1, h2⟩ | ⟨h1, h1', h2, h3⟩
      · exact Or.inl ⟨by omega, h2⟩
      · exact Or.inr ⟨by omega, by omega, by simpa using h2, fun q => by omega⟩
  | o :: t, i + 2, v, j, w, h => by
    match j, h with
    | 0, h => right; exact ⟨by omega, by omega, by simpa [l2_] using h, by omega⟩
    | j + 1, h =>
      simp only [l2_, List.getElem?_cons_succ] at h
      rcases l2_get t (i + 1) v j w h with ⟨h1, h2⟩ | ⟨h1, h1', h2, h3⟩
      · exact Or.inl ⟨by omega, h2⟩
      · exact Or.inr ⟨by omega, by omega, by simpa using h2, fun q => h3 ⟨by omega, q.2⟩⟩
def lh_ (n : Nat) (ls : Array Slot) (lv : List (Option Value)) : Prop := lv_has ls n (al_ 0 lv)
theorem lh_at {n : Nat} {ls : Array Slot} {lv : List (Option Value)} {i : Nat} {v : Value} (h : lh_ n ls lv) (hv : lv[i]? = some (some v)) : ls[i]? = some (.val v) := h.2.2 (i, v) ((al_mem lv 0 (i, v)).mpr ⟨i, by simp, hv⟩)
theorem lh_sub {n : Nat} {ls : Array Slot} {lv : List (Option Value)} {l : List (Nat × Value)} (h : lv_has ls n l) (hs : ∀ q ∈ al_ 0 lv, q ∈ l) : lh_ n ls lv := ⟨h.1, h.2.1, fun q hq => h.2.2 q (hs q hq)⟩
theorem lh_1 {lv : List (Option Value)} {i : Nat} {v : Value} : ∀ q ∈ al_ 0 (l1_ lv i v), q ∈ (i, v) :: (al_ 0 lv).filter (fun q => !(q.1 == i) && !(q.1 + 1 == i && q.2.category == 2)) := by
  intro q hq
  obtain ⟨j, h1, h2⟩ := (al_mem _ 0 q).mp hq
  rw [Nat.zero_add] at h1
  obtain ⟨a, b⟩ := q
  simp only at h1 h2
  subst h1
  rcases l1_get lv i v a b h2 with ⟨e1, e2⟩ | ⟨e1, e2, e3⟩
  · rw [e1, e2]; exact List.mem_cons_self
  · refine List.mem_cons_of_mem _ (List.mem_filter.mpr ⟨(al_mem lv 0 (a, b)).mpr ⟨a, by simp, e2⟩, ?_⟩)
    have e4 : (a == i) = false := by simpa using e1
    have e5 : (a + 1 == i && b.category == 2) = false := by
      cases h6 : (a + 1 == i && b.category == 2) with
      | false => rfl
      | true =>
        rw [Bool.and_eq_true, beq_iff_eq, beq_iff_eq] at h6
        exact absurd h6 e3
    simp only [e4, e5]; rfl
theorem lh_2 {lv : List (Option Value)} {i : Nat} {v : Value} : ∀ q ∈ al_ 0 (l2_ lv i v), q ∈ (i, v) :: (al_ 0 lv).filter (fun q => !(q.1 == i) && (!(q.1 == i + 1) && !(q.1 + 1 == i && q.2.category == 2))) := by
  intro q hq
  obtain ⟨j, h1, h2⟩ := (al_mem _ 0 q).mp hq
  rw [Nat.zero_add] at h1
  obtain ⟨a, b⟩ := q
  simp only at h1 h2
  subst h1
  rcases l2_get lv i v a b h2 with ⟨e1, e2⟩ | ⟨e1, e0, e2, e3⟩
  · rw [e1, e2]; exact List.mem_cons_self
  · refine List.mem_cons_of_mem _ (List.mem_filter.mpr ⟨(al_mem lv 0 (a, b)).mpr ⟨a, by simp, e2⟩, ?_⟩)
    have e4 : (a == i) = false := by simpa using e1
    have e7 : (a == i + 1) = false := by simpa using e0
    have e5 : (a + 1 == i && b.category == 2) = false := by
      cases h6 : (a + 1 == i && b.category == 2) with
      | false => rfl
      | true =>
        rw [Bool.and_eq_true, beq_iff_eq, beq_iff_eq] at h6
        exact absurd h6 e3
    simp only [e4, e5, e7]; rfl
def en_ : Nat → List Value → List (Option Value)
  | n, [] => List.replicate n none
  | n, .long x :: vs => some (.long x) :: none :: en_ (n - 2) vs
  | n, .double x :: vs => some (.double x) :: none :: en_ (n - 2) vs
  | n, v :: vs => some v :: en_ (n - 1) vs
theorem en_mem : ∀ (vs : List Value) (n i0 : Nat), ∀ q ∈ al_ i0 (en_ n vs), q ∈ lv_args i0 vs
  | [], n, i0, q, h => by
    obtain ⟨i, h1, h2⟩ := (al_mem _ i0 q).mp h
    simp only [en_] at h2
    have h3 := List.mem_of_getElem? h2
    rw [List.mem_replicate] at h3
    cases h3.2
  | .long x :: vs, n, i0, q, h => by
    simp only [en_, al_, List.mem_cons] at h
    simp only [lv_args, List.mem_cons]
    rcases h with h | h
    · exact Or.inl h
    · exact Or.inr (by simpa [Value.category] using en_mem vs (n - 2) (i0 + 1 + 1) q h)
  | .double x :: vs, n, i0, q, h => by
    simp only [en_, al_, List.mem_cons] at h
    simp only [lv_args, List.mem_cons]
    rcases h with h | h
    · exact Or.inl h
    · exact Or.inr (by simpa [Value.category] using en_mem vs (n - 2) (i0 + 1 + 1) q h)
  | .int x :: vs, n, i0, q, h => by
    simp only [en_, al_, List.mem_cons] at h
    simp only [lv_args, List.mem_cons]
    exact h.elim Or.inl (fun h => Or.inr (by simpa [Value.category] using en_mem vs (n - 1) (i0 + 1) q h))
  | .float x :: vs, n, i0, q, h => by
    simp only [en_, al_, List.mem_cons] at h
    simp only [lv_args, List.mem_cons]
    exact h.elim Or.inl (fun h => Or.inr (by simpa [Value.category] using en_mem vs (n - 1) (i0 + 1) q h))
  | .null :: vs, n, i0, q, h => by
    simp only [en_, al_, List.mem_cons] at h
    simp only [lv_args, List.mem_cons]
    exact h.elim Or.inl (fun h => Or.inr (by simpa [Value.category] using en_mem vs (n - 1) (i0 + 1) q h))
  | .ref x :: vs, n, i0, q, h => by
    simp only [en_, al_, List.mem_cons] at h
    simp only [lv_args, List.mem_cons]
    exact h.elim Or.inl (fun h => Or.inr (by simpa [Value.category] using en_mem vs (n - 1) (i0 + 1) q h))
  | .retAddr x :: vs, n, i0, q, h => by
    simp only [en_, al_, List.mem_cons] at h
    simp only [lv_args, List.mem_cons]
    exact h.elim Or.inl (fun h => Or.inr (by simpa [Value.category] using en_mem vs (n - 1) (i0 + 1) q h))

