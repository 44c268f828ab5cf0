/-! The class's Machine runs the code of a tree as ES_ says -/
def st_ (b : Nat) : List Int32 → mm_ → Prop
  | [], _ => True
  | x :: t, N => N.1 261 (b + t.length) = x ∧ st_ b t N
theorem st_cg {b : Nat} : ∀ {t : List Int32} {M N : mm_}, (∀ i, i < b + t.length → N.1 261 i = M.1 261 i) → st_ b t M → st_ b t N
  | [], _, _, _, _ => trivial
  | x :: t, M, N, h, g => ⟨by rw [h _ (by rw [List.length_cons]; omega)]; exact g.1, st_cg (fun i hi => h i (by rw [List.length_cons]; omega)) g.2⟩
/-- what a run at depth r, the stack b high, leaves alone -/
def XF_ (r b : Nat) (M N : mm_) : Prop := N.2 = M.2 ∧ (∀ a i, faX_ a i → N.1 a i = M.1 a i) ∧ (∀ q i, q ≤ r → N.1 (249 + q) i = M.1 (249 + q) i) ∧ (∀ i, i < b → N.1 261 i = M.1 261 i) ∧ N.1 247 9 = M.1 247 9 ∧ ∀ t, t < 9 → (N.1 (135 + 12 * t) 0 = M.1 (135 + 12 * t) 0 ∨ N.1 (135 + 12 * t) 0 = 0)
theorem XF_rf {r b : Nat} {M : mm_} : XF_ r b M M := ⟨rfl, fun _ _ _ => rfl, fun _ _ _ => rfl, fun _ _ => rfl, rfl, fun _ _ => Or.inl rfl⟩
theorem XF_tr {r b : Nat} {A B D : mm_} (h : XF_ r b A B) (g : XF_ r b B D) : XF_ r b A D := ⟨g.1.trans h.1, fun a i z => (g.2.1 a i z).trans (h.2.1 a i z), fun q i z => (g.2.2.1 q i z).trans (h.2.2.1 q i z), fun i z => (g.2.2.2.1 i z).trans (h.2.2.2.1 i z), g.2.2.2.2.1.trans h.2.2.2.2.1, fun t ht => by
  rcases g.2.2.2.2.2 t ht with y | y
  · rw [y]; exact h.2.2.2.2.2 t ht
  · exact Or.inr y⟩
theorem XF_le {r b r2 b2 : Nat} {M N : mm_} (h : XF_ r b M N) (hr : r2 ≤ r) (hb : b2 ≤ b) : XF_ r2 b2 M N := ⟨h.1, h.2.1, fun q i z => h.2.2.1 q i (by omega), fun i z => h.2.2.2.1 i (by omega), h.2.2.2.2⟩
/-- one place changes -/
theorem XF_I {r b a i : Nat} {M N : mm_} {v : Int32} (ha : ¬ faX_ a i) (h1 : ∀ q, q ≤ r → ¬ a = 249 + q) (h2 : a = 261 → b ≤ i) (h3 : ¬ (a = 247 ∧ i = 9)) (h4 : ∀ t, t < 9 → a = 135 + 12 * t → i = 0 → v = 0) (h : XF_ r b M N) : XF_ r b M (sI_ N a i v) := ⟨h.1, fun a2 j z => by rw [gI_sI, if_neg (fun y => ha (by rw [← y.1, ← y.2]; exact z))]; exact h.2.1 a2 j z, fun q j z => by rw [gI_sI, if_neg (fun y => h1 q z y.1.symm)]; exact h.2.2.1 q j z, fun j z => by rw [gI_sI, if_neg (fun y => by have := h2 y.1.symm; omega)]; exact h.2.2.2.1 j z, by rw [gI_sI, if_neg (fun y => h3 ⟨y.1.symm, y.2.symm⟩)]; exact h.2.2.2.2.1, fun t ht => by
  rw [gI_sI]
  split
  · rename_i y; exact Or.inr (h4 t ht y.1.symm y.2.symm)
  · exact h.2.2.2.2.2 t ht⟩
theorem XF_247 {r b i : Nat} {M N : mm_} {v : Int32} (hr : r ≤ 11) (h9 : ¬ i = 9) (h : XF_ r b M N) : XF_ r b M (sI_ N 247 i v) := XF_I (by unfold faX_; omega) (fun q _ => by omega) (fun y => by omega) (by omega) (fun t ht y => by omega) h
theorem XF_261 {r b i : Nat} {M N : mm_} {v : Int32} (hr : r ≤ 11) (hi : b ≤ i) (h : XF_ r b M N) : XF_ r b M (sI_ N 261 i v) := XF_I (by unfold faX_; omega) (fun q _ => by omega) (fun _ => hi) (by omega) (fun t ht y => by omega) h
/-- the moving state, in the class -/
def DX_ (J : Nat → Nat) (s : sgA_) (N : mm_) : Prop := (∀ j, j < 8 → N.1 (135 + 12 * J j) 0 = s.1 j ∧ N.1 (135 + 12 * J j) 7 = s.2.1 j ∧ ∀ i, i < 48 → N.1 (135 + 12 * J j + 11) i = s.2.2.1 j i) ∧
  (N.1 243 0 = 300 ∧ N.1 243 1 = 5 ∧ N.1 243 3 = nI s.2.2.2.1.1 ∧ s.2.2.2.1.1 ≤ 300 ∧ ∀ i, i < s.2.2.2.1.1 * 5 → N.1 244 i = s.2.2.2.1.2 i) ∧
  (N.1 245 0 = 40 ∧ N.1 245 1 = 7 ∧ N.1 245 3 = nI s.2.2.2.2.1.1 ∧ s.2.2.2.2.1.1 ≤ 40 ∧ ∀ i, i < s.2.2.2.2.1.1 * 7 → N.1 246 i = s.2.2.2.2.1.2 i) ∧ N.1 247 1 = nI s.2.2.2.2.2 ∧ s.2.2.2.2.2 ≤ 1000
theorem DX_cg {J : Nat → Nat} {s : sgA_} {M N : mm_} (hJ : ∀ j, j < 8 → J j < 9) (h : ∀ a i, (135 ≤ a ∧ a ≤ 246) ∨ (a = 247 ∧ i = 1) → N.1 a i = M.1 a i) (g : DX_ J s M) : DX_ J s N := by
  obtain ⟨g1, ⟨a1, a2, a3, a4, a5⟩, ⟨b1, b2, b3, b4, b5⟩, g4, g5⟩ := g
  refine ⟨fun j hj => ?_, ⟨by rw [h _ _ (by omega)]; exact a1, by rw [h _ _ (by omega)]; exact a2, by rw [h _ _ (by omega)]; exact a3, a4, fun i hi => by rw [h _ _ (by omega)]; exact a5 i hi⟩, ⟨by rw [h _ _ (by omega)]; exact b1, by rw [h _ _ (by omega)]; exact b2, by rw [h _ _ (by omega)]; exact b3, b4, fun i hi => by rw [h _ _ (by omega)]; exact b5 i hi⟩, by rw [h _ _ (by omega)]; exact g4, g5⟩
  have := hJ j hj
  obtain ⟨c1, c2, c3⟩ := g1 j hj
  exact ⟨by rw [h _ _ (by omega)]; exact c1, by rw [h _ _ (by omega)]; exact c2, fun i hi => by rw [h _ _ (by omega)]; exact c3 i hi⟩
theorem DX_m {J : Nat → Nat} {s : sgA_} {M : mm_} {a i : Nat} {v : Int32} (hJ : ∀ j, j < 8 → J j < 9) (ha : 247 ≤ a) (hi : ¬ (a = 247 ∧ i = 1)) (g : DX_ J s M) : DX_ J s (sI_ M a i v) := DX_cg hJ (fun b j z => by rw [gI_sI, if_neg (by omega)]) g
/-- within a run: the values t on the stack -/
def ZX_ (J : Nat → Nat) (r b : Nat) (M0 : mm_) (z : Int32) (t : List Int32) (s : sgA_) (N : mm_) : Prop := XF_ r b M0 N ∧ N.1 247 8 = nI (b + t.length) ∧ st_ b t N ∧ N.1 247 10 = 0 ∧ N.1 247 12 = z ∧ DX_ J s N
/-- something is thrown; the values t are still below -/
def TX_ (J : Nat → Nat) (r b : Nat) (M0 : mm_) (z : Int32) (t : List Int32) (q : Nat × Int32) (s : sgA_) (N : mm_) : Prop := XF_ r b M0 N ∧ (∃ h, h ≤ 220 ∧ N.1 247 8 = nI h) ∧ st_ b t N ∧ N.1 247 10 = 1 ∧ N.1 247 11 = q.2 ∧ N.1 247 12 = (if q.1 = 2 then 1 else z) ∧ DX_ J s N
section ZX
variable {J : Nat → Nat} {r b : Nat} {M0 : mm_} {z : Int32} {t : List Int32} {s : sgA_} {N : mm_} {q : Nat × Int32}
theorem ZX_push (hJ : ∀ j, j < 8 → J j < 9) (hr : r ≤ 11) (hb : b + t.length < 220) (v : Int32) (h : ZX_ J r b M0 z t s N) : ZX_ J r b M0 z (v :: t) s (puX_ N (b + t.length) v) := by
  obtain ⟨h1, h2, h3, h4, h5, h6⟩ := h
  unfold puX_
  rw [if_pos hb]
  refine ⟨XF_247 hr (by omega) (XF_261 hr (by omega) h1), by rw [gI_sI, if_pos ⟨rfl, rfl⟩, List.length_cons, Nat.add_assoc], ⟨by rw [gI_sI, if_neg (by omega), gI_sI, if_pos ⟨rfl, rfl⟩], st_cg (fun i hi => by rw [gI_sI, if_neg (by omega), gI_sI, if_neg (by omega)]) h3⟩, by rw [gI_sI, if_neg (by omega), gI_sI, if_neg (by omega)]; exact h4, by rw [gI_sI, if_neg (by omega), gI_sI, if_neg (by omega)]; exact h5, DX_m hJ (by omega) (by omega) (DX_m hJ (by omega) (by omega) h6)⟩
theorem ZX_pop (hJ : ∀ j, j < 8 → J j < 9) (hr : r ≤ 11) {x : Int32} (h : ZX_ J r b M0 z (x :: t) s N) : (ppX_ N (b + (x :: t).length)).1 = x ∧ ZX_ J r b M0 z t s (ppX_ N (b + (x :: t).length)).2 := by
  obtain ⟨h1, h2, h3, h4, h5, h6⟩ := h
  rw [List.length_cons, pp_pos (by omega), show b + (t.length + 1) - 1 = b + t.length by omega]
  exact ⟨h3.1, XF_247 hr (by omega) h1, by rw [gI_sI, if_pos ⟨rfl, rfl⟩], st_cg (fun i hi => by rw [gI_sI, if_neg (by omega)]) h3.2, by rw [gI_sI, if_neg (by omega)]; exact h4, by rw [gI_sI, if_neg (by omega)]; exact h5, DX_m hJ (by omega) (by omega) h6⟩
theorem ZX_fl (hJ : ∀ j, j < 8 → J j < 9) (hr : r ≤ 11) (hb : b + t.length ≤ 220) (v : Int32) (h : ZX_ J r b M0 z t s N) : TX_ J r b M0 z t (1, v) s (flX_ N v) := by
  obtain ⟨h1, h2, h3, h4, h5, h6⟩ := h
  unfold flX_
  refine ⟨XF_247 hr (by omega) (XF_247 hr (by omega) h1), ⟨b + t.length, hb, by rw [gI_sI, if_neg (by omega), gI_sI, if_neg (by omega)]; exact h2⟩, st_cg (fun i hi => by rw [gI_sI, if_neg (by omega), gI_sI, if_neg (by omega)]) h3, by rw [gI_sI, if_neg (by omega), gI_sI, if_pos ⟨rfl, rfl⟩], by rw [gI_sI, if_pos ⟨rfl, rfl⟩], by rw [gI_sI, if_neg (by omega), gI_sI, if_neg (by omega), if_neg (by simp)]; exact h5, DX_m hJ (by omega) (by omega) (DX_m hJ (by omega) (by omega) h6)⟩
theorem TX_dn {x : Int32} (h : TX_ J r b M0 z (x :: t) q s N) : TX_ J r b M0 z t q s N := ⟨h.1, h.2.1, h.2.2.1.2, h.2.2.2⟩
end ZX
theorem st_ap {b : Nat} {N : mm_} : ∀ {u t : List Int32}, st_ b (u ++ t) N → st_ b t N
  | [], _, h => h
  | _ :: _, _, h => st_ap h.2
/-! codes in a code -/
def SG_ (C0 C : List cq2_) (L : Nat) : Prop := ∀ (i : Nat) (q : cq2_), C[i]? = some q → C0[L + i]? = some q
theorem SG_l {C0 A B : List cq2_} {L : Nat} (h : SG_ C0 (A ++ B) L) : SG_ C0 A L := fun i q hq => h i q (by rw [List.getElem?_append_left (List.getElem?_eq_some_iff.mp hq).1]; exact hq)
theorem SG_r {C0 A B : List cq2_} {L : Nat} (h : SG_ C0 (A ++ B) L) : SG_ C0 B (L + A.length) := fun i q hq => by
  rw [Nat.add_assoc]
  exact h _ q (by rw [List.getElem?_append_right (by omega), Nat.add_sub_cancel_left]; exact hq)
theorem SG_h {C0 B : List cq2_} {x : cq2_} {L : Nat} (h : SG_ C0 (x :: B) L) : C0[L]? = some x := h 0 x rfl
theorem SG_t {C0 B : List cq2_} {x : cq2_} {L : Nat} (h : SG_ C0 (x :: B) L) : SG_ C0 B (L + 1) := fun i q hq => by
  rw [Nat.add_assoc, Nat.add_comm 1]
  exact h (i + 1) q (by rw [List.getElem?_cons_succ]; exact hq)
/-- a # in the code of a tree begins within it -/
theorem st6_ : ∀ (g : Bool) (e : Term), wfX_ g e → ∀ (L : Nat) (H : Int32) (i : Nat) (q : cq2_), (cqX_ e L H)[i]? = some q → q.1 = 6 → ∃ m, q.2.2.1 = nI m ∧ L ≤ m ∧ m ≤ L + i
  | true, .int v, _, L, H, i, q, h, h6 => by
    rw [cqX_] at h
    cases i with
    | zero => cases h; exact absurd h6 (by simp only; decide)
    | succ i => cases h
  | true, .index v, _, L, H, i, q, h, h6 => by
    rw [cqX_] at h
    cases i with
    | zero => cases h; exact absurd h6 (by simp only; decide)
    | succ i => cases h
  | true, .length e, w, L, H, i, q, h, h6 => by
    rw [cqX_] at h
    rcases Nat.lt_or_ge i (cqX_ e L H).length with z | z
    · rw [List.getElem?_append_left z] at h; exact st6_ true e w L H i q h h6
    · rw [List.getElem?_append_right z] at h
      cases hk : i - (cqX_ e L H).length with
      | zero => rw [hk] at h; cases h; exact absurd h6 (by simp only; decide)
      | succ j => rw [hk] at h; cases h
  | true, .sum e, w, L, H, i, q, h, h6 => by
    rw [cqX_] at h
    rcases Nat.lt_or_ge i (cqX_ e L H).length with z | z
    · rw [List.getElem?_append_left z] at h; exact st6_ true e w L H i q h h6
    · rw [List.getElem?_append_right z] at h
      cases hk : i - (cqX_ e L H).length with
      | zero => rw [hk] at h; cases h; exact absurd h6 (by simp only; decide)
      | succ j => rw [hk] at h; cases h
  | true, .elem s (.add a b), w, L, H, i, q, h, h6 => by
    rw [cqX_, cqX_] at h
    rcases Nat.lt_or_ge i (cqX_ a L H ++ cqX_ b (L + snX_ a) (H + 1)).length with z | z
    · rw [List.getElem?_append_left z] at h
      rcases Nat.lt_or_ge i (cqX_ a L H).length with y | y
      · rw [List.getElem?_append_left y] at h; exact st6_ true a w.2.1 L H i q h h6
      · rw [List.getElem?_append_right y] at h
        obtain ⟨m, m1, m2, m3⟩ := st6_ true b w.2.2 _ _ _ q h h6
        rw [cq_len] at y m3
        exact ⟨m, m1, by omega, by omega⟩
    · rw [List.getElem?_append_right z] at h
      cases hk : i - (cqX_ a L H ++ cqX_ b (L + snX_ a) (H + 1)).length with
      | zero =>
        rw [hk] at h; cases h
        exact absurd (show kd_ (sg2_ s) = 0 by rw [show sg2_ s = 6 from h6]; decide) w.1
      | succ j => rw [hk] at h; cases h
  | true, .mul a (.div b c), w, L, H, i, q, h, h6 => by
    rw [cqX_] at h
    rcases Nat.lt_or_ge i (cqX_ a L H).length with y | y
    · rw [List.getElem?_append_left y] at h; exact st6_ true a w.1 L H i q h h6
    · rw [List.getElem?_append_right y] at h
      cases hk : i - (cqX_ a L H).length with
      | zero => rw [hk] at h; cases h; exact absurd h6 (by simp only; decide)
      | succ j =>
        rw [hk, List.getElem?_cons_succ] at h
        rw [cq_len] at y hk
        rcases Nat.lt_or_ge j (cqX_ b (L + snX_ a + 1) H).length with x | x
        · rw [List.getElem?_append_left x] at h
          obtain ⟨m, m1, m2, m3⟩ := st6_ true b w.2.1 _ _ _ q h h6
          exact ⟨m, m1, by omega, by omega⟩
        · rw [List.getElem?_append_right x] at h
          cases hk2 : j - (cqX_ b (L + snX_ a + 1) H).length with
          | zero => rw [hk2] at h; cases h; exact absurd h6 (by simp only; decide)
          | succ j2 =>
            rw [hk2, List.getElem?_cons_succ] at h
            rw [cq_len] at x hk2
            obtain ⟨m, m1, m2, m3⟩ := st6_ true c w.2.2 _ _ _ q h h6
            exact ⟨m, m1, by omega, by omega⟩
  | true, .rem a b, w, L, H, i, q, h, h6 => by
    rw [cqX_] at h
    rcases Nat.lt_or_ge i (cqX_ a L H).length with y | y
    · rw [List.getElem?_append_left y] at h; exact st6_ true a w.1 L H i q h h6
    · rw [List.getElem?_append_right y] at h
      cases hk : i - (cqX_ a L H).length with
      | zero => rw [hk] at h; cases h; exact ⟨L, rfl, by omega, by omega⟩
      | succ j =>
        rw [hk, List.getElem?_cons_succ] at h
        rw [cq_len] at y hk
        obtain ⟨m, m1, m2, m3⟩ := st6_ true b w.2 _ _ _ q h h6
        exact ⟨m, m1, by omega, by omega⟩
  | true, .sub k x, w, L, H, i, q, h, h6 => by
    rw [cqX_] at h
    rcases Nat.lt_or_ge i (cqX_ x L H).length with z | z
    · rw [List.getElem?_append_left z] at h; exact st6_ false x w.1 L H i q h h6
    · rw [List.getElem?_append_right z] at h
      cases hk : i - (cqX_ x L H).length with
      | zero => rw [hk] at h; cases h; exact absurd h6 (by simp only; decide)
      | succ j => rw [hk] at h; cases h
  | false, .null, _, L, H, i, q, h, h6 => by cases h
  | false, .add a b, w, L, H, i, q, h, h6 => by
    rw [cqX_] at h
    rcases Nat.lt_or_ge i (cqX_ a L H).length with y | y
    · rw [List.getElem?_append_left y] at h; exact st6_ true a w.1 L H i q h h6
    · rw [List.getElem?_append_right y] at h
      obtain ⟨m, m1, m2, m3⟩ := st6_ false b w.2 _ _ _ q h h6
      rw [cq_len] at y m3
      exact ⟨m, m1, by omega, by omega⟩
/-- what comes of a tree on the stack t: one value more; of arguments: so many -/
theorem ES_sh (I : Int64 → List Int32 → sgA_ → io2_) (V : Nat → Int32) : ∀ (g : Bool) (e : Term), wfX_ g e → ∀ (t : List Int32) (s : sgA_) (u : List Int32) (s2 : sgA_), ES_ I V e t s = (.inl u, s2) → (g = true → ∃ x, u = x :: t) ∧ (g = false → ∃ y, u = y ++ t ∧ y.length = an_ e)
  | true, .int v, _, t, s, u, s2, h => ⟨fun _ => by rw [ES_] at h; cases h; exact ⟨_, rfl⟩, fun z => Bool.noConfusion z⟩
  | true, .index i, _, t, s, u, s2, h => ⟨fun _ => by rw [ES_] at h; cases h; exact ⟨_, rfl⟩, fun z => Bool.noConfusion z⟩
  | true, .length e, w, t, s, u, s2, h => ⟨fun _ => by
      rw [ES_] at h
      cases hx : ES_ I V e t s with
      | mk o s3 =>
        rw [hx] at h
        cases o with
        | inr q => cases h
        | inl y =>
          obtain ⟨x, rfl⟩ := (ES_sh I V true e w t s y s3 hx).1 rfl
          cases h; exact ⟨_, rfl⟩, fun z => Bool.noConfusion z⟩
  | true, .sum e, w, t, s, u, s2, h => ⟨fun _ => by
      rw [ES_] at h
      cases hx : ES_ I V e t s with
      | mk o s3 =>
        rw [hx] at h
        cases o with
        | inr q => cases h
        | inl y =>
          obtain ⟨x, rfl⟩ := (ES_sh I V true e w t s y s3 hx).1 rfl
          (cases h), fun z => Bool.noConfusion z⟩
  | true, .elem c (.add a b), w, t, s, u, s2, h => ⟨fun _ => by
      rw [ES_, ES_] at h
      cases hx : ES_ I V a t s with
      | mk o s3 =>
        rw [hx] at h
        cases o with
        | inr q => cases h
        | inl y =>
          obtain ⟨x, rfl⟩ := (ES_sh I V true a w.2.1 t s y s3 hx).1 rfl
          simp only at h
          cases hx2 : ES_ I V b (x :: t) s3 with
          | mk o2 s4 =>
            rw [hx2] at h
            cases o2 with
            | inr q => cases h
            | inl y2 =>
              obtain ⟨x2, rfl⟩ := (ES_sh I V true b w.2.2 (x :: t) s3 y2 s4 hx2).1 rfl
              unfold o2_ at h
              simp only at h
              split at h
              · cases h
              · cases h; exact ⟨_, rfl⟩, fun z => Bool.noConfusion z⟩
  | true, .mul a (.div b c), w, t, s, u, s2, h => ⟨fun _ => by
      rw [ES_] at h
      cases hx : ES_ I V a t s with
      | mk o s3 =>
        rw [hx] at h
        cases o with
        | inr q => cases h
        | inl y =>
          obtain ⟨x, rfl⟩ := (ES_sh I V true a w.1 t s y s3 hx).1 rfl
          unfold o1_ at h
          simp only at h
          split at h
          · exact (ES_sh I V true c w.2.2 t s3 u s2 h).1 rfl
          · exact (ES_sh I V true b w.2.1 t s3 u s2 h).1 rfl, fun z => Bool.noConfusion z⟩
  | true, .rem a b, w, t, s, u, s2, h => ⟨fun _ => by
      rw [ES_] at h
      split at h
      · exact (ES_sh I V true b w.2 t _ u s2 h).1 rfl
      · exact (ES_sh I V true a w.1 t s u s2 h).1 rfl, fun z => Bool.noConfusion z⟩
  | true, .sub k x, w, t, s, u, s2, h => ⟨fun _ => by
      rw [ES_] at h
      cases hx : ES_ I V x t s with
      | mk o s3 =>
        rw [hx] at h
        cases o with
        | inr q => cases h
        | inl y =>
          obtain ⟨y2, rfl, hl⟩ := (ES_sh I V false x w.1 t s y s3 hx).2 rfl
          simp only at h
          rw [List.drop_left' hl] at h
          unfold oi_ at h
          split at h
          · cases h; exact ⟨_, rfl⟩
          · (cases h), fun z => Bool.noConfusion z⟩
  | false, .null, _, t, s, u, s2, h => ⟨fun z => Bool.noConfusion z, fun _ => by rw [ES_] at h <;> first | (cases h; exact ⟨[], rfl, rfl⟩) | simp⟩
  | false, .add a r, w, t, s, u, s2, h => ⟨fun z => Bool.noConfusion z, fun _ => by
      rw [ES_] at h
      cases hx : ES_ I V a t s with
      | mk o s3 =>
        rw [hx] at h
        cases o with
        | inr q => cases h
        | inl y =>
          obtain ⟨x, rfl⟩ := (ES_sh I V true a w.1 t s y s3 hx).1 rfl
          obtain ⟨y2, rfl, hl⟩ := (ES_sh I V false r w.2 (x :: t) s3 u s2 h).2 rfl
          exact ⟨y2 ++ [x], by simp, by rw [List.length_append, hl, an_]; rfl⟩⟩
