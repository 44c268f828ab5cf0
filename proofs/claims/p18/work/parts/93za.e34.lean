section
/-! the reference: probeExpression computes what ES_ says -/
def sxE_ : List Int32 → mm_ → Prop
  | [], _ => True
  | x :: t, N => N.1 31 t.length = x ∧ sxE_ t N
def trE_ : List (Nat × Nat) → mm_ → Prop
  | [], _ => True
  | x :: L, N => N.1 32 L.length = nI x.1 ∧ N.1 33 L.length = nI x.2 ∧ trE_ L N
theorem stE_cg : ∀ {t : List Int32} {M N : mm_}, (∀ i, i < t.length → N.1 31 i = M.1 31 i) → sxE_ t M → sxE_ t N
  | [], _, _, _, _ => trivial
  | x :: t, M, N, h, g => ⟨by rw [h _ (by rw [List.length_cons]; omega)]; exact g.1, stE_cg (fun i hi => h i (by rw [List.length_cons]; omega)) g.2⟩
theorem trE_cg : ∀ {L : List (Nat × Nat)} {M N : mm_}, (∀ i, i < L.length → N.1 32 i = M.1 32 i ∧ N.1 33 i = M.1 33 i) → trE_ L M → trE_ L N
  | [], _, _, _, _ => trivial
  | x :: L, M, N, h, g => ⟨by rw [(h _ (by rw [List.length_cons]; omega)).1]; exact g.1, by rw [(h _ (by rw [List.length_cons]; omega)).2]; exact g.2.1, trE_cg (fun i hi => h i (by rw [List.length_cons]; omega)) g.2.2⟩
def SG2_ (C0 C : List sv_) (L : Nat) : Prop := ∀ (i : Nat) (q : sv_), C[i]? = some q → C0[L + i]? = some q
theorem SG2_l {C0 A B : List sv_} {L : Nat} (h : SG2_ C0 (A ++ B) L) : SG2_ C0 A L := fun i q hq => h i q (by rw [List.getElem?_append_left (List.getElem?_eq_some_iff.mp hq).1]; exact hq)
theorem SG2_r {C0 A B : List sv_} {L : Nat} (h : SG2_ C0 (A ++ B) L) : SG2_ C0 B (L + A.length) := fun i q hq => by
  rw [Nat.add_assoc]
  exact h _ q (by rw [List.getElem?_append_right (by omega), Nat.add_sub_cancel_left]; exact hq)
theorem SG2_h {C0 B : List sv_} {x : sv_} {L : Nat} (h : SG2_ C0 (x :: B) L) : C0[L]? = some x := h 0 x rfl
theorem SG2_t {C0 B : List sv_} {x : sv_} {L : Nat} (h : SG2_ C0 (x :: B) L) : SG2_ C0 B (L + 1) := fun i q hq => by
  rw [Nat.add_assoc, Nat.add_comm 1]
  exact h (i + 1) q (by rw [List.getElem?_cons_succ]; exact hq)
theorem tc_pos : ∀ e, wfX_ true e → 1 ≤ (tc_ (tm_ e)).length
  | .int _, _ => by simp [tm_, tc_]
  | .index _, _ => by simp [tm_, tc_]
  | .length e, _ => by simp [tm_, tc_]
  | .sum e, _ => by simp [tm_, tc_]
  | .elem s (.add a b), _ => by simp [tm_, tc_]; omega
  | .mul a (.div b c), _ => by simp [tm_, tc_]; omega
  | .rem a b, _ => by simp [tm_, tc_]
  | .sub k x, _ => by simp [tm_, tc_]
theorem rs_jn {c x y : Int32} (h : ¬ kd_ c = 0) : rs_ c x y = jn_ c x y := by
  unfold rs_ jn_
  by_cases h1 : c = 43
  · rw [if_pos h1, if_pos h1]
  rw [if_neg h1, if_neg h1]
  by_cases h2 : c = 45
  · rw [if_pos h2, if_pos h2]
  rw [if_neg h2, if_neg h2]
  by_cases h3 : c = 42
  · rw [if_pos h3, if_pos h3]
  rw [if_neg h3, if_neg h3]
  by_cases h4 : c = 47
  · rw [if_pos h4, if_pos h4]
  rw [if_neg h4, if_neg h4]
  by_cases h5 : c = 37
  · rw [if_pos h5, if_pos h5]
  rw [if_neg h5, if_neg h5]
  by_cases h6 : c = 60
  · rw [if_pos h6, if_pos h6]
  rw [if_neg h6, if_neg h6]
  by_cases h7 : c = 61
  · rw [if_pos h7, if_neg (by rw [h7]; decide)]
  rw [if_neg h7]
  by_cases h8 : c = 62
  · rw [if_pos h8]
  · refine absurd ?_ h
    unfold kd_
    rw [if_neg (fun z => by rcases z with z | z | z; exact h6 z; exact h7 z; exact h8 z), if_neg (fun z => z.elim h1 h2), if_neg (fun z => by rcases z with z | z | z; exact h5 z; exact h3 z; exact h4 z)]
theorem sg_sg (s : Term) : sg_ s = sg2_ s := by cases s <;> rfl
/-- within a probe's expression -/
def ZE_ (M0 : mm_) (t : List Int32) (L : List (Nat × Nat)) (N : mm_) : Prop := fpE_ M0 N ∧ sxE_ t N ∧ trE_ L N ∧ N.1 0 59 = 0
def RE_ (k n : Nat) (M0 : mm_) (C0 : List sv_) (V : Nat → Int32) : Prop := M0.1 4 k = nI n ∧ C0.length = n ∧ n ≤ 40 ∧ (∀ (i : Nat) (x : sv_), C0[i]? = some x → M0.1 2 (64 * k + i) = x.1 ∧ M0.2.1 3 (64 * k + i) = x.2) ∧ ∀ i, i < 7 → M0.1 30 i = V i
def KE_ (k n : Nat) (Q : mm_ → Prop) (M0 : mm_) (L : List (Nat × Nat)) (lo hi : Nat) (t : List Int32) (o : eo_) : Prop := match o with
  | (.inl t2, _) => ∀ (N : mm_) (u : Nat), ZE_ M0 t2 L N → n + 1 ≤ hi + u → WPE_ k n Q u t2.length L.length hi N
  | (.inr q, _) => ∀ (N : mm_) (a u : Nat), ZE_ M0 t L N → N.1 0 58 = q.2 → lo ≤ a → a < hi → n + 1 ≤ a + 1 + u → THE_ n Q (WPE_ k n Q u) L.length N
section TRE
variable {k n : Nat} {Q : mm_ → Prop} {M0 : mm_} {C0 : List sv_} {V : Nat → Int32}
theorem ZE_push {t : List Int32} {L : List (Nat × Nat)} {N : mm_} (v : Int32) (h : ZE_ M0 t L N) : ZE_ M0 (v :: t) L (sI_ N 31 t.length v) := ⟨fpE_I h.1 (Or.inl rfl), ⟨by rw [gI_sI, if_pos ⟨rfl, rfl⟩], stE_cg (fun i hi => by rw [gI_sI, if_neg (by omega)]) h.2.1⟩, trE_cg (fun i hi => ⟨by rw [gI_sI, if_neg (by omega)], by rw [gI_sI, if_neg (by omega)]⟩) h.2.2.1, by rw [gI_sI, if_neg (by omega)]; exact h.2.2.2⟩
theorem ZE_58 {t : List Int32} {L : List (Nat × Nat)} {N : mm_} {v : Int32} (h : ZE_ M0 t L N) : ZE_ M0 t L (sI_ N 0 58 v) := ⟨fpE_I h.1 (Or.inr (Or.inr (Or.inr ⟨rfl, Or.inl rfl⟩))), stE_cg (fun i hi => by rw [gI_sI, if_neg (by omega)]) h.2.1, trE_cg (fun i hi => ⟨by rw [gI_sI, if_neg (by omega)], by rw [gI_sI, if_neg (by omega)]⟩) h.2.2.1, by rw [gI_sI, if_neg (by omega)]; exact h.2.2.2⟩
/-- a step at p -/
theorem WPE_st (hR : RE_ k n M0 C0 V) {t : List Int32} {L : List (Nat × Nat)} {N : mm_} {p u : Nat} {x : sv_} (hZ : ZE_ M0 t L N) (hx : C0[p]? = some x) (ht : t.length ≤ 40) (hL : L.length < 30) (hu : n + 1 ≤ p + u) (hc : ∀ u2, u = u2 + 1 → (∀ (y : Int32) (v : Int64), y = x.1 → v = x.2 →
    (y = 0 → WPE_ k n Q u2 (t.length + 1) L.length (p + 1) (sI_ N 31 t.length v.toInt32)) ∧
    (y = 1 → ∃ j, j < 7 ∧ v.toInt32 = nI j ∧ WPE_ k n Q u2 (t.length + 1) L.length (p + 1) (sI_ N 31 t.length (N.1 30 j))) ∧
    (y = 3 → 1 ≤ t.length ∧ WPE_ k n Q u2 t.length L.length (p + 1) (sI_ N 31 (t.length - 1) (-(N.1 31 (t.length - 1))))) ∧
    (y = 4 → 1 ≤ t.length ∧ THE_ n Q (WPE_ k n Q u2) L.length (sI_ N 0 58 (N.1 31 (t.length - 1)))) ∧
    (y = 5 → 1 ≤ t.length ∧ ∃ w, v.toInt32 = nI w ∧ p + 1 + w ≤ n ∧ (N.1 31 (t.length - 1) = 0 → WPE_ k n Q u2 (t.length - 1) L.length (p + 1 + w) N) ∧ (¬ N.1 31 (t.length - 1) = 0 → WPE_ k n Q u2 (t.length - 1) L.length (p + 1) N)) ∧
    (y = 6 → ∃ w, v.toInt32 = nI w ∧ p + 1 + w ≤ n ∧ WPE_ k n Q u2 t.length L.length (p + 1 + w) N) ∧
    (y = 7 → ∃ w, v.toInt32 = nI w ∧ p + 1 + w ≤ n ∧ WPE_ k n Q u2 t.length (L.length + 1) (p + 1) (sI_ (sI_ N 32 L.length (nI (p + 1 + w))) 33 L.length (nI t.length))) ∧
    (y = 8 → 1 ≤ L.length ∧ ∃ w, v.toInt32 = nI w ∧ p + 1 + w ≤ n ∧ WPE_ k n Q u2 t.length (L.length - 1) (p + 1 + w) N) ∧
    (y = 2 → 2 ≤ t.length ∧ ((v.toInt32 = 47 ∨ v.toInt32 = 37) ∧ N.1 31 (t.length - 1) = 0 → THE_ n Q (WPE_ k n Q u2) L.length (sI_ N 0 58 (-1))) ∧ (¬ ((v.toInt32 = 47 ∨ v.toInt32 = 37) ∧ N.1 31 (t.length - 1) = 0) → WPE_ k n Q u2 (t.length - 1) L.length (p + 1) (sI_ N 31 (t.length - 1 - 1) (rs_ v.toInt32 (N.1 31 (t.length - 1 - 1)) (N.1 31 (t.length - 1)))))) ∧
    (y = 0 ∨ y = 1 ∨ y = 2 ∨ y = 3 ∨ y = 4 ∨ y = 5 ∨ y = 6 ∨ y = 7 ∨ y = 8))) : WPE_ k n Q u t.length L.length p N := by
  obtain ⟨r1, r2, r3, r4, r5⟩ := hR
  have hp : p < n := by rw [← r2]; exact (List.getElem?_eq_some_iff.mp hx).1
  obtain ⟨u, rfl⟩ : ∃ v, u = v + 1 := ⟨u - 1, by omega⟩
  refine ⟨by rw [hZ.1.2 4 k (by decide) (by decide) (by decide) (by omega)]; exact r1, by omega, hL, fun y => by omega, fun _ y v e1 e2 => ?_⟩
  rw [hZ.1.2 2 _ (by decide) (by decide) (by decide) (by omega)] at e1
  rw [hZ.1.1] at e2
  obtain ⟨c1, c2⟩ := r4 p x hx
  exact hc u rfl y v (by rw [← e1, c1]) (by rw [← e2, c2])
theorem n_i {c : Int32} : (c.toInt64).toInt32 = c := Int32.toInt32_toInt64 c
theorem TRE_ (hR : RE_ k n M0 C0 V) : ∀ (g : Bool) (e : Term), wfX_ g e → ixn_ 7 e → nsb_ e → ∀ (p u : Nat) (t : List Int32) (L : List (Nat × Nat)) (s : sgA_) (N : mm_), SG2_ C0 (tc_ (tm_ e)) p → t.length ≤ p → L.length ≤ p → p + (tc_ (tm_ e)).length + L.length ≤ n → n + 1 ≤ p + u → ZE_ M0 t L N → KE_ k n Q M0 L p (p + (tc_ (tm_ e)).length) t (ES_ I0_ V e t s) → WPE_ k n Q u t.length L.length p N
  | true, .int v, w, hi, hn, p, u, t, L, s, N, hS, ht, hL, hp, hu, hZ, K => by
    have hS : SG2_ C0 [(0, v.toInt64)] p := hS
    have hn40 := hR.2.2.1
    rw [ES_] at K
    refine WPE_st hR hZ (SG2_h hS) (by omega) (by omega) hu (fun u2 e y v2 e1 e2 => ?_)
    subst e1 e2
    have zp := ZE_push v hZ
    refine ⟨fun _ => ?_, fun y => absurd y (by simp only; decide), fun y => absurd y (by simp only; decide), fun y => absurd y (by simp only; decide), fun y => absurd y (by simp only; decide), fun y => absurd y (by simp only; decide), fun y => absurd y (by simp only; decide), fun y => absurd y (by simp only; decide), fun y => absurd y (by simp only; decide), Or.inl rfl⟩
    show WPE_ k n Q u2 (t.length + 1) L.length (p + 1) (sI_ N 31 t.length v.toInt64.toInt32)
    rw [n_i]
    exact K _ u2 zp (by show n + 1 ≤ p + 1 + u2; omega)
  | true, .index i, w, hi, hn, p, u, t, L, s, N, hS, ht, hL, hp, hu, hZ, K => by
    have hS : SG2_ C0 [(1, (nI i).toInt64)] p := hS
    have hn40 := hR.2.2.1
    have hi7 : i < 7 := hi
    rw [ES_] at K
    refine WPE_st hR hZ (SG2_h hS) (by omega) (by omega) hu (fun u2 e y v2 e1 e2 => ?_)
    subst e1 e2
    have zp := ZE_push (V i) hZ
    refine ⟨fun y => absurd y (by simp only; decide), fun _ => ⟨i, hi7, n_i, ?_⟩, fun y => absurd y (by simp only; decide), fun y => absurd y (by simp only; decide), fun y => absurd y (by simp only; decide), fun y => absurd y (by simp only; decide), fun y => absurd y (by simp only; decide), fun y => absurd y (by simp only; decide), fun y => absurd y (by simp only; decide), Or.inr (Or.inl rfl)⟩
    rw [hZ.1.2 30 i (by decide) (by decide) (by decide) (by omega), hR.2.2.2.2 i hi7]
    exact K _ u2 zp (by show n + 1 ≤ p + 1 + u2; omega)
  | true, .length e, w, hi, hn, p, u, t, L, s, N, hS, ht, hL, hp, hu, hZ, K => by
    have hS : SG2_ C0 (tc_ (tm_ e) ++ [(3, 0)]) p := hS
    have el : (tc_ (tm_ (.length e))).length = (tc_ (tm_ e)).length + 1 := by simp [tm_, tc_]
    rw [el] at hp K
    rw [ES_] at K
    have hn40 := hR.2.2.1
    refine TRE_ hR true e w hi hn p u t L s N (SG2_l hS) ht hL (by omega) hu hZ ?_
    cases ho : ES_ I0_ V e t s with
    | mk o s2 =>
      rw [ho] at K
      cases o with
      | inr q => exact fun N2 a u2 h1 h2 h3 h4 h5 => K N2 a u2 h1 h2 h3 (by omega) h5
      | inl t2 =>
        obtain ⟨x, rfl⟩ := (ES_sh I0_ V true e w t s t2 s2 ho).1 rfl
        intro N2 u2 hz2 hu2
        refine WPE_st hR hz2 (SG2_h (SG2_r hS)) (by rw [List.length_cons]; omega) (by omega) hu2 (fun u3 e3 y v2 e1 e2 => ?_)
        subst e1 e2
        have hx : N2.1 31 ((x :: t).length - 1) = x := by rw [List.length_cons, Nat.add_sub_cancel]; exact hz2.2.1.1
        have zp : ZE_ M0 (-x :: t) L (sI_ N2 31 t.length (-x)) := by
          have z0 : ZE_ M0 t L N2 := ⟨hz2.1, hz2.2.1.2, hz2.2.2⟩
          exact ZE_push (-x) z0
        refine ⟨fun y => absurd y (by simp only; decide), fun y => absurd y (by simp only; decide), fun _ => ⟨by rw [List.length_cons]; omega, ?_⟩, fun y => absurd y (by simp only; decide), fun y => absurd y (by simp only; decide), fun y => absurd y (by simp only; decide), fun y => absurd y (by simp only; decide), fun y => absurd y (by simp only; decide), fun y => absurd y (by simp only; decide), Or.inr (Or.inr (Or.inr (Or.inl rfl)))⟩
        rw [hx, List.length_cons, Nat.add_sub_cancel]
        exact K _ u3 zp (by omega)
  | true, .sum e, w, hi, hn, p, u, t, L, s, N, hS, ht, hL, hp, hu, hZ, K => by
    have hS : SG2_ C0 (tc_ (tm_ e) ++ [(4, 0)]) p := hS
    have el : (tc_ (tm_ (.sum e))).length = (tc_ (tm_ e)).length + 1 := by simp [tm_, tc_]
    rw [el] at hp K
    rw [ES_] at K
    have hn40 := hR.2.2.1
    refine TRE_ hR true e w hi hn p u t L s N (SG2_l hS) ht hL (by omega) hu hZ ?_
    cases ho : ES_ I0_ V e t s with
    | mk o s2 =>
      rw [ho] at K
      cases o with
      | inr q => exact fun N2 a u2 h1 h2 h3 h4 h5 => K N2 a u2 h1 h2 h3 (by omega) h5
      | inl t2 =>
        obtain ⟨x, rfl⟩ := (ES_sh I0_ V true e w t s t2 s2 ho).1 rfl
        intro N2 u2 hz2 hu2
        refine WPE_st hR hz2 (SG2_h (SG2_r hS)) (by rw [List.length_cons]; omega) (by omega) hu2 (fun u3 e3 y v2 e1 e2 => ?_)
        subst e1 e2
        have hx : N2.1 31 ((x :: t).length - 1) = x := by rw [List.length_cons, Nat.add_sub_cancel]; exact hz2.2.1.1
        have z0 : ZE_ M0 t L N2 := ⟨hz2.1, hz2.2.1.2, hz2.2.2⟩
        refine ⟨fun y => absurd y (by simp only; decide), fun y => absurd y (by simp only; decide), fun y => absurd y (by simp only; decide), fun _ => ⟨by rw [List.length_cons]; omega, ?_⟩, fun y => absurd y (by simp only; decide), fun y => absurd y (by simp only; decide), fun y => absurd y (by simp only; decide), fun y => absurd y (by simp only; decide), fun y => absurd y (by simp only; decide), Or.inr (Or.inr (Or.inr (Or.inr (Or.inl rfl))))⟩
        rw [hx]
        exact K _ (p + (tc_ (tm_ e)).length) u3 (ZE_58 z0) (by rw [gI_sI, if_pos ⟨rfl, rfl⟩]) (by omega) (by omega) (by omega)
  | true, .elem c (.add a b), w, hi, hn, p, u, t, L, s, N, hS, ht, hL, hp, hu, hZ, K => by
    have hS : SG2_ C0 ((tc_ (tm_ a) ++ tc_ (tm_ b)) ++ [(2, (sg_ c).toInt64)]) p := hS
    have el : (tc_ (tm_ (.elem c (.add a b)))).length = (tc_ (tm_ a)).length + (tc_ (tm_ b)).length + 1 := by simp [tm_, tc_]; omega
    rw [el] at hp K
    rw [ES_, ES_] at K
    have hn40 := hR.2.2.1
    have pa := tc_pos a w.2.1
    have pb := tc_pos b w.2.2
    have hx := SG2_h (SG2_r hS)
    rw [List.length_append, ← Nat.add_assoc] at hx
    rw [show p + ((tc_ (tm_ a)).length + (tc_ (tm_ b)).length + 1) = p + (tc_ (tm_ a)).length + (tc_ (tm_ b)).length + 1 by omega] at K
    refine TRE_ hR true a w.2.1 hi.1 hn.1 p u t L s N (SG2_l (SG2_l hS)) ht hL (by omega) hu hZ ?_
    cases ho : ES_ I0_ V a t s with
    | mk o s2 =>
      rw [ho] at K
      cases o with
      | inr q => exact fun N2 a2 u2 h1 h2 h3 h4 h5 => K N2 a2 u2 h1 h2 h3 (by omega) h5
      | inl t2 =>
        obtain ⟨x, rfl⟩ := (ES_sh I0_ V true a w.2.1 t s t2 s2 ho).1 rfl
        simp only at K
        intro N2 u2 hz2 hu2
        refine TRE_ hR true b w.2.2 hi.2 hn.2 _ u2 (x :: t) L s2 N2 (SG2_r (SG2_l hS)) (by rw [List.length_cons]; omega) (by omega) (by omega) hu2 hz2 ?_
        cases hb : ES_ I0_ V b (x :: t) s2 with
        | mk o2 s3 =>
          rw [hb] at K
          cases o2 with
          | inr q => exact fun N3 a3 u3 h1 h2 h3 h4 h5 => K N3 a3 u3 ⟨h1.1, h1.2.1.2, h1.2.2⟩ h2 (by omega) (by omega) h5
          | inl t3 =>
            obtain ⟨y1, rfl⟩ := (ES_sh I0_ V true b w.2.2 (x :: t) s2 t3 s3 hb).1 rfl
            intro N3 u3 hz3 hu3
            unfold o2_ at K
            simp only at K
            refine WPE_st hR hz3 hx (by rw [List.length_cons, List.length_cons]; omega) (by omega) hu3 (fun u4 e4 y v2 e1 e2 => ?_)
            subst e1 e2
            have hy : N3.1 31 ((y1 :: x :: t).length - 1) = y1 := hz3.2.1.1
            have hx1 : N3.1 31 ((y1 :: x :: t).length - 1 - 1) = x := hz3.2.1.2.1
            have z0 : ZE_ M0 t L N3 := ⟨hz3.1, hz3.2.1.2.2, hz3.2.2⟩
            refine ⟨fun y => absurd y (by simp only; decide), fun y => absurd y (by simp only; decide), fun y => absurd y (by simp only; decide), fun y => absurd y (by simp only; decide), fun y => absurd y (by simp only; decide), fun y => absurd y (by simp only; decide), fun y => absurd y (by simp only; decide), fun y => absurd y (by simp only; decide), fun _ => ⟨by rw [List.length_cons, List.length_cons]; omega, ?_⟩, Or.inr (Or.inr (Or.inl rfl))⟩
            rw [hy, hx1, n_i, sg_sg]
            refine ⟨fun hd => ?_, fun hd => ?_⟩
            · rw [if_pos ⟨hd.2, hd.1⟩] at K
              exact K _ (p + (tc_ (tm_ a)).length + (tc_ (tm_ b)).length) u4 (ZE_58 z0) (by rw [gI_sI, if_pos ⟨rfl, rfl⟩]) (by omega) (by omega) (by omega)
            · rw [if_neg (fun y => hd ⟨y.2, y.1⟩)] at K
              rw [rs_jn w.1]
              exact K _ u4 (ZE_push _ z0) (by omega)
  | true, .mul a (.div b c), w, hi, hn, p, u, t, L, s, N, hS, ht, hL, hp, hu, hZ, K => by
    have hS : SG2_ C0 (tc_ (tm_ a) ++ (5, lN ((tc_ (tm_ b)).length + 1)) :: (tc_ (tm_ b) ++ (6, lN (tc_ (tm_ c)).length) :: tc_ (tm_ c))) p := hS
    have el : (tc_ (tm_ (.mul a (.div b c)))).length = (tc_ (tm_ a)).length + 1 + (tc_ (tm_ b)).length + 1 + (tc_ (tm_ c)).length := by simp [tm_, tc_]; omega
    rw [el] at hp K
    rw [ES_] at K
    have hn40 := hR.2.2.1
    have pa := tc_pos a w.1
    have pb := tc_pos b w.2.1
    have pc := tc_pos c w.2.2
    have hS2 := SG2_r hS
    have hx := SG2_h hS2
    have hS3 := SG2_t hS2
    have hSb := SG2_l hS3
    have hS4 := SG2_r hS3
    have hx2 := SG2_h hS4
    have hSc := SG2_t hS4
    rw [show p + ((tc_ (tm_ a)).length + 1 + (tc_ (tm_ b)).length + 1 + (tc_ (tm_ c)).length) = p + (tc_ (tm_ a)).length + 1 + (tc_ (tm_ b)).length + 1 + (tc_ (tm_ c)).length by omega] at K
    refine TRE_ hR true a w.1 hi.1 hn.1 p u t L s N (SG2_l hS) ht hL (by omega) hu hZ ?_
    cases ho : ES_ I0_ V a t s with
    | mk o s2 =>
      rw [ho] at K
      cases o with
      | inr q => exact fun N2 a2 u2 h1 h2 h3 h4 h5 => K N2 a2 u2 h1 h2 h3 (by omega) h5
      | inl t2 =>
        obtain ⟨x, rfl⟩ := (ES_sh I0_ V true a w.1 t s t2 s2 ho).1 rfl
        unfold o1_ at K
        simp only at K
        intro N2 u2 hz2 hu2
        have hx1 : N2.1 31 ((x :: t).length - 1) = x := hz2.2.1.1
        have z0 : ZE_ M0 t L N2 := ⟨hz2.1, hz2.2.1.2, hz2.2.2⟩
        refine WPE_st hR hz2 hx (by rw [List.length_cons]; omega) (by omega) hu2 (fun u3 e3 y v2 e1 e2 => ?_)
        subst e1 e2
        refine ⟨fun y => absurd y (by simp only; decide), fun y => absurd y (by simp only; decide), fun y => absurd y (by simp only; decide), fun y => absurd y (by simp only; decide), fun _ => ⟨by rw [List.length_cons]; omega, (tc_ (tm_ b)).length + 1, lN_i _, by omega, ?_⟩, fun y => absurd y (by simp only; decide), fun y => absurd y (by simp only; decide), fun y => absurd y (by simp only; decide), fun y => absurd y (by simp only; decide), Or.inr (Or.inr (Or.inr (Or.inr (Or.inr (Or.inl rfl)))))⟩
        rw [hx1]
        refine ⟨fun hz => ?_, fun hz => ?_⟩
        · rw [if_pos hz] at K
          rw [show p + (tc_ (tm_ a)).length + 1 + ((tc_ (tm_ b)).length + 1) = p + (tc_ (tm_ a)).length + 1 + (tc_ (tm_ b)).length + 1 by omega]
          show WPE_ k n Q u3 t.length L.length _ N2
          refine TRE_ hR true c w.2.2 hi.2.2 hn.2.2 _ u3 t L s2 N2 hSc (by omega) (by omega) (by omega) (by omega) z0 ?_
          cases hc : ES_ I0_ V c t s2 with
          | mk o3 s3 =>
            rw [hc] at K
            cases o3 with
            | inr q => exact fun N3 a3 u4 h1 h2 h3 h4 h5 => K N3 a3 u4 h1 h2 (by omega) h4 h5
            | inl t3 => exact K
        · rw [if_neg hz] at K
          show WPE_ k n Q u3 t.length L.length _ N2
          refine TRE_ hR true b w.2.1 hi.2.1 hn.2.1 _ u3 t L s2 N2 hSb (by omega) (by omega) (by omega) (by omega) z0 ?_
          cases hc : ES_ I0_ V b t s2 with
          | mk o3 s3 =>
            rw [hc] at K
            cases o3 with
            | inr q => exact fun N3 a3 u4 h1 h2 h3 h4 h5 => K N3 a3 u4 h1 h2 (by omega) (by omega) h5
            | inl t3 =>
              obtain ⟨y1, rfl⟩ := (ES_sh I0_ V true b w.2.1 t s2 t3 s3 hc).1 rfl
              intro N3 u4 hz3 hu4
              refine WPE_st hR hz3 hx2 (by rw [List.length_cons]; omega) (by omega) hu4 (fun u5 e5 y v2 e1 e2 => ?_)
              subst e1 e2
              exact ⟨fun y => absurd y (by simp only; decide), fun y => absurd y (by simp only; decide), fun y => absurd y (by simp only; decide), fun y => absurd y (by simp only; decide), fun y => absurd y (by simp only; decide), fun _ => ⟨(tc_ (tm_ c)).length, lN_i _, by omega, K _ u5 hz3 (by omega)⟩, fun y => absurd y (by simp only; decide), fun y => absurd y (by simp only; decide), fun y => absurd y (by simp only; decide), Or.inr (Or.inr (Or.inr (Or.inr (Or.inr (Or.inr (Or.inl rfl))))))⟩
  | true, .rem a b, w, hi, hn, p, u, t, L, s, N, hS, ht, hL, hp, hu, hZ, K => by
    have hS : SG2_ C0 ((7, lN ((tc_ (tm_ a)).length + 1)) :: (tc_ (tm_ a) ++ (8, lN (tc_ (tm_ b)).length) :: tc_ (tm_ b))) p := hS
    have el : (tc_ (tm_ (.rem a b))).length = 1 + (tc_ (tm_ a)).length + 1 + (tc_ (tm_ b)).length := by simp [tm_, tc_]; omega
    rw [el] at hp K
    rw [ES_] at K
    have hn40 := hR.2.2.1
    have pa := tc_pos a w.1
    have pb := tc_pos b w.2
    have hx := SG2_h hS
    have hS2 := SG2_t hS
    have hSa := SG2_l hS2
    have hS3 := SG2_r hS2
    have hx2 := SG2_h hS3
    have hSb := SG2_t hS3
    rw [show p + (1 + (tc_ (tm_ a)).length + 1 + (tc_ (tm_ b)).length) = p + 1 + (tc_ (tm_ a)).length + 1 + (tc_ (tm_ b)).length by omega] at K
    refine WPE_st hR hZ hx (by omega) (by omega) hu (fun u2 e y v2 e1 e2 => ?_)
    subst e1 e2
    refine ⟨fun y => absurd y (by simp only; decide), fun y => absurd y (by simp only; decide), fun y => absurd y (by simp only; decide), fun y => absurd y (by simp only; decide), fun y => absurd y (by simp only; decide), fun y => absurd y (by simp only; decide), fun _ => ⟨(tc_ (tm_ a)).length + 1, lN_i _, by omega, ?_⟩, fun y => absurd y (by simp only; decide), fun y => absurd y (by simp only; decide), Or.inr (Or.inr (Or.inr (Or.inr (Or.inr (Or.inr (Or.inr (Or.inl rfl)))))))⟩
    have zL : ZE_ M0 t ((p + 1 + ((tc_ (tm_ a)).length + 1), t.length) :: L) (sI_ (sI_ N 32 L.length (nI (p + 1 + ((tc_ (tm_ a)).length + 1)))) 33 L.length (nI t.length)) := by
      refine ⟨fpE_I (fpE_I hZ.1 (Or.inr (Or.inl rfl))) (Or.inr (Or.inr (Or.inl rfl))), stE_cg (fun i hi => by rw [gI_sI, if_neg (by omega), gI_sI, if_neg (by omega)]) hZ.2.1, ⟨by rw [gI_sI, if_neg (by omega), gI_sI, if_pos ⟨rfl, rfl⟩], by rw [gI_sI, if_pos ⟨rfl, rfl⟩], trE_cg (fun i hi => ⟨by rw [gI_sI, if_neg (by omega), gI_sI, if_neg (by omega)], by rw [gI_sI, if_neg (by omega), gI_sI, if_neg (by omega)]⟩) hZ.2.2.1⟩, by rw [gI_sI, if_neg (by omega), gI_sI, if_neg (by omega)]; exact hZ.2.2.2⟩
    refine TRE_ hR true a w.1 hi.1 hn.1 (p + 1) u2 t _ s _ hSa (by omega) (by rw [List.length_cons]; omega) (by rw [List.length_cons]; omega) (by omega) zL ?_
    cases ho : ES_ I0_ V a t s with
    | mk o s2 =>
      rw [ho] at K
      cases o with
      | inl t2 =>
        obtain ⟨x, rfl⟩ := (ES_sh I0_ V true a w.1 t s t2 s2 ho).1 rfl
        simp only at K
        intro N2 u3 hz2 hu3
        have z0 : ZE_ M0 (x :: t) L N2 := ⟨hz2.1, hz2.2.1, hz2.2.2.1.2.2, hz2.2.2.2⟩
        refine WPE_st hR hz2 hx2 (by rw [List.length_cons]; omega) (by rw [List.length_cons]; omega) hu3 (fun u4 e4 y v2 e1 e2 => ?_)
        subst e1 e2
        refine ⟨fun y => absurd y (by simp only; decide), fun y => absurd y (by simp only; decide), fun y => absurd y (by simp only; decide), fun y => absurd y (by simp only; decide), fun y => absurd y (by simp only; decide), fun y => absurd y (by simp only; decide), fun y => absurd y (by simp only; decide), fun _ => ⟨by rw [List.length_cons]; omega, (tc_ (tm_ b)).length, lN_i _, by omega, ?_⟩, fun y => absurd y (by simp only; decide), Or.inr (Or.inr (Or.inr (Or.inr (Or.inr (Or.inr (Or.inr (Or.inr rfl)))))))⟩
        show WPE_ k n Q u4 (x :: t).length L.length _ N2
        exact K _ u4 z0 (by omega)
      | inr q =>
        have hq1 : q.1 = 1 := ES_q V true a w.1 hn.1 t s q (by rw [ho])
        obtain ⟨q1, q2⟩ := q
        simp only at hq1
        subst hq1
        simp only at K
        intro N2 a2 u3 hz2 h58 h3 h4 h5
        refine ⟨fun y => by rw [List.length_cons] at y; omega, fun _ => ⟨t.length, p + 1 + ((tc_ (tm_ a)).length + 1), ?_, ?_, by omega, by omega, ?_⟩⟩
        · rw [List.length_cons, Nat.add_sub_cancel]; exact hz2.2.2.1.2.1
        · rw [List.length_cons, Nat.add_sub_cancel]; exact hz2.2.2.1.1
        · rw [List.length_cons, Nat.add_sub_cancel, show p + 1 + ((tc_ (tm_ a)).length + 1) = p + 1 + (tc_ (tm_ a)).length + 1 by omega]
          have z0 : ZE_ M0 t L N2 := ⟨hz2.1, hz2.2.1, hz2.2.2.1.2.2, hz2.2.2.2⟩
          refine TRE_ hR true b w.2 hi.2 hn.2 _ u3 t L s2 N2 hSb (by omega) (by omega) (by omega) (by omega) z0 ?_
          cases hc : ES_ I0_ V b t s2 with
          | mk o3 s3 =>
            rw [hc] at K
            cases o3 with
            | inr q => exact fun N3 a3 u4 g1 g2 g3 g4 g5 => K N3 a3 u4 g1 g2 (by omega) g4 g5
            | inl t3 => exact K
  | false, .null, w, hi, hn, p, u, t, L, s, N, hS, ht, hL, hp, hu, hZ, K => K N u hZ hu
  | false, .add a r, w, hi, hn, p, u, t, L, s, N, hS, ht, hL, hp, hu, hZ, K => by
    have hS : SG2_ C0 (tc_ (tm_ a) ++ tc_ (tm_ r)) p := hS
    have el : (tc_ (tm_ (.add a r))).length = (tc_ (tm_ a)).length + (tc_ (tm_ r)).length := by simp [tm_, tc_]
    rw [el, ← Nat.add_assoc] at hp K
    rw [ES_] at K
    have pa := tc_pos a w.1
    refine TRE_ hR true a w.1 hi.1 hn.1 p u t L s N (SG2_l hS) ht hL (by omega) hu hZ ?_
    cases ho : ES_ I0_ V a t s with
    | mk o s2 =>
      rw [ho] at K
      cases o with
      | inr q => exact fun N2 a2 u2 h1 h2 h3 h4 h5 => K N2 a2 u2 h1 h2 h3 (by omega) h5
      | inl t2 =>
        obtain ⟨x, rfl⟩ := (ES_sh I0_ V true a w.1 t s t2 s2 ho).1 rfl
        simp only at K
        intro N2 u2 hz2 hu2
        refine TRE_ hR false r w.2 hi.2 hn.2 _ u2 (x :: t) L s2 N2 (SG2_r hS) (by rw [List.length_cons]; omega) (by omega) (by omega) hu2 hz2 ?_
        cases hb : ES_ I0_ V r (x :: t) s2 with
        | mk o2 s3 =>
          rw [hb] at K
          cases o2 with
          | inr q => exact fun N3 a3 u3 h1 h2 h3 h4 h5 => K N3 a3 u3 ⟨h1.1, h1.2.1.2, h1.2.2⟩ h2 (by omega) (by omega) h5
          | inl t3 => exact K
end TRE
end
section
/-! the reference: probes, by the abstract state -/
def RCo_ (k : Nat) (e : Term) (M : mm_) : Prop := wfX_ true e ∧ ixn_ 7 e ∧ nsb_ e ∧ sd_ M k (tm_ e) ∧ (tc_ (tm_ e)).length ≤ 40
theorem c12_peT (G : gg_) (hG : gd_ G) (d : Nat) (M : mm_) (k : Nat) (hk : k < 32) (e : Term) (V : Nat → Int32) (s : sgA_) (hc : RCo_ k e M) (hV : ∀ i, i < 7 → M.1 30 i = V i) : cm_ G yX12_probeExpression cX12_probeExpression 9 none (d + 1) [.ref (G.1 0), .int (nI k)] M (rV_ (fun N => fpE_ M N ∧ ((N.1 0 59 = 0 ∧ xpA_ V e s = .inl (N.1 0 58)) ∨ (N.1 0 59 = 1 ∧ xpA_ V e s = .inr (N.1 0 58))))) := by
  obtain ⟨w, hi, hn, hs, hl⟩ := hc
  obtain ⟨M0, hM0⟩ : ∃ M0, sI_ M 0 59 0 = M0 := ⟨_, rfl⟩
  have m2 : M0.2 = M.2 := by rw [← hM0]; rfl
  have mo : ∀ a i, ¬ (a = 0 ∧ i = 59) → M0.1 a i = M.1 a i := fun a i z => by rw [← hM0, gI_sI, if_neg (fun y => z ⟨y.1, y.2⟩)]
  have hR : RE_ k (tc_ (tm_ e)).length M0 (tc_ (tm_ e)) V := ⟨by rw [mo _ _ (by omega)]; exact hs.1, rfl, hl, fun i x hx => by rw [mo _ _ (by omega), m2]; exact hs.2 i x hx, fun i hi => by rw [mo _ _ (by omega)]; exact hV i hi⟩
  have f0 : ∀ N, fpE_ M0 N → fpE_ M N := fun N h => ⟨h.1.trans m2, fun a i h1 h2 h3 h4 => by rw [h.2 a i h1 h2 h3 h4, mo a i (by omega)]⟩
  refine c12_probeExpressionE G hG d M k (tc_ (tm_ e)).length hk hl _ ((tc_ (tm_ e)).length + 1) ?_
  rw [hM0]
  refine TRE_ hR true e w hi hn 0 _ [] [] s M0 (fun i q hq => by rw [Nat.zero_add]; exact hq) (by simp) (by simp) (by simp) (by omega) ⟨⟨rfl, fun _ _ _ _ _ _ => rfl⟩, trivial, trivial, by rw [← hM0, gI_sI, if_pos ⟨rfl, rfl⟩]⟩ ?_
  rw [Nat.zero_add]
  unfold xpA_
  cases ho : ES_ I0_ V e [] s with
  | mk o s2 =>
    cases o with
    | inl t2 =>
      obtain ⟨x, rfl⟩ := (ES_sh I0_ V true e w [] s t2 s2 ho).1 rfl
      intro N u hz hu
      obtain ⟨u, rfl⟩ : ∃ v, u = v + 1 := ⟨u - 1, by omega⟩
      refine ⟨by rw [hz.1.2 4 k (by decide) (by decide) (by decide) (by omega)]; exact hR.1, by simp, by simp, fun _ => ?_, fun y => by omega⟩
      have hx : N.1 31 0 = x := hz.2.1.1
      refine ⟨fpE_I (f0 N hz.1) (Or.inr (Or.inr (Or.inr ⟨rfl, Or.inl rfl⟩))), Or.inl ⟨by rw [gI_sI, if_neg (by omega)]; exact hz.2.2.2, ?_⟩⟩
      rw [gI_sI, if_pos ⟨rfl, rfl⟩, hx]
      rfl
    | inr q =>
      intro N a u hz h58 h1 h2 hu
      refine ⟨fun _ => ?_, fun y => absurd y (by simp)⟩
      refine ⟨fpE_I (f0 N hz.1) (Or.inr (Or.inr (Or.inr ⟨rfl, Or.inr rfl⟩))), Or.inr ⟨by rw [gI_sI, if_pos ⟨rfl, rfl⟩], ?_⟩⟩
      rw [gI_sI, if_neg (by omega), h58]
/-- what probes change -/
def fF_ (M N : mm_) : Prop := N.2 = M.2 ∧ ∀ a i, ¬ pzR_ a i → N.1 a i = M.1 a i
theorem fF_rf {M : mm_} : fF_ M M := ⟨rfl, fun _ _ _ => rfl⟩
theorem fF_tr {A B D : mm_} (h : fF_ A B) (g : fF_ B D) : fF_ A D := ⟨g.1.trans h.1, fun a i z => (g.2 a i z).trans (h.2 a i z)⟩
theorem fF_I {M N : mm_} {a i : Nat} {v : Int32} (h : fF_ M N) (ha : pzR_ a i) : fF_ M (sI_ N a i v) := ⟨h.1, fun b j z => by rw [gI_sI, if_neg (fun y => z (by rw [y.1, y.2]; exact ha))]; exact h.2 b j z⟩
theorem fF_pe {M N : mm_} (h : fpE_ M N) : fF_ M N := ⟨h.1, fun a i z => h.2 a i (fun y => z (by unfold pzR_; omega)) (fun y => z (by unfold pzR_; omega)) (fun y => z (by unfold pzR_; omega)) (fun y => z (by unfold pzR_; omega))⟩
/-- the moving state, in the reference -/
def DR_ (s : sgA_) (N : mm_) : Prop := (∀ j, j < 8 → N.1 12 j = s.1 j ∧ (s.1 j = 1 → N.1 15 j = s.2.1 j) ∧ (s.1 j = 2 → ∀ i, i < 48 → N.1 20 (48 * j + i) = s.2.2.1 j i)) ∧
  (N.1 0 35 = nI s.2.2.2.1.1 ∧ s.2.2.2.1.1 ≤ 300 ∧ ∀ i, i < s.2.2.2.1.1 * 5 → N.1 21 i = s.2.2.2.1.2 i) ∧
  (N.1 0 37 = nI s.2.2.2.2.1.1 ∧ s.2.2.2.2.1.1 ≤ 40 ∧ ∀ i, i < s.2.2.2.2.1.1 * 7 → N.1 22 i = s.2.2.2.2.1.2 i) ∧ N.1 0 40 = nI s.2.2.2.2.2 ∧ s.2.2.2.2.2 ≤ 1000
def dcR_ (a i : Nat) : Prop := a = 12 ∨ a = 15 ∨ a = 20 ∨ a = 21 ∨ a = 22 ∨ (a = 0 ∧ (i = 35 ∨ i = 37 ∨ i = 40))
theorem DR_cg {s : sgA_} {M N : mm_} (h : ∀ a i, dcR_ a i → N.1 a i = M.1 a i) (g : DR_ s M) : DR_ s N := by
  obtain ⟨g1, ⟨a1, a2, a3⟩, ⟨b1, b2, b3⟩, g4, g5⟩ := g
  refine ⟨fun j hj => ?_, ⟨by rw [h _ _ (by unfold dcR_; omega)]; exact a1, a2, fun i hi => by rw [h _ _ (by unfold dcR_; omega)]; exact a3 i hi⟩, ⟨by rw [h _ _ (by unfold dcR_; omega)]; exact b1, b2, fun i hi => by rw [h _ _ (by unfold dcR_; omega)]; exact b3 i hi⟩, by rw [h _ _ (by unfold dcR_; omega)]; exact g4, g5⟩
  obtain ⟨c1, c2, c3⟩ := g1 j hj
  exact ⟨by rw [h _ _ (by unfold dcR_; omega)]; exact c1, fun z => by rw [h _ _ (by unfold dcR_; omega)]; exact c2 z, fun z i hi => by rw [h _ _ (by unfold dcR_; omega)]; exact c3 z i hi⟩
theorem DR_I {s : sgA_} {N : mm_} {a i : Nat} {v : Int32} (ha : ¬ dcR_ a i) (g : DR_ s N) : DR_ s (sI_ N a i v) := DR_cg (fun b j z => by rw [gI_sI, if_neg (fun y => ha (by rw [← y.1, ← y.2]; exact z))]) g
theorem DR_pe {s : sgA_} {M N : mm_} (h : fpE_ M N) (g : DR_ s M) : DR_ s N := DR_cg (fun a i z => h.2 a i (fun y => by unfold dcR_ at z; omega) (fun y => by unfold dcR_ at z; omega) (fun y => by unfold dcR_ at z; omega) (fun y => by unfold dcR_ at z; omega)) g
theorem DR_M {s : sgA_} {N : mm_} {j : Nat} {v : Int32} (g : DR_ s N) : DR_ (sM_ s j v) (sI_ N 15 j v) := by
  obtain ⟨g1, ⟨a1, a2, a3⟩, ⟨b1, b2, b3⟩, g4, g5⟩ := g
  refine ⟨fun i hi => ?_, ⟨by rw [gI_sI, if_neg (by omega)]; exact a1, a2, fun i hi => by rw [gI_sI, if_neg (by omega)]; exact a3 i hi⟩, ⟨by rw [gI_sI, if_neg (by omega)]; exact b1, b2, fun i hi => by rw [gI_sI, if_neg (by omega)]; exact b3 i hi⟩, by rw [gI_sI, if_neg (by omega)]; exact g4, g5⟩
  obtain ⟨c1, c2, c3⟩ := g1 i hi
  refine ⟨by rw [gI_sI, if_neg (by omega)]; exact c1, fun z => ?_, fun z x hx => by rw [gI_sI, if_neg (by omega)]; exact c3 z x hx⟩
  show _ = if i = j then v else s.2.1 i
  by_cases e : i = j
  · rw [e, gI_sI, if_pos ⟨rfl, rfl⟩, if_pos rfl]
  · rw [if_neg e, gI_sI, if_neg (fun y => e y.2)]; exact c2 z
theorem DR_K {s : sgA_} {N : mm_} {j : Nat} (g : DR_ s N) : DR_ (sK_ s j 0) (sI_ N 12 j 0) := by
  obtain ⟨g1, ⟨a1, a2, a3⟩, ⟨b1, b2, b3⟩, g4, g5⟩ := g
  refine ⟨fun i hi => ?_, ⟨by rw [gI_sI, if_neg (by omega)]; exact a1, a2, fun i hi => by rw [gI_sI, if_neg (by omega)]; exact a3 i hi⟩, ⟨by rw [gI_sI, if_neg (by omega)]; exact b1, b2, fun i hi => by rw [gI_sI, if_neg (by omega)]; exact b3 i hi⟩, by rw [gI_sI, if_neg (by omega)]; exact g4, g5⟩
  obtain ⟨c1, c2, c3⟩ := g1 i hi
  show (_ = if i = j then 0 else s.1 i) ∧ ((if i = j then 0 else s.1 i) = 1 → _) ∧ ((if i = j then 0 else s.1 i) = 2 → _)
  by_cases e : i = j
  · rw [if_pos e]
    exact ⟨by rw [e, gI_sI, if_pos ⟨rfl, rfl⟩], fun z => absurd z (by decide), fun z => absurd z (by decide)⟩
  · rw [if_neg e]
    exact ⟨by rw [gI_sI, if_neg (fun y => e y.2)]; exact c1, fun z => by rw [gI_sI, if_neg (by omega)]; exact c2 z, fun z x hx => by rw [gI_sI, if_neg (by omega)]; exact c3 z x hx⟩
theorem DR_rc {s : sgA_} {N : mm_} {j m q : Nat} (g : DR_ s N) : DR_ (sR5_ s (l5_ (nI j) (nI m) (N.1 0 58) (if N.1 0 59 = 0 then 0 else 1) (nI q))) (rc_ N s.2.2.2.1.1 (nI j) (nI m) (nI q)) := by
  obtain ⟨g1, ⟨a1, a2, a3⟩, ⟨b1, b2, b3⟩, g4, g5⟩ := id g
  unfold sR5_ rc_
  by_cases h : s.2.2.2.1.1 < 300
  · rw [if_pos h, if_pos h]
    obtain ⟨er, her⟩ : ∃ er, er = (if N.1 0 59 = 0 then (0 : Int32) else 1) := ⟨_, rfl⟩
    rw [← her]
    have o : ∀ a i, ¬ a = 21 → ¬ (a = 0 ∧ i = 35) → (sI_ (sI_ (sI_ (sI_ (sI_ (sI_ N 21 (5 * s.2.2.2.1.1) (nI j)) 21 (5 * s.2.2.2.1.1 + 1) (nI m)) 21 (5 * s.2.2.2.1.1 + 2) (N.1 0 58)) 21 (5 * s.2.2.2.1.1 + 3) er) 21 (5 * s.2.2.2.1.1 + 4) (nI q)) 0 35 (nI (s.2.2.2.1.1 + 1))).1 a i = N.1 a i := fun a i z1 z2 => by
      rw [gI_sI, if_neg z2, gI_sI, if_neg (fun y => z1 y.1), gI_sI, if_neg (fun y => z1 y.1), gI_sI, if_neg (fun y => z1 y.1), gI_sI, if_neg (fun y => z1 y.1), gI_sI, if_neg (fun y => z1 y.1)]
    refine ⟨fun i hi => ?_, ⟨?_, by simp only; omega, fun i hi => ?_⟩, ⟨by rw [o _ _ (by omega) (by omega)]; exact b1, b2, fun i hi => by rw [o _ _ (by omega) (by omega)]; exact b3 i hi⟩, by rw [o _ _ (by omega) (by omega)]; exact g4, g5⟩
    · obtain ⟨c1, c2, c3⟩ := g1 i hi
      exact ⟨by rw [o _ _ (by omega) (by omega)]; exact c1, fun z => by rw [o _ _ (by omega) (by omega)]; exact c2 z, fun z x hx => by rw [o _ _ (by omega) (by omega)]; exact c3 z x hx⟩
    · rw [gI_sI, if_pos ⟨rfl, rfl⟩]
    · rw [gI_sI, if_neg (by omega)]
      have hw := w5r_ (A := N) (a := 21) (q := 5 * s.2.2.2.1.1) (i := i) (v0 := nI j) (v1 := nI m) (v2 := N.1 0 58) (v3 := er) (v4 := nI q)
      refine hw.trans ?_
      simp only
      unfold rw5_
      rw [Nat.mul_comm 5]
      by_cases z : s.2.2.2.1.1 * 5 ≤ i ∧ i < s.2.2.2.1.1 * 5 + 5
      · rw [if_pos z, if_pos z]
      · rw [if_neg z, if_neg z]; exact a3 i (by simp only at hi; omega)
  · rw [if_neg h, if_neg h]; exact g
theorem sR5_M {s : sgA_} {j : Nat} {v : Int32} {g : Nat → Int32} : sR5_ (sM_ s j v) g = sM_ (sR5_ s g) j v := by
  have e : (sM_ s j v).2.2.2.1.1 = s.2.2.2.1.1 := rfl
  unfold sR5_
  rw [e]
  by_cases h : s.2.2.2.1.1 < 300
  · rw [if_pos h, if_pos h]; rfl
  · rw [if_neg h, if_neg h]
theorem sR5_K {s : sgA_} {j : Nat} {v : Int32} {g : Nat → Int32} : sR5_ (sK_ s j v) g = sK_ (sR5_ s g) j v := by
  have e : (sK_ s j v).2.2.2.1.1 = s.2.2.2.1.1 := rfl
  unfold sR5_
  rw [e]
  by_cases h : s.2.2.2.1.1 < 300
  · rw [if_pos h, if_pos h]; rfl
  · rw [if_neg h, if_neg h]
/-- a watch that lives has room -/
def WL_ (E : se_) (s : sgA_) : Prop := ∀ j, j < 8 → s.1 j = 1 → ∃ a l, s.2.1 j = nI a ∧ E.2.2.2.2.1 j = nI l ∧ a < l ∧ l ≤ 99
theorem rc_oth {N : mm_} {c : Nat} {j m e : Int32} {a i : Nat} (z1 : ¬ a = 21) (z2 : ¬ (a = 0 ∧ i = 35)) : (rc_ N c j m e).1 a i = N.1 a i := by
  unfold rc_
  split
  · rw [gI_sI, if_neg z2, gI_sI, if_neg (fun y => z1 y.1), gI_sI, if_neg (fun y => z1 y.1), gI_sI, if_neg (fun y => z1 y.1), gI_sI, if_neg (fun y => z1 y.1), gI_sI, if_neg (fun y => z1 y.1)]
  · rfl
theorem rc_two {N : mm_} {c : Nat} {j m e : Int32} : (rc_ N c j m e).2 = N.2 := by
  unfold rc_; split <;> rfl
theorem rd_oth {N : mm_} {c b : Nat} {m e : Int32} {a i : Nat} (z : ¬ pzR_ a i) : (rd_ N c b m e).1 a i = N.1 a i := by
  unfold pzR_ at z
  unfold rd_
  split
  · rw [gI_sI, if_neg (by omega), gI_sI, if_neg (by omega), rc_oth (by omega) (by omega)]
  · rw [gI_sI, if_neg (by omega), rc_oth (by omega) (by omega)]
theorem rd_two {N : mm_} {c b : Nat} {m e : Int32} : (rd_ N c b m e).2 = N.2 := by
  unfold rd_; split
  · exact rc_two
  · exact rc_two
theorem DR_rd {E : se_} {s : sgA_} {N : mm_} {j m q : Nat} {x : Int32} (hj : j < 8) (hk : s.1 j = 1) (hL : WL_ E s) (hl : N.1 14 j = E.2.2.2.2.1 j) (h58 : N.1 0 58 = x) (g : DR_ s N) : DR_ (rcA_ E j m q x (if N.1 0 59 = 0 then 0 else 1) s) (rd_ N s.2.2.2.1.1 j (nI m) (nI q)) := by
  obtain ⟨a, l, ha, he, hal, hl99⟩ := hL j hj hk
  have h15 : N.1 15 j = nI a := ((g.1 j hj).2.1 hk).trans ha
  have hR := DR_rc (j := j) (m := m) (q := q) g
  rw [h58] at hR
  unfold rcA_ rd_
  rw [h15, hl, he, ha, nI_1]
  by_cases y : a + 1 < l
  · rw [if_pos (nI_lt y (by omega)), if_neg (show ¬ nI (a + 1) = nI l from fun z => by have := (nI_eq (by omega) (by omega)).mp z; omega), sR5_M]
    exact DR_M hR
  · rw [if_neg (fun z => y ((nI_ltI (by omega) (by omega)).mp z)), if_pos (show nI (a + 1) = nI l by rw [show a + 1 = l by omega]), sR5_K, sR5_M]
    exact DR_K (DR_M hR)
theorem rcA_12 {E : se_} {j m d : Nat} {x e : Int32} {s : sgA_} : (rcA_ E j m d x e s).1 = (if s.2.1 j + 1 < E.2.2.2.2.1 j then sM_ s j (s.2.1 j + 1) else sK_ (sM_ s j (s.2.1 j + 1)) j 0).1 ∧ (rcA_ E j m d x e s).2.1 = (sM_ s j (s.2.1 j + 1)).2.1 := by
  unfold rcA_
  split
  · rw [sR5_M]; unfold sR5_; split <;> exact ⟨rfl, rfl⟩
  · rw [sR5_K, sR5_M]; unfold sR5_; split <;> exact ⟨rfl, rfl⟩
theorem WL_rc {E : se_} {j m d : Nat} {x e : Int32} {s : sgA_} (hj : j < 8) (hk : s.1 j = 1) (h : WL_ E s) : WL_ E (rcA_ E j m d x e s) := by
  intro i hi hi1
  obtain ⟨a, l, ha, he, hal, hl99⟩ := h j hj hk
  rw [rcA_12.1, ha, he, nI_1] at hi1
  rw [rcA_12.2, ha, nI_1]
  show ∃ a2 l, (if i = j then nI (a + 1) else s.2.1 i) = nI a2 ∧ _
  by_cases e2 : i = j
  · subst e2
    rw [if_pos rfl]
    by_cases y : a + 1 < l
    · exact ⟨a + 1, l, rfl, he, y, hl99⟩
    · rw [if_neg (fun z => y ((nI_ltI (by omega) (by omega)).mp z))] at hi1
      have : (if i = i then (0 : Int32) else s.1 i) = 1 := hi1
      rw [if_pos rfl] at this
      exact absurd this (by decide)
  · rw [if_neg e2]
    refine h i hi ?_
    split at hi1
    · exact hi1
    · have : (if i = j then (0 : Int32) else s.1 i) = 1 := hi1
      rwa [if_neg e2] at this
theorem kp_km {j m p : Nat} {P : Nat → Int32} {v : Int32} {s : sgA_} : (kpA_ j m p P v s).1 = s.1 ∧ (kpA_ j m p P v s).2.1 = s.2.1 := by
  unfold kpA_ sE7_
  split
  · exact ⟨rfl, rfl⟩
  · split <;> exact ⟨rfl, rfl⟩
theorem DR_ko {s : sgA_} {N : mm_} {j m p q : Nat} {P : Nat → Int32} {v : Int32} (hp : p = 1 ∨ p = 2) (h23 : N.1 23 q = nI m) (hP : ∀ i, i < 3 → N.1 24 (3 * q + i) = P i) (g : DR_ s N) : DR_ (kpA_ j m p P v s) (ko_ N s.2.2.2.2.1.1 q (nI j) (nI p) v) ∧ fF_ N (ko_ N s.2.2.2.2.1.1 q (nI j) (nI p) v) := by
  obtain ⟨g1, ⟨a1, a2, a3⟩, ⟨b1, b2, b3⟩, g4, g5⟩ := id g
  unfold kpA_ sE7_ ko_
  rw [if_neg (show ¬ p = 0 by omega)]
  by_cases h : s.2.2.2.2.1.1 < 40
  · rw [if_pos h, if_neg (show ¬ s.2.2.2.2.1.1 = 40 by omega)]
    have e5 : nI p - 1 = if p = 2 then (1 : Int32) else 0 := by rcases hp with rfl | rfl <;> decide
    rw [e5, h23]
    obtain ⟨er, her⟩ : ∃ er, er = (if p = 2 then (1 : Int32) else 0) := ⟨_, rfl⟩
    rw [← her]
    unfold kp_ kp_ kp_ kp_
    rw [gI_sI, if_neg (by omega), gI_sI, if_neg (by omega), gI_sI, if_neg (by omega), gI_sI, if_neg (by omega), gI_sI, if_neg (by omega), gI_sI, if_neg (by omega), hP 0 (by omega), hP 1 (by omega), hP 2 (by omega)]
    have hw := fun i => w7_7 (A := N) (a := 22) (q := 7 * s.2.2.2.2.1.1) (i := i) (v0 := nI j) (v1 := nI m) (v2 := P 0) (v3 := P 1) (v4 := P 2) (v5 := er) (v6 := v)
    obtain ⟨B, hB⟩ : ∃ B, sI_ (sI_ (sI_ (sI_ (sI_ (sI_ (sI_ N 22 (7 * s.2.2.2.2.1.1 + 0) (nI j)) 22 (7 * s.2.2.2.2.1.1 + 1) (nI m)) 22 (7 * s.2.2.2.2.1.1 + 2) (P 0)) 22 (7 * s.2.2.2.2.1.1 + 3) (P 1)) 22 (7 * s.2.2.2.2.1.1 + 4) (P 2)) 22 (7 * s.2.2.2.2.1.1 + 5) er) 22 (7 * s.2.2.2.2.1.1 + 6) v = B := ⟨_, rfl⟩
    rw [hB] at hw
    have o : ∀ a i, ¬ a = 22 → B.1 a i = N.1 a i := fun a i z1 => by
      rw [← hB, gI_sI, if_neg (fun y => z1 y.1), gI_sI, if_neg (fun y => z1 y.1), gI_sI, if_neg (fun y => z1 y.1), gI_sI, if_neg (fun y => z1 y.1), gI_sI, if_neg (fun y => z1 y.1), gI_sI, if_neg (fun y => z1 y.1), gI_sI, if_neg (fun y => z1 y.1)]
    have o2 : B.2 = N.2 := by rw [← hB]; rfl
    show DR_ _ (sI_ (sI_ (sI_ (sI_ (sI_ (sI_ (sI_ (sI_ N 22 (7 * s.2.2.2.2.1.1 + 0) (nI j)) 22 (7 * s.2.2.2.2.1.1 + 1) (nI m)) 22 (7 * s.2.2.2.2.1.1 + 2) (P 0)) 22 (7 * s.2.2.2.2.1.1 + 3) (P 1)) 22 (7 * s.2.2.2.2.1.1 + 4) (P 2)) 22 (7 * s.2.2.2.2.1.1 + 5) er) 22 (7 * s.2.2.2.2.1.1 + 6) v) 0 37 (nI (s.2.2.2.2.1.1 + 1))) ∧ fF_ N (sI_ (sI_ (sI_ (sI_ (sI_ (sI_ (sI_ (sI_ N 22 (7 * s.2.2.2.2.1.1 + 0) (nI j)) 22 (7 * s.2.2.2.2.1.1 + 1) (nI m)) 22 (7 * s.2.2.2.2.1.1 + 2) (P 0)) 22 (7 * s.2.2.2.2.1.1 + 3) (P 1)) 22 (7 * s.2.2.2.2.1.1 + 4) (P 2)) 22 (7 * s.2.2.2.2.1.1 + 5) er) 22 (7 * s.2.2.2.2.1.1 + 6) v) 0 37 (nI (s.2.2.2.2.1.1 + 1)))
    rw [hB]
    have o3 : ∀ a i, ¬ a = 22 → ¬ (a = 0 ∧ i = 37) → (sI_ B 0 37 (nI (s.2.2.2.2.1.1 + 1))).1 a i = N.1 a i := fun a i z1 z2 => by rw [gI_sI, if_neg z2, o a i z1]
    refine ⟨⟨fun i hi => ?_, ⟨by rw [o3 _ _ (by omega) (by omega)]; exact a1, a2, fun i hi => by rw [o3 _ _ (by omega) (by omega)]; exact a3 i hi⟩, ⟨by rw [gI_sI, if_pos ⟨rfl, rfl⟩], by simp only; omega, fun i hi => ?_⟩, by rw [o3 _ _ (by omega) (by omega)]; exact g4, g5⟩, o2, fun a i z => o3 a i (fun y => z (by unfold pzR_; omega)) (fun y => z (by unfold pzR_; omega))⟩
    · obtain ⟨c1, c2, c3⟩ := g1 i hi
      exact ⟨by rw [o3 _ _ (by omega) (by omega)]; exact c1, fun z => by rw [o3 _ _ (by omega) (by omega)]; exact c2 z, fun z x hx => by rw [o3 _ _ (by omega) (by omega)]; exact c3 z x hx⟩
    · rw [gI_sI, if_neg (by omega), hw i]
      simp only
      unfold rw5_
      rw [Nat.mul_comm 7]
      by_cases z : s.2.2.2.2.1.1 * 7 ≤ i ∧ i < s.2.2.2.2.1.1 * 7 + 7
      · rw [if_pos z, if_pos z]
        obtain ⟨x, rfl⟩ : ∃ x, i = s.2.2.2.2.1.1 * 7 + x := ⟨i - s.2.2.2.2.1.1 * 7, by omega⟩
        rw [Nat.add_sub_cancel_left]
        obtain rfl | rfl | rfl | rfl | rfl | rfl | rfl : x = 0 ∨ x = 1 ∨ x = 2 ∨ x = 3 ∨ x = 4 ∨ x = 5 ∨ x = 6 := by omega
        all_goals rfl
      · rw [if_neg z, if_neg z]; exact b3 i (by simp only at hi; omega)
  · rw [if_neg h, if_pos (show s.2.2.2.2.1.1 = 40 by omega)]
    exact ⟨g, fF_rf⟩
theorem DR_ct {s : sgA_} {N : mm_} {j i : Nat} {v : Int32} (hj : j < 8) (hi : i < 48) (g : DR_ s N) : DR_ (sCA_ s j i v) (sI_ N 20 (48 * j + i) v) := by
  obtain ⟨g1, ⟨a1, a2, a3⟩, ⟨b1, b2, b3⟩, g4, g5⟩ := g
  refine ⟨fun k hk => ?_, ⟨by rw [gI_sI, if_neg (by omega)]; exact a1, a2, fun i hi => by rw [gI_sI, if_neg (by omega)]; exact a3 i hi⟩, ⟨by rw [gI_sI, if_neg (by omega)]; exact b1, b2, fun i hi => by rw [gI_sI, if_neg (by omega)]; exact b3 i hi⟩, by rw [gI_sI, if_neg (by omega)]; exact g4, g5⟩
  obtain ⟨c1, c2, c3⟩ := g1 k hk
  refine ⟨by rw [gI_sI, if_neg (by omega)]; exact c1, fun z => by rw [gI_sI, if_neg (by omega)]; exact c2 z, fun z x hx => ?_⟩
  show _ = if k = j ∧ x = i then v else s.2.2.1 k x
  by_cases e : k = j ∧ x = i
  · obtain ⟨rfl, rfl⟩ := e
    rw [gI_sI, if_pos ⟨rfl, rfl⟩, if_pos ⟨rfl, rfl⟩]
  · rw [if_neg e, gI_sI, if_neg (fun y => e (by omega))]; exact c3 z x hx

end
section
/-! the reference: watchOne and probe, by the abstract state -/
def JR_ (E : se_) (c : Nat) (s : sgA_) (M : mm_) : Prop := ∀ j, j < 8 → ¬ s.1 j = 0 → (s.1 j = 1 ∨ s.1 j = 2 ∨ s.1 j = 3) ∧ (∃ z, z ≤ 12 ∧ M.1 18 j = nI z ∧ ∀ m, m < c → (ft_ (pa_ M j) z (M.2.1 5 m) = 0 ↔ E.2.2.2.2.2.2.2.1 j m = false)) ∧
  (s.1 j = 1 → M.1 13 j = E.2.2.2.1 j ∧ M.1 14 j = E.2.2.2.2.1 j ∧ RCo_ (16 + 2 * j) (E.2.2.2.2.2.1 j) M ∧ (E.2.2.2.2.2.2.1 j = none → M.1 16 j = 0) ∧ ∀ e, E.2.2.2.2.2.2.1 j = some e → ¬ M.1 16 j = 0 ∧ RCo_ (17 + 2 * j) e M)
/-- what jobs hang on -/
def jcR_ (a i : Nat) : Prop := a = 2 ∨ a = 4 ∨ a = 13 ∨ a = 14 ∨ a = 16 ∨ a = 17 ∨ a = 18
theorem RC_cg {k : Nat} {e : Term} {M N : mm_} (h2 : N.2 = M.2) (h : ∀ a i, jcR_ a i → N.1 a i = M.1 a i) (g : RCo_ k e M) : RCo_ k e N := ⟨g.1, g.2.1, g.2.2.1, ⟨by rw [h _ _ (by unfold jcR_; omega)]; exact g.2.2.2.1.1, fun i x hx => by rw [h _ _ (by unfold jcR_; omega), h2]; exact g.2.2.2.1.2 i x hx⟩, g.2.2.2.2⟩
theorem JR_cg {E : se_} {c : Nat} {s s2 : sgA_} {M N : mm_} (h2 : N.2 = M.2) (h : ∀ a i, jcR_ a i → N.1 a i = M.1 a i) (hs : KM_ s s2) (g : JR_ E c s M) : JR_ E c s2 N := by
  intro j hj h0
  have hs2 : s2.1 j = s.1 j := (hs j hj).resolve_right h0
  rw [hs2] at h0 ⊢
  obtain ⟨a1, ⟨z, a2, a3, a4⟩, a5⟩ := g j hj h0
  have hp : pa_ N j = pa_ M j := by funext p; exact h _ _ (by unfold jcR_; omega)
  refine ⟨a1, ⟨z, a2, by rw [h _ _ (by unfold jcR_; omega)]; exact a3, fun m hm => by rw [hp, h2]; exact a4 m hm⟩, fun h1 => ?_⟩
  obtain ⟨b1, b2, b3, b4, b5⟩ := a5 h1
  refine ⟨by rw [h _ _ (by unfold jcR_; omega)]; exact b1, by rw [h _ _ (by unfold jcR_; omega)]; exact b2, RC_cg h2 h b3, fun z => by rw [h _ _ (by unfold jcR_; omega)]; exact b4 z, fun e he => ?_⟩
  obtain ⟨c1, c2⟩ := b5 e he
  exact ⟨by rw [h _ _ (by unfold jcR_; omega)]; exact c1, RC_cg h2 h c2⟩
theorem JR_fF {E : se_} {c : Nat} {s s2 : sgA_} {M N : mm_} (h : fF_ M N) (hs : KM_ s s2) (g : JR_ E c s M) : JR_ E c s2 N := JR_cg h.1 (fun a i z => h.2 a i (fun y => by unfold jcR_ at z; unfold pzR_ at y; omega)) hs g
def PIR_ (E : se_) (c : Nat) (M : mm_) (s : sgA_) (N : mm_) : Prop := fF_ M N ∧ DR_ s N ∧ JR_ E c s N ∧ WL_ E s
section RPT
variable {G : gg_} {d : Nat} {E : se_} {c q : Nat} {M : mm_}
theorem c12_watchT (hG : gd_ G) (hq : q ≤ 10) {s : sgA_} {j : Nat} (hj : j < 8) (m p : Nat) (P : Nat → Int32) (v : Int32) (hk : s.1 j = 1) (hX : JR_ E c s M) (hD : DR_ s M) (hL : WL_ E s) (h23 : M.1 23 q = nI m) (hrow : ∀ i, i < 6 → M.1 30 i = va5_ P p q v 0 i) : cm_ G yX12_watchOne cX12_watchOne 3 none (d + 2) [.ref (G.1 0), .int (nI j), .int (nI q)] M (rV_ (PIR_ E c M (wtA_ E j m q (va5_ P p q v (s.2.1 j)) s))) := by
  obtain ⟨-, -, x3⟩ := hX j hj (by rw [hk]; decide)
  obtain ⟨x4, x5, x6, x7, x8⟩ := x3 hk
  generalize hW : va5_ P p q v (s.2.1 j) = W
  have kj : M.1 15 j = s.2.1 j := (hD.1 j hj).2.1 hk
  obtain ⟨M0, hM0⟩ : ∃ M0, sI_ M 30 6 (M.1 15 j) = M0 := ⟨_, rfl⟩
  have f0 : fF_ M M0 := by rw [← hM0]; exact fF_I fF_rf (by unfold pzR_; omega)
  have d0 : DR_ s M0 := by rw [← hM0]; exact DR_I (by unfold dcR_; omega) hD
  have j0 : JR_ E c s M0 := JR_fF f0 (KM_rf s) hX
  have row : ∀ i, i < 7 → M0.1 30 i = W i := fun i hi => by
    by_cases e : i = 6
    · subst e; rw [← hM0, gI_sI, if_pos ⟨rfl, rfl⟩, kj, ← hW]; rfl
    · rw [← hM0, gI_sI, if_neg (by omega), hrow i (by omega), ← hW]; exact va5_6 (by omega)
  obtain ⟨-, -, y3⟩ := j0 j hj (by rw [hk]; decide)
  obtain ⟨y4, y5, y6, y7, y8⟩ := y3 hk
  have recd : ∀ (N : mm_) (x : Int32), fpE_ M0 N → N.1 0 58 = x → ∃ c9, c9 ≤ 300 ∧ N.1 0 35 = nI c9 ∧ PIR_ E c M (rcA_ E j m q x (if N.1 0 59 = 0 then 0 else 1) s) (rd_ N c9 j (N.1 23 q) (nI q)) := fun N x h h58 => by
    have dN := DR_pe h d0
    refine ⟨s.2.2.2.1.1, dN.2.1.2.1, dN.2.1.1, ?_⟩
    have e23 : N.1 23 q = nI m := by rw [h.2 23 q (by decide) (by decide) (by decide) (by omega), f0.2 23 q (by unfold pzR_; omega)]; exact h23
    have e14 : N.1 14 j = E.2.2.2.2.1 j := by rw [h.2 14 j (by decide) (by decide) (by decide) (by omega)]; exact y5
    rw [e23]
    have fr : fF_ M (rd_ N s.2.2.2.1.1 j (nI m) (nI q)) := fF_tr (fF_tr f0 (fF_pe h)) ⟨rd_two, fun a i z => rd_oth z⟩
    exact ⟨fr, DR_rd hj hk hL e14 h58 dN, JR_fF fr KM_rc hX, WL_rc hj hk hL⟩
  have go : ∀ (N : mm_) (Q : mm_ → Prop), fpE_ M0 N → (∀ N2, PIR_ E c M (wgA_ E j m q W s) N2 → Q N2) → WGR_ G d j q Q N := fun N Q h hQ => by
    have rN : RCo_ (16 + 2 * j) (E.2.2.2.2.2.1 j) N := RC_cg h.1 (fun a i z => h.2 a i (by unfold jcR_ at z; omega) (by unfold jcR_ at z; omega) (by unfold jcR_ at z; omega) (by unfold jcR_ at z; omega)) y6
    refine ⟨_, c12_peT G hG d N (16 + 2 * j) (by omega) _ W s rN (fun i hi => by rw [h.2 30 i (by decide) (by decide) (by decide) (by omega)]; exact row i hi), fun N2 h2 => ?_⟩
    obtain ⟨h3, h4⟩ := h2
    have h5 : fpE_ M0 N2 := ⟨h3.1.trans h.1, fun a i z1 z2 z3 z4 => (h3.2 a i z1 z2 z3 z4).trans (h.2 a i z1 z2 z3 z4)⟩
    obtain ⟨c9, g1, g2, g3⟩ := recd N2 _ h5 rfl
    refine ⟨c9, g1, g2, hQ _ ?_⟩
    unfold wgA_
    rcases h4 with ⟨h6, h7⟩ | ⟨h6, h7⟩
    · rw [if_pos h6] at g3; rw [h7]; exact g3
    · rw [if_neg (by rw [h6]; decide)] at g3; rw [h7]; exact g3
  refine c12_watchOneE G hG d M j hj q hq _ (fun hn => ?_) (fun hn => ?_)
  · rw [hM0]
    have hc : E.2.2.2.2.2.2.1 j = none := by
      cases hc : E.2.2.2.2.2.2.1 j with
      | none => rfl
      | some e => exact absurd hn (x8 e hc).1
    refine go M0 _ ⟨rfl, fun _ _ _ _ _ _ => rfl⟩ (fun N2 h => ?_)
    unfold wtA_; rw [hc]; exact h
  · rw [hM0]
    cases hc : E.2.2.2.2.2.2.1 j with
    | none => exact absurd (x7 hc) hn
    | some e =>
      obtain ⟨-, y9⟩ := y8 e hc
      refine ⟨_, c12_peT G hG d M0 (17 + 2 * j) (by omega) _ W s y9 row, fun N h => ?_⟩
      obtain ⟨h3, h4⟩ := h
      rcases h4 with ⟨h6, h7⟩ | ⟨h6, h7⟩
      · refine ⟨fun y => absurd h6 y, fun _ y => ?_, fun _ y => go N _ h3 (fun N2 h2 => ?_)⟩
        · unfold wtA_; rw [hc]; simp only; rw [h7]; simp only; rw [if_pos y]
          have fr := fF_tr f0 (fF_pe h3)
          exact ⟨fr, DR_pe h3 d0, JR_fF fr (KM_rf s) hX, hL⟩
        · unfold wtA_; rw [hc]; simp only; rw [h7]; simp only; rw [if_neg y]; exact h2
      · refine ⟨fun _ => ?_, fun y => absurd (h6.symm.trans y) (by decide), fun y => absurd (h6.symm.trans y) (by decide)⟩
        obtain ⟨c9, g1, g2, g3⟩ := recd N _ h3 rfl
        rw [if_neg (by rw [h6]; decide)] at g3
        refine ⟨c9, g1, g2, ?_⟩
        unfold wtA_; rw [hc]; simp only; rw [h7]; exact g3
theorem PWR_T (hG : gd_ G) (hq : q ≤ 10) (m p : Nat) (hm : m < c) (hm16 : m < 16) (hp : p ≤ 2) (P : Nat → Int32) (v : Int32) (h23 : M.1 23 q = nI m) (hrow : ∀ i, i < 3 → M.1 24 (3 * q + i) = P i) (h42 : M.1 0 42 = 0) (Q : mm_ → Prop) : ∀ (u i : Nat) (s : sgA_) (N : mm_), i + u = 8 → PIR_ E c M s N → (∀ N2, PIR_ E c M (pkA_ E m p q P v u i s) N2 → Q N2) → PWR_ G d q p v Q u i N
  | 0, i, s, N, _, hI, hQ => hQ N hI
  | u + 1, i, s, N, hi, hI, hQ => by
    obtain ⟨i1, i2, i3, i4⟩ := id hI
    have go : ∀ (N2 : mm_) (s2 : sgA_), pjA_ E m p q P v i s = s2 → PIR_ E c M s2 N2 → PWR_ G d q p v Q u (i + 1) N2 := fun N2 s2 e h => PWR_T hG hq m p hm hm16 hp P v h23 hrow h42 Q u (i + 1) s2 N2 (by omega) h (fun N3 h3 => hQ N3 (by rw [pkA_, e]; exact h3))
    have N42 : N.1 0 42 = 0 := by rw [i1.2 0 42 (by unfold pzR_; omega)]; exact h42
    have N23 : N.1 23 q = nI m := by rw [i1.2 23 q (by unfold pzR_; omega)]; exact h23
    have N24 : ∀ x, x < 3 → N.1 24 (3 * q + x) = P x := fun x hx => by rw [i1.2 24 _ (by unfold pzR_; omega)]; exact hrow x hx
    obtain ⟨k1, k2, k3⟩ := i2.1 i (by omega)
    refine ⟨fun y => absurd N42 y, fun _ => ⟨fun y => ?_, fun y => ?_⟩⟩
    · refine go N s ?_ hI
      have s0 : s.1 i = 0 := by
        by_cases h0 : s.1 i = 0
        · exact h0
        · rw [k1] at y
          rcases (i3 i (by omega) h0).1 with z | z | z <;> rw [z] at y <;> exact absurd y (by decide)
      unfold pjA_; rw [if_pos (Or.inl s0)]
    · have h0 : ¬ s.1 i = 0 := fun z => y (by rw [k1, z]; decide)
      obtain ⟨a1, ⟨z, a2, a3, a4⟩, a5⟩ := i3 i (by omega) h0
      refine ⟨z, m, a2, a3, hm16, N23, fun hf => ?_, fun hf A hA => ?_⟩
      · refine go N s ?_ hI
        unfold pjA_; rw [if_pos (Or.inr ((a4 m hm).mp hf))]
      · have hn : ¬ (s.1 i = 0 ∨ E.2.2.2.2.2.2.2.1 i m = false) := fun y => y.elim h0 (fun y => hf ((a4 m hm).mpr y))
        have fA : fF_ N A := by
          rw [hA]; unfold seR_
          exact fF_I (fF_I (fF_I (fF_I (fF_I (fF_I fF_rf (by unfold pzR_; omega)) (by unfold pzR_; omega)) (by unfold pzR_; omega)) (by unfold pzR_; omega)) (by unfold pzR_; omega)) (by unfold pzR_; omega)
        have dA : DR_ s A := by
          rw [hA]; unfold seR_
          exact DR_I (by unfold dcR_; omega) (DR_I (by unfold dcR_; omega) (DR_I (by unfold dcR_; omega) (DR_I (by unfold dcR_; omega) (DR_I (by unfold dcR_; omega) (DR_I (by unfold dcR_; omega) i2)))))
        have jA : JR_ E c s A := JR_fF fA (KM_rf s) i3
        have fMA := fF_tr i1 fA
        have hIA : PIR_ E c M s A := ⟨fMA, dA, jA, i4⟩
        have e1 : (nI p = 1) ↔ p = 1 := by rw [show (1 : Int32) = nI 1 from rfl]; exact nI_eq (by omega) (by decide)
        have e2 : (nI p = 2) ↔ p = 2 := by rw [show (2 : Int32) = nI 2 from rfl]; exact nI_eq (by omega) (by decide)
        have rA : ∀ x, x < 6 → A.1 30 x = va5_ P p q v 0 x := fun x hx => by
          rw [hA]; unfold seR_
          have q1 : (if nI p = 1 then v else (0 : Int32)) = if p = 1 then v else 0 := by
            by_cases w : p = 1
            · rw [if_pos (e1.mpr w), if_pos w]
            · rw [if_neg (fun w2 => w (e1.mp w2)), if_neg w]
          have q2 : (if nI p = 2 then v else (0 : Int32)) = if p = 2 then v else 0 := by
            by_cases w : p = 2
            · rw [if_pos (e2.mpr w), if_pos w]
            · rw [if_neg (fun w2 => w (e2.mp w2)), if_neg w]
          rw [q1, q2, N24 0 (by omega), N24 1 (by omega), N24 2 (by omega)]
          obtain rfl | rfl | rfl | rfl | rfl | rfl : x = 0 ∨ x = 1 ∨ x = 2 ∨ x = 3 ∨ x = 4 ∨ x = 5 := by omega
          · rw [gI_sI, if_neg (by omega), gI_sI, if_neg (by omega), gI_sI, if_neg (by omega), gI_sI, if_neg (by omega), gI_sI, if_neg (by omega), gI_sI, if_pos ⟨rfl, rfl⟩]; rfl
          · rw [gI_sI, if_neg (by omega), gI_sI, if_neg (by omega), gI_sI, if_neg (by omega), gI_sI, if_neg (by omega), gI_sI, if_pos ⟨rfl, rfl⟩]; rfl
          · rw [gI_sI, if_neg (by omega), gI_sI, if_neg (by omega), gI_sI, if_neg (by omega), gI_sI, if_pos ⟨rfl, rfl⟩]; rfl
          · rw [gI_sI, if_neg (by omega), gI_sI, if_neg (by omega), gI_sI, if_pos ⟨rfl, rfl⟩]; rfl
          · rw [gI_sI, if_neg (by omega), gI_sI, if_pos ⟨rfl, rfl⟩]; rfl
          · rw [gI_sI, if_pos ⟨rfl, rfl⟩]; rfl
        have A23 : A.1 23 q = nI m := by rw [fA.2 23 q (by unfold pzR_; omega)]; exact N23
        have A24 : ∀ x, x < 3 → A.1 24 (3 * q + x) = P x := fun x hx => by rw [fA.2 24 _ (by unfold pzR_; omega)]; exact N24 x hx
        have A12 : A.1 12 i = s.1 i := (dA.1 i (by omega)).1
        have A13 : s.1 i = 1 → A.1 13 i = E.2.2.2.1 i := fun y => ((jA i (by omega) h0).2.2 y).1
        rw [A12]
        refine ⟨A23, fun h1 hpt => ?_, fun h2 => ?_, fun h3 hp0 => ?_, fun h1 hpt => ?_, fun h3 hp0 => ?_, a1⟩
        · refine ⟨_, c12_watchT hG hq (by omega) m p P v h1 jA dA i4 A23 rA, fun N2 h => ?_⟩
          refine go N2 _ (by unfold pjA_; rw [if_neg hn, if_neg (by rw [h1]; decide), if_neg (by rw [h1]; decide), if_pos ((A13 h1).symm.trans hpt)]) ?_
          exact ⟨fF_tr fMA h.1, h.2⟩
        · have hct : A.1 20 (48 * i + (3 * m + p)) = s.2.2.1 i (3 * m + p) := (dA.1 i (by omega)).2.2 h2 _ (by omega)
          rw [Nat.add_assoc, hct]
          have fr : fF_ M (sI_ A 20 (48 * i + (3 * m + p)) (s.2.2.1 i (3 * m + p) + 1)) := fF_I fMA (by unfold pzR_; omega)
          have km : KM_ s (sCA_ s i (3 * m + p) (s.2.2.1 i (3 * m + p) + 1)) := fun _ _ => Or.inl rfl
          exact go _ (sCA_ s i (3 * m + p) (s.2.2.1 i (3 * m + p) + 1)) (by unfold pjA_; rw [if_neg hn, if_pos h2]) ⟨fr, DR_ct (by omega) (by omega) dA, JR_fF (fF_I fA (by unfold pzR_; omega)) km i3, i4⟩
        · obtain ⟨k4, k5⟩ := DR_ko (j := i) (m := m) (p := p) (v := v) (by omega) A23 A24 dA
          refine ⟨s.2.2.2.2.1.1, dA.2.2.1.2.1, dA.2.2.1.1, ?_⟩
          have km : KM_ s (kpA_ i m p P v s) := fun j _ => Or.inl (by rw [kp_km.1])
          refine go _ _ (by unfold pjA_; rw [if_neg hn, if_neg (by rw [h3]; decide), if_pos h3]) ⟨fF_tr fMA k5, k4, JR_fF (fF_tr fA k5) km i3, ?_⟩
          intro j hj hj1
          rw [kp_km.1] at hj1
          rw [kp_km.2]
          exact i4 j hj hj1
        · exact go A s (by unfold pjA_; rw [if_neg hn, if_neg (by rw [h1]; decide), if_neg (by rw [h1]; decide), if_neg (fun y => hpt ((A13 h1).trans y))]) hIA
        · exact go A s (by unfold pjA_ kpA_; rw [if_neg hn, if_neg (by rw [h3]; decide), if_pos h3, if_pos hp0]) hIA
theorem c12_probeT (hG : gd_ G) (hq : q ≤ 10) (m p : Nat) (hm : m < c) (hm16 : m < 16) (hp : p ≤ 2) (P : Nat → Int32) (v : Int32) {s : sgA_} (h23 : M.1 23 q = nI m) (hrow : ∀ i, i < 3 → M.1 24 (3 * q + i) = P i) (h42 : M.1 0 42 = 0 ↔ E.2.2.2.2.2.2.2.2 = true) (hX : JR_ E c s M) (hD : DR_ s M) (hL : WL_ E s) : CPR_ G d q p v M (PIR_ E c M (pbA_ E m p q P v s)) := by
  have h0 : PIR_ E c M s M := ⟨fF_rf, hD, hX, hL⟩
  refine c12_probeE G hG d M q hq p hp v _ ?_
  by_cases y : M.1 0 42 = 0
  · refine PWR_T hG hq m p hm hm16 hp P v h23 hrow y _ 8 0 s M (by omega) h0 (fun N2 h => ?_)
    unfold pbA_; rw [if_pos (h42.mp y)]; exact h
  · have e : pbA_ E m p q P v s = s := by unfold pbA_; rw [if_neg (fun z => y (h42.mpr z))]
    rw [e]
    exact ⟨fun _ => h0, fun z => absurd z y⟩
end RPT
end
