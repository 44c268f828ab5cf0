/-! the reference: probeExpression computes what ES_ says -/
def sxE_ : List Int32 → mm_ → Prop
  | [], _ => True
  | x :: t, N => N.1 31 t.length = x ∧ sxE_ t N
def trE_ : List (Nat × Nat) → mm_ → Prop
  | [], _ => True
  | x :: L, N => N.1 32 L.length = nI x.1 ∧ N.1 33 L.length = nI x.2 ∧ trE_ L N
theorem stE_cg : ∀ {t : List Int32} {M N : mm_}, (∀ i, i < t.length → N.1 31 i = M.1 31 i) → sxE_ t M → sxE_ t N
  | [], _, _, _, _ => trivial
  | x :: t, M, N, h, g => ⟨by rw [h _ (by rw [List.length_cons]; omega)]; exact g.1, stE_cg (fun i hi => h i (by rw [List.length_cons]; omega)) g.2⟩
theorem trE_cg : ∀ {L : List (Nat × Nat)} {M N : mm_}, (∀ i, i < L.length → N.1 32 i = M.1 32 i ∧ N.1 33 i = M.1 33 i) → trE_ L M → trE_ L N
  | [], _, _, _, _ => trivial
  | x :: L, M, N, h, g => ⟨by rw [(h _ (by rw [List.length_cons]; omega)).1]; exact g.1, by rw [(h _ (by rw [List.length_cons]; omega)).2]; exact g.2.1, trE_cg (fun i hi => h i (by rw [List.length_cons]; omega)) g.2.2⟩
def SG2_ (C0 C : List sv_) (L : Nat) : Prop := ∀ (i : Nat) (q : sv_), C[i]? = some q → C0[L + i]? = some q
theorem SG2_l {C0 A B : List sv_} {L : Nat} (h : SG2_ C0 (A ++ B) L) : SG2_ C0 A L := fun i q hq => h i q (by rw [List.getElem?_append_left (List.getElem?_eq_some_iff.mp hq).1]; exact hq)
theorem SG2_r {C0 A B : List sv_} {L : Nat} (h : SG2_ C0 (A ++ B) L) : SG2_ C0 B (L + A.length) := fun i q hq => by
  rw [Nat.add_assoc]
  exact h _ q (by rw [List.getElem?_append_right (by omega), Nat.add_sub_cancel_left]; exact hq)
theorem SG2_h {C0 B : List sv_} {x : sv_} {L : Nat} (h : SG2_ C0 (x :: B) L) : C0[L]? = some x := h 0 x rfl
theorem SG2_t {C0 B : List sv_} {x : sv_} {L : Nat} (h : SG2_ C0 (x :: B) L) : SG2_ C0 B (L + 1) := fun i q hq => by
  rw [Nat.add_assoc, Nat.add_comm 1]
  exact h (i + 1) q (by rw [List.getElem?_cons_succ]; exact hq)
theorem tc_pos : ∀ e, wfX_ true e → 1 ≤ (tc_ (tm_ e)).length
  | .int _, _ => by simp [tm_, tc_]
  | .index _, _ => by simp [tm_, tc_]
  | .length e, _ => by simp [tm_, tc_]
  | .sum e, _ => by simp [tm_, tc_]
  | .elem s (.add a b), _ => by simp [tm_, tc_]; omega
  | .mul a (.div b c), _ => by simp [tm_, tc_]; omega
  | .rem a b, _ => by simp [tm_, tc_]
  | .sub k x, _ => by simp [tm_, tc_]
theorem rs_jn {c x y : Int32} (h : ¬ kd_ c = 0) : rs_ c x y = jn_ c x y := by
  unfold rs_ jn_
  by_cases h1 : c = 43
  · rw [if_pos h1, if_pos h1]
  rw [if_neg h1, if_neg h1]
  by_cases h2 : c = 45
  · rw [if_pos h2, if_pos h2]
  rw [if_neg h2, if_neg h2]
  by_cases h3 : c = 42
  · rw [if_pos h3, if_pos h3]
  rw [if_neg h3, if_neg h3]
  by_cases h4 : c = 47
  · rw [if_pos h4, if_pos h4]
  rw [if_neg h4, if_neg h4]
  by_cases h5 : c = 37
  · rw [if_pos h5, if_pos h5]
  rw [if_neg h5, if_neg h5]
  by_cases h6 : c = 60
  · rw [if_pos h6, if_pos h6]
  rw [if_neg h6, if_neg h6]
  by_cases h7 : c = 61
  · rw [if_pos h7, if_neg (by rw [h7]; decide)]
  rw [if_neg h7]
  by_cases h8 : c = 62
  · rw [if_pos h8]
  · refine absurd ?_ h
    unfold kd_
    rw [if_neg (fun z => by rcases z with z | z | z; exact h6 z; exact h7 z; exact h8 z), if_neg (fun z => z.elim h1 h2), if_neg (fun z => by rcases z with z | z | z; exact h5 z; exact h3 z; exact h4 z)]
theorem sg_sg (s : Term) : sg_ s = sg2_ s := by cases s <;> rfl
/-- within a probe's expression -/
def ZE_ (M0 : mm_) (t : List Int32) (L : List (Nat × Nat)) (N : mm_) : Prop := fpE_ M0 N ∧ sxE_ t N ∧ trE_ L N ∧ N.1 0 59 = 0
def RE_ (k n : Nat) (M0 : mm_) (C0 : List sv_) (V : Nat → Int32) : Prop := M0.1 4 k = nI n ∧ C0.length = n ∧ n ≤ 40 ∧ (∀ (i : Nat) (x : sv_), C0[i]? = some x → M0.1 2 (64 * k + i) = x.1 ∧ M0.2.1 3 (64 * k + i) = x.2) ∧ ∀ i, i < 7 → M0.1 30 i = V i
def KE_ (k n : Nat) (Q : mm_ → Prop) (M0 : mm_) (L : List (Nat × Nat)) (lo hi : Nat) (t : List Int32) (o : eo_) : Prop := match o with
  | (.inl t2, _) => ∀ (N : mm_) (u : Nat), ZE_ M0 t2 L N → n + 1 ≤ hi + u → WPE_ k n Q u t2.length L.length hi N
  | (.inr q, _) => ∀ (N : mm_) (a u : Nat), ZE_ M0 t L N → N.1 0 58 = q.2 → lo ≤ a → a < hi → n + 1 ≤ a + 1 + u → THE_ n Q (WPE_ k n Q u) L.length N
section TRE
variable {k n : Nat} {Q : mm_ → Prop} {M0 : mm_} {C0 : List sv_} {V : Nat → Int32}
theorem ZE_push {t : List Int32} {L : List (Nat × Nat)} {N : mm_} (v : Int32) (h : ZE_ M0 t L N) : ZE_ M0 (v :: t) L (sI_ N 31 t.length v) := ⟨fpE_I h.1 (Or.inl rfl), ⟨by rw [gI_sI, if_pos ⟨rfl, rfl⟩], stE_cg (fun i hi => by rw [gI_sI, if_neg (by omega)]) h.2.1⟩, trE_cg (fun i hi => ⟨by rw [gI_sI, if_neg (by omega)], by rw [gI_sI, if_neg (by omega)]⟩) h.2.2.1, by rw [gI_sI, if_neg (by omega)]; exact h.2.2.2⟩
theorem ZE_58 {t : List Int32} {L : List (Nat × Nat)} {N : mm_} {v : Int32} (h : ZE_ M0 t L N) : ZE_ M0 t L (sI_ N 0 58 v) := ⟨fpE_I h.1 (Or.inr (Or.inr (Or.inr ⟨rfl, Or.inl rfl⟩))), stE_cg (fun i hi => by rw [gI_sI, if_neg (by omega)]) h.2.1, trE_cg (fun i hi => ⟨by rw [gI_sI, if_neg (by omega)], by rw [gI_sI, if_neg (by omega)]⟩) h.2.2.1, by rw [gI_sI, if_neg (by omega)]; exact h.2.2.2⟩
/-- a step at p -/
theorem WPE_st (hR : RE_ k n M0 C0 V) {t : List Int32} {L : List (Nat × Nat)} {N : mm_} {p u : Nat} {x : sv_} (hZ : ZE_ M0 t L N) (hx : C0[p]? = some x) (ht : t.length ≤ 40) (hL : L.length < 30) (hu : n + 1 ≤ p + u) (hc : ∀ u2, u = u2 + 1 → (∀ (y : Int32) (v : Int64), y = x.1 → v = x.2 →
    (y = 0 → WPE_ k n Q u2 (t.length + 1) L.length (p + 1) (sI_ N 31 t.length v.toInt32)) ∧
    (y = 1 → ∃ j, j < 7 ∧ v.toInt32 = nI j ∧ WPE_ k n Q u2 (t.length + 1) L.length (p + 1) (sI_ N 31 t.length (N.1 30 j))) ∧
    (y = 3 → 1 ≤ t.length ∧ WPE_ k n Q u2 t.length L.length (p + 1) (sI_ N 31 (t.length - 1) (-(N.1 31 (t.length - 1))))) ∧
    (y = 4 → 1 ≤ t.length ∧ THE_ n Q (WPE_ k n Q u2) L.length (sI_ N 0 58 (N.1 31 (t.length - 1)))) ∧
    (y = 5 → 1 ≤ t.length ∧ ∃ w, v.toInt32 = nI w ∧ p + 1 + w ≤ n ∧ (N.1 31 (t.length - 1) = 0 → WPE_ k n Q u2 (t.length - 1) L.length (p + 1 + w) N) ∧ (¬ N.1 31 (t.length - 1) = 0 → WPE_ k n Q u2 (t.length - 1) L.length (p + 1) N)) ∧
    (y = 6 → ∃ w, v.toInt32 = nI w ∧ p + 1 + w ≤ n ∧ WPE_ k n Q u2 t.length L.length (p + 1 + w) N) ∧
    (y = 7 → ∃ w, v.toInt32 = nI w ∧ p + 1 + w ≤ n ∧ WPE_ k n Q u2 t.length (L.length + 1) (p + 1) (sI_ (sI_ N 32 L.length (nI (p + 1 + w))) 33 L.length (nI t.length))) ∧
    (y = 8 → 1 ≤ L.length ∧ ∃ w, v.toInt32 = nI w ∧ p + 1 + w ≤ n ∧ WPE_ k n Q u2 t.length (L.length - 1) (p + 1 + w) N) ∧
    (y = 2 → 2 ≤ t.length ∧ ((v.toInt32 = 47 ∨ v.toInt32 = 37) ∧ N.1 31 (t.length - 1) = 0 → THE_ n Q (WPE_ k n Q u2) L.length (sI_ N 0 58 (-1))) ∧ (¬ ((v.toInt32 = 47 ∨ v.toInt32 = 37) ∧ N.1 31 (t.length - 1) = 0) → WPE_ k n Q u2 (t.length - 1) L.length (p + 1) (sI_ N 31 (t.length - 1 - 1) (rs_ v.toInt32 (N.1 31 (t.length - 1 - 1)) (N.1 31 (t.length - 1)))))) ∧
    (y = 0 ∨ y = 1 ∨ y = 2 ∨ y = 3 ∨ y = 4 ∨ y = 5 ∨ y = 6 ∨ y = 7 ∨ y = 8))) : WPE_ k n Q u t.length L.length p N := by
  obtain ⟨r1, r2, r3, r4, r5⟩ := hR
  have hp : p < n := by rw [← r2]; exact (List.getElem?_eq_some_iff.mp hx).1
  obtain ⟨u, rfl⟩ : ∃ v, u = v + 1 := ⟨u - 1, by omega⟩
  refine ⟨by rw [hZ.1.2 4 k (by decide) (by decide) (by decide) (by omega)]; exact r1, by omega, hL, fun y => by omega, fun _ y v e1 e2 => ?_⟩
  rw [hZ.1.2 2 _ (by decide) (by decide) (by decide) (by omega)] at e1
  rw [hZ.1.1] at e2
  obtain ⟨c1, c2⟩ := r4 p x hx
  exact hc u rfl y v (by rw [← e1, c1]) (by rw [← e2, c2])
theorem n_i {c : Int32} : (c.toInt64).toInt32 = c := Int32.toInt32_toInt64 c
theorem TRE_ (hR : RE_ k n M0 C0 V) : ∀ (g : Bool) (e : Term), wfX_ g e → ixn_ 7 e → nsb_ e → ∀ (p u : Nat) (t : List Int32) (L : List (Nat × Nat)) (s : sgA_) (N : mm_), SG2_ C0 (tc_ (tm_ e)) p → t.length ≤ p → L.length ≤ p → p + (tc_ (tm_ e)).length + L.length ≤ n → n + 1 ≤ p + u → ZE_ M0 t L N → KE_ k n Q M0 L p (p + (tc_ (tm_ e)).length) t (ES_ I0_ V e t s) → WPE_ k n Q u t.length L.length p N
  | true, .int v, w, hi, hn, p, u, t, L, s, N, hS, ht, hL, hp, hu, hZ, K => by
    have hS : SG2_ C0 [(0, v.toInt64)] p := hS
    have hn40 := hR.2.2.1
    rw [ES_] at K
    refine WPE_st hR hZ (SG2_h hS) (by omega) (by omega) hu (fun u2 e y v2 e1 e2 => ?_)
    subst e1 e2
    have zp := ZE_push v hZ
    refine ⟨fun _ => ?_, fun y => absurd y (by simp only; decide), fun y => absurd y (by simp only; decide), fun y => absurd y (by simp only; decide), fun y => absurd y (by simp only; decide), fun y => absurd y (by simp only; decide), fun y => absurd y (by simp only; decide), fun y => absurd y (by simp only; decide), fun y => absurd y (by simp only; decide), Or.inl rfl⟩
    show WPE_ k n Q u2 (t.length + 1) L.length (p + 1) (sI_ N 31 t.length v.toInt64.toInt32)
    rw [n_i]
    exact K _ u2 zp (by show n + 1 ≤ p + 1 + u2; omega)
  | true, .index i, w, hi, hn, p, u, t, L, s, N, hS, ht, hL, hp, hu, hZ, K => by
    have hS : SG2_ C0 [(1, (nI i).toInt64)] p := hS
    have hn40 := hR.2.2.1
    have hi7 : i < 7 := hi
    rw [ES_] at K
    refine WPE_st hR hZ (SG2_h hS) (by omega) (by omega) hu (fun u2 e y v2 e1 e2 => ?_)
    subst e1 e2
    have zp := ZE_push (V i) hZ
    refine ⟨fun y => absurd y (by simp only; decide), fun _ => ⟨i, hi7, n_i, ?_⟩, fun y => absurd y (by simp only; decide), fun y => absurd y (by simp only; decide), fun y => absurd y (by simp only; decide), fun y => absurd y (by simp only; decide), fun y => absurd y (by simp only; decide), fun y => absurd y (by simp only; decide), fun y => absurd y (by simp only; decide), Or.inr (Or.inl rfl)⟩
    rw [hZ.1.2 30 i (by decide) (by decide) (by decide) (by omega), hR.2.2.2.2 i hi7]
    exact K _ u2 zp (by show n + 1 ≤ p + 1 + u2; omega)
  | true, .length e, w, hi, hn, p, u, t, L, s, N, hS, ht, hL, hp, hu, hZ, K => by
    have hS : SG2_ C0 (tc_ (tm_ e) ++ [(3, 0)]) p := hS
    have el : (tc_ (tm_ (.length e))).length = (tc_ (tm_ e)).length + 1 := by simp [tm_, tc_]
    rw [el] at hp K
    rw [ES_] at K
    have hn40 := hR.2.2.1
    refine TRE_ hR true e w hi hn p u t L s N (SG2_l hS) ht hL (by omega) hu hZ ?_
    cases ho : ES_ I0_ V e t s with
    | mk o s2 =>
      rw [ho] at K
      cases o with
      | inr q => exact fun N2 a u2 h1 h2 h3 h4 h5 => K N2 a u2 h1 h2 h3 (by omega) h5
      | inl t2 =>
        obtain ⟨x, rfl⟩ := (ES_sh I0_ V true e w t s t2 s2 ho).1 rfl
        intro N2 u2 hz2 hu2
        refine WPE_st hR hz2 (SG2_h (SG2_r hS)) (by rw [List.length_cons]; omega) (by omega) hu2 (fun u3 e3 y v2 e1 e2 => ?_)
        subst e1 e2
        have hx : N2.1 31 ((x :: t).length - 1) = x := by rw [List.length_cons, Nat.add_sub_cancel]; exact hz2.2.1.1
        have zp : ZE_ M0 (-x :: t) L (sI_ N2 31 t.length (-x)) := by
          have z0 : ZE_ M0 t L N2 := ⟨hz2.1, hz2.2.1.2, hz2.2.2⟩
          exact ZE_push (-x) z0
        refine ⟨fun y => absurd y (by simp only; decide), fun y => absurd y (by simp only; decide), fun _ => ⟨by rw [List.length_cons]; omega, ?_⟩, fun y => absurd y (by simp only; decide), fun y => absurd y (by simp only; decide), fun y => absurd y (by simp only; decide), fun y => absurd y (by simp only; decide), fun y => absurd y (by simp only; decide), fun y => absurd y (by simp only; decide), Or.inr (Or.inr (Or.inr (Or.inl rfl)))⟩
        rw [hx, List.length_cons, Nat.add_sub_cancel]
        exact K _ u3 zp (by omega)
  | true, .sum e, w, hi, hn, p, u, t, L, s, N, hS, ht, hL, hp, hu, hZ, K => by
    have hS : SG2_ C0 (tc_ (tm_ e) ++ [(4, 0)]) p := hS
    have el : (tc_ (tm_ (.sum e))).length = (tc_ (tm_ e)).length + 1 := by simp [tm_, tc_]
    rw [el] at hp K
    rw [ES_] at K
    have hn40 := hR.2.2.1
    refine TRE_ hR true e w hi hn p u t L s N (SG2_l hS) ht hL (by omega) hu hZ ?_
    cases ho : ES_ I0_ V e t s with
    | mk o s2 =>
      rw [ho] at K
      cases o with
      | inr q => exact fun N2 a u2 h1 h2 h3 h4 h5 => K N2 a u2 h1 h2 h3 (by omega) h5
      | inl t2 =>
        obtain ⟨x, rfl⟩ := (ES_sh I0_ V true e w t s t2 s2 ho).1 rfl
        intro N2 u2 hz2 hu2
        refine WPE_st hR hz2 (SG2_h (SG2_r hS)) (by rw [List.length_cons]; omega) (by omega) hu2 (fun u3 e3 y v2 e1 e2 => ?_)
        subst e1 e2
        have hx : N2.1 31 ((x :: t).length - 1) = x := by rw [List.length_cons, Nat.add_sub_cancel]; exact hz2.2.1.1
        have z0 : ZE_ M0 t L N2 := ⟨hz2.1, hz2.2.1.2, hz2.2.2⟩
        refine ⟨fun y => absurd y (by simp only; decide), fun y => absurd y (by simp only; decide), fun y => absurd y (by simp only; decide), fun _ => ⟨by rw [List.length_cons]; omega, ?_⟩, fun y => absurd y (by simp only; decide), fun y => absurd y (by simp only; decide), fun y => absurd y (by simp only; decide), fun y => absurd y (by simp only; decide), fun y => absurd y (by simp only; decide), Or.inr (Or.inr (Or.inr (Or.inr (Or.inl rfl))))⟩
        rw [hx]
        exact K _ (p + (tc_ (tm_ e)).length) u3 (ZE_58 z0) (by rw [gI_sI, if_pos ⟨rfl, rfl⟩]) (by omega) (by omega) (by omega)
  | true, .elem c (.add a b), w, hi, hn, p, u, t, L, s, N, hS, ht, hL, hp, hu, hZ, K => by
    have hS : SG2_ C0 ((tc_ (tm_ a) ++ tc_ (tm_ b)) ++ [(2, (sg_ c).toInt64)]) p := hS
    have el : (tc_ (tm_ (.elem c (.add a b)))).length = (tc_ (tm_ a)).length + (tc_ (tm_ b)).length + 1 := by simp [tm_, tc_]; omega
    rw [el] at hp K
    rw [ES_, ES_] at K
    have hn40 := hR.2.2.1
    have pa := tc_pos a w.2.1
    have pb := tc_pos b w.2.2
    have hx := SG2_h (SG2_r hS)
    rw [List.length_append, ← Nat.add_assoc] at hx
    rw [show p + ((tc_ (tm_ a)).length + (tc_ (tm_ b)).length + 1) = p + (tc_ (tm_ a)).length + (tc_ (tm_ b)).length + 1 by omega] at K
    refine TRE_ hR true a w.2.1 hi.1 hn.1 p u t L s N (SG2_l (SG2_l hS)) ht hL (by omega) hu hZ ?_
    cases ho : ES_ I0_ V a t s with
    | mk o s2 =>
      rw [ho] at K
      cases o with
      | inr q => exact fun N2 a2 u2 h1 h2 h3 h4 h5 => K N2 a2 u2 h1 h2 h3 (by omega) h5
      | inl t2 =>
        obtain ⟨x, rfl⟩ := (ES_sh I0_ V true a w.2.1 t s t2 s2 ho).1 rfl
        simp only at K
        intro N2 u2 hz2 hu2
        refine TRE_ hR true b w.2.2 hi.2 hn.2 _ u2 (x :: t) L s2 N2 (SG2_r (SG2_l hS)) (by rw [List.length_cons]; omega) (by omega) (by omega) hu2 hz2 ?_
        cases hb : ES_ I0_ V b (x :: t) s2 with
        | mk o2 s3 =>
          rw [hb] at K
          cases o2 with
          | inr q => exact fun N3 a3 u3 h1 h2 h3 h4 h5 => K N3 a3 u3 ⟨h1.1, h1.2.1.2, h1.2.2⟩ h2 (by omega) (by omega) h5
          | inl t3 =>
            obtain ⟨y1, rfl⟩ := (ES_sh I0_ V true b w.2.2 (x :: t) s2 t3 s3 hb).1 rfl
            intro N3 u3 hz3 hu3
            unfold o2_ at K
            simp only at K
            refine WPE_st hR hz3 hx (by rw [List.length_cons, List.length_cons]; omega) (by omega) hu3 (fun u4 e4 y v2 e1 e2 => ?_)
            subst e1 e2
            have hy : N3.1 31 ((y1 :: x :: t).length - 1) = y1 := hz3.2.1.1
            have hx1 : N3.1 31 ((y1 :: x :: t).length - 1 - 1) = x := hz3.2.1.2.1
            have z0 : ZE_ M0 t L N3 := ⟨hz3.1, hz3.2.1.2.2, hz3.2.2⟩
            refine ⟨fun y => absurd y (by simp only; decide), fun y => absurd y (by simp only; decide), fun y => absurd y (by simp only; decide), fun y => absurd y (by simp only; decide), fun y => absurd y (by simp only; decide), fun y => absurd y (by simp only; decide), fun y => absurd y (by simp only; decide), fun y => absurd y (by simp only; decide), fun _ => ⟨by rw [List.length_cons, List.length_cons]; omega, ?_⟩, Or.inr (Or.inr (Or.inl rfl))⟩
            rw [hy, hx1, n_i, sg_sg]
            refine ⟨fun hd => ?_, fun hd => ?_⟩
            · rw [if_pos ⟨hd.2, hd.1⟩] at K
              exact K _ (p + (tc_ (tm_ a)).length + (tc_ (tm_ b)).length) u4 (ZE_58 z0) (by rw [gI_sI, if_pos ⟨rfl, rfl⟩]) (by omega) (by omega) (by omega)
            · rw [if_neg (fun y => hd ⟨y.2, y.1⟩)] at K
              rw [rs_jn w.1]
              exact K _ u4 (ZE_push _ z0) (by omega)
  | true, .mul a (.div b c), w, hi, hn, p, u, t, L, s, N, hS, ht, hL, hp, hu, hZ, K => by
    have hS : SG2_ C0 (tc_ (tm_ a) ++ (5, lN ((tc_ (tm_ b)).length + 1)) :: (tc_ (tm_ b) ++ (6, lN (tc_ (tm_ c)).length) :: tc_ (tm_ c))) p := hS
    have el : (tc_ (tm_ (.mul a (.div b c)))).length = (tc_ (tm_ a)).length + 1 + (tc_ (tm_ b)).length + 1 + (tc_ (tm_ c)).length := by simp [tm_, tc_]; omega
    rw [el] at hp K
    rw [ES_] at K
    have hn40 := hR.2.2.1
    have pa := tc_pos a w.1
    have pb := tc_pos b w.2.1
    have pc := tc_pos c w.2.2
    have hS2 := SG2_r hS
    have hx := SG2_h hS2
    have hS3 := SG2_t hS2
    have hSb := SG2_l hS3
    have hS4 := SG2_r hS3
    have hx2 := SG2_h hS4
    have hSc := SG2_t hS4
    rw [show p + ((tc_ (tm_ a)).length + 1 + (tc_ (tm_ b)).length + 1 + (tc_ (tm_ c)).length) = p + (tc_ (tm_ a)).length + 1 + (tc_ (tm_ b)).length + 1 + (tc_ (tm_ c)).length by omega] at K
    refine TRE_ hR true a w.1 hi.1 hn.1 p u t L s N (SG2_l hS) ht hL (by omega) hu hZ ?_
    cases ho : ES_ I0_ V a t s with
    | mk o s2 =>
      rw [ho] at K
      cases o with
      | inr q => exact fun N2 a2 u2 h1 h2 h3 h4 h5 => K N2 a2 u2 h1 h2 h3 (by omega) h5
      | inl t2 =>
        obtain ⟨x, rfl⟩ := (ES_sh I0_ V true a w.1 t s t2 s2 ho).1 rfl
        unfold o1_ at K
        simp only at K
        intro N2 u2 hz2 hu2
        have hx1 : N2.1 31 ((x :: t).length - 1) = x := hz2.2.1.1
        have z0 : ZE_ M0 t L N2 := ⟨hz2.1, hz2.2.1.2, hz2.2.2⟩
        refine WPE_st hR hz2 hx (by rw [List.length_cons]; omega) (by omega) hu2 (fun u3 e3 y v2 e1 e2 => ?_)
        subst e1 e2
        refine ⟨fun y => absurd y (by simp only; decide), fun y => absurd y (by simp only; decide), fun y => absurd y (by simp only; decide), fun y => absurd y (by simp only; decide), fun _ => ⟨by rw [List.length_cons]; omega, (tc_ (tm_ b)).length + 1, lN_i _, by omega, ?_⟩, fun y => absurd y (by simp only; decide), fun y => absurd y (by simp only; decide), fun y => absurd y (by simp only; decide), fun y => absurd y (by simp only; decide), Or.inr (Or.inr (Or.inr (Or.inr (Or.inr (Or.inl rfl)))))⟩
        rw [hx1]
        refine ⟨fun hz => ?_, fun hz => ?_⟩
        · rw [if_pos hz] at K
          rw [show p + (tc_ (tm_ a)).length + 1 + ((tc_ (tm_ b)).length + 1) = p + (tc_ (tm_ a)).length + 1 + (tc_ (tm_ b)).length + 1 by omega]
          show WPE_ k n Q u3 t.length L.length _ N2
          refine TRE_ hR true c w.2.2 hi.2.2 hn.2.2 _ u3 t L s2 N2 hSc (by omega) (by omega) (by omega) (by omega) z0 ?_
          cases hc : ES_ I0_ V c t s2 with
          | mk o3 s3 =>
            rw [hc] at K
            cases o3 with
            | inr q => exact fun N3 a3 u4 h1 h2 h3 h4 h5 => K N3 a3 u4 h1 h2 (by omega) h4 h5
            | inl t3 => exact K
        · rw [if_neg hz] at K
          show WPE_ k n Q u3 t.length L.length _ N2
          refine TRE_ hR true b w.2.1 hi.2.1 hn.2.1 _ u3 t L s2 N2 hSb (by omega) (by omega) (by omega) (by omega) z0 ?_
          cases hc : ES_ I0_ V b t s2 with
          | mk o3 s3 =>
            rw [hc] at K
            cases o3 with
            | inr q => exact fun N3 a3 u4 h1 h2 h3 h4 h5 => K N3 a3 u4 h1 h2 (by omega) (by omega) h5
            | inl t3 =>
              obtain ⟨y1, rfl⟩ := (ES_sh I0_ V true b w.2.1 t s2 t3 s3 hc).1 rfl
              intro N3 u4 hz3 hu4
              refine WPE_st hR hz3 hx2 (by rw [List.length_cons]; omega) (by omega) hu4 (fun u5 e5 y v2 e1 e2 => ?_)
              subst e1 e2
              exact ⟨fun y => absurd y (by simp only; decide), fun y => absurd y (by simp only; decide), fun y => absurd y (by simp only; decide), fun y => absurd y (by simp only; decide), fun y => absurd y (by simp only; decide), fun _ => ⟨(tc_ (tm_ c)).length, lN_i _, by omega, K _ u5 hz3 (by omega)⟩, fun y => absurd y (by simp only; decide), fun y => absurd y (by simp only; decide), fun y => absurd y (by simp only; decide), Or.inr (Or.inr (Or.inr (Or.inr (Or.inr (Or.inr (Or.inl rfl))))))⟩
  | true, .rem a b, w, hi, hn, p, u, t, L, s, N, hS, ht, hL, hp, hu, hZ, K => by
    have hS : SG2_ C0 ((7, lN ((tc_ (tm_ a)).length + 1)) :: (tc_ (tm_ a) ++ (8, lN (tc_ (tm_ b)).length) :: tc_ (tm_ b))) p := hS
    have el : (tc_ (tm_ (.rem a b))).length = 1 + (tc_ (tm_ a)).length + 1 + (tc_ (tm_ b)).length := by simp [tm_, tc_]; omega
    rw [el] at hp K
    rw [ES_] at K
    have hn40 := hR.2.2.1
    have pa := tc_pos a w.1
    have pb := tc_pos b w.2
    have hx := SG2_h hS
    have hS2 := SG2_t hS
    have hSa := SG2_l hS2
    have hS3 := SG2_r hS2
    have hx2 := SG2_h hS3
    have hSb := SG2_t hS3
    rw [show p + (1 + (tc_ (tm_ a)).length + 1 + (tc_ (tm_ b)).length) = p + 1 + (tc_ (tm_ a)).length + 1 + (tc_ (tm_ b)).length by omega] at K
    refine WPE_st hR hZ hx (by omega) (by omega) hu (fun u2 e y v2 e1 e2 => ?_)
    subst e1 e2
    refine ⟨fun y => absurd y (by simp only; decide), fun y => absurd y (by simp only; decide), fun y => absurd y (by simp only; decide), fun y => absurd y (by simp only; decide), fun y => absurd y (by simp only; decide), fun y => absurd y (by simp only; decide), fun _ => ⟨(tc_ (tm_ a)).length + 1, lN_i _, by omega, ?_⟩, fun y => absurd y (by simp only; decide), fun y => absurd y (by simp only; decide), Or.inr (Or.inr (Or.inr (Or.inr (Or.inr (Or.inr (Or.inr (Or.inl rfl)))))))⟩
    have zL : ZE_ M0 t ((p + 1 + ((tc_ (tm_ a)).length + 1), t.length) :: L) (sI_ (sI_ N 32 L.length (nI (p + 1 + ((tc_ (tm_ a)).length + 1)))) 33 L.length (nI t.length)) := by
      refine ⟨fpE_I (fpE_I hZ.1 (Or.inr (Or.inl rfl))) (Or.inr (Or.inr (Or.inl rfl))), stE_cg (fun i hi => by rw [gI_sI, if_neg (by omega), gI_sI, if_neg (by omega)]) hZ.2.1, ⟨by rw [gI_sI, if_neg (by omega), gI_sI, if_pos ⟨rfl, rfl⟩], by rw [gI_sI, if_pos ⟨rfl, rfl⟩], trE_cg (fun i hi => ⟨by rw [gI_sI, if_neg (by omega), gI_sI, if_neg (by omega)], by rw [gI_sI, if_neg (by omega), gI_sI, if_neg (by omega)]⟩) hZ.2.2.1⟩, by rw [gI_sI, if_neg (by omega), gI_sI, if_neg (by omega)]; exact hZ.2.2.2⟩
    refine TRE_ hR true a w.1 hi.1 hn.1 (p + 1) u2 t _ s _ hSa (by omega) (by rw [List.length_cons]; omega) (by rw [List.length_cons]; omega) (by omega) zL ?_
    cases ho : ES_ I0_ V a t s with
    | mk o s2 =>
      rw [ho] at K
      cases o with
      | inl t2 =>
        obtain ⟨x, rfl⟩ := (ES_sh I0_ V true a w.1 t s t2 s2 ho).1 rfl
        simp only at K
        intro N2 u3 hz2 hu3
        have z0 : ZE_ M0 (x :: t) L N2 := ⟨hz2.1, hz2.2.1, hz2.2.2.1.2.2, hz2.2.2.2⟩
        refine WPE_st hR hz2 hx2 (by rw [List.length_cons]; omega) (by rw [List.length_cons]; omega) hu3 (fun u4 e4 y v2 e1 e2 => ?_)
        subst e1 e2
        refine ⟨fun y => absurd y (by simp only; decide), fun y => absurd y (by simp only; decide), fun y => absurd y (by simp only; decide), fun y => absurd y (by simp only; decide), fun y => absurd y (by simp only; decide), fun y => absurd y (by simp only; decide), fun y => absurd y (by simp only; decide), fun _ => ⟨by rw [List.length_cons]; omega, (tc_ (tm_ b)).length, lN_i _, by omega, ?_⟩, fun y => absurd y (by simp only; decide), Or.inr (Or.inr (Or.inr (Or.inr (Or.inr (Or.inr (Or.inr (Or.inr rfl)))))))⟩
        show WPE_ k n Q u4 (x :: t).length L.length _ N2
        exact K _ u4 z0 (by omega)
      | inr q =>
        have hq1 : q.1 = 1 := ES_q V true a w.1 hn.1 t s q (by rw [ho])
        obtain ⟨q1, q2⟩ := q
        simp only at hq1
        subst hq1
        simp only at K
        intro N2 a2 u3 hz2 h58 h3 h4 h5
        refine ⟨fun y => by rw [List.length_cons] at y; omega, fun _ => ⟨t.length, p + 1 + ((tc_ (tm_ a)).length + 1), ?_, ?_, by omega, by omega, ?_⟩⟩
        · rw [List.length_cons, Nat.add_sub_cancel]; exact hz2.2.2.1.2.1
        · rw [List.length_cons, Nat.add_sub_cancel]; exact hz2.2.2.1.1
        · rw [List.length_cons, Nat.add_sub_cancel, show p + 1 + ((tc_ (tm_ a)).length + 1) = p + 1 + (tc_ (tm_ a)).length + 1 by omega]
          have z0 : ZE_ M0 t L N2 := ⟨hz2.1, hz2.2.1, hz2.2.2.1.2.2, hz2.2.2.2⟩
          refine TRE_ hR true b w.2 hi.2 hn.2 _ u3 t L s2 N2 hSb (by omega) (by omega) (by omega) (by omega) z0 ?_
          cases hc : ES_ I0_ V b t s2 with
          | mk o3 s3 =>
            rw [hc] at K
            cases o3 with
            | inr q => exact fun N3 a3 u4 g1 g2 g3 g4 g5 => K N3 a3 u4 g1 g2 (by omega) g4 g5
            | inl t3 => exact K
  | false, .null, w, hi, hn, p, u, t, L, s, N, hS, ht, hL, hp, hu, hZ, K => K N u hZ hu
  | false, .add a r, w, hi, hn, p, u, t, L, s, N, hS, ht, hL, hp, hu, hZ, K => by
    have hS : SG2_ C0 (tc_ (tm_ a) ++ tc_ (tm_ r)) p := hS
    have el : (tc_ (tm_ (.add a r))).length = (tc_ (tm_ a)).length + (tc_ (tm_ r)).length := by simp [tm_, tc_]
    rw [el, ← Nat.add_assoc] at hp K
    rw [ES_] at K
    have pa := tc_pos a w.1
    refine TRE_ hR true a w.1 hi.1 hn.1 p u t L s N (SG2_l hS) ht hL (by omega) hu hZ ?_
    cases ho : ES_ I0_ V a t s with
    | mk o s2 =>
      rw [ho] at K
      cases o with
      | inr q => exact fun N2 a2 u2 h1 h2 h3 h4 h5 => K N2 a2 u2 h1 h2 h3 (by omega) h5
      | inl t2 =>
        obtain ⟨x, rfl⟩ := (ES_sh I0_ V true a w.1 t s t2 s2 ho).1 rfl
        simp only at K
        intro N2 u2 hz2 hu2
        refine TRE_ hR false r w.2 hi.2 hn.2 _ u2 (x :: t) L s2 N2 (SG2_r hS) (by rw [List.length_cons]; omega) (by omega) (by omega) hu2 hz2 ?_
        cases hb : ES_ I0_ V r (x :: t) s2 with
        | mk o2 s3 =>
          rw [hb] at K
          cases o2 with
          | inr q => exact fun N3 a3 u3 h1 h2 h3 h4 h5 => K N3 a3 u3 ⟨h1.1, h1.2.1.2, h1.2.2⟩ h2 (by omega) (by omega) h5
          | inl t3 => exact K
end TRE
