/-! the codes of the reference's trees can be run: F says how high the stack lies before each step, and which handlers wait -/
theorem sh4_ (k : Int64) : (k <<< ((2 : Int32).toInt64 &&& 63)).toBitVec.toNat = 2 ^ 2 * (k.toBitVec.toNat % 2 ^ 62) := by
  show (k.toBitVec <<< (((2 : Int32).toInt64 &&& 63).toBitVec.smod 64)).toNat = _
  rw [show ((2 : Int32).toInt64 &&& 63).toBitVec.smod 64 = 2#64 by decide +kernel, BitVec.shiftLeft_eq', BitVec.toNat_shiftLeft, Nat.shiftLeft_eq, show (2#64).toNat = 2 from rfl]
  omega
theorem mny_ {k : Int64} {j : Nat} (hj : j < 4) : (((k <<< ((2 : Int32).toInt64 &&& 63)) ||| (nI j).toInt64) &&& 3).toInt32 = nI j := by
  have e2 : (nI j).toInt64.toBitVec.toNat = j := by
    have h : ∀ j, j < 4 → (nI j).toInt64.toBitVec.toNat = j := by decide +kernel
    exact h j hj
  have e1 : (((k <<< ((2 : Int32).toInt64 &&& 63)) ||| (nI j).toInt64) &&& 3) = Int64.ofNat j := by
    apply Int64.toBitVec_inj.mp
    apply BitVec.eq_of_toNat_eq
    rw [Int64.toBitVec_and, BitVec.toNat_and, Int64.toBitVec_or, BitVec.toNat_or, e2, sh4_, show (3 : Int64).toBitVec.toNat = 2 ^ 2 - 1 by decide +kernel, ← Nat.two_pow_add_eq_or_of_lt hj, Nat.and_two_pow_sub_one_eq_mod, Nat.mul_add_mod]
    have h : ∀ j, j < 4 → j % 2 ^ 2 = (Int64.ofNat j).toBitVec.toNat := by decide +kernel
    exact h j hj
  rw [e1]
  have h : ∀ j, j < 4 → (Int64.ofNat j).toInt32 = nI j := by decide +kernel
  exact h j hj
def stR_ (V n : Nat) (F : Nat → Nat × List Nat) (i : Nat) (p : Int32) (v : Int64) : Prop :=
  (p = 0 → F (i + 1) = ((F i).1 + 1, (F i).2)) ∧
  (p = 1 → F (i + 1) = ((F i).1 + 1, (F i).2) ∧ ∃ j, j < V ∧ v.toInt32 = nI j) ∧
  (p = 3 → F (i + 1) = F i ∧ 1 ≤ (F i).1) ∧
  (p = 4 → 1 ≤ (F i).1) ∧
  (p = 5 → ∃ t, v.toInt32 = nI t ∧ i + 1 + t ≤ n ∧ 1 ≤ (F i).1 ∧ F (i + 1) = ((F i).1 - 1, (F i).2) ∧ F (i + 1 + t) = F (i + 1)) ∧
  (p = 6 → ∃ t, v.toInt32 = nI t ∧ i + 1 + t ≤ n ∧ F (i + 1 + t) = F i) ∧
  (p = 7 → ∃ t, v.toInt32 = nI t ∧ i + 1 + t ≤ n ∧ F (i + 1) = ((F i).1, (F i).2 ++ [i + 1 + t]) ∧ F (i + 1 + t) = F i) ∧
  (p = 8 → ∃ t x S, v.toInt32 = nI t ∧ i + 1 + t ≤ n ∧ (F i).2 = S ++ [x] ∧ F (i + 1 + t) = ((F i).1, S)) ∧
  (p = 9 → ∃ j, j ≤ 3 ∧ (v &&& 3).toInt32 = nI j ∧ j ≤ (F i).1 ∧ F (i + 1) = ((F i).1 + 1 - j, (F i).2)) ∧
  (p = 2 → 2 ≤ (F i).1 ∧ F (i + 1) = ((F i).1 - 1, (F i).2)) ∧
  (p = 0 ∨ p = 1 ∨ p = 2 ∨ p = 3 ∨ p = 4 ∨ p = 5 ∨ p = 6 ∨ p = 7 ∨ p = 8 ∨ p = 9 ∧ V = 3)
def GRj_ (F : Nat → Nat × List Nat) (s : List Nat) (h B E j : Nat) : Prop := (F j).1 ≤ h + B ∧ ∃ ex, (F j).2 = s ++ ex ∧ ex.length ≤ B ∧ ∀ S x, ex = S ++ [x] → j < x ∧ x ≤ E ∧ (F x).2 = s ++ S
def CHR_ (V : Nat) (F : Nat → Nat × List Nat) (C : List sv_) (L E : Nat) : Prop := ∀ i q, C[i]? = some q → stR_ V E F (L + i) q.1 q.2
theorem GRj_m {F F2 : Nat → Nat × List Nat} {s : List Nat} {h h2 B B2 E E2 j : Nat} (hj : j ≤ E) (hF : ∀ x, j ≤ x → x ≤ E → F2 x = F x) (hE : E ≤ E2) (hB : B ≤ B2) (hh : h + B ≤ h2 + B2) (g : GRj_ F s h B E j) : GRj_ F2 s h2 B2 E2 j := by
  obtain ⟨g1, ex, g2, g3, g4⟩ := g
  refine ⟨by rw [hF j (Nat.le_refl _) hj]; omega, ex, by rw [hF j (Nat.le_refl _) hj]; exact g2, by omega, fun S x hx => ?_⟩
  obtain ⟨a1, a2, a3⟩ := g4 S x hx
  exact ⟨a1, by omega, by rw [hF x (by omega) a2]; exact a3⟩
theorem GRj_0 {F : Nat → Nat × List Nat} {s : List Nat} {h B E j : Nat} (h1 : (F j).1 ≤ h + B) (h2 : (F j).2 = s) : GRj_ F s h B E j := ⟨h1, [], by rw [h2, List.append_nil], by simp, fun S x hx => by simp at hx⟩
theorem GRj_t {F F2 : Nat → Nat × List Nat} {s : List Nat} {y h h2 B B2 E E2 j : Nat} (hj : j ≤ E) (hF : ∀ x, j ≤ x → x ≤ E → F2 x = F x) (hE : E ≤ E2) (hB : B + 1 ≤ B2) (hh : h + B ≤ h2 + B2) (hy : E < y) (hy2 : y ≤ E2) (hys : (F2 y).2 = s) (g : GRj_ F (s ++ [y]) h B E j) : GRj_ F2 s h2 B2 E2 j := by
  obtain ⟨g1, ex, g2, g3, g4⟩ := g
  refine ⟨by rw [hF j (Nat.le_refl _) hj]; omega, y :: ex, by rw [hF j (Nat.le_refl _) hj, g2, List.append_assoc]; rfl, by rw [List.length_cons]; omega, fun S x hx => ?_⟩
  cases S with
  | nil =>
    simp at hx
    obtain ⟨rfl, rfl⟩ := hx
    exact ⟨by omega, hy2, by rw [hys, List.append_nil]⟩
  | cons z S =>
    simp at hx
    obtain ⟨rfl, hx⟩ := hx
    obtain ⟨a1, a2, a3⟩ := g4 S x hx
    exact ⟨a1, by omega, by rw [hF x (by omega) a2, a3, List.append_assoc]; rfl⟩
theorem stR_m {V E E2 i L : Nat} {F F2 : Nat → Nat × List Nat} {p : Int32} {v : Int64} (hF : ∀ j, L ≤ j → j ≤ E → F2 j = F j) (h1 : L ≤ i) (h2 : i + 1 ≤ E) (hE : E ≤ E2) (h : stR_ V E F i p v) : stR_ V E2 F2 i p v := by
  unfold stR_ at h ⊢
  rw [hF i h1 (by omega), hF (i + 1) (by omega) h2]
  obtain ⟨a0, a1, a3, a4, a5, a6, a7, a8, a9, a2, al⟩ := h
  refine ⟨a0, a1, a3, a4, fun z => ?_, fun z => ?_, fun z => ?_, fun z => ?_, a9, a2, al⟩
  · obtain ⟨t, b1, b2, b3, b4, b5⟩ := a5 z
    exact ⟨t, b1, by omega, b3, b4, by rw [hF _ (by omega) b2]; exact b5⟩
  · obtain ⟨t, b1, b2, b3⟩ := a6 z
    exact ⟨t, b1, by omega, by rw [hF _ (by omega) b2]; exact b3⟩
  · obtain ⟨t, b1, b2, b3, b4⟩ := a7 z
    exact ⟨t, b1, by omega, b3, by rw [hF _ (by omega) b2]; exact b4⟩
  · obtain ⟨t, x, S, b1, b2, b3, b4⟩ := a8 z
    exact ⟨t, x, S, b1, by omega, b3, by rw [hF _ (by omega) b2]; exact b4⟩
theorem CHR_m {V : Nat} {F F2 : Nat → Nat × List Nat} {C : List sv_} {L E E2 : Nat} (hC : L + C.length = E) (hF : ∀ j, L ≤ j → j ≤ E → F2 j = F j) (hE : E ≤ E2) (h : CHR_ V F C L E) : CHR_ V F2 C L E2 := by
  intro i q hq
  have hi := (List.getElem?_eq_some_iff.mp hq).1
  exact stR_m hF (by omega) (by omega) hE (h i q hq)
theorem CHR_app {V : Nat} {F : Nat → Nat × List Nat} {A B : List sv_} {L E : Nat} (h : CHR_ V F A L E) (g : CHR_ V F B (L + A.length) E) : CHR_ V F (A ++ B) L E := by
  intro i q hq
  by_cases hi : i < A.length
  · rw [List.getElem?_append_left hi] at hq
    exact h i q hq
  · rw [List.getElem?_append_right (by omega)] at hq
    have := g _ q hq
    rw [show L + A.length + (i - A.length) = L + i by omega] at this
    exact this
theorem CHR_one {V : Nat} {F : Nat → Nat × List Nat} {L E : Nat} {q : sv_} (h : stR_ V E F L q.1 q.2) : CHR_ V F [q] L E := by
  intro i q2 hq
  have hi := (List.getElem?_eq_some_iff.mp hq).1
  obtain rfl : i = 0 := by simp at hi; omega
  cases hq
  exact h
theorem CHR_cons {V : Nat} {F : Nat → Nat × List Nat} {L E : Nat} {q : sv_} {B : List sv_} (h : stR_ V E F L q.1 q.2) (g : CHR_ V F B (L + 1) E) : CHR_ V F (q :: B) L E := CHR_app (A := [q]) (CHR_one h) g
theorem sR0 {V n i : Nat} {F : Nat → Nat × List Nat} {v : Int64} (h : F (i + 1) = ((F i).1 + 1, (F i).2)) : stR_ V n F i 0 v := ⟨fun _ => h, fun z => absurd z (by decide), fun z => absurd z (by decide), fun z => absurd z (by decide), fun z => absurd z (by decide), fun z => absurd z (by decide), fun z => absurd z (by decide), fun z => absurd z (by decide), fun z => absurd z (by decide), fun z => absurd z (by decide), Or.inl rfl⟩
theorem sR1 {V n i j : Nat} {F : Nat → Nat × List Nat} {v : Int64} (h : F (i + 1) = ((F i).1 + 1, (F i).2)) (hj : j < V) (hv : v.toInt32 = nI j) : stR_ V n F i 1 v := ⟨fun z => absurd z (by decide), fun _ => ⟨h, j, hj, hv⟩, fun z => absurd z (by decide), fun z => absurd z (by decide), fun z => absurd z (by decide), fun z => absurd z (by decide), fun z => absurd z (by decide), fun z => absurd z (by decide), fun z => absurd z (by decide), fun z => absurd z (by decide), Or.inr (Or.inl rfl)⟩
theorem sR34 {V n i : Nat} {F : Nat → Nat × List Nat} {p : Int32} {v : Int64} (hp : p = 3 ∨ p = 4) (h : F (i + 1) = F i) (h1 : 1 ≤ (F i).1) : stR_ V n F i p v := by
  rcases hp with rfl | rfl
  · exact ⟨fun z => absurd z (by decide), fun z => absurd z (by decide), fun _ => ⟨h, h1⟩, fun _ => h1, fun z => absurd z (by decide), fun z => absurd z (by decide), fun z => absurd z (by decide), fun z => absurd z (by decide), fun z => absurd z (by decide), fun z => absurd z (by decide), by simp⟩
  · exact ⟨fun z => absurd z (by decide), fun z => absurd z (by decide), fun _ => ⟨h, h1⟩, fun _ => h1, fun z => absurd z (by decide), fun z => absurd z (by decide), fun z => absurd z (by decide), fun z => absurd z (by decide), fun z => absurd z (by decide), fun z => absurd z (by decide), by simp⟩
theorem sR5 {V n i t : Nat} {F : Nat → Nat × List Nat} {v : Int64} (hv : v.toInt32 = nI t) (ht : i + 1 + t ≤ n) (h1 : 1 ≤ (F i).1) (h : F (i + 1) = ((F i).1 - 1, (F i).2)) (h2 : F (i + 1 + t) = F (i + 1)) : stR_ V n F i 5 v := ⟨fun z => absurd z (by decide), fun z => absurd z (by decide), fun z => absurd z (by decide), fun z => absurd z (by decide), fun _ => ⟨t, hv, ht, h1, h, h2⟩, fun z => absurd z (by decide), fun z => absurd z (by decide), fun z => absurd z (by decide), fun z => absurd z (by decide), fun z => absurd z (by decide), by simp⟩
theorem sR6 {V n i t : Nat} {F : Nat → Nat × List Nat} {v : Int64} (hv : v.toInt32 = nI t) (ht : i + 1 + t ≤ n) (h2 : F (i + 1 + t) = F i) : stR_ V n F i 6 v := ⟨fun z => absurd z (by decide), fun z => absurd z (by decide), fun z => absurd z (by decide), fun z => absurd z (by decide), fun z => absurd z (by decide), fun _ => ⟨t, hv, ht, h2⟩, fun z => absurd z (by decide), fun z => absurd z (by decide), fun z => absurd z (by decide), fun z => absurd z (by decide), by simp⟩
theorem sR7 {V n i t : Nat} {F : Nat → Nat × List Nat} {v : Int64} (hv : v.toInt32 = nI t) (ht : i + 1 + t ≤ n) (h : F (i + 1) = ((F i).1, (F i).2 ++ [i + 1 + t])) (h2 : F (i + 1 + t) = F i) : stR_ V n F i 7 v := ⟨fun z => absurd z (by decide), fun z => absurd z (by decide), fun z => absurd z (by decide), fun z => absurd z (by decide), fun z => absurd z (by decide), fun z => absurd z (by decide), fun _ => ⟨t, hv, ht, h, h2⟩, fun z => absurd z (by decide), fun z => absurd z (by decide), fun z => absurd z (by decide), by simp⟩
theorem sR8 {V n i t x : Nat} {S : List Nat} {F : Nat → Nat × List Nat} {v : Int64} (hv : v.toInt32 = nI t) (ht : i + 1 + t ≤ n) (h : (F i).2 = S ++ [x]) (h2 : F (i + 1 + t) = ((F i).1, S)) : stR_ V n F i 8 v := ⟨fun z => absurd z (by decide), fun z => absurd z (by decide), fun z => absurd z (by decide), fun z => absurd z (by decide), fun z => absurd z (by decide), fun z => absurd z (by decide), fun z => absurd z (by decide), fun _ => ⟨t, x, S, hv, ht, h, h2⟩, fun z => absurd z (by decide), fun z => absurd z (by decide), by simp⟩
theorem sR9 {V n i j : Nat} {F : Nat → Nat × List Nat} {v : Int64} (hV : V = 3) (hj : j ≤ 3) (hv : (v &&& 3).toInt32 = nI j) (h1 : j ≤ (F i).1) (h : F (i + 1) = ((F i).1 + 1 - j, (F i).2)) : stR_ V n F i 9 v := ⟨fun z => absurd z (by decide), fun z => absurd z (by decide), fun z => absurd z (by decide), fun z => absurd z (by decide), fun z => absurd z (by decide), fun z => absurd z (by decide), fun z => absurd z (by decide), fun z => absurd z (by decide), fun _ => ⟨j, hj, hv, h1, h⟩, fun z => absurd z (by decide), by simp [hV]⟩
theorem sR2 {V n i : Nat} {F : Nat → Nat × List Nat} {v : Int64} (h1 : 2 ≤ (F i).1) (h : F (i + 1) = ((F i).1 - 1, (F i).2)) : stR_ V n F i 2 v := ⟨fun z => absurd z (by decide), fun z => absurd z (by decide), fun z => absurd z (by decide), fun z => absurd z (by decide), fun z => absurd z (by decide), fun z => absurd z (by decide), fun z => absurd z (by decide), fun z => absurd z (by decide), fun z => absurd z (by decide), fun _ => ⟨h1, h⟩, by simp⟩
/-- a tree's code from L on: the stack h high before it, h + k behind it, the handlers s on both sides -/
def CKR_ (V : Nat) (e : Term) (L h k B : Nat) (s : List Nat) : Prop := ∃ F : Nat → Nat × List Nat, F L = (h, s) ∧ F (L + (tc_ e).length) = (h + k, s) ∧ (∀ j, L ≤ j → j ≤ L + (tc_ e).length → GRj_ F s h B (L + (tc_ e).length) j) ∧ CHR_ V F (tc_ e) L (L + (tc_ e).length)
theorem CKR_one {V : Nat} {e : Term} {L h : Nat} {s : List Nat} {q : sv_} (hc : tc_ e = [q]) (st : ∀ (E : Nat) (F : Nat → Nat × List Nat), F (L + 1) = ((F L).1 + 1, (F L).2) → stR_ V E F L q.1 q.2) : CKR_ V e L h 1 1 s := by
  refine ⟨fun j => if j ≤ L then (h, s) else (h + 1, s), if_pos (Nat.le_refl _), by rw [hc]; exact if_neg (by simp), fun j _ _ => ?_, ?_⟩
  · refine GRj_0 ?_ ?_
    · show (if j ≤ L then (h, s) else (h + 1, s)).1 ≤ h + 1
      split <;> simp
    · show (if j ≤ L then (h, s) else (h + 1, s)).2 = s
      split <;> rfl
  · rw [hc]
    refine CHR_one (st _ _ ?_)
    show (if L + 1 ≤ L then (h, s) else (h + 1, s)) = ((if L ≤ L then (h, s) else (h + 1, s)).1 + 1, (if L ≤ L then (h, s) else (h + 1, s)).2)
    rw [if_neg (by omega), if_pos (Nat.le_refl _)]
theorem CKR_then {V : Nat} {e f : Term} {L h n n2 B B2 : Nat} {s : List Nat} {q : sv_} (k : CKR_ V e L h n B s) (hc : tc_ f = tc_ e ++ [q]) (hB : B ≤ B2) (hn2 : n2 ≤ B2) (st : ∀ (E : Nat) (F : Nat → Nat × List Nat), F (L + (tc_ e).length) = (h + n, s) → F (L + (tc_ e).length + 1) = (h + n2, s) → stR_ V E F (L + (tc_ e).length) q.1 q.2) : CKR_ V f L h n2 B2 s := by
  obtain ⟨F, f1, f2, f3, f4⟩ := k
  have hl : (tc_ f).length = (tc_ e).length + 1 := by rw [hc]; simp
  obtain ⟨Z, hZ⟩ : ∃ Z : Nat → Nat × List Nat, Z = fun j => if j ≤ L + (tc_ e).length then F j else (h + n2, s) := ⟨_, rfl⟩
  have eF : ∀ j, j ≤ L + (tc_ e).length → Z j = F j := fun j hj => by rw [hZ]; exact if_pos hj
  have eZ : ∀ j, ¬ j ≤ L + (tc_ e).length → Z j = (h + n2, s) := fun j hj => by rw [hZ]; exact if_neg hj
  refine ⟨Z, by rw [eF L (by omega)]; exact f1, by rw [hl]; exact eZ _ (by omega), fun j h3 h4 => ?_, ?_⟩
  · rw [hl] at h4 ⊢
    by_cases hj : j ≤ L + (tc_ e).length
    · exact GRj_m hj (fun x _ hx => eF x hx) (by omega) hB (by omega) (f3 j h3 hj)
    · exact GRj_0 (by rw [eZ j hj]; show h + n2 ≤ h + B2; omega) (by rw [eZ j hj])
  · rw [hc, List.length_append]
    refine CHR_app (CHR_m rfl (fun j _ hj => eF j hj) (by simp) f4) (CHR_one (st _ _ ?_ ?_))
    · rw [eF _ (Nat.le_refl _)]; exact f2
    · exact eZ _ (by omega)
theorem CKR_app {V : Nat} {a b f : Term} {L h n m B B1 B2 : Nat} {s : List Nat} (ka : CKR_ V a L h n B1 s) (kb : CKR_ V b (L + (tc_ a).length) (h + n) m B2 s) (hc : tc_ f = tc_ a ++ tc_ b) (h1 : B1 ≤ B) (h2 : n + B2 ≤ B) : CKR_ V f L h (n + m) B s := by
  obtain ⟨F, f1, f2, f3, f4⟩ := ka
  obtain ⟨K, k1, k2, k3, k4⟩ := kb
  have hl : (tc_ f).length = (tc_ a).length + (tc_ b).length := by rw [hc]; simp
  obtain ⟨Z, hZ⟩ : ∃ Z : Nat → Nat × List Nat, Z = fun j => if j ≤ L + (tc_ a).length then F j else K j := ⟨_, rfl⟩
  have eF : ∀ j, j ≤ L + (tc_ a).length → Z j = F j := fun j hj => by rw [hZ]; exact if_pos hj
  have eK : ∀ j, L + (tc_ a).length ≤ j → Z j = K j := by
    intro j hj
    by_cases z : j ≤ L + (tc_ a).length
    · obtain rfl : j = L + (tc_ a).length := by omega
      rw [eF _ (Nat.le_refl _), f2, k1]
    · rw [hZ]; exact if_neg z
  refine ⟨Z, by rw [eF L (by omega)]; exact f1, by rw [hl, ← Nat.add_assoc, eK _ (by omega), k2, Nat.add_assoc], fun j h3 h4 => ?_, ?_⟩
  · rw [hl, ← Nat.add_assoc] at h4 ⊢
    by_cases hj : j ≤ L + (tc_ a).length
    · exact GRj_m hj (fun x _ hx => eF x hx) (by omega) h1 (by omega) (f3 j h3 hj)
    · exact GRj_m (by omega) (fun x hx _ => eK x (by omega)) (by omega) (by omega) (by omega) (k3 j (by omega) (by omega))
  · rw [hc, List.length_append, ← Nat.add_assoc]
    exact CHR_app (CHR_m rfl (fun j _ hj => eF j hj) (by omega) f4) (CHR_m rfl (fun j hj _ => eK j hj) (by omega) k4)
theorem nI7_ : ∀ i, i < 7 → (nI i).toInt64.toInt32 = nI i := by decide +kernel
theorem nt_pos {S : Bool} {V : Nat} : ∀ e, wfR_ S V true e → 1 ≤ nt_ e
  | .int _, _ => Nat.le_refl _
  | .index _, _ => Nat.le_refl _
  | .length e, _ => by rw [nt_]; omega
  | .sum e, _ => by rw [nt_]; omega
  | .elem s (.add a b), _ => by rw [nt_]; omega
  | .mul a (.div b c), _ => by rw [nt_]; omega
  | .rem a b, _ => by rw [nt_]; omega
  | .sub k x, _ => by rw [nt_]; omega
theorem wfR_code {S : Bool} {V : Nat} (hSV : S = true → V = 3) (hV7 : V ≤ 7) : ∀ (g : Bool) (e : Term), wfR_ S V g e → ∀ (L h : Nat) (s : List Nat), (g = true → CKR_ V e L h 1 (nt_ e) s) ∧ (g = false → CKR_ V e L h (ac_ e) (nt_ e) s)
  | true, .int v, _, L, h, s => ⟨fun _ => CKR_one rfl (fun E F hF => sR0 hF), fun z => Bool.noConfusion z⟩
  | true, .index i, w, L, h, s => ⟨fun _ => CKR_one rfl (fun E F hF => sR1 (j := i) hF w (nI7_ i (Nat.lt_of_lt_of_le w hV7))), fun z => Bool.noConfusion z⟩
  | true, .length e, w, L, h, s => by
    refine ⟨fun _ => ?_, fun z => Bool.noConfusion z⟩
    have b2 := (wfR_code hSV hV7 true e w L h s).1 rfl
    have := nt_pos e w
    exact CKR_then b2 rfl (by rw [nt_]; omega) (by rw [nt_]; omega) (fun E F f1 f2 => sR34 (Or.inl rfl) (f2.trans f1.symm) (by rw [f1]; show 1 ≤ h + 1; omega))
  | true, .sum e, w, L, h, s => by
    refine ⟨fun _ => ?_, fun z => Bool.noConfusion z⟩
    have b2 := (wfR_code hSV hV7 true e w L h s).1 rfl
    exact CKR_then b2 rfl (by rw [nt_]; omega) (by rw [nt_]; omega) (fun E F f1 f2 => sR34 (Or.inr rfl) (f2.trans f1.symm) (by rw [f1]; show 1 ≤ h + 1; omega))
  | true, .elem c (.add a b), w, L, h, s => by
    refine ⟨fun _ => ?_, fun z => Bool.noConfusion z⟩
    have pa := nt_pos a w.1
    have c1 := (wfR_code hSV hV7 true a w.1 L h s).1 rfl
    have c2 := (wfR_code hSV hV7 true b w.2 (L + (tc_ a).length) (h + 1) s).1 rfl
    have c3 : CKR_ V (.add a b) L h (1 + 1) (nt_ a + nt_ b) s := CKR_app c1 c2 (by rw [tc_]) (by omega) (by omega)
    exact CKR_then c3 rfl (by rw [nt_, nt_]; omega) (by rw [nt_, nt_]; omega) (fun E F f1 f2 => sR2 (by rw [f1]; show 2 ≤ h + (1 + 1); omega) (by rw [f2, f1]; show (h + 1, s) = (h + (1 + 1) - 1, s); rw [show h + (1 + 1) - 1 = h + 1 by omega]))
  | true, .mul a (.div b c), w, L, h, s => by
    refine ⟨fun _ => ?_, fun z => Bool.noConfusion z⟩
    obtain ⟨F, f1, f2, f3, f4⟩ := (wfR_code hSV hV7 true a w.1 L h s).1 rfl
    obtain ⟨K, k1, k2, k3, k4⟩ := (wfR_code hSV hV7 true b w.2.1 (L + (tc_ a).length + 1) h s).1 rfl
    obtain ⟨U, u1, u2, u3, u4⟩ := (wfR_code hSV hV7 true c w.2.2 (L + (tc_ a).length + 1 + (tc_ b).length + 1) h s).1 rfl
    have hl : (tc_ (.mul a (.div b c))).length = (tc_ a).length + 1 + (tc_ b).length + 1 + (tc_ c).length := by rw [tc_]; simp; omega
    have hB : nt_ (.mul a (.div b c)) = nt_ a + nt_ b + nt_ c + 1 := by rw [nt_]
    have gL := f2
    obtain ⟨la, hla⟩ : ∃ la, (tc_ a).length = la := ⟨_, rfl⟩
    obtain ⟨lb, hlb⟩ : ∃ lb, (tc_ b).length = lb := ⟨_, rfl⟩
    obtain ⟨lc, hlc⟩ : ∃ lc, (tc_ c).length = lc := ⟨_, rfl⟩
    rw [hla, hlb, hlc] at hl
    rw [hla] at f2 f3 f4 k1 k2 k3 k4 u1 u2 u3 u4
    rw [hlb] at k2 k3 k4 u1 u2 u3 u4
    rw [hlc] at u2 u3 u4
    obtain ⟨Z, hZ⟩ : ∃ Z : Nat → Nat × List Nat, Z = fun j => if j ≤ L + la then F j else if j ≤ L + la + 1 + lb then K j else U j := ⟨_, rfl⟩
    have eF : ∀ j, j ≤ L + la → Z j = F j := fun j hj => by rw [hZ]; exact if_pos hj
    have eK : ∀ j, L + la + 1 ≤ j → j ≤ L + la + 1 + lb → Z j = K j := fun j hj hj2 => by rw [hZ]; exact (if_neg (by omega)).trans (if_pos hj2)
    have eU : ∀ j, L + la + 1 + lb + 1 ≤ j → Z j = U j := fun j hj => by rw [hZ]; exact (if_neg (by omega)).trans (if_neg (by omega))
    have g1 := (eF (L + la) (by omega)).trans f2
    have g2 := (eK (L + la + 1) (by omega) (by omega)).trans k1
    have g3 := (eK (L + la + 1 + lb) (by omega) (by omega)).trans k2
    have g4 := (eU (L + la + 1 + lb + 1) (by omega)).trans u1
    have g5 := (eU (L + la + 1 + lb + 1 + lc) (by omega)).trans u2
    have hE : L + (la + 1 + lb + 1 + lc) = L + la + 1 + lb + 1 + lc := by omega
    refine ⟨Z, by rw [eF L (by omega)]; exact f1, by rw [hl, hE]; exact g5, fun j h3 h4 => ?_, ?_⟩
    · rw [hl, hE] at h4 ⊢
      rw [hB]
      by_cases z1 : j ≤ L + la
      · exact GRj_m z1 (fun x _ hx => eF x hx) (by omega) (by omega) (by omega) (f3 j h3 z1)
      · by_cases z2 : j ≤ L + la + 1 + lb
        · exact GRj_m z2 (fun x hx hx2 => eK x (by omega) hx2) (by omega) (by omega) (by omega) (k3 j (by omega) z2)
        · exact GRj_m h4 (fun x hx hx2 => eU x (by omega)) (by omega) (by omega) (by omega) (u3 j (by omega) h4)
    · rw [hl, hE, tc_]
      refine CHR_app (CHR_m (by rw [hla]) (fun j _ hj => eF j hj) (by omega) f4) ?_
      rw [hla]
      refine CHR_cons (sR5 (t := lb + 1) (by rw [hlb]; exact lN_i _) (by omega) (by rw [g1]; show 1 ≤ h + 1; omega) (by rw [g2, g1]; rfl) (by rw [show L + la + 1 + (lb + 1) = L + la + 1 + lb + 1 by omega, g4, g2])) ?_
      refine CHR_app (CHR_m (by rw [hlb]) (fun j hj hj2 => eK j hj hj2) (by omega) k4) ?_
      rw [hlb]
      refine CHR_cons (sR6 (t := lc) (by rw [hlc]; exact lN_i _) (by omega) (by rw [g5, g3])) ?_
      exact CHR_m (by rw [hlc]) (fun j hj _ => eU j hj) (by omega) u4
  | true, .rem a b, w, L, h, s => by
    refine ⟨fun _ => ?_, fun z => Bool.noConfusion z⟩
    have hl : (tc_ (.rem a b)).length = 1 + (tc_ a).length + 1 + (tc_ b).length := by rw [tc_]; simp; omega
    have hB : nt_ (.rem a b) = nt_ a + nt_ b + 1 := by rw [nt_]
    obtain ⟨la, hla⟩ : ∃ la, (tc_ a).length = la := ⟨_, rfl⟩
    obtain ⟨lb, hlb⟩ : ∃ lb, (tc_ b).length = lb := ⟨_, rfl⟩
    obtain ⟨F, f1, f2, f3, f4⟩ := (wfR_code hSV hV7 true a w.1 (L + 1) h (s ++ [L + 1 + la + 1])).1 rfl
    obtain ⟨K, k1, k2, k3, k4⟩ := (wfR_code hSV hV7 true b w.2 (L + 1 + la + 1) h s).1 rfl
    rw [hla, hlb] at hl
    rw [hla] at f2 f3 f4
    rw [hlb] at k2 k3 k4
    obtain ⟨Z, hZ⟩ : ∃ Z : Nat → Nat × List Nat, Z = fun j => if j ≤ L then (h, s) else if j ≤ L + 1 + la then F j else K j := ⟨_, rfl⟩
    have e0 : Z L = (h, s) := by rw [hZ]; exact if_pos (Nat.le_refl _)
    have eF : ∀ j, L + 1 ≤ j → j ≤ L + 1 + la → Z j = F j := fun j hj hj2 => by rw [hZ]; exact (if_neg (by omega)).trans (if_pos hj2)
    have eK : ∀ j, L + 1 + la + 1 ≤ j → Z j = K j := fun j hj => by rw [hZ]; exact (if_neg (by omega)).trans (if_neg (by omega))
    have g1 := (eF (L + 1) (by omega) (by omega)).trans f1
    have g2 := (eF (L + 1 + la) (by omega) (by omega)).trans f2
    have g3 := (eK (L + 1 + la + 1) (by omega)).trans k1
    have g4 := (eK (L + 1 + la + 1 + lb) (by omega)).trans k2
    have hE : L + (1 + la + 1 + lb) = L + 1 + la + 1 + lb := by omega
    refine ⟨Z, e0, by rw [hl, hE]; exact g4, fun j h3 h4 => ?_, ?_⟩
    · rw [hl, hE] at h4 ⊢
      rw [hB]
      by_cases z0 : j ≤ L
      · obtain rfl : j = L := by omega
        exact GRj_0 (by rw [e0]; show h ≤ _; omega) (by rw [e0])
      · by_cases z1 : j ≤ L + 1 + la
        · exact GRj_t z1 (fun x hx hx2 => eF x (by omega) hx2) (by omega) (by omega) (by omega) (by omega) (by omega) (by rw [g3]) (f3 j (by omega) z1)
        · exact GRj_m h4 (fun x hx hx2 => eK x (by omega)) (by omega) (by omega) (by omega) (k3 j (by omega) h4)
    · rw [hl, hE, tc_]
      refine CHR_cons (sR7 (t := la + 1) (by rw [hla]; exact lN_i _) (by omega) (by rw [g1, e0]; rfl) (by rw [show L + 1 + (la + 1) = L + 1 + la + 1 by omega, g3, e0])) ?_
      refine CHR_app (CHR_m (by rw [hla]) (fun j hj hj2 => eF j hj hj2) (by omega) f4) ?_
      rw [hla]
      refine CHR_cons (sR8 (t := lb) (x := L + 1 + la + 1) (S := s) (by rw [hlb]; exact lN_i _) (by omega) (by rw [g2]) (by rw [g4, g2])) ?_
      exact CHR_m (by rw [hlb]) (fun j hj _ => eK j hj) (by omega) k4
  | true, .sub k x, w, L, h, s => by
    refine ⟨fun _ => ?_, fun z => Bool.noConfusion z⟩
    have b2 := (wfR_code hSV hV7 false x w.2.1 L h s).2 rfl
    have hw := w.2.2
    exact CKR_then b2 rfl (by rw [nt_]; omega) (by rw [nt_]; omega) (fun E F f1 f2 => sR9 (hSV w.1) w.2.2 (mny_ (by omega)) (by rw [f1]; show ac_ x ≤ h + ac_ x; omega) (by rw [f2, f1]; show (h + 1, s) = (h + ac_ x + 1 - ac_ x, s); rw [show h + ac_ x + 1 - ac_ x = h + 1 by omega]))
  | false, .null, _, L, h, s => ⟨fun z => Bool.noConfusion z, fun _ => ⟨fun _ => (h, s), rfl, rfl, fun j _ _ => GRj_0 (by show h ≤ h + nt_ .null; omega) rfl, fun i q hq => by cases hq⟩⟩
  | false, .add a r, w, L, h, s => by
    refine ⟨fun z => Bool.noConfusion z, fun _ => ?_⟩
    have pa := nt_pos a w.1
    have c1 := (wfR_code hSV hV7 true a w.1 L h s).1 rfl
    have c2 := (wfR_code hSV hV7 false r w.2 (L + (tc_ a).length) (h + 1) s).2 rfl
    rw [ac_, Nat.add_comm]
    exact CKR_app c1 c2 (by rw [tc_]) (by rw [nt_]; omega) (by rw [nt_]; omega)
