/-! the code of a tree that the reader makes can be run -/
def CH_ (F : Nat → Nat) (C : List cq2_) (L E : Nat) : Prop := ∀ i q, C[i]? = some q → q.2.2.2 = nI (F (L + i + 1)) ∧ stX_ E F (L + i) q.1 q.2.1
theorem stX_E {E E2 i : Nat} {F : Nat → Nat} {p : Int32} {v : Int64} (hE : E ≤ E2) (h : stX_ E F i p v) : stX_ E2 F i p v := by
  obtain ⟨h1, h2, h3, h4, h5, h6, h7⟩ := h
  refine ⟨h1, h2, h3, fun z => ?_, fun z => ?_, h6, h7⟩
  · obtain ⟨a, t, b1, b2, b3, b4⟩ := h4 z
    exact ⟨a, t, b1, by omega, b3, b4⟩
  · obtain ⟨t, b1, b2, b3, b4⟩ := h5 z
    exact ⟨t, b1, by omega, b3, b4⟩
theorem stX_F {E i L : Nat} {F F2 : Nat → Nat} {p : Int32} {v : Int64} (hF : ∀ j, L ≤ j → j ≤ E → F2 j = F j) (h1 : L ≤ i) (h2 : i + 1 ≤ E) (h : stX_ E F i p v) : stX_ E F2 i p v := by
  unfold stX_ at h ⊢
  rw [hF i h1 (by omega), hF (i + 1) (by omega) h2]
  obtain ⟨a1, a2, a3, a4, a5, a6, a7⟩ := h
  refine ⟨a1, a2, a3, fun z => ?_, fun z => ?_, a6, a7⟩
  · obtain ⟨a, t, b1, b2, b3, b4⟩ := a4 z
    exact ⟨a, t, b1, b2, by rw [hF t (by omega) b2]; exact b3, b4⟩
  · obtain ⟨t, b1, b2, b3, b4⟩ := a5 z
    exact ⟨t, b1, b2, by rw [hF t (by omega) b2]; exact b3, b4⟩
theorem CH_F {F F2 : Nat → Nat} {C : List cq2_} {L E : Nat} (hE : L + C.length = E) (hF : ∀ j, L ≤ j → j ≤ E → F2 j = F j) (h : CH_ F C L E) : CH_ F2 C L E := by
  intro i q hq
  have hi := (List.getElem?_eq_some_iff.mp hq).1
  obtain ⟨h1, h2⟩ := h i q hq
  exact ⟨by rw [hF _ (by omega) (by omega)]; exact h1, stX_F hF (by omega) (by omega) h2⟩
theorem CH_E {F : Nat → Nat} {C : List cq2_} {L E E2 : Nat} (hE : E ≤ E2) (h : CH_ F C L E) : CH_ F C L E2 := fun i q hq => ⟨(h i q hq).1, stX_E hE (h i q hq).2⟩
theorem CH_app {F : Nat → Nat} {A B : List cq2_} {L E : Nat} (h : CH_ F A L E) (g : CH_ F B (L + A.length) E) : CH_ F (A ++ B) L E := by
  intro i q hq
  by_cases hi : i < A.length
  · rw [List.getElem?_append_left hi] at hq
    exact h i q hq
  · rw [List.getElem?_append_right (by omega)] at hq
    have := g _ q hq
    rw [show L + A.length + (i - A.length) = L + i by omega] at this
    exact this
theorem CH_one {F : Nat → Nat} {L E : Nat} {q : cq2_} (h1 : q.2.2.2 = nI (F (L + 1))) (h2 : stX_ E F L q.1 q.2.1) : CH_ F [q] L E := by
  intro i q2 hq
  have hi := (List.getElem?_eq_some_iff.mp hq).1
  obtain rfl : i = 0 := by simp at hi; omega
  cases hq
  exact ⟨h1, h2⟩
theorem CH_cons {F : Nat → Nat} {L E : Nat} {q : cq2_} {B : List cq2_} (h1 : q.2.2.2 = nI (F (L + 1))) (h2 : stX_ E F L q.1 q.2.1) (g : CH_ F B (L + 1) E) : CH_ F (q :: B) L E := CH_app (A := [q]) (CH_one h1 h2) g
theorem st01 {E i : Nat} {F : Nat → Nat} {p : Int32} {v : Int64} (hp : p = 0 ∨ p = 1) (h : F (i + 1) = F i + 1) : stX_ E F i p v := by
  rcases hp with rfl | rfl <;> exact ⟨fun _ => h, fun z => absurd z (by decide), fun z => absurd z (by decide), fun z => absurd z (by decide), fun z => absurd z (by decide), fun z => absurd z (by decide), fun z1 z2 => by first | exact absurd rfl z1 | exact absurd rfl z2⟩
theorem st23 {E i : Nat} {F : Nat → Nat} {p : Int32} {v : Int64} (hp : p = 2 ∨ p = 3) (h : F (i + 1) = F i) (h1 : 1 ≤ F i) : stX_ E F i p v := by
  rcases hp with rfl | rfl <;> exact ⟨fun z => absurd z (by decide), fun _ => ⟨h, h1⟩, fun _ => h1, fun z => absurd z (by decide), fun z => absurd z (by decide), fun z => absurd z (by decide), fun _ _ z1 z2 => by first | exact absurd rfl z1 | exact absurd rfl z2⟩
theorem st4 {E i t : Nat} {F : Nat → Nat} {v : Int64} (h : F (i + 1) + 1 = F i) (hv : v.toInt32 = nI t) (ht : t ≤ E) (h2 : F t = F (i + 1)) (h3 : i < t) : stX_ E F i 4 v := ⟨fun z => absurd z (by decide), fun z => absurd z (by decide), fun z => absurd z (by decide), fun _ => ⟨h, t, hv, ht, h2, h3⟩, fun z => absurd z (by decide), fun z => absurd z (by decide), fun _ _ _ _ z => absurd rfl z⟩
theorem st56 {E i t : Nat} {F : Nat → Nat} {p : Int32} {v : Int64} (hp : p = 5 ∨ p = 6) (hv : v.toInt32 = nI t) (ht : t ≤ E) (h2 : F t = F i) (h3 : i < t) : stX_ E F i p v := by
  rcases hp with rfl | rfl <;> exact ⟨fun z => absurd z (by decide), fun z => absurd z (by decide), fun z => absurd z (by decide), fun z => absurd z (by decide), fun _ => ⟨t, hv, ht, h2, h3⟩, fun z => absurd z (by decide), fun _ _ _ _ _ z1 z2 => by first | exact absurd rfl z1 | exact absurd rfl z2⟩
theorem st7 {E i j : Nat} {F : Nat → Nat} {v : Int64} (hv : poX_ v = nI j) (hj : j ≤ 3) (h : F (i + 1) + j = F i + 1) (h2 : j ≤ F i) : stX_ E F i 7 v := ⟨fun z => absurd z (by decide), fun z => absurd z (by decide), fun z => absurd z (by decide), fun z => absurd z (by decide), fun z => absurd z (by decide), fun _ => ⟨j, hv, hj, h, h2⟩, fun _ _ _ _ _ _ _ z => absurd rfl z⟩
theorem kd_big {c : Int32} (h : ¬ kd_ c = 0) : ¬ c = 0 ∧ ¬ c = 1 ∧ ¬ c = 2 ∧ ¬ c = 3 ∧ ¬ c = 4 ∧ ¬ c = 5 ∧ ¬ c = 6 ∧ ¬ c = 7 := by
  refine ⟨?_, ?_, ?_, ?_, ?_, ?_, ?_, ?_⟩ <;> (rintro rfl; exact h (by decide))
theorem st8 {E i : Nat} {F : Nat → Nat} {p : Int32} {v : Int64} (hp : ¬ kd_ p = 0) (h : F (i + 1) + 1 = F i) (h2 : 2 ≤ F i) : stX_ E F i p v := by
  obtain ⟨a0, a1, a2, a3, a4, a5, a6, a7⟩ := kd_big hp
  exact ⟨fun z => absurd z (by simp [a0, a1]), fun z => absurd z a2, fun z => absurd z a3, fun z => absurd z a4, fun z => absurd z (by simp [a5, a6]), fun z => absurd z a7, fun _ _ _ _ _ _ _ _ => ⟨h, h2⟩⟩
/-- a code from L on, the stack h high before it and h + n behind it, and no higher than h + B between -/
def CK_ (e : Term) (L h n B : Nat) : Prop := ∃ F : Nat → Nat, F L = h ∧ F (L + snX_ e) = h + n ∧ (∀ j, L ≤ j → j ≤ L + snX_ e → F j ≤ h + B) ∧ CH_ F (cqX_ e L (nI h)) L (L + snX_ e)
theorem sn_pos : ∀ e, wfX_ true e → 1 ≤ snX_ e
  | .int _, _ => Nat.le_refl _
  | .index _, _ => Nat.le_refl _
  | .length e, _ => by rw [snX_]; omega
  | .sum e, _ => by rw [snX_]; omega
  | .elem s (.add a b), _ => by rw [snX_]; omega
  | .mul a (.div b c), _ => by rw [snX_]; omega
  | .rem a b, _ => by rw [snX_]; omega
  | .sub k x, _ => by rw [snX_]; omega
theorem CK_one {e : Term} {L h : Nat} {q : cq2_} (hs : snX_ e = 1) (hc : cqX_ e L (nI h) = [q]) (h1 : q.2.2.2 = nI h + 1) (hp : q.1 = 0 ∨ q.1 = 1) : CK_ e L h 1 1 := by
  refine ⟨fun j => if j ≤ L then h else h + 1, if_pos (Nat.le_refl _), by rw [hs]; exact if_neg (by omega), fun j _ _ => ?_, ?_⟩
  · show (if j ≤ L then h else h + 1) ≤ h + 1
    split <;> omega
  · rw [hc]
    refine CH_one ?_ (st01 hp ?_)
    · rw [h1, nI_1]; exact congrArg nI (if_neg (by omega)).symm
    · show (if L + 1 ≤ L then h else h + 1) = (if L ≤ L then h else h + 1) + 1
      rw [if_neg (by omega), if_pos (Nat.le_refl _)]
/-- a step behind a code -/
theorem CK_then {e f : Term} {L h n n2 B B2 : Nat} {q : cq2_} (k : CK_ e L h n B) (hs : snX_ f = snX_ e + 1) (hc : cqX_ f L (nI h) = cqX_ e L (nI h) ++ [q]) (hB : B ≤ B2) (hn2 : n2 ≤ B2) (h1 : q.2.2.2 = nI (h + n2)) (st : ∀ F : Nat → Nat, F (L + snX_ e) = h + n → F (L + snX_ e + 1) = h + n2 → stX_ (L + snX_ f) F (L + snX_ e) q.1 q.2.1) : CK_ f L h n2 B2 := by
  obtain ⟨F, f1, f2, f3, f4⟩ := k
  have e1 : (fun j => if j ≤ L + snX_ e then F j else h + n2) (L + snX_ e) = h + n := by
    show (if L + snX_ e ≤ L + snX_ e then F (L + snX_ e) else h + n2) = h + n
    rw [if_pos (Nat.le_refl _)]; exact f2
  have e2 : (fun j => if j ≤ L + snX_ e then F j else h + n2) (L + snX_ e + 1) = h + n2 := if_neg (by omega)
  refine ⟨fun j => if j ≤ L + snX_ e then F j else h + n2, ?_, ?_, fun j h3 h4 => ?_, ?_⟩
  · show (if L ≤ L + snX_ e then F L else h + n2) = h
    rw [if_pos (by omega)]; exact f1
  · rw [hs]; exact e2
  · show (if j ≤ L + snX_ e then F j else h + n2) ≤ h + B2
    split
    · have := f3 j h3 (by omega); omega
    · omega
  · rw [hc]
    refine CH_app (CH_E (by omega) (CH_F (by rw [cq_len]) (fun j _ h5 => if_pos h5) f4)) ?_
    rw [cq_len]
    exact CH_one (h1.trans (congrArg nI e2.symm)) (st _ e1 e2)
/-- a code behind a code -/
theorem CK_app {a b f : Term} {L h n m B B1 B2 : Nat} (ka : CK_ a L h n B1) (kb : CK_ b (L + snX_ a) (h + n) m B2) (hs : snX_ f = snX_ a + snX_ b) (hc : cqX_ f L (nI h) = cqX_ a L (nI h) ++ cqX_ b (L + snX_ a) (nI (h + n))) (h1 : B1 ≤ B) (h2 : n + B2 ≤ B) : CK_ f L h (n + m) B := by
  obtain ⟨F, f1, f2, f3, f4⟩ := ka
  obtain ⟨K, k1, k2, k3, k4⟩ := kb
  have eF : ∀ j, j ≤ L + snX_ a → (fun j => if j ≤ L + snX_ a then F j else K j) j = F j := fun j hj => if_pos hj
  have eK : ∀ j, L + snX_ a ≤ j → (fun j => if j ≤ L + snX_ a then F j else K j) j = K j := by
    intro j hj
    show (if j ≤ L + snX_ a then F j else K j) = K j
    split
    · obtain rfl : j = L + snX_ a := by omega
      rw [f2, k1]
    · rfl
  refine ⟨fun j => if j ≤ L + snX_ a then F j else K j, ?_, ?_, fun j h3 h4 => ?_, ?_⟩
  · rw [eF L (by omega)]; exact f1
  · rw [hs, ← Nat.add_assoc, eK _ (by omega), k2]; omega
  · by_cases hj : j ≤ L + snX_ a
    · rw [eF j hj]; have := f3 j h3 hj; omega
    · rw [eK j (by omega)]; have := k3 j (by omega) (by omega); omega
  · rw [hc]
    refine CH_app (CH_E (by omega) (CH_F (by rw [cq_len]) (fun j _ h5 => eF j h5) f4)) ?_
    rw [cq_len, hs, ← Nat.add_assoc]
    exact CH_F (by rw [cq_len]) (fun j h5 _ => eK j h5) k4
theorem wf_code : ∀ (g : Bool) (e : Term), wfX_ g e → ∀ (L h : Nat), L + snX_ e ≤ 60 → (g = true → ∃ B, 3 * B ≤ 2 * snX_ e + 1 ∧ CK_ e L h 1 B) ∧ (g = false → ∃ B, 3 * B ≤ 2 * snX_ e + an_ e ∧ CK_ e L h (an_ e) B)
  | true, .int v, _, L, h, _ => ⟨fun _ => ⟨1, by rw [snX_]; omega, CK_one rfl rfl rfl (Or.inl rfl)⟩, fun z => Bool.noConfusion z⟩
  | true, .index i, _, L, h, _ => ⟨fun _ => ⟨1, by rw [snX_]; omega, CK_one rfl rfl rfl (Or.inr rfl)⟩, fun z => Bool.noConfusion z⟩
  | true, .length e, w, L, h, hL => by
    refine ⟨fun _ => ?_, fun z => Bool.noConfusion z⟩
    rw [snX_] at hL
    obtain ⟨B, b1, b2⟩ := (wf_code true e w L h (by omega)).1 rfl
    have := sn_pos e w
    have hB1 : 1 ≤ B := by obtain ⟨F, f1, f2, f3, _⟩ := b2; have := f3 (L + snX_ e) (by omega) (by omega); omega
    exact ⟨B, by rw [snX_]; omega, CK_then b2 rfl rfl (Nat.le_refl _) hB1 (nI_1 h) (fun F f1 f2 => st23 (Or.inl rfl) (f2.trans f1.symm) (by omega))⟩
  | true, .sum e, w, L, h, hL => by
    refine ⟨fun _ => ?_, fun z => Bool.noConfusion z⟩
    rw [snX_] at hL
    obtain ⟨B, b1, b2⟩ := (wf_code true e w L h (by omega)).1 rfl
    have hB1 : 1 ≤ B := by obtain ⟨F, f1, f2, f3, _⟩ := b2; have := f3 (L + snX_ e) (by omega) (by omega); omega
    exact ⟨B, by rw [snX_]; omega, CK_then b2 rfl rfl (Nat.le_refl _) hB1 (nI_1 h) (fun F f1 f2 => st23 (Or.inr rfl) (f2.trans f1.symm) (by omega))⟩
  | true, .elem s (.add a b), w, L, h, hL => by
    refine ⟨fun _ => ?_, fun z => Bool.noConfusion z⟩
    rw [snX_, snX_] at hL
    have pa := sn_pos a w.2.1
    have pb := sn_pos b w.2.2
    obtain ⟨B1, b1, c1⟩ := (wf_code true a w.2.1 L h (by omega)).1 rfl
    obtain ⟨B2, b2, c2⟩ := (wf_code true b w.2.2 (L + snX_ a) (h + 1) (by omega)).1 rfl
    have c3 : CK_ (.add a b) L h (1 + 1) (max B1 (1 + B2)) := CK_app c1 c2 (by rw [snX_]) (by rw [cqX_, nI_1]) (by omega) (by omega)
    refine ⟨max B1 (1 + B2), by rw [snX_, snX_]; omega, CK_then c3 rfl rfl (Nat.le_refl _) (by omega) (nI_1 h) (fun F f1 f2 => st8 w.1 (by omega) (by omega))⟩
  | true, .mul a (.div b c), w, L, h, hL => by
    refine ⟨fun _ => ?_, fun z => Bool.noConfusion z⟩
    have hs : snX_ (.mul a (.div b c)) = snX_ a + snX_ b + snX_ c + 2 := by rw [snX_]
    rw [hs] at hL
    obtain ⟨B1, b1, F, f1, f2, f3, f4⟩ := (wf_code true a w.1 L h (by omega)).1 rfl
    obtain ⟨B2, b2, K, k1, k2, k3, k4⟩ := (wf_code true b w.2.1 (L + snX_ a + 1) h (by omega)).1 rfl
    obtain ⟨B3, b3, U, u1, u2, u3, u4⟩ := (wf_code true c w.2.2 (L + snX_ a + 1 + snX_ b + 1) h (by omega)).1 rfl
    have pa := sn_pos a w.1
    have pb := sn_pos b w.2.1
    have pc := sn_pos c w.2.2
    obtain ⟨Z, hZ⟩ : ∃ Z : Nat → Nat, Z = fun j => if j ≤ L + snX_ a then F j else if j ≤ L + snX_ a + 1 + snX_ b then K j else U j := ⟨_, rfl⟩
    have eF : ∀ j, j ≤ L + snX_ a → Z j = F j := fun j hj => by rw [hZ]; exact if_pos hj
    have eK : ∀ j, L + snX_ a + 1 ≤ j → j ≤ L + snX_ a + 1 + snX_ b → Z j = K j := fun j hj hj2 => by rw [hZ]; exact (if_neg (by omega)).trans (if_pos hj2)
    have eU : ∀ j, L + snX_ a + 1 + snX_ b + 1 ≤ j → Z j = U j := fun j hj => by rw [hZ]; exact (if_neg (by omega)).trans (if_neg (by omega))
    refine ⟨max B1 (max B2 B3), by rw [hs]; omega, Z, ?_, ?_, fun j h3 h4 => ?_, ?_⟩
    · rw [eF L (by omega)]; exact f1
    · rw [hs, show L + (snX_ a + snX_ b + snX_ c + 2) = L + snX_ a + 1 + snX_ b + 1 + snX_ c by omega, eU _ (by omega)]; exact u2
    · rw [hs] at h4
      by_cases z1 : j ≤ L + snX_ a
      · rw [eF j z1]; have := f3 j h3 z1; omega
      · by_cases z2 : j ≤ L + snX_ a + 1 + snX_ b
        · rw [eK j (by omega) z2]; have := k3 j (by omega) z2; omega
        · rw [eU j (by omega)]; have := u3 j (by omega) (by omega); omega
    · rw [hs, cqX_]
      have g1 := eF (L + snX_ a) (by omega)
      have g2 := eK (L + snX_ a + 1) (by omega) (by omega)
      have g3 := eK (L + snX_ a + 1 + snX_ b) (by omega) (by omega)
      have g4 := eU (L + snX_ a + 1 + snX_ b + 1) (by omega)
      have g5 := eU (L + snX_ a + 1 + snX_ b + 1 + snX_ c) (by omega)
      refine CH_app (CH_E (by omega) (CH_F (by rw [cq_len]) (fun j _ h5 => eF j h5) f4)) ?_
      rw [cq_len]
      refine CH_cons (by rw [g2, k1]) (st4 (t := L + snX_ a + 1 + snX_ b + 1) (by rw [g1, g2, f2, k1]) (lN_i _) (by omega) (by rw [g4, g2, u1, k1]) (by omega)) ?_
      refine CH_app (CH_E (by omega) (CH_F (by rw [cq_len]) (fun j h5 h6 => eK j h5 h6) k4)) ?_
      rw [cq_len]
      refine CH_cons (by rw [g4, u1]) (st56 (t := L + snX_ a + 1 + snX_ b + 1 + snX_ c) (Or.inl rfl) (lN_i _) (by omega) (by rw [g5, g3, u2, k2]) (by omega)) ?_
      exact CH_E (by omega) (CH_F (by rw [cq_len]) (fun j h5 h6 => eU j h5) u4)
  | true, .rem a b, w, L, h, hL => by
    refine ⟨fun _ => ?_, fun z => Bool.noConfusion z⟩
    have hs : snX_ (.rem a b) = snX_ a + snX_ b + 1 := by rw [snX_]
    rw [hs] at hL
    obtain ⟨B1, b1, F, f1, f2, f3, f4⟩ := (wf_code true a w.1 L h (by omega)).1 rfl
    obtain ⟨B2, b2, K, k1, k2, k3, k4⟩ := (wf_code true b w.2 (L + snX_ a + 1) h (by omega)).1 rfl
    have pa := sn_pos a w.1
    have pb := sn_pos b w.2
    obtain ⟨Z, hZ⟩ : ∃ Z : Nat → Nat, Z = fun j => if j ≤ L + snX_ a then F j else K j := ⟨_, rfl⟩
    have eF : ∀ j, j ≤ L + snX_ a → Z j = F j := fun j hj => by rw [hZ]; exact if_pos hj
    have eK : ∀ j, L + snX_ a + 1 ≤ j → Z j = K j := fun j hj => by rw [hZ]; exact if_neg (by omega)
    refine ⟨max B1 B2, by rw [hs]; omega, Z, ?_, ?_, fun j h3 h4 => ?_, ?_⟩
    · rw [eF L (by omega)]; exact f1
    · rw [hs, show L + (snX_ a + snX_ b + 1) = L + snX_ a + 1 + snX_ b by omega, eK _ (by omega)]; exact k2
    · rw [hs] at h4
      by_cases z1 : j ≤ L + snX_ a
      · rw [eF j z1]; have := f3 j h3 z1; omega
      · rw [eK j (by omega)]; have := k3 j (by omega) (by omega); omega
    · rw [hs, cqX_]
      have g1 := eF (L + snX_ a) (by omega)
      have g2 := eK (L + snX_ a + 1) (by omega)
      have g3 := eK (L + snX_ a + 1 + snX_ b) (by omega)
      refine CH_app (CH_E (by omega) (CH_F (by rw [cq_len]) (fun j _ h5 => eF j h5) f4)) ?_
      rw [cq_len]
      refine CH_cons (by rw [g2, k1]) (st56 (t := L + snX_ a + 1 + snX_ b) (Or.inr rfl) (lN_i _) (by omega) (by rw [g3, g1, f2, k2]) (by omega)) ?_
      exact CH_E (by omega) (CH_F (by rw [cq_len]) (fun j h5 h6 => eK j h5) k4)
  | true, .sub k x, w, L, h, hL => by
    refine ⟨fun _ => ?_, fun z => Bool.noConfusion z⟩
    rw [snX_] at hL
    obtain ⟨B, b1, b2⟩ := (wf_code false x w.1 L h (by omega)).2 rfl
    have hw := w.2.1
    exact ⟨max B 1, by rw [snX_]; omega, CK_then b2 rfl rfl (by omega) (by omega) (nI_1 h) (fun F f1 f2 => st7 w.2.2 w.2.1 (by omega) (by omega))⟩
  | false, .null, _, L, h, _ => ⟨fun z => Bool.noConfusion z, fun _ => ⟨0, by omega, fun _ => h, rfl, rfl, fun _ _ _ => Nat.le_refl _, fun i q hq => by cases hq⟩⟩
  | false, .add a r, w, L, h, hL => by
    refine ⟨fun z => Bool.noConfusion z, fun _ => ?_⟩
    rw [snX_] at hL
    have pa := sn_pos a w.1
    obtain ⟨B1, b1, c1⟩ := (wf_code true a w.1 L h (by omega)).1 rfl
    obtain ⟨B2, b2, c2⟩ := (wf_code false r w.2 (L + snX_ a) (h + 1) (by omega)).2 rfl
    refine ⟨max B1 (1 + B2), ?_, ?_⟩
    · rw [snX_, an_]; omega
    · rw [an_, Nat.add_comm]
      exact CK_app c1 c2 (by rw [snX_]) (by rw [cqX_, nI_1]) (by omega) (by omega)
theorem ok_hd {k : Nat} {M : mm_} {e : Term} (w : wfX_ true e) (hs : 3 * snX_ e + 1 ≤ 80) (h : hd_ k M (cqX_ e 0 0)) : okX_ k M := by
  obtain ⟨B, b1, F, f1, f2, f3, f4⟩ := (wf_code true e w 0 0 (by omega)).1 rfl
  rw [Nat.zero_add] at f2 f3 f4
  refine ⟨snX_ e, F, by omega, ?_, f1, fun i hi => ?_, fun i hi => ?_⟩
  · rw [h.1, cq_len]
  · have := f3 i (by omega) hi; omega
  · have hl : i < (cqX_ e 0 0).length := by rw [cq_len]; exact hi
    obtain ⟨g1, g2⟩ := f4 i _ (List.getElem?_eq_getElem hl)
    obtain ⟨h1, h2, _, h4⟩ := h.2 i _ (List.getElem?_eq_getElem hl)
    rw [h1, h2, h4]
    rw [Nat.zero_add] at g1 g2
    exact ⟨g1, g2⟩
