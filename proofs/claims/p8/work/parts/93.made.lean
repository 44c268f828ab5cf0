/-! what the two constructors make -/
def Z0_ : mm_ := (fun _ _ => 0, fun _ _ => 0, fun _ _ => none)
def M1_ : mm_ := y12_ (x8_ (x7_ (x6_ (x5_ (x4_ (x3_ (x2_ (x1_ Z0_))))))))
def fok_ (M : mm_) (k : Nat) : Nat → List Nat → List Nat → Bool
  | _, [], [] => true
  | j, f :: fs, g :: gs => (decide (f = g) || (decide (f = 2) && (decide (3 ≤ g) && decide (M.2.2 k j = some (g - 3))))) && fok_ M k (j + 1) fs gs
  | _, _, _ => false
def cok_ (M : mm_) (k : Nat) : dd_ → dd_ → Bool
  | .inl a, .inl b => decide (a = b)
  | .inr (c, fs), .inr (e, gs) => decide (c = e) && fok_ M k 0 fs gs
  | _, _ => false
theorem fok_fl {G : gg_} {M : mm_} {k : Nat} : ∀ (fs gs : List Nat) (j : Nat), fok_ M k j fs gs = true → fl_ G M k j fs = fl_ G M k j gs
  | [], [], _, _ => rfl
  | [], _ :: _, _, h => by cases h
  | _ :: _, [], _, h => by cases h
  | f :: fs, g :: gs, j, h => by
    rw [fok_, Bool.and_eq_true, Bool.or_eq_true, Bool.and_eq_true, Bool.and_eq_true, decide_eq_true_iff, decide_eq_true_iff, decide_eq_true_iff, decide_eq_true_iff] at h
    rw [fl_, fl_, fok_fl fs gs (j + 1) h.2]
    rcases h.1 with e | ⟨rfl, e2, e3⟩
    · rw [e]
    · obtain ⟨t, rfl⟩ : ∃ t, g = t + 3 := ⟨g - 3, by omega⟩
      rw [Nat.add_sub_cancel] at e3
      show va_rf ((M.2.2 k j).map G.1) :: _ = Value.ref (G.1 t) :: _
      rw [e3]
      rfl
theorem cok_ce {G : gg_} {M : mm_} {k : Nat} {d e : dd_} (h : cok_ M k d e = true) : ce_ G M k d = ce_ G M k e := by
  match d, e, h with
  | .inl a, .inl b, h => rw [of_decide_eq_true (show decide (a = b) = true from h)]
  | .inr (c, fs), .inr (c2, gs), h =>
    have h2 : decide (c = c2) = true ∧ fok_ M k 0 fs gs = true := by
      have h3 : (decide (c = c2) && fok_ M k 0 fs gs) = true := h
      rw [Bool.and_eq_true] at h3
      exact h3
    show (Sum.inr (c, fl_ G M k 0 fs) : va_E) = Sum.inr (c2, fl_ G M k 0 gs)
    rw [of_decide_eq_true h2.1, fok_fl fs gs 0 h2.2]
  | .inl a, .inr b, h => cases h
  | .inr (c, fs), .inl b, h => cases h
def aok_ (M : mm_) (k : Nat) : Bool := match dall_[pi_ k]?, ds_[k]? with
  | some (k2, d), some e => decide (k2 = k) && cok_ M k d e
  | _, _ => false
theorem aok_1 : ∀ k, k < 263 → aok_ M1_ k = true := by decide +kernel
theorem ds_len : ds_.length = 263 := by decide +kernel
theorem pi_lt : ∀ k, k < 263 → pi_ k < 263 := by decide +kernel
theorem pi_inj : ∀ i, i < 263 → ∀ j, j < 263 → pi_ i = pi_ j → i = j := by
  intro i hi j hj h
  unfold pi_ at h
  split at h <;> split at h <;> (try split at h) <;> (try split at h) <;> omega
theorem ga_gd {G : gg_} (h : ga_ G) : gd_ G := by
  refine ⟨fun i j hi hj e => ?_, fun k hk => ?_⟩
  · rw [ds_len] at hi hj
    rw [h i hi, h j hj] at e
    exact pi_inj i hi j hj (by omega)
  · rw [ds_len] at hk
    rw [h k hk]
    exact Nat.le_add_right _ _
theorem hp_wl {G : gg_} {M : mm_} {H : Heap} (ha : ∀ k, k < 263 → aok_ M k = true) (h : hp_ G M 263 H) : va_P G.2.2.1 vwCl (wl_ G M) H := by
  intro k q hq
  rw [wk_get, Nat.zero_add] at hq
  cases hd : ds_[k]? with
  | none => rw [hd] at hq; cases hq
  | some e =>
    have hk : k < 263 := by rw [← ds_len]; exact (List.getElem?_eq_some_iff.mp hd).1
    rw [hd] at hq
    have hq2 : (G.1 k, ce_ G M k e) = q := Option.some.inj hq
    have hz := ha k hk
    unfold aok_ at hz
    rw [hd] at hz
    cases hd2 : dall_[pi_ k]? with
    | none => rw [hd2] at hz; cases hz
    | some y =>
      obtain ⟨k2, d⟩ := y
      rw [hd2] at hz
      have hz2 : (decide (k2 = k) && cok_ M k d e) = true := hz
      rw [Bool.and_eq_true] at hz2
      have hkk : k2 = k := of_decide_eq_true hz2.1
      rw [hkk] at hd2
      rw [← hq2, ← cok_ce hz2.2]
      exact h.1 (pi_ k) _ (wm_at hd2 (pi_lt k hk))
theorem m1_mb : mb2_ M1_ := by unfold mb2_; decide +kernel
theorem m1_vq : vq_ M1_ := by unfold vq_; decide +kernel
theorem m1_jq : ∀ i, i < 8 → i < 9 ∧ M1_.2.2 134 i = some (135 + 12 * i) := by decide +kernel
theorem m1_sp : M1_.2.2 133 1 = some (135 + 12 * 8) := by decide +kernel
theorem m1_jk : ∀ i, i < 8 → M1_.1 (135 + 12 * i) 0 = 0 := by decide +kernel
theorem m1_18 : ∀ i, i < 8 → M1_.1 18 i = nI 0 ∧ M1_.1 12 i = 0 := by decide +kernel
theorem m1_n : M1_.1 35 1 = nI 0 ∧ M1_.1 0 2 = nI 0 ∧ M1_.1 45 2 = nI 0 ∧ M1_.1 245 0 = 40 ∧ M1_.1 245 1 = 7 ∧ M1_.1 245 3 = nI 0 ∧ M1_.1 247 10 = 0 ∧ M1_.1 0 9 = nI 0 ∧ M1_.1 0 35 = nI 0 ∧ M1_.1 0 37 = nI 0 := by decide +kernel
theorem BI_of {M : mm_} (a1 : mb2_ M) (a2 : vq_ M) (a3 : ∀ i, i < 8 → i < 9 ∧ M.2.2 134 i = some (135 + 12 * i)) (a4 : M.2.2 133 1 = some (135 + 12 * 8)) (a5 : ∀ i, i < 8 → M.1 (135 + 12 * i) 0 = 0) (a6 : ∀ i, i < 8 → M.1 18 i = nI 0 ∧ M.1 12 i = 0) (a7 : M.1 35 1 = nI 0 ∧ M.1 0 2 = nI 0 ∧ M.1 45 2 = nI 0 ∧ M.1 245 0 = 40 ∧ M.1 245 1 = 7 ∧ M.1 245 3 = nI 0 ∧ M.1 247 10 = 0 ∧ M.1 0 9 = nI 0 ∧ M.1 0 35 = nI 0 ∧ M.1 0 37 = nI 0) : BI_ M := by
  obtain ⟨e1, e2, e3, e4, e5, e6, e7, e8, e9, e10⟩ := a7
  refine ⟨0, by decide, ⟨⟨by decide, e1⟩, 0, fun i => i, 8, ⟨⟨by decide, e3⟩, a1, ⟨a3, by decide, a4⟩, a2, fun i hi => by omega, fun j hj h => absurd (a5 j hj) h⟩, ⟨fun i hi z => ?_, fun i j _ _ h => h⟩, ⟨0, ⟨by decide, e3⟩, e4, e5, 0, by decide, e6, fun i hi => by omega⟩, Or.inl e7⟩, e2, ⟨0, e2, by decide⟩, ⟨0, by decide, e8, fun m hm => by omega⟩, ⟨⟨0, by decide, e9⟩, 0, 0, by decide, e8, by decide, e10, fun i hi => by omega⟩, fun j hj => ⟨⟨0, by decide, (a6 j hj).1⟩, fun z => ?_⟩⟩
  · have z2 : i = 8 := z
    omega
  · rw [(a6 j hj).2] at z
    exact absurd z (by decide)
theorem BI_1 : BI_ M1_ := BI_of m1_mb m1_vq m1_jq m1_sp m1_jk m1_18 m1_n
