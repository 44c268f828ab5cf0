/-! what a run of the Machine keeps (fzX_, fyX_), codes that the Machine can run (okX_), and what is so while it runs (kmX_) -/
def faX_ (a i : Nat) : Prop := a < 135 ∨ 262 ≤ a ∨ (a < 243 ∧ (a + 9) % 12 ≠ 0 ∧ (a + 9) % 12 ≠ 11) ∨ (a < 243 ∧ (a + 9) % 12 = 0 ∧ i ≠ 0 ∧ i ≠ 7)
/-- the kept rows speak of methods that are there -/
def kpX_ (M : mm_) : Prop := ∃ c, mt_ M c ∧ M.1 245 0 = 40 ∧ M.1 245 1 = 7 ∧ ∃ z, z ≤ 40 ∧ M.1 245 3 = nI z ∧ ∀ i, i < z → ∃ m, m < c ∧ M.1 246 (7 * i + 1) = nI m
theorem kpX_s {M N : mm_} (h1 : N.1 45 2 = M.1 45 2) (h2 : ∀ i, N.1 245 i = M.1 245 i) (h3 : ∀ i, N.1 246 i = M.1 246 i) (h : kpX_ M) : kpX_ N := by
  obtain ⟨c, a1, a2, a3, z, a4, a5, a6⟩ := h
  exact ⟨c, ⟨a1.1, by rw [h1]; exact a1.2⟩, by rw [h2]; exact a2, by rw [h2]; exact a3, z, a4, by rw [h2]; exact a5, fun i hi => by rw [h3]; exact a6 i hi⟩
def fzX_ (M N : mm_) : Prop := N.2 = M.2 ∧ (∀ a i, faX_ a i → N.1 a i = M.1 a i) ∧ (∀ t, t < 9 → (N.1 (135 + 12 * t) 0 = M.1 (135 + 12 * t) 0 ∨ N.1 (135 + 12 * t) 0 = 0)) ∧ (kpX_ M → kpX_ N)
def fyX_ (r : Nat) (M N : mm_) : Prop := fzX_ M N ∧ ∀ q, q ≤ r → N.1 (249 + q) 5 = M.1 (249 + q) 5
theorem fzX_rf {M : mm_} : fzX_ M M := ⟨rfl, fun _ _ _ => rfl, fun _ _ => Or.inl rfl, id⟩
theorem fyX_rf {r : Nat} {M : mm_} : fyX_ r M M := ⟨fzX_rf, fun _ _ => rfl⟩
theorem fzX_tr {A B D : mm_} (h : fzX_ A B) (g : fzX_ B D) : fzX_ A D := by
  refine ⟨g.1.trans h.1, fun a i z => (g.2.1 a i z).trans (h.2.1 a i z), fun t ht => ?_, fun z => g.2.2.2 (h.2.2.2 z)⟩
  rcases g.2.2.1 t ht with z | z
  · rw [z]; exact h.2.2.1 t ht
  · exact Or.inr z
theorem fyX_tr {r : Nat} {A B D : mm_} (h : fyX_ r A B) (g : fyX_ r B D) : fyX_ r A D := ⟨fzX_tr h.1 g.1, fun q z => (g.2 q z).trans (h.2 q z)⟩
theorem fyX_le {r s : Nat} {M N : mm_} (h : fyX_ s M N) (hr : r ≤ s) : fyX_ r M N := ⟨h.1, fun q z => h.2 q (by omega)⟩
theorem fyX_u {r a i : Nat} {M : mm_} {v : Int32} (h1 : ¬ faX_ a i) (h2 : a ≠ 245) (h4 : a ≠ 246) (h3 : ¬ (249 ≤ a ∧ a ≤ 249 + r ∧ i = 5)) (h5 : ∀ t, t < 9 → a = 135 + 12 * t → i = 0 → v = 0) : fyX_ r M (sI_ M a i v) := by
  have h45 : ¬ (45 = a ∧ 2 = i) := fun z => h1 (by unfold faX_; omega)
  refine ⟨⟨rfl, fun b j z => ?_, fun t ht => ?_, kpX_s ?_ (fun j => ?_) (fun j => ?_)⟩, fun q z => ?_⟩
  · rw [gI_sI, if_neg (fun w => h1 (by rw [← w.1, ← w.2]; exact z))]
  · rw [gI_sI]; split
    · rename_i w; exact Or.inr (h5 t ht w.1.symm w.2.symm)
    · exact Or.inl rfl
  · rw [gI_sI, if_neg h45]
  · rw [gI_sI, if_neg (fun w => h2 w.1.symm)]
  · rw [gI_sI, if_neg (fun w => h4 w.1.symm)]
  · rw [gI_sI, if_neg (by omega)]
theorem fyX_m {r a i : Nat} {M : mm_} {v : Int32} (h1 : 247 ≤ a) (h2 : a ≤ 261) (h3 : ¬ (249 ≤ a ∧ a ≤ 249 + r ∧ i = 5)) : fyX_ r M (sI_ M a i v) := fyX_u (by unfold faX_; omega) (by omega) (by omega) h3 (fun t ht e => by omega)
theorem fyX_3 {r a i : Nat} {M : mm_} {v : Int32} (h1 : a = 243 ∨ a = 244) : fyX_ r M (sI_ M a i v) := fyX_u (by unfold faX_; omega) (by omega) (by omega) (by omega) (fun t ht e => by omega)
theorem fyX_7 {r t : Nat} {M : mm_} {v : Int32} (ht : t < 9) : fyX_ r M (sI_ M (135 + 12 * t) 7 v) := fyX_u (by unfold faX_; omega) (by omega) (by omega) (by omega) (fun u hu e => by omega)
theorem fyX_0 {r t : Nat} {M : mm_} (ht : t < 9) : fyX_ r M (sI_ M (135 + 12 * t) 0 0) := fyX_u (by unfold faX_; omega) (by omega) (by omega) (by omega) (fun u hu e z => rfl)
theorem fyX_11 {r t i : Nat} {M : mm_} {v : Int32} (ht : t < 9) : fyX_ r M (sI_ M (135 + 12 * t + 11) i v) := fyX_u (by unfold faX_; omega) (by omega) (by omega) (by omega) (fun u hu e => by omega)
theorem fyX_cre {r t : Nat} {M : mm_} (ht : t < 9) : fyX_ r M (cre_ M (135 + 12 * t)) := by
  unfold cre_; split
  · exact fyX_7 ht
  · exact fyX_tr (fyX_7 ht) (fyX_0 ht)
theorem cre_m {t a i : Nat} {M : mm_} (ht : t < 9) (ha : 243 ≤ a) : (cre_ M (135 + 12 * t)).1 a i = M.1 a i := by
  unfold cre_; split
  · rw [gI_sI, if_neg (by omega)]
  · rw [gI_sI, if_neg (by omega), gI_sI, if_neg (by omega)]
theorem rP_o {k c a i : Nat} {M : mm_} {x v : Int32} (h : ¬ a = k + 1) : (rP_ M k c x v).1 a i = M.1 a i := by
  unfold rP_; split
  · rw [gI_sI, if_neg (fun z => h z.1)]
  · rfl
theorem rE_o {k a i : Nat} {M : mm_} (h : ¬ a = k) : (rE_ M k).1 a i = M.1 a i := by
  unfold rE_; split
  · rfl
  · rw [gI_sI, if_neg (fun z => h z.1)]
theorem fyX_rP {r c : Nat} {M : mm_} {x v : Int32} : fyX_ r M (rP_ M 243 c x v) := by
  unfold rP_; split
  · exact fyX_3 (Or.inr rfl)
  · exact fyX_rf
theorem fyX_rE {r : Nat} {M : mm_} : fyX_ r M (rE_ M 243) := by
  unfold rE_; split
  · exact fyX_rf
  · exact fyX_3 (Or.inl rfl)
theorem fyX_pu {r h : Nat} {M : mm_} {v : Int32} (hr : r ≤ 11) : fyX_ r M (puX_ M h v) := by
  unfold puX_; split
  · exact fyX_tr (fyX_m (by omega) (by omega) (by omega)) (fyX_m (by omega) (by omega) (by omega))
  · exact fyX_rf
theorem fyX_pp {r h : Nat} {M : mm_} : fyX_ r M (ppX_ M h).2 := by
  unfold ppX_; split
  · exact fyX_rf
  · exact fyX_m (by omega) (by omega) (by omega)
theorem fyX_fl {r : Nat} {M : mm_} {v : Int32} : fyX_ r M (flX_ M v) := fyX_tr (fyX_m (by omega) (by omega) (by omega)) (fyX_m (by omega) (by omega) (by omega))
/-- a step of a code, by how high the stack is before it and behind it -/
def stX_ (L : Nat) (H : Nat → Nat) (i : Nat) (p : Int32) (v : Int64) : Prop :=
  ((p = 0 ∨ p = 1) → H (i + 1) = H i + 1) ∧ (p = 2 → H (i + 1) = H i ∧ 1 ≤ H i) ∧ (p = 3 → 1 ≤ H i) ∧
  (p = 4 → H (i + 1) + 1 = H i ∧ ∃ t, v.toInt32 = nI t ∧ t ≤ L ∧ H t = H (i + 1) ∧ i < t) ∧
  ((p = 5 ∨ p = 6) → ∃ t, v.toInt32 = nI t ∧ t ≤ L ∧ H t = H i ∧ i < t) ∧
  (p = 7 → ∃ j, poX_ v = nI j ∧ j ≤ 3 ∧ H (i + 1) + j = H i + 1 ∧ j ≤ H i) ∧
  (¬ p = 0 → ¬ p = 1 → ¬ p = 2 → ¬ p = 3 → ¬ p = 4 → ¬ p = 5 → ¬ p = 6 → ¬ p = 7 → H (i + 1) + 1 = H i ∧ 2 ≤ H i)
def okL_ (k L : Nat) (H : Nat → Nat) (M : mm_) : Prop := L ≤ 26 ∧ M.1 k 4 = nI L ∧ H 0 = 0 ∧ (∀ i, i ≤ L → H i ≤ 20) ∧ ∀ i, i < L → M.1 (k + 4) i = nI (H (i + 1)) ∧ stX_ L H i (M.1 (k + 1) i) (M.2.1 (k + 2) i)
def okX_ (k : Nat) (M : mm_) : Prop := ∃ (L : Nat) (H : Nat → Nat), okL_ k L H M
def kcX_ (k : Nat) : Prop := k + 4 < 135 ∨ (135 ≤ k ∧ k < 239 ∧ 1 ≤ (k + 9) % 12 ∧ (k + 9) % 12 ≤ 6)
theorem okL_fz {k L : Nat} {H : Nat → Nat} {M N : mm_} (hk : kcX_ k) (h : fzX_ M N) (g : okL_ k L H M) : okL_ k L H N := by
  unfold kcX_ at hk
  obtain ⟨g1, g2, g3, g4, g5⟩ := g
  refine ⟨g1, ?_, g3, g4, fun i hi => ?_⟩
  · rw [h.2.1 k 4 (by unfold faX_; omega)]; exact g2
  · obtain ⟨g6, g7⟩ := g5 i hi
    rw [h.2.1 (k + 4) i (by unfold faX_; omega), h.2.1 (k + 1) i (by unfold faX_; omega), h.1]
    exact ⟨g6, g7⟩
theorem okX_fz {k : Nat} {M N : mm_} (hk : kcX_ k) (h : fzX_ M N) (g : okX_ k M) : okX_ k N := by
  obtain ⟨L, H, g⟩ := g
  exact ⟨L, H, okL_fz hk h g⟩
def kmX_ (c : Nat) (J : Nat → Nat) (S : Nat) (M : mm_) : Prop := mt_ M c ∧ mb2_ M ∧ jq_ M J S ∧ vq_ M ∧ (∀ i, i < c → okX_ (48 + 5 * i) M) ∧ ∀ j, j < 8 → ¬ M.1 (135 + 12 * J j) 0 = 0 → ¬ M.1 (135 + 12 * J j) 0 = 2 → ¬ M.1 (135 + 12 * J j) 0 = 3 → okX_ (135 + 12 * J j + 1) M ∧ (¬ M.1 (135 + 12 * J j) 5 = 0 → okX_ (135 + 12 * J j + 6) M)
theorem kmX_fz {c S : Nat} {J : Nat → Nat} {M N : mm_} (h : fzX_ M N) (g : kmX_ c J S M) : kmX_ c J S N := by
  obtain ⟨g1, g2, g3, g4, g5, g6⟩ := g
  refine ⟨⟨g1.1, by rw [h.2.1 45 2 (by unfold faX_; omega)]; exact g1.2⟩, fun i hi => by rw [h.1]; exact g2 i hi, ⟨fun i hi => by rw [h.1]; exact g3.1 i hi, g3.2.1, by rw [h.1]; exact g3.2.2⟩, fun i hi => by rw [h.1]; exact g4 i hi, fun i hi => okX_fz (by unfold kcX_; have := g1.1; omega) h (g5 i hi), fun j hj a1 a2 a3 => ?_⟩
  have hJ := (g3.1 j hj).1
  have e : N.1 (135 + 12 * J j) 0 = M.1 (135 + 12 * J j) 0 := (h.2.2.1 _ hJ).resolve_right a1
  rw [e] at a1 a2 a3
  obtain ⟨k1, k2⟩ := g6 j hj a1 a2 a3
  refine ⟨okX_fz (by unfold kcX_; omega) h k1, fun z => okX_fz (by unfold kcX_; omega) h (k2 ?_)⟩
  rw [h.2.1 _ 5 (by unfold faX_; omega)] at z; exact z
