/-! what a run of the Machine keeps (fzX_, fyX_), codes that the Machine can run (okX_), and what is so while it runs (kmX_) -/
def faX_ (a i : Nat) : Prop := a < 135 ∨ 262 ≤ a ∨ (a < 243 ∧ (a + 9) % 12 ≠ 0 ∧ (a + 9) % 12 ≠ 11) ∨ (a < 243 ∧ (a + 9) % 12 = 0 ∧ i ≠ 0 ∧ i ≠ 7)
def fzX_ (M N : mm_) : Prop := N.2 = M.2 ∧ (∀ a i, faX_ a i → N.1 a i = M.1 a i) ∧ ∀ t, t < 9 → (N.1 (135 + 12 * t) 0 = M.1 (135 + 12 * t) 0 ∨ N.1 (135 + 12 * t) 0 = 0)
def fyX_ (r : Nat) (M N : mm_) : Prop := fzX_ M N ∧ ∀ q, q ≤ r → N.1 (249 + q) 5 = M.1 (249 + q) 5
theorem fzX_rf {M : mm_} : fzX_ M M := ⟨rfl, fun _ _ _ => rfl, fun _ _ => Or.inl rfl⟩
theorem fyX_rf {r : Nat} {M : mm_} : fyX_ r M M := ⟨fzX_rf, fun _ _ => rfl⟩
theorem fzX_tr {A B D : mm_} (h : fzX_ A B) (g : fzX_ B D) : fzX_ A D := by
  refine ⟨g.1.trans h.1, fun a i z => (g.2.1 a i z).trans (h.2.1 a i z), fun t ht => ?_⟩
  rcases g.2.2 t ht with z | z
  · rw [z]; exact h.2.2 t ht
  · exact Or.inr z
theorem fyX_tr {r : Nat} {A B D : mm_} (h : fyX_ r A B) (g : fyX_ r B D) : fyX_ r A D := ⟨fzX_tr h.1 g.1, fun q z => (g.2 q z).trans (h.2 q z)⟩
theorem fyX_le {r s : Nat} {M N : mm_} (h : fyX_ s M N) (hr : r ≤ s) : fyX_ r M N := ⟨h.1, fun q z => h.2 q (by omega)⟩
theorem fyX_m {r a i : Nat} {M : mm_} {v : Int32} (h1 : 243 ≤ a) (h2 : a ≤ 261) (h3 : ¬ (249 ≤ a ∧ a ≤ 249 + r ∧ i = 5)) : fyX_ r M (sI_ M a i v) := by
  refine ⟨⟨rfl, fun b j z => ?_, fun t ht => Or.inl ?_⟩, fun q z => ?_⟩
  · unfold faX_ at z; rw [gI_sI, if_neg (by omega)]
  · rw [gI_sI, if_neg (by omega)]
  · rw [gI_sI, if_neg (by omega)]
theorem fyX_7 {r t : Nat} {M : mm_} {v : Int32} (ht : t < 9) : fyX_ r M (sI_ M (135 + 12 * t) 7 v) := by
  refine ⟨⟨rfl, fun b j z => ?_, fun u hu => Or.inl ?_⟩, fun q z => ?_⟩
  · unfold faX_ at z; rw [gI_sI, if_neg (by omega)]
  · rw [gI_sI, if_neg (by omega)]
  · rw [gI_sI, if_neg (by omega)]
theorem fyX_0 {r t : Nat} {M : mm_} (ht : t < 9) : fyX_ r M (sI_ M (135 + 12 * t) 0 0) := by
  refine ⟨⟨rfl, fun b j z => ?_, fun u hu => ?_⟩, fun q z => ?_⟩
  · unfold faX_ at z; rw [gI_sI, if_neg (by omega)]
  · rw [gI_sI]; split
    · exact Or.inr rfl
    · exact Or.inl rfl
  · rw [gI_sI, if_neg (by omega)]
theorem fyX_11 {r t i : Nat} {M : mm_} {v : Int32} (ht : t < 9) : fyX_ r M (sI_ M (135 + 12 * t + 11) i v) := by
  refine ⟨⟨rfl, fun b j z => ?_, fun u hu => Or.inl ?_⟩, fun q z => ?_⟩
  · unfold faX_ at z; rw [gI_sI, if_neg (by omega)]
  · rw [gI_sI, if_neg (by omega)]
  · rw [gI_sI, if_neg (by omega)]
theorem fyX_cre {r t : Nat} {M : mm_} (ht : t < 9) : fyX_ r M (cre_ M (135 + 12 * t)) := by
  unfold cre_; split
  · exact fyX_7 ht
  · exact fyX_tr (fyX_7 ht) (fyX_0 ht)
theorem cre_m {t a i : Nat} {M : mm_} (ht : t < 9) (ha : 243 ≤ a) : (cre_ M (135 + 12 * t)).1 a i = M.1 a i := by
  unfold cre_; split
  · rw [gI_sI, if_neg (by omega)]
  · rw [gI_sI, if_neg (by omega), gI_sI, if_neg (by omega)]
theorem rP_o {k c a i : Nat} {M : mm_} {x v : Int32} (h : ¬ a = k + 1) : (rP_ M k c x v).1 a i = M.1 a i := by
  unfold rP_; split
  · rw [gI_sI, if_neg (fun z => h z.1)]
  · rfl
theorem rE_o {k a i : Nat} {M : mm_} (h : ¬ a = k) : (rE_ M k).1 a i = M.1 a i := by
  unfold rE_; split
  · rfl
  · rw [gI_sI, if_neg (fun z => h z.1)]
theorem fyX_rP {r k c : Nat} {M : mm_} {x v : Int32} (h : k = 243 ∨ k = 245) : fyX_ r M (rP_ M k c x v) := by
  unfold rP_; split
  · exact fyX_m (by omega) (by omega) (by omega)
  · exact fyX_rf
theorem fyX_rE {r k : Nat} {M : mm_} (h : k = 243 ∨ k = 245) : fyX_ r M (rE_ M k) := by
  unfold rE_; split
  · exact fyX_rf
  · exact fyX_m (by omega) (by omega) (by omega)
theorem fyX_pu {r h : Nat} {M : mm_} {v : Int32} (hr : r ≤ 11) : fyX_ r M (puX_ M h v) := by
  unfold puX_; split
  · exact fyX_tr (fyX_m (by omega) (by omega) (by omega)) (fyX_m (by omega) (by omega) (by omega))
  · exact fyX_rf
theorem fyX_pp {r h : Nat} {M : mm_} : fyX_ r M (ppX_ M h).2 := by
  unfold ppX_; split
  · exact fyX_rf
  · exact fyX_m (by omega) (by omega) (by omega)
theorem fyX_fl {r : Nat} {M : mm_} {v : Int32} : fyX_ r M (flX_ M v) := fyX_tr (fyX_m (by omega) (by omega) (by omega)) (fyX_m (by omega) (by omega) (by omega))
/-- a step of a code, by how high the stack is before it and behind it -/
def stX_ (L : Nat) (H : Nat → Nat) (i : Nat) (p : Int32) (v : Int64) : Prop :=
  ((p = 0 ∨ p = 1) → H (i + 1) = H i + 1) ∧ (p = 2 → H (i + 1) = H i ∧ 1 ≤ H i) ∧ (p = 3 → 1 ≤ H i) ∧
  (p = 4 → H (i + 1) + 1 = H i ∧ ∃ t, v.toInt32 = nI t ∧ t ≤ L ∧ H t = H (i + 1) ∧ i < t) ∧
  ((p = 5 ∨ p = 6) → ∃ t, v.toInt32 = nI t ∧ t ≤ L ∧ H t = H i ∧ i < t) ∧
  (p = 7 → ∃ j, poX_ v = nI j ∧ j ≤ 3 ∧ H (i + 1) + j = H i + 1 ∧ j ≤ H i) ∧
  (¬ p = 0 → ¬ p = 1 → ¬ p = 2 → ¬ p = 3 → ¬ p = 4 → ¬ p = 5 → ¬ p = 6 → ¬ p = 7 → H (i + 1) + 1 = H i ∧ 2 ≤ H i)
def okL_ (k L : Nat) (H : Nat → Nat) (M : mm_) : Prop := L ≤ 26 ∧ M.1 k 4 = nI L ∧ H 0 = 0 ∧ (∀ i, i ≤ L → H i ≤ 20) ∧ ∀ i, i < L → M.1 (k + 4) i = nI (H (i + 1)) ∧ stX_ L H i (M.1 (k + 1) i) (M.2.1 (k + 2) i)
def okX_ (k : Nat) (M : mm_) : Prop := ∃ (L : Nat) (H : Nat → Nat), okL_ k L H M
def kcX_ (k : Nat) : Prop := k + 4 < 135 ∨ (135 ≤ k ∧ k < 239 ∧ 1 ≤ (k + 9) % 12 ∧ (k + 9) % 12 ≤ 6)
theorem okL_fz {k L : Nat} {H : Nat → Nat} {M N : mm_} (hk : kcX_ k) (h : fzX_ M N) (g : okL_ k L H M) : okL_ k L H N := by
  unfold kcX_ at hk
  obtain ⟨g1, g2, g3, g4, g5⟩ := g
  refine ⟨g1, ?_, g3, g4, fun i hi => ?_⟩
  · rw [h.2.1 k 4 (by unfold faX_; omega)]; exact g2
  · obtain ⟨g6, g7⟩ := g5 i hi
    rw [h.2.1 (k + 4) i (by unfold faX_; omega), h.2.1 (k + 1) i (by unfold faX_; omega), h.1]
    exact ⟨g6, g7⟩
theorem okX_fz {k : Nat} {M N : mm_} (hk : kcX_ k) (h : fzX_ M N) (g : okX_ k M) : okX_ k N := by
  obtain ⟨L, H, g⟩ := g
  exact ⟨L, H, okL_fz hk h g⟩
def kmX_ (c : Nat) (J : Nat → Nat) (S : Nat) (M : mm_) : Prop := mt_ M c ∧ mb2_ M ∧ jq_ M J S ∧ vq_ M ∧ (∀ i, i < c → okX_ (48 + 5 * i) M) ∧ ∀ j, j < 8 → ¬ M.1 (135 + 12 * J j) 0 = 0 → ¬ M.1 (135 + 12 * J j) 0 = 2 → ¬ M.1 (135 + 12 * J j) 0 = 3 → okX_ (135 + 12 * J j + 1) M ∧ (¬ M.1 (135 + 12 * J j) 5 = 0 → okX_ (135 + 12 * J j + 6) M)
theorem kmX_fz {c S : Nat} {J : Nat → Nat} {M N : mm_} (h : fzX_ M N) (g : kmX_ c J S M) : kmX_ c J S N := by
  obtain ⟨g1, g2, g3, g4, g5, g6⟩ := g
  refine ⟨⟨g1.1, by rw [h.2.1 45 2 (by unfold faX_; omega)]; exact g1.2⟩, fun i hi => by rw [h.1]; exact g2 i hi, ⟨fun i hi => by rw [h.1]; exact g3.1 i hi, g3.2.1, by rw [h.1]; exact g3.2.2⟩, fun i hi => by rw [h.1]; exact g4 i hi, fun i hi => okX_fz (by unfold kcX_; have := g1.1; omega) h (g5 i hi), fun j hj a1 a2 a3 => ?_⟩
  have hJ := (g3.1 j hj).1
  have e : N.1 (135 + 12 * J j) 0 = M.1 (135 + 12 * J j) 0 := (h.2.2 _ hJ).resolve_right a1
  rw [e] at a1 a2 a3
  obtain ⟨k1, k2⟩ := g6 j hj a1 a2 a3
  refine ⟨okX_fz (by unfold kcX_; omega) h k1, fun z => okX_fz (by unfold kcX_; omega) h (k2 ?_)⟩
  rw [h.2.1 _ 5 (by unfold faX_; omega)] at z; exact z
