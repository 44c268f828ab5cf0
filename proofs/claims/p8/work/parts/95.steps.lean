/-! what each call leaves of the invariant -/
theorem BX_ {M N : mm_} (h : hX_ M N) (g : ∀ n, XI_ n M → XI_ n N) (hB : BI_ M) : BI_ N := by
  obtain ⟨n, h1, h2, h3, h4⟩ := hB
  exact ⟨n, h1, g n h2, by rw [h.1 0 2 (by omega)]; exact h3, RI_hX h h4⟩
theorem BR_ {M N : mm_} (h : hR_ M N) (g : RI_ M → RI_ N) (hB : BI_ M) : BI_ N := by
  obtain ⟨n, h1, h2, h3, h4⟩ := hB
  exact ⟨n, h1, XI_hR h h2, by rw [h.2.1]; exact h3, g h4⟩
theorem BR_0 {M : mm_} {v : Int32} (hB : BI_ M) : BI_ (sI_ M 0 0 v) := BR_ (hR_I (by omega) (by omega)) (RI_0 (by omega)) hB
theorem B_262 {M : mm_} {v : Int64} (hB : BI_ M) : BI_ (sL_ M 262 0 v) := BX_ hX_262 (fun n g => XI_262 g) hB
theorem B_fy {M N : mm_} (h : fyX_ 0 M N) (hz : zoX_ (N.1 247 10)) (hB : BI_ M) : BI_ N := BX_ (hX_fy h) (fun n g => XI_fy h hz g) hB
theorem kp_clear {M : mm_} (h : kpX_ M) : kpX_ (sI_ (sI_ M 243 3 0) 245 3 0) := by
  obtain ⟨c, h1, h2, h3, z, h4, h5, h6⟩ := h
  refine ⟨c, ⟨h1.1, h1.2⟩, ?_, ?_, 0, by decide, ?_, fun i hi => by omega⟩
  · rw [gI_sI, if_neg (by omega), gI_sI, if_neg (by omega)]; exact h2
  · rw [gI_sI, if_neg (by omega), gI_sI, if_neg (by omega)]; exact h3
  · rw [gI_sI, if_pos ⟨rfl, rfl⟩]; rfl
theorem fy_clear {M : mm_} : fyX_ 0 M (sI_ (sI_ M 243 3 0) 245 3 0) := by
  refine ⟨⟨rfl, fun a i h => ?_, fun t ht => Or.inl ?_, kp_clear⟩, fun q hq => ?_⟩
  · unfold faX_ at h
    rw [gI_sI, if_neg (by omega), gI_sI, if_neg (by omega)]
  · rw [gI_sI, if_neg (by omega), gI_sI, if_neg (by omega)]
  · rw [gI_sI, if_neg (by omega), gI_sI, if_neg (by omega)]
theorem zo_BI {M : mm_} (hB : BI_ M) : zoX_ (M.1 247 10) := by
  obtain ⟨n, h1, ⟨-, c, J, S, g⟩, -⟩ := hB
  exact g.2.2.2
theorem B_clearX {M : mm_} (hB : BI_ M) : BI_ (sI_ (sI_ M 243 3 0) 245 3 0) := B_fy fy_clear (by rw [gI_sI, if_neg (by omega), gI_sI, if_neg (by omega)]; exact zo_BI hB) hB
theorem RI_clear {M : mm_} (g : RI_ M) : RI_ (sI_ (sI_ (sI_ M 0 0 0) 0 35 0) 0 37 0) := by
  have g0 : RI_ (sI_ M 0 0 0) := RI_0 (by omega) g
  generalize sI_ M 0 0 0 = A at g0
  obtain ⟨⟨n, b1, b2⟩, ⟨c, a1, a2, a3⟩, ⟨-, c2, z, a4, a5, -⟩, a6⟩ := g0
  refine ⟨⟨n, by rw [gI_sI, if_neg (by omega), gI_sI, if_neg (by omega)]; exact b1, b2⟩, ⟨c, a1, by rw [gI_sI, if_neg (by omega), gI_sI, if_neg (by omega)]; exact a2, fun m hm => ⟨okT_f3 ?_ (fun i hi => ?_) (fun i hi => rfl) (a3 m hm).1, ?_⟩⟩, ⟨⟨0, by decide, ?_⟩, c, 0, a1, by rw [gI_sI, if_neg (by omega), gI_sI, if_neg (by omega)]; exact a2, by decide, ?_, fun i hi => by omega⟩, fun j hj => ?_⟩
  · rw [gI_sI, if_neg (by omega), gI_sI, if_neg (by omega)]
  · rw [gI_sI, if_neg (by omega), gI_sI, if_neg (by omega)]
  · obtain ⟨q, q1, q2⟩ := (a3 m hm).2
    exact ⟨q, q1, by rw [gI_sI, if_neg (by omega), gI_sI, if_neg (by omega)]; exact q2⟩
  · rw [gI_sI, if_neg (by omega), gI_sI, if_pos ⟨rfl, rfl⟩]; rfl
  · rw [gI_sI, if_pos ⟨rfl, rfl⟩]; rfl
  · obtain ⟨⟨y, y1, y2⟩, y3⟩ := a6 j hj
    refine ⟨⟨y, y1, by rw [gI_sI, if_neg (by omega), gI_sI, if_neg (by omega)]; exact y2⟩, fun k => ?_⟩
    rw [gI_sI, if_neg (by omega), gI_sI, if_neg (by omega)] at k
    obtain ⟨k1, k2⟩ := y3 k
    refine ⟨okT_f3 ?_ (fun i hi => ?_) (fun i hi => rfl) k1, fun q => okT_f3 ?_ (fun i hi => ?_) (fun i hi => rfl) (k2 (by rw [gI_sI, if_neg (by omega), gI_sI, if_neg (by omega)] at q; exact q))⟩
    · rw [gI_sI, if_neg (by omega), gI_sI, if_neg (by omega)]
    · rw [gI_sI, if_neg (by omega), gI_sI, if_neg (by omega)]
    · rw [gI_sI, if_neg (by omega), gI_sI, if_neg (by omega)]
    · rw [gI_sI, if_neg (by omega), gI_sI, if_neg (by omega)]
theorem B_clearR {M : mm_} (hB : BI_ M) : BI_ (sI_ (sI_ (sI_ M 0 0 0) 0 35 0) 0 37 0) := BR_ (hR_tr (hR_tr (hR_I (by omega) (by omega)) (hR_I (by omega) (by omega))) (hR_I (by omega) (by omega))) RI_clear hB
theorem RI_pr {M N : mm_} (h : frR_ pR_ M N) (g : RI_ M) : RI_ N := by
  have k : ∀ a i, a = 2 ∨ a = 4 ∨ a = 6 ∨ (a = 0 ∧ (i = 2 ∨ i = 9)) → N.1 a i = M.1 a i := fun a i z => h.2.1 a i (by unfold pzR_; omega) (by unfold pR_ mR_; omega)
  obtain ⟨⟨n, b1, b2⟩, ⟨c, a1, a2, a3⟩, a4, a6⟩ := g
  refine ⟨⟨n, by rw [k 0 2 (by omega)]; exact b1, b2⟩, ⟨c, a1, by rw [k 0 9 (by omega)]; exact a2, fun m hm => ⟨okT_f3 (k 4 _ (by omega)) (fun i hi => k 2 _ (by omega)) (fun i hi => by rw [h.1]) (a3 m hm).1, ?_⟩⟩, h.2.2.2 a4, jbR_pr h a6⟩
  obtain ⟨q, q1, q2⟩ := (a3 m hm).2
  exact ⟨q, q1, by rw [k 6 _ (by omega)]; exact q2⟩
theorem B_pr {M N : mm_} (h : frR_ pR_ M N) (hB : BI_ M) : BI_ N := BR_ (hR_pr h) (RI_pr h) hB
/-! feed and wipe: the tapes -/
theorem RI_2 {M : mm_} {n : Nat} (hn : n ≤ 200) (g : RI_ M) : RI_ (sI_ M 0 2 (nI n)) := by
  obtain ⟨-, ⟨c, a1, a2, a3⟩, a4, a6⟩ := g
  refine ⟨⟨n, by rw [gI_sI, if_pos ⟨rfl, rfl⟩], hn⟩, ⟨c, a1, by rw [gI_sI, if_neg (by omega)]; exact a2, fun m hm => ⟨okT_f3 ?_ (fun i hi => ?_) (fun i hi => rfl) (a3 m hm).1, ?_⟩⟩, ckR_s (fun i hi => by rw [gI_sI, if_neg (by omega)]) (fun i => by rw [gI_sI, if_neg (by omega)]) a4, fun j hj => ?_⟩
  · rw [gI_sI, if_neg (by omega)]
  · rw [gI_sI, if_neg (by omega)]
  · obtain ⟨q, q1, q2⟩ := (a3 m hm).2
    exact ⟨q, q1, by rw [gI_sI, if_neg (by omega)]; exact q2⟩
  · obtain ⟨⟨y, y1, y2⟩, y3⟩ := a6 j hj
    refine ⟨⟨y, y1, by rw [gI_sI, if_neg (by omega)]; exact y2⟩, fun k => ?_⟩
    rw [gI_sI, if_neg (by omega)] at k
    obtain ⟨k1, k2⟩ := y3 k
    refine ⟨okT_f3 ?_ (fun i hi => ?_) (fun i hi => rfl) k1, fun q => okT_f3 ?_ (fun i hi => ?_) (fun i hi => rfl) (k2 (by rw [gI_sI, if_neg (by omega)] at q; exact q))⟩
    · rw [gI_sI, if_neg (by omega)]
    · rw [gI_sI, if_neg (by omega)]
    · rw [gI_sI, if_neg (by omega)]
    · rw [gI_sI, if_neg (by omega)]
theorem RI_1 {M : mm_} {i : Nat} {v : Int32} (g : RI_ M) : RI_ (sI_ M 1 i v) := RI_s (M := M) (fun j hj => by rw [gI_sI, if_neg (by omega)]) (fun a j ha => by rw [gI_sI, if_neg (by omega)]) (fun _ _ => rfl) g
theorem RI_fd {M : mm_} {x : Int64} {z : Nat} (g : RI_ M) : ∀ j, z + j ≤ 200 → RI_ (fd_ M x z j)
  | 0, _ => g
  | j + 1, h => RI_2 (n := z + j + 1) h (RI_1 (RI_fd g j (by omega)))
theorem fd_hi {M : mm_} {x : Int64} {z : Nat} : ∀ (j a i : Nat), 34 ≤ a → (fd_ M x z j).1 a i = M.1 a i
  | 0, _, _, _ => rfl
  | j + 1, a, i, h => by rw [fd_, gI_sI, if_neg (by omega), gI_sI, if_neg (by omega), fd_hi j a i h]
theorem fd_R {M : mm_} {x : Int64} {z : Nat} : ∀ j : Nat, (fd_ M x z j).2 = M.2
  | 0 => rfl
  | j + 1 => fd_R j
/-- the class is kept where its cells are -/
theorem XI_hi {n : Nat} {M N : mm_} (h2 : N.2 = M.2) (h1 : ∀ a i, 34 ≤ a → N.1 a i = M.1 a i) (g : XI_ n M) : XI_ n N := by
  obtain ⟨t, c, J, S, g⟩ := g
  refine ⟨⟨t.1, by rw [h1 35 1 (by omega)]; exact t.2⟩, c, J, S, XS_s (fun a i _ => by rw [h2]) (fun a i z => h1 a i ?_) (fun a i z => by rw [h2]) g⟩
  unfold usX_ at z; rcases z with z | z | z | z | z | ⟨t, ht, z⟩ <;> omega
theorem XS_tape {c S : Nat} {J : Nat → Nat} {M N : mm_} (h2 : N.2 = M.2) (h1 : ∀ a i, ¬ a = 36 → ¬ (a = 35 ∧ i = 1) → N.1 a i = M.1 a i) (g : XSt_ c J S M) : XSt_ c J S N := XS_s (fun a i _ => by rw [h2]) (fun a i z => h1 a i (by unfold usX_ at z; rcases z with z | z | z | z | z | ⟨t, ht, z⟩ <;> omega) (by unfold usX_ at z; rcases z with z | z | z | z | z | ⟨t, ht, z⟩ <;> omega)) (fun a i z => by rw [h2]) g
theorem XI_ap {M : mm_} {x : Int64} {n k : Nat} (h : n + k ≤ 200) (g : XI_ n M) : XI_ (n + k) (apX_ M x n k) := by
  obtain ⟨t, c, J, S, g⟩ := g
  exact ⟨⟨h, ap_1 t.2 k⟩, c, J, S, XS_tape (ap_2 k) (fun a i h1 h2 => ap_o k a i h1 h2) g⟩
theorem XI_wipe {M : mm_} {n : Nat} (g : XI_ n M) : XI_ 0 (sI_ M 35 1 0) := by
  obtain ⟨t, c, J, S, g⟩ := g
  exact ⟨⟨by decide, by rw [gI_sI, if_pos ⟨rfl, rfl⟩]; rfl⟩, c, J, S, XS_tape (M := M) rfl (fun a i h1 h2 => by rw [gI_sI, if_neg h2]) g⟩
theorem B_wipe {M : mm_} (hB : BI_ M) : BI_ (sI_ (sI_ (sI_ M 35 1 0) 0 0 0) 0 2 0) := by
  obtain ⟨n, h1, h2, h3, h4⟩ := hB
  have a1 : XI_ 0 (sI_ M 35 1 0) := XI_wipe h2
  have a2 : RI_ (sI_ M 35 1 0) := RI_hX (hX_I (by omega)) h4
  generalize sI_ M 35 1 0 = A at a1 a2
  refine ⟨0, by decide, XI_hi (M := A) rfl (fun a i h => by rw [gI_sI, if_neg (by omega), gI_sI, if_neg (by omega)]) a1, by rw [gI_sI, if_pos ⟨rfl, rfl⟩]; rfl, RI_2 (n := 0) (by decide) (RI_0 (by omega) a2)⟩
/-- behind the class's feed of k bytes: the reference's tape is k shorter -/
def FI_ (n k : Nat) (M : mm_) : Prop := n + k ≤ 200 ∧ XI_ (n + k) M ∧ M.1 0 2 = nI n ∧ RI_ M
theorem F_ap {M : mm_} {x : Int64} {n k : Nat} {v : Int64} (h : n + k ≤ 200) (g : XI_ n M) (g2 : M.1 0 2 = nI n) (g3 : RI_ M) : FI_ n k (sL_ (apX_ M x n k) 262 0 v) := ⟨h, XI_262 (XI_ap h g), by rw [show (sL_ (apX_ M x n k) 262 0 v).1 0 2 = (apX_ M x n k).1 0 2 from rfl, ap_o k 0 2 (by omega) (by omega)]; exact g2, RI_hX (hX_tr (hX_ap k) hX_262) g3⟩
theorem F_fd {M : mm_} {x : Int64} {n k : Nat} (h : FI_ n k M) : BI_ (fd_ (sI_ M 0 0 0) x n k) := by
  obtain ⟨h1, h2, h3, h4⟩ := h
  have a2 : (sI_ M 0 0 0).1 0 2 = nI n := by rw [gI_sI, if_neg (by omega)]; exact h3
  have a1 : XI_ (n + k) (sI_ M 0 0 0) := XI_hR (hR_I (by omega) (by omega)) h2
  have a3 : RI_ (sI_ M 0 0 0) := RI_0 (by omega) h4
  generalize sI_ M 0 0 0 = A at a1 a2 a3
  exact ⟨n + k, h1, XI_hi (fd_R k) (fun a i h => fd_hi k a i h) a1, fd_2 a2 k, RI_fd a3 k h1⟩
