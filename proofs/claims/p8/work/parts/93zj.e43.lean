/-! numbers and patterns of commands -/
section NUM
variable {T : Int32 → Int32} {M : mm_} {n : Nat}
theorem bl_0 {c : Int32} (h0 : 0 ≤ c) : bl_ c = 0 ↔ ¬ c ≤ 32 := by
  unfold bl_
  by_cases q : 0 ≤ c ∧ c ≤ 32
  · rw [if_pos q]; exact ⟨fun y => absurd y (by decide), fun y => absurd q.2 y⟩
  · rw [if_neg q]; exact ⟨fun _ y => q ⟨h0, y⟩, fun _ => rfl⟩
theorem qw_T (h : TF_ T (bf_ M n) n) {k : Nat} (hk : k ≤ n) : qw_ T (some k) = if bf_ M n k ≤ 32 then some (sp_ M n k) else none := by
  have hn := h.1
  have e := sp_T h hk
  unfold qw_
  simp only
  rw [h.2.1 k (by omega), e]
  rcases Nat.lt_or_ge k n with z | z
  · have h0 := h.2.2.2 k z
    rw [if_neg (fun y => by rw [y] at h0; exact absurd h0 (by decide))]
    by_cases q : bf_ M n k ≤ 32
    · rw [if_neg (fun y => (bl_0 h0).mp y q), if_pos q]
    · rw [if_pos ((bl_0 h0).mpr q), if_neg q]
  · rw [h.2.2.1 k z, if_pos rfl, if_pos (by decide)]
    have : k = n := by omega
    unfold sp_
    rw [this, Nat.sub_self]; rfl
def nd_ (a : Nat) : Nat := if a ≤ 999 then a else 999
theorem dw_T {w e : Nat} (hw : w ≤ 999) (he : e ≤ 9) : dw_ (nI w) (nI (48 + e)) = nI (nd_ (w * 10 + e)) := by
  have e1 : nI w * 10 + nI (48 + e) - 48 = nI (w * 10 + e) := by
    rw [show (10 : Int32) = nI 10 from rfl, show (48 : Int32) = nI 48 from rfl, pk_mul, nI_add, pk_sub (by omega)]
    congr 1
    omega
  unfold dw_ nd_
  rw [e1]
  by_cases q : w * 10 + e ≤ 999
  · rw [if_pos (show nI (w * 10 + e) ≤ (999 : Int32) from nI_le (a := w * 10 + e) (b := 999) q (by decide)), if_pos q]
  · rw [if_neg (show ¬ nI (w * 10 + e) ≤ (999 : Int32) from fun y => q ((nI_leI (a := w * 10 + e) (b := 999) (by omega) (by decide)).mp y)), if_neg q]; rfl
theorem nuP_dv {f : Nat → Int32} (h : TF_ T f n) : ∀ (u2 u1 k a : Nat), u2 ≤ u1 → n ≤ k + u2 → k ≤ 1000 - u2 → u2 ≤ 200 → a ≤ 1099511627776 → ∃ a2, nuP_ T u1 k (lN a) = ((dv_ f u2 k (nI (nd_ a))).1, lN a2) ∧ (dv_ f u2 k (nI (nd_ a))).2 = nI (nd_ a2) ∧ a2 ≤ 1099511627776
  | 0, u1, k, a, hu, hn, hk, h2, ha => by
    refine ⟨a, ?_, rfl, ha⟩
    cases u1 with
    | zero => rfl
    | succ u1 =>
      rw [nuP_, if_pos]
      · rfl
      · rw [h.2.1 k (by omega), h.2.2.1 k (by omega)]; decide
  | u2 + 1, u1, k, a, hu, hn, hk, h2, ha => by
    obtain ⟨u1, rfl⟩ : ∃ v, u1 = v + 1 := ⟨u1 - 1, by omega⟩
    rw [nuP_, dv_, h.2.1 k (by omega), fg_ig]
    rcases ig_01 (f k) with z | z
    · rw [if_pos z, if_neg (by rw [z]; decide)]
      exact ⟨a, rfl, rfl, ha⟩
    · rw [if_neg (by rw [z]; decide), if_pos z]
      obtain ⟨e, he, hc⟩ := ig_dg z
      have hnd : nd_ a ≤ 999 := by unfold nd_; split <;> omega
      rw [hc, dw_T hnd he]
      have e1 : lN a * 10 + (nI (48 + e)).toInt64 - 48 = lN (a * 10 + e) := by
        rw [show (10 : Int64) = lN 10 from rfl, show (48 : Int64) = lN 48 from rfl, lN_mul, nI_l (by omega), lN_add, lN_sub (by omega)]
        congr 1
        omega
      have e2 : mn_ (lN (a * 10 + e)) 1099511627776 = lN (if 1099511627776 < a * 10 + e then 1099511627776 else a * 10 + e) := by
        unfold mn_
        rw [show (1099511627776 : Int64) = lN 1099511627776 from rfl]
        by_cases q : 1099511627776 < a * 10 + e
        · rw [if_pos ((lN_lt2 (by omega) (by omega)).mpr q), if_pos q]
        · rw [if_neg (fun y => q ((lN_lt2 (by omega) (by omega)).mp y)), if_neg q]
      rw [e1, e2]
      have e3 : nd_ (nd_ a * 10 + e) = nd_ (if 1099511627776 < a * 10 + e then 1099511627776 else a * 10 + e) := by
        unfold nd_
        by_cases y1 : a ≤ 999
        · rw [if_pos y1, if_neg (show ¬ 1099511627776 < a * 10 + e by omega)]
        · rw [if_neg y1, if_neg (show ¬ 999 * 10 + e ≤ 999 by omega)]
          split
          · rw [if_neg (by omega)]
          · rw [if_neg (by omega)]
      rw [e3]
      exact nuP_dv h u2 u1 (k + 1) _ (by omega) (by omega) (by omega) (by omega) (by split <;> omega)
theorem lN_99 {a : Nat} (ha : a ≤ 1099511627776) : (lN a ≤ 99 ↔ a ≤ 99) := by
  rw [show (99 : Int64) = lN 99 from rfl]
  exact lN_le2 (by omega) (by omega)
theorem lN_i99 : ∀ a, a ≤ 99 → (lN a).toInt32 = nI a := by decide +kernel
/-- a number, least or more: the value and what stands behind it -/
theorem nu_T (h : TF_ T (bf_ M n) n) {s : Nat} (hs : s ≤ n) : ∃ a k, nuP_ T 200 s 0 = (k, lN a) ∧ a ≤ 1099511627776 ∧ k ≤ n ∧ dv_ (bf_ M n) (n - s) s 0 = (k, nI (nd_ a)) := by
  have hn := h.1
  obtain ⟨a, e1, e2, e3⟩ := nuP_dv h (n - s) 200 s 0 (by omega) (by omega) (by omega) (by omega) (by omega)
  have hd := dv_le (bf_ M n) (n - s) s (nI (nd_ 0))
  refine ⟨a, (dv_ (bf_ M n) (n - s) s (nI (nd_ 0))).1, e1, e3, by omega, ?_⟩
  show dv_ (bf_ M n) (n - s) s (nI (nd_ 0)) = _
  rw [← e2]
theorem lm_T (h : TF_ T (bf_ M n) n) {s : Nat} (hs : s ≤ n) : (∃ q, sm_ M n s 1 = .inr q ∧ qw_ T (lmT_ T (some s)).2 = none) ∨ (∃ l k, sm_ M n s 1 = .inl (nI l, k) ∧ 1 ≤ l ∧ l ≤ 99 ∧ k ≤ n ∧ (lmT_ T (some s)).1 = nI l ∧ qw_ T (lmT_ T (some s)).2 = some (sp_ M n k)) := by
  have hn := h.1
  obtain ⟨a, k, e1, ha, hk, e2⟩ := nu_T h hs
  have l1 : lmT_ T (some s) = if ig_ (bf_ M n s) = 0 then (0, none) else ((lN a).toInt32, if lN a ≤ 99 ∧ ¬ (lN a).toInt32 = 0 then some k else none) := by
    unfold lmT_
    simp only
    rw [h.2.1 s (by omega), fg_ig, e1]
  have l2 : sm_ M n s 1 = if ig_ (bf_ M n s) = 0 then .inr (1, s) else if nI (nd_ a) < 1 ∨ ¬ nI (nd_ a) ≤ 99 then .inr (2, s) else if ¬ bf_ M n k ≤ 32 then .inr (1, k) else .inl (nI (nd_ a), k) := by
    unfold sm_
    rw [e2]
  rw [l1, l2]
  rcases ig_01 (bf_ M n s) with z | z
  · rw [if_pos z, if_pos z]
    exact Or.inl ⟨_, rfl, rfl⟩
  · have z' : ¬ ig_ (bf_ M n s) = 0 := by rw [z]; decide
    rw [if_neg z', if_neg z']
    by_cases q : a ≤ 99
    · have hnd : nd_ a = a := by unfold nd_; rw [if_pos (by omega)]
      rw [hnd, lN_i99 a q]
      by_cases q0 : a = 0
      · subst q0
        rw [if_neg (show ¬ (lN 0 ≤ 99 ∧ ¬ nI 0 = 0) from fun y => y.2 rfl), if_pos (show nI 0 < 1 ∨ ¬ nI 0 ≤ 99 from Or.inl (by decide))]
        exact Or.inl ⟨_, rfl, rfl⟩
      · have z0 : ¬ nI a = 0 := fun y => q0 ((nI_z (by omega)).mp y)
        rw [if_pos (show lN a ≤ 99 ∧ ¬ nI a = 0 from ⟨(lN_99 ha).mpr q, z0⟩), if_neg (show ¬ (nI a < 1 ∨ ¬ nI a ≤ 99) from fun y => y.elim (fun y => absurd ((nI_ltI (a := a) (b := 1) (by omega) (by decide)).mp y) (by omega)) (fun y => y (nI_le (a := a) (b := 99) q (by decide))))]
        simp only
        rw [qw_T h hk]
        by_cases t : bf_ M n k ≤ 32
        · rw [if_pos t, if_neg (fun y => y t)]
          exact Or.inr ⟨a, k, rfl, by omega, q, hk, rfl, rfl⟩
        · rw [if_neg t, if_pos t]
          exact Or.inl ⟨_, rfl, rfl⟩
    · have hnd : 99 < nd_ a ∧ nd_ a ≤ 999 := by unfold nd_; split <;> omega
      rw [if_neg (show ¬ (lN a ≤ 99 ∧ ¬ (lN a).toInt32 = 0) from fun y => q ((lN_99 ha).mp y.1)), if_pos (show nI (nd_ a) < 1 ∨ ¬ nI (nd_ a) ≤ 99 from Or.inr (fun y => absurd ((nI_leI (a := nd_ a) (b := 99) (by omega) (by decide)).mp y) (by omega)))]
      exact Or.inl ⟨_, rfl, rfl⟩
/-- patterns -/
theorem sg_io {c : Int32} : sgX_ c = 0 ↔ (io_ c = 0 ∧ ¬ c = 42 ∧ ¬ c = 63) := by
  rcases io_01 c with z | z
  · constructor
    · intro y
      refine ⟨z, fun q => ?_, fun q => ?_⟩
      · rw [q] at y; exact absurd y (by decide)
      · rw [q] at y; exact absurd y (by decide)
    · rintro ⟨-, h1, h2⟩
      have hl : ¬ (97 ≤ c ∧ c ≤ 122) := fun q => by
        have : io_ c = 1 := by unfold io_ il_; rw [if_pos (Or.inl (if_pos q))]
        rw [z] at this; exact absurd this (by decide)
      have hd : ¬ c = 46 := fun q => by rw [q] at z; exact absurd z (by decide)
      unfold sgX_
      rw [if_neg hl, if_neg hd, if_neg h1, if_neg h2]
  · constructor
    · intro y
      obtain ⟨-, h1, h2, h3⟩ := nc_io z
      rw [h1] at y
      have := (nI_z (by omega)).mp y
      omega
    · rintro ⟨h1, -, -⟩
      rw [z] at h1
      exact absurd h1 (by decide)
/-- the pattern's signs in the class's word -/
def pwT_ (f : Nat → Int32) (s : Nat) : Nat → Int64
  | 0 => 0
  | j + 1 => wi_ (pwT_ f s j) (nI j) (sgX_ (f (s + j)))
theorem paT_T (h : TF_ T (bf_ M n) n) {s : Nat} : ∀ (u u2 j : Nat), u + j = 13 → j ≤ 12 → s + j + u2 = n → (∃ q, pa4_ (bf_ M n) u2 (s + j) j = .inr q ∧ qw_ T (paT_ T u j (pwT_ (bf_ M n) s j) (s + j)).2 = none) ∨ (∃ p, pa4_ (bf_ M n) u2 (s + j) j = .inl (s + p, p) ∧ j ≤ p ∧ p ≤ 12 ∧ s + p ≤ n ∧ bf_ M n (s + p) ≤ 32 ∧ (∀ x, j ≤ x → x < p → ¬ sgX_ (bf_ M n (s + x)) = 0) ∧ (paT_ T u j (pwT_ (bf_ M n) s j) (s + j)).1 = pwT_ (bf_ M n) s p ∧ qw_ T (paT_ T u j (pwT_ (bf_ M n) s j) (s + j)).2 = some (sp_ M n (s + p)))
  | 0, u2, j, hu, hj, hn2 => by omega
  | u + 1, 0, j, hu, hj, hn2 => by
    have hn := h.1
    rw [paT_, pa4_, h.2.1 _ (by omega), h.2.2.1 _ (by omega), if_pos (by decide)]
    have t : bf_ M n (s + j) ≤ 32 := by rw [h.2.2.1 _ (by omega)]; decide
    exact Or.inr ⟨j, rfl, Nat.le_refl _, by omega, by omega, t, fun x h1 h2 => by omega, rfl, by rw [qw_T h (by omega), if_pos t]⟩
  | u + 1, u2 + 1, j, hu, hj, hn2 => by
    have hn := h.1
    rw [paT_, pa4_, h.2.1 _ (by omega)]
    by_cases t : bf_ M n (s + j) ≤ 32
    · have hs0 : sgX_ (bf_ M n (s + j)) = 0 := sg_io.mpr ⟨io_32 t, fun y => by rw [y] at t; exact absurd t (by decide), fun y => by rw [y] at t; exact absurd t (by decide)⟩
      rw [if_pos hs0, if_neg (Int32.not_lt.mpr t)]
      exact Or.inr ⟨j, rfl, Nat.le_refl _, by omega, by omega, t, fun x h1 h2 => by omega, rfl, by rw [qw_T h (by omega), if_pos t]⟩
    · rw [if_pos (Int32.not_le.mp t)]
      by_cases hs0 : sgX_ (bf_ M n (s + j)) = 0
      · rw [if_pos hs0, if_pos (sg_io.mp hs0)]
        exact Or.inl ⟨_, rfl, by rw [qw_T h (by omega), if_neg t]⟩
      · rw [if_neg hs0, if_neg (fun y => hs0 (sg_io.mpr y))]
        by_cases h12 : j = 12
        · rw [if_pos h12, if_pos h12]
          exact Or.inl ⟨_, rfl, rfl⟩
        · rw [if_neg h12, if_neg h12]
          rcases paT_T h (s := s) u u2 (j + 1) (by omega) (by omega) (by omega) with ⟨q, g1, g2⟩ | ⟨p, g1, g2, g3, g4, g5, g6, g7, g8⟩
          · exact Or.inl ⟨q, g1, g2⟩
          · refine Or.inr ⟨p, g1, by omega, g3, g4, g5, fun x h1 h2 => ?_, g7, g8⟩
            by_cases e : x = j
            · rw [e]; exact hs0
            · exact g6 x (by omega) h2
end NUM
