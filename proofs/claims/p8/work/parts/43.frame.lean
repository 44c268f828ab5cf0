/-! what watch needs: the reading of an expression looks at the tape, inCommand and variables alone; a row kept; the frame with a free job's two rows -/
theorem so_cg {M N : mm_} {n k nd op : Nat} {W : List fr_} (e1 : bf_ N n = bf_ M n) (e14 : N.1 0 14 = M.1 0 14) (e15 : N.1 0 15 = M.1 0 15) : so_ N n k W nd op = so_ M n k W nd op := by
  have e2 : ∀ j, rz_ N n j = rz_ M n j := fun j => by unfold rz_; rw [e1]
  have e3 : ∀ c, vo_ N c = vo_ M c := fun c => by unfold vo_; rw [e14, e15]
  have e4 : rr_ N n k W nd op = rr_ M n k W nd op := by unfold rr_; rw [e1, e14, e2, e3]
  unfold so_ so2_
  rw [e1, e14, e4]
theorem lo_cg {M N : mm_} {n : Nat} (e1 : bf_ N n = bf_ M n) (e14 : N.1 0 14 = M.1 0 14) (e15 : N.1 0 15 = M.1 0 15) : ∀ (t : Nat) (S : ss_), lo_ N n t S = lo_ M n t S
  | 0, _ => rfl
  | t + 1, (k, W, u, nd, op) => by
    cases u with
    | none =>
      simp only [lo_]
      rw [so_cg e1 e14 e15]
      cases hS : so_ M n k W nd op with
      | inl S2 => exact lo_cg e1 e14 e15 t S2
      | inr q => rfl
    | some e =>
      simp only [lo_]
      rw [e1, e14]
      cases hS : si_ (bf_ M n k) k W e nd op with
      | inl S2 => simp only; rw [lo_cg e1 e14 e15 t S2]
      | inr q => rfl
theorem ex_cg {M N : mm_} {n k : Nat} (e1 : bf_ N n = bf_ M n) (e14 : N.1 0 14 = M.1 0 14) (e15 : N.1 0 15 = M.1 0 15) : ex_ N n k = ex_ M n k := by
  unfold ex_
  rw [lo_cg e1 e14 e15]
/-- row t holds the code of the tree e -/
def sd_ (M : mm_) (t : Nat) (e : Term) : Prop := M.1 4 t = nI (tc_ e).length ∧ ∀ (i : Nat) (x : sv_), (tc_ e)[i]? = some x → M.1 2 (64 * t + i) = x.1 ∧ M.2.1 3 (64 * t + i) = x.2
theorem kx_R {M : mm_} {t : Nat} : ∀ (j : Nat), (kx_ M t j).2.2 = M.2.2
  | 0 => rfl
  | j + 1 => kx_R (M := M) (t := t) j
/-- keepExpression keeps the tree that was read -/
theorem sd_kx {M : mm_} {t n k nd op : Nat} {e : Term} (ht : t < 32) (h : pr_ M n k [] (some e) nd op) : sd_ (sI_ (kx_ M t (tc_ e).length) 4 t (nI (tc_ e).length)) t e := by
  have hl : (tc_ e).length ≤ 40 := by have := (pr_len h).1; simpa [cs_, cu_] using this
  have hc := h.2.2.1.2
  refine ⟨by simp [sI_], fun i x hx => ?_⟩
  have hi : i < (tc_ e).length := by
    rcases Nat.lt_or_ge i (tc_ e).length with q | q
    · exact q
    · rw [List.getElem?_eq_none q] at hx; cases hx
  obtain ⟨c1, c2⟩ := hc i x (by simpa [cs_, cu_] using hx)
  constructor
  · rw [sI_ne _ _ _ _ (by omega), kx_I ht _ (by omega), if_pos (by omega), show 2048 + (64 * t + i - 64 * t) = 2048 + i by omega]
    exact c1
  · show (kx_ M t (tc_ e).length).2.1 3 (64 * t + i) = x.2
    rw [kx_L ht _ (by omega), if_pos (by omega), show 2048 + (64 * t + i - 64 * t) = 2048 + i by omega]
    exact c2
/-- a row kept stays where nothing is written into it -/
theorem sd_cg {M N : mm_} {t : Nat} {e : Term} (h : sd_ M t e) (hl : (tc_ e).length ≤ 64) (h4 : N.1 4 t = M.1 4 t) (h2 : ∀ i, i < 64 → N.1 2 (64 * t + i) = M.1 2 (64 * t + i)) (h3 : ∀ i, i < 64 → N.2.1 3 (64 * t + i) = M.2.1 3 (64 * t + i)) : sd_ N t e := by
  refine ⟨h4.trans h.1, fun i x hx => ?_⟩
  have hi : i < (tc_ e).length := by
    rcases Nat.lt_or_ge i (tc_ e).length with q | q
    · exact q
    · rw [List.getElem?_eq_none q] at hx; cases hx
  obtain ⟨c1, c2⟩ := h.2 i x hx
  exact ⟨(h2 i (by omega)).trans c1, (h3 i (by omega)).trans c2⟩
/-- nothing but the parser's cells, the new pattern and the two rows of job J has changed -/
def ph_ (J : Nat) (M N : mm_) : Prop := (∀ a i : Nat, a ≠ 7 → a ≠ 8 → a ≠ 9 → a ≠ 11 → a ≠ 19 → ¬ (a = 2 ∧ 2048 ≤ i) → ¬ (a = 2 ∧ 1024 + 128 * J ≤ i ∧ i < 1152 + 128 * J) → ¬ (a = 4 ∧ (i = 16 + 2 * J ∨ i = 17 + 2 * J)) → ¬ (a = 0 ∧ (i = 3 ∨ i = 4 ∨ i = 5 ∨ i = 12 ∨ i = 13 ∨ i = 20 ∨ i = 22 ∨ i = 23 ∨ i = 33)) → N.1 a i = M.1 a i) ∧ (∀ a i : Nat, a ≠ 10 → ¬ (a = 3 ∧ 2048 ≤ i) → ¬ (a = 3 ∧ 1024 + 128 * J ≤ i ∧ i < 1152 + 128 * J) → ¬ (a = 0 ∧ i = 24) → N.2.1 a i = M.2.1 a i) ∧ N.2.2 = M.2.2 ∧ (N.1 0 3 = 0 → M.1 0 3 = 0 ∧ N.1 0 4 = M.1 0 4) ∧ (ao5_ M → ao5_ N)
theorem ph_pg {J : Nat} {M N : mm_} (h : pg_ M N) : ph_ J M N := ⟨fun a i a1 a2 a3 a4 a5 a6 _ _ a7 => h.1 a i a1 a2 a3 a4 a5 a6 a7, fun a i a1 a2 _ a3 => h.2.1 a i a1 a2 a3, h.2.2⟩
theorem ph_tr {J : Nat} {M N O : mm_} (h1 : ph_ J M N) (h2 : ph_ J N O) : ph_ J M O := ⟨fun a i a1 a2 a3 a4 a5 a6 a7 a8 a9 => (h2.1 a i a1 a2 a3 a4 a5 a6 a7 a8 a9).trans (h1.1 a i a1 a2 a3 a4 a5 a6 a7 a8 a9), fun a i a1 a2 a3 a4 => (h2.2.1 a i a1 a2 a3 a4).trans (h1.2.1 a i a1 a2 a3 a4), h2.2.2.1.trans h1.2.2.1, fun h => ⟨(h1.2.2.2.1 (h2.2.2.2.1 h).1).1, (h2.2.2.2.1 h).2.trans (h1.2.2.2.1 (h2.2.2.2.1 h).1).2⟩, fun h => h2.2.2.2.2 (h1.2.2.2.2 h)⟩
theorem ph_kx {J : Nat} {M N : mm_} {t l : Nat} (h : ph_ J M N) (hJ : J < 8) (ht : t = 16 + 2 * J ∨ t = 17 + 2 * J) (hl : l ≤ 64) : ph_ J M (sI_ (kx_ N t l) 4 t (nI l)) := by
  have e0 : ∀ i, (sI_ (kx_ N t l) 4 t (nI l)).1 0 i = N.1 0 i := fun i => by rw [sI_ne _ _ _ _ (by omega), kx_I (by omega) _ hl, if_neg (by omega)]
  refine ph_tr h ⟨fun a i a1 a2 a3 a4 a5 a6 a7 a8 a9 => ?_, fun a i a1 a2 a3 a4 => ?_, ?_, fun y => ?_, fun y => ?_⟩
  · rw [sI_ne _ _ _ _ (by omega), kx_I (by omega) _ hl, if_neg (by omega)]
  · show (kx_ N t l).2.1 a i = N.2.1 a i
    rw [kx_L (by omega) _ hl, if_neg (by omega)]
  · show (kx_ N t l).2.2 = N.2.2
    exact kx_R l
  · rw [e0] at y
    exact ⟨y, e0 4⟩
  · obtain ⟨r, hr, e⟩ := y
    exact ⟨r, hr, by rw [e0]; exact e⟩
theorem ph_at {J : Nat} {M N : mm_} (h : ph_ J M N) {i : Nat} (hi : i ≠ 3 ∧ i ≠ 4 ∧ i ≠ 5 ∧ i ≠ 12 ∧ i ≠ 13 ∧ i ≠ 20 ∧ i ≠ 22 ∧ i ≠ 23 ∧ i ≠ 33) : N.1 0 i = M.1 0 i := h.1 0 i (by omega) (by omega) (by omega) (by omega) (by omega) (by omega) (by omega) (by omega) (by omega)
theorem ph_tz {J : Nat} {M N : mm_} {n : Nat} (h : ph_ J M N) (ht : tz_ M n) : tz_ N n := ⟨(ph_at h (by omega)).trans ht.1, ht.2⟩
theorem ph_bf {J : Nat} {M N : mm_} {n : Nat} (h : ph_ J M N) : bf_ N n = bf_ M n := by
  funext k
  unfold bf_
  rw [h.1 1 k (by omega) (by omega) (by omega) (by omega) (by omega) (by omega) (by omega) (by omega) (by omega)]
theorem ph_sp {J : Nat} {M N : mm_} {n k : Nat} (h : ph_ J M N) : sp_ N n k = sp_ M n k := by unfold sp_; rw [ph_bf h]
theorem ph_fj {J : Nat} {M N : mm_} {u j : Nat} (h : ph_ J M N) : fj_ N u j = fj_ M u j := fj_cg (fun i => h.1 12 i (by omega) (by omega) (by omega) (by omega) (by omega) (by omega) (by omega) (by omega) (by omega)) u j
theorem ph_ex {J : Nat} {M N : mm_} {n k : Nat} (h : ph_ J M N) : ex_ N n k = ex_ M n k := ex_cg (ph_bf h) (ph_at h (by omega)) (ph_at h (by omega))
theorem ph_sm {J : Nat} {M N : mm_} {n k : Nat} {l : Int32} (h : ph_ J M N) : sm_ N n k l = sm_ M n k l := by unfold sm_; rw [ph_bf h]
theorem ph_s5 {J : Nat} {M N : mm_} {q : Nat} (h : ph_ J M N) (hq : q < 1073741824) : ph_ J M (sI_ N 0 5 (nI q)) := ph_tr h (ph_pg (pg_s5 (pg_rf N) hq))
theorem ph_fa {J : Nat} {M N : mm_} {f w : Int32} (h : ph_ J M N) (hf : ¬ f = 0 := by decide) : ph_ J M (fa_ N f w) := ph_tr h (ph_pg (pg_fa (pg_rf N) hf))

