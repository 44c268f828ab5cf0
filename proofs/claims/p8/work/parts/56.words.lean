/-! what words, patterns and limits come to, as functions of the text -/
def tklT_ (T : Int32 → Int32) (i : Nat) (p : Int32) : Nat → Nat → Bool
  | 0, _ => true
  | u + 1, j => if T (p + nI j) = sC_ i j then tklT_ T i p u (j + 1) else false
theorem tkl_T (M : mm_) (i : Nat) (p : Int32) : ∀ (u j : Nat), tkl_ M i p u j = tklT_ (tb_ M) i p u j
  | 0, _ => rfl
  | u + 1, j => by rw [tkl_, tklT_, tkl_T M i p u]
def tkwT_ (T : Int32 → Int32) (i p : Nat) : Bool := tklT_ T i (nI p) (sLen_.getD i 0) 0 && (decide (T (nI p + nI (sLen_.getD i 0)) = -1) || !decide (bl_ (T (nI p + nI (sLen_.getD i 0))) = 0))
theorem LS_tkw {p i : Nat} {M : mm_} (h : LS_ (some p) M) : tkw_ M i = tkwT_ (tb_ M) i p := by
  unfold tkw_ tkwT_
  rw [h.2, tkl_T]
def tkp_ (T : Int32 → Int32) (i p : Nat) : Nat := skP_ T 200 (p + sLen_.getD i 0)
theorem LS_tkM {p i : Nat} {M : mm_} (h : LS_ (some p) M) : LS_ (some (tkp_ (tb_ M) i p)) (tkM_ M i) := by
  unfold tkM_ tkp_
  rw [h.2, nI_add]
  exact LS_sk 200 (some (p + sLen_.getD i 0)) (sI_ M 37 1 (nI (p + sLen_.getD i 0))) rfl ⟨h.1, rfl⟩
theorem sC_ne : ∀ i, i < 9 → ∀ j, j < sLen_.getD i 0 → ¬ sC_ i j = -1 := by decide +kernel
theorem tkl_le {M : mm_} {n p i : Nat} (ht : tpX_ M n) (hi : i < 9) : ∀ (u j : Nat), j + u = sLen_.getD i 0 → p + j ≤ n → tklT_ (tb_ M) i (nI p) u j = true → p + j + u ≤ n
  | 0, _, _, h, _ => h
  | u + 1, j, h1, h2, h3 => by
    have h9 := ht.1
    rw [tklT_] at h3
    by_cases z : tb_ M (nI p + nI j) = sC_ i j
    · rw [if_pos z] at h3
      rw [nI_add] at z
      have := tb_lt ht (by omega : p + j ≤ 300) (by rw [z]; exact sC_ne i hi j (by omega))
      have := tkl_le ht hi u (j + 1) (by omega) (by omega) h3
      omega
    · rw [if_neg z] at h3
      cases h3
theorem tkp_le {M : mm_} {n p i : Nat} (ht : tpX_ M n) (hi : i < 9) (hp : p ≤ n) (h : tkwT_ (tb_ M) i p = true) : tkp_ (tb_ M) i p ≤ n := by
  unfold tkwT_ at h
  rw [Bool.and_eq_true] at h
  have := tkl_le ht hi (sLen_.getD i 0) 0 (by omega) (by omega) h.1
  exact skP_le (tb_n ht) 200 _ (by omega)
def vbT_ (T : Int32 → Int32) (p : Nat) : Int32 × Option Nat := if tkwT_ T 1 p = true then (1, some (tkp_ T 1 p)) else if tkwT_ T 2 p = true then (2, some (tkp_ T 2 p)) else if tkwT_ T 3 p = true then (3, some (tkp_ T 3 p)) else if tkwT_ T 4 p = true then (4, some (tkp_ T 4 p)) else if tkwT_ T 5 p = true then (5, some (tkp_ T 5 p)) else (5, none)
def poT_ (T : Int32 → Int32) (p : Nat) : Int32 × Option Nat := if tkwT_ T 6 p = true then (0, some (tkp_ T 6 p)) else if tkwT_ T 7 p = true then (1, some (tkp_ T 7 p)) else if tkwT_ T 8 p = true then (2, some (tkp_ T 8 p)) else (2, none)
theorem LS_vb {p : Nat} {M : mm_} (h : LS_ (some p) M) : (vb_ M).1 = (vbT_ (tb_ M) p).1 ∧ LS_ (vbT_ (tb_ M) p).2 (vb_ M).2 := by
  unfold vb_ vbT_
  rw [LS_tkw (i := 1) h, LS_tkw (i := 2) h, LS_tkw (i := 3) h, LS_tkw (i := 4) h, LS_tkw (i := 5) h]
  by_cases h1 : tkwT_ (tb_ M) 1 p = true
  · rw [if_pos h1, if_pos h1]; exact ⟨rfl, LS_tkM h⟩
  · rw [if_neg h1, if_neg h1]
    by_cases h2 : tkwT_ (tb_ M) 2 p = true
    · rw [if_pos h2, if_pos h2]; exact ⟨rfl, LS_tkM h⟩
    · rw [if_neg h2, if_neg h2]
      by_cases h3 : tkwT_ (tb_ M) 3 p = true
      · rw [if_pos h3, if_pos h3]; exact ⟨rfl, LS_tkM h⟩
      · rw [if_neg h3, if_neg h3]
        by_cases h4 : tkwT_ (tb_ M) 4 p = true
        · rw [if_pos h4, if_pos h4]; exact ⟨rfl, LS_tkM h⟩
        · rw [if_neg h4, if_neg h4]
          by_cases h5 : tkwT_ (tb_ M) 5 p = true
          · rw [if_pos h5, if_pos h5]; exact ⟨rfl, LS_tkM h⟩
          · rw [if_neg h5, if_neg h5]; exact ⟨rfl, LS_fi h (by decide)⟩
theorem LS_po {p : Nat} {M : mm_} (h : LS_ (some p) M) : (po2_ M).1 = (poT_ (tb_ M) p).1 ∧ LS_ (poT_ (tb_ M) p).2 (po2_ M).2 := by
  unfold po2_ poT_
  rw [LS_tkw (i := 6) h, LS_tkw (i := 7) h, LS_tkw (i := 8) h]
  by_cases h1 : tkwT_ (tb_ M) 6 p = true
  · rw [if_pos h1, if_pos h1]; exact ⟨rfl, LS_tkM h⟩
  · rw [if_neg h1, if_neg h1]
    by_cases h2 : tkwT_ (tb_ M) 7 p = true
    · rw [if_pos h2, if_pos h2]; exact ⟨rfl, LS_tkM h⟩
    · rw [if_neg h2, if_neg h2]
      by_cases h3 : tkwT_ (tb_ M) 8 p = true
      · rw [if_pos h3, if_pos h3]; exact ⟨rfl, LS_tkM h⟩
      · rw [if_neg h3, if_neg h3]; exact ⟨rfl, LS_fi h (by decide)⟩
theorem qin_vb {M : mm_} {n p : Nat} (ht : tpX_ M n) (hp : p ≤ n) : qin_ n (vbT_ (tb_ M) p).2 := by
  intro a ha
  unfold vbT_ at ha
  split at ha
  · rename_i h; cases ha; exact tkp_le ht (by decide) hp h
  · split at ha
    · rename_i h; cases ha; exact tkp_le ht (by decide) hp h
    · split at ha
      · rename_i h; cases ha; exact tkp_le ht (by decide) hp h
      · split at ha
        · rename_i h; cases ha; exact tkp_le ht (by decide) hp h
        · split at ha
          · rename_i h; cases ha; exact tkp_le ht (by decide) hp h
          · cases ha
theorem qin_po {M : mm_} {n p : Nat} (ht : tpX_ M n) (hp : p ≤ n) : qin_ n (poT_ (tb_ M) p).2 := by
  intro a ha
  unfold poT_ at ha
  split at ha
  · rename_i h; cases ha; exact tkp_le ht (by decide) hp h
  · split at ha
    · rename_i h; cases ha; exact tkp_le ht (by decide) hp h
    · split at ha
      · rename_i h; cases ha; exact tkp_le ht (by decide) hp h
      · cases ha
def paT_ (T : Int32 → Int32) : Nat → Nat → Int64 → Nat → Int64 × Option Nat
  | 0, _, w, p => (w, some p)
  | u + 1, j, w, p => if sgX_ (T (nI p)) = 0 then (w, some p) else if j = 12 then (w, none) else paT_ T u (j + 1) (wi_ w (nI j) (sgX_ (T (nI p)))) (p + 1)
def patT_ (T : Int32 → Int32) (q : Option Nat) : Int64 × Option Nat := match q with
  | none => (0, none)
  | some p => if T (nI p) = -1 then (0, none) else paT_ T 13 0 0 p
theorem pa_n {M : mm_} {u j : Nat} {w : Int64} (h : LS_ none M) : pa1_ (u + 1) j w M = (w, M) := by
  rw [pa1_, pe_F h, if_pos (by decide)]
theorem LS_pa1 {T : Int32 → Int32} : ∀ (u j : Nat) (w : Int64) (p : Nat) (M : mm_), tb_ M = T → LS_ (some p) M → (pa1_ u j w M).1 = (paT_ T u j w p).1 ∧ LS_ (paT_ T u j w p).2 (pa1_ u j w M).2
  | 0, _, _, _, _, _, h => ⟨rfl, h⟩
  | u + 1, j, w, p, M, hT, h => by
    rw [pa1_, paT_, LS_pe h, hT]
    by_cases z : sgX_ (T (nI p)) = 0
    · rw [if_pos z, if_pos z]; exact ⟨rfl, h⟩
    · rw [if_neg z, if_neg z]
      by_cases y : j = 12
      · rw [if_pos y, if_pos y]; exact ⟨rfl, LS_fi h (by decide)⟩
      · rw [if_neg y, if_neg y, h.2, nI_1]
        exact LS_pa1 u (j + 1) _ (p + 1) (sI_ M 37 1 (nI (p + 1))) hT ⟨h.1, rfl⟩
theorem LS_pat {q : Option Nat} {M : mm_} (h : LS_ q M) : (pa1_ 13 0 0 (pa0_ M)).1 = (patT_ (tb_ M) q).1 ∧ LS_ (patT_ (tb_ M) q).2 (pa1_ 13 0 0 (pa0_ M)).2 := by
  unfold pa0_
  cases q with
  | none =>
    have e := LS_fn (f := 1) (w := M.1 37 1) h
    rw [pe_F h, if_pos rfl, pa_n e]
    exact ⟨rfl, e⟩
  | some p =>
    rw [LS_pe h]
    unfold patT_
    simp only
    by_cases z : tb_ M (nI p) = -1
    · rw [if_pos z, if_pos z]
      have e := LS_fi (f := 1) (w := M.1 37 1) h (by decide)
      rw [pa_n e]
      exact ⟨rfl, e⟩
    · rw [if_neg z, if_neg z]
      exact LS_pa1 13 0 0 p M rfl h
theorem paT_le {M : mm_} {n : Nat} (ht : tpX_ M n) : ∀ (u j : Nat) (w : Int64) (p : Nat), p ≤ n → qin_ n (paT_ (tb_ M) u j w p).2
  | 0, _, _, p, hp, a, ha => by cases ha; exact hp
  | u + 1, j, w, p, hp, a, ha => by
    have := ht.1
    rw [paT_] at ha
    by_cases z : sgX_ (tb_ M (nI p)) = 0
    · rw [if_pos z] at ha; cases ha; exact hp
    · rw [if_neg z] at ha
      by_cases y : j = 12
      · rw [if_pos y] at ha; cases ha
      · rw [if_neg y] at ha
        exact paT_le ht u (j + 1) _ (p + 1) (tb_lt ht (by omega) (fun x => z (by rw [x]; decide))) a ha
theorem qin_pat {M : mm_} {n : Nat} {q : Option Nat} (ht : tpX_ M n) (h : qin_ n q) : qin_ n (patT_ (tb_ M) q).2 := by
  intro a ha
  cases q with
  | none => cases ha
  | some p =>
    unfold patT_ at ha
    simp only at ha
    split at ha
    · cases ha
    · exact paT_le ht 13 0 0 p (h p rfl) a ha
def lmT_ (T : Int32 → Int32) (q : Option Nat) : Int32 × Option Nat := match q with
  | none => (0, none)
  | some p => if fg_ (T (nI p)) = 0 then (0, none) else ((nuP_ T 200 p 0).2.toInt32, if (nuP_ T 200 p 0).2 ≤ 99 ∧ ¬ (nuP_ T 200 p 0).2.toInt32 = 0 then some (nuP_ T 200 p 0).1 else none)
theorem nu_n {M : mm_} (h : LS_ none M) : nu1_ 200 M 0 = (M, 0) := by
  rw [nu1_, pe_F h, if_pos (by decide)]
theorem lm_n {M N : mm_} (h : LS_ none N) : LS_ none (lm1_ M (N, 0)) := by
  unfold lm1_ nuB_
  simp only
  rw [if_pos (by decide), if_pos (by decide)]
  exact LS_fn h
theorem LS_lm {q : Option Nat} {M : mm_} (h : LS_ q M) : (nu1_ 200 (nuA_ M) 0).2.toInt32 = (lmT_ (tb_ M) q).1 ∧ LS_ (lmT_ (tb_ M) q).2 (lm1_ M (nu1_ 200 (nuA_ M) 0)) := by
  cases q with
  | none =>
    have e : LS_ none (nuA_ M) := by
      unfold nuA_
      rw [pe_F h, if_pos (by decide)]
      exact LS_fn h
    rw [nu_n e]
    exact ⟨rfl, lm_n e⟩
  | some p =>
    unfold lmT_
    simp only
    by_cases z : fg_ (tb_ M (nI p)) = 0
    · have e : LS_ none (nuA_ M) := by
        unfold nuA_
        rw [LS_pe h, if_pos z]
        exact LS_fi h (by decide)
      rw [nu_n e, if_pos z]
      exact ⟨rfl, lm_n e⟩
    · rw [nuG h.1 h.2 (by rw [LS_pe h]; exact z), if_neg z]
      refine ⟨rfl, ?_⟩
      have e : LS_ (some (nuP_ (tb_ M) 200 p 0).1) (sI_ M 37 1 (nI (nuP_ (tb_ M) 200 p 0).1)) := ⟨h.1, rfl⟩
      unfold lm1_ nuB_
      simp only
      rw [show Int32.toInt64 99 = 99 by decide +kernel]
      by_cases y : (nuP_ (tb_ M) 200 p 0).2 ≤ 99
      · rw [if_pos y]
        by_cases x : (nuP_ (tb_ M) 200 p 0).2.toInt32 = 0
        · rw [if_pos x, if_neg (fun w => w.2 x)]
          exact LS_fi e (by decide)
        · rw [if_neg x, if_pos ⟨y, x⟩]
          exact e
      · rw [if_neg y, if_neg (fun w => y w.1)]
        have e2 := LS_fi (f := 2) (w := M.1 37 1) e (by decide)
        split
        · exact LS_fn e2
        · exact e2
theorem qin_lm {M : mm_} {n : Nat} {q : Option Nat} (ht : tpX_ M n) (h : qin_ n q) : qin_ n (lmT_ (tb_ M) q).2 := by
  intro a ha
  cases q with
  | none => cases ha
  | some p =>
    unfold lmT_ at ha
    simp only at ha
    split at ha
    · cases ha
    · simp only at ha
      split at ha
      · cases ha
        exact (nuP_le (T := tb_ M) (n := n) (fun j g1 g2 => by rw [show j = n by omega, tb_n ht]; decide) 200 p 0 (h p rfl)).2
      · cases ha
/-- is something there to be read -/
def moX_ (T : Int32 → Int32) (q : Option Nat) : Prop := match q with
  | none => False
  | some p => ¬ T (nI p) = -1
theorem LS_mo {q : Option Nat} {M : mm_} (h : LS_ q M) : (¬ pe_ M = -1) ↔ moX_ (tb_ M) q := by
  cases q with
  | none => rw [pe_F h]; exact ⟨fun z => absurd rfl z, fun z => absurd z id⟩
  | some p => rw [LS_pe h]; exact Iff.rfl
theorem LS_37x {q : Option Nat} {M N : mm_} (h : LS_ q M) (h1 : N.1 37 1 = M.1 37 1) (h2 : N.1 37 2 = M.1 37 2) : LS_ q N := by
  cases q with
  | none => show ¬ N.1 37 2 = 0; rw [h2]; exact h
  | some p => exact ⟨h2.trans h.1, h1.trans h.2⟩

