section
/-- a small number at s: its value and the place behind it, or the fault -/
def sm_ (M : mm_) (n s : Nat) (least : Int32) : (Int32 × Nat) ⊕ (Int32 × Nat) :=
  if ig_ (bf_ M n s) = 0 then .inr (1, s) else if (dv_ (bf_ M n) (n - s) s 0).2 < least ∨ ¬ (dv_ (bf_ M n) (n - s) s 0).2 ≤ 99 then .inr (2, s)
  else if ¬ bf_ M n (dv_ (bf_ M n) (n - s) s 0).1 ≤ 32 then .inr (1, (dv_ (bf_ M n) (n - s) s 0).1) else .inl ((dv_ (bf_ M n) (n - s) s 0).2, (dv_ (bf_ M n) (n - s) s 0).1)
def sq_ (M : mm_) (n s : Nat) (least : Int32) : mm_ := if ig_ (bf_ M n s) = 0 then fa_ (sI_ M 0 5 (nI s)) 1 (nI s) else sn_ M n least s (dv_ (bf_ M n) (n - s) s 0).1 (dv_ (bf_ M n) (n - s) s 0).2
def sv2_ (M : mm_) (n s : Nat) : Int32 := if ig_ (bf_ M n s) = 0 then 0 else (dv_ (bf_ M n) (n - s) s 0).2
theorem sm_two {M : mm_} {n s : Nat} {least : Int32} (hf : M.1 0 3 = 0) (hs : s ≤ n) :
    (∃ f w q, sm_ M n s least = .inr (f, w) ∧ 0 < f ∧ q ≤ n ∧ sq_ M n s least = fa_ (sI_ M 0 5 (nI q)) f (nI w)) ∨
    (∃ v q, sm_ M n s least = .inl (v, q) ∧ q ≤ n ∧ sq_ M n s least = sI_ M 0 5 (nI q) ∧ sv2_ M n s = v ∧ ¬ v < least ∧ v ≤ 99) := by
  have hd := dv_le (bf_ M n) (n - s) s 0
  unfold sm_ sq_ sv2_ sn_
  generalize dv_ (bf_ M n) (n - s) s 0 = D at hd
  have e3 : ∀ q : Nat, (sI_ M 0 5 (nI q)).1 0 3 = 0 := fun q => by simpa [sI_] using hf
  by_cases h0 : ig_ (bf_ M n s) = 0
  · rw [if_pos h0, if_pos h0]
    exact Or.inl ⟨1, s, s, rfl, by decide, hs, rfl⟩
  · rw [if_neg h0, if_neg h0, if_neg h0]
    by_cases h1 : D.2 < least ∨ ¬ D.2 ≤ 99
    · rw [if_pos h1]
      simp only [if_pos h1]
      have e4 : ¬ ((fa_ (sI_ M 0 5 (nI D.1)) 2 (nI s)).1 0 3 = 0 ∧ ¬ bf_ M n D.1 ≤ 32) := fun q => by
        have := q.1
        rw [fa_0 (e3 _)] at this
        simp [sI_] at this
      rw [if_neg e4]
      exact Or.inl ⟨2, s, D.1, rfl, by decide, by omega, rfl⟩
    · rw [if_neg h1]
      simp only [if_neg h1]
      have h1a : ¬ D.2 < least := fun q => h1 (Or.inl q)
      have h1b : D.2 ≤ 99 := Decidable.by_contra (fun q => h1 (Or.inr q))
      by_cases h2 : bf_ M n D.1 ≤ 32
      · rw [if_neg (fun q => q h2), if_neg (fun q => q.2 h2)]
        exact Or.inr ⟨D.2, D.1, rfl, by omega, rfl, rfl, h1a, h1b⟩
      · rw [if_pos h2, if_pos ⟨e3 _, h2⟩]
        exact Or.inl ⟨1, D.1, D.1, rfl, by decide, by omega, rfl⟩
/-- a command's fault -/
def fo3_ (M : mm_) (f : Int32) (w : Nat) (r : Int32) (N : mm_) : Prop := r = -1 ∧ pf_ M N ∧ N.1 0 3 = f ∧ N.1 0 4 = nI w ∧ 0 < f
def kl2_ (M : mm_) (n : Nat) : (Int32 × Nat) ⊕ (Int32 × Nat) → Nat ⊕ (Int32 × Nat)
  | .inr q => .inr q
  | .inl (v, q) => if sp_ M n q < n then .inr (1, sp_ M n q) else if 8 ≤ v ∨ M.1 12 v.toNatClampNeg = 0 then .inr (5, n) else .inl v.toNatClampNeg
def ko3_ (M : mm_) (n : Nat) : Nat ⊕ (Int32 × Nat) → Int32 → mm_ → Prop
  | .inr (f, w), r, N => fo3_ M f w r N
  | .inl j, r, N => r = nI j ∧ j < 8 ∧ ¬ M.1 12 j = 0 ∧ N = sI_ (sI_ M 0 5 (nI n)) 12 j 0
theorem sp_sI {M : mm_} {a i n k : Nat} {v : Int32} (hq : a ≠ 1) : sp_ (sI_ M a i v) n k = sp_ M n k := by
  unfold sp_
  rw [show bf_ (sI_ M a i v) n = bf_ M n from funext (fun q => bf_sI hq)]
set_option maxRecDepth 100000 in
set_option maxHeartbeats 4000000 in
theorem c12_kill (G : gg_) (hG : gd_ G) (d : Nat) (M : mm_) (n k s : Nat) (ht : tz_ M n) (h5 : M.1 0 5 = nI k) (hk : k ≤ n) (hf : M.1 0 3 = 0) (hs : s = sp_ M n k) : cm_ G yX12_kill cX12_kill 2 (some .int) (d + 3) [.ref (G.1 0)] M (rI_ (ko3_ M n (kl2_ M n (sm_ M n s 0)))) := by
  refine cm_of hG (by decide) (Nat.le_of_ble_eq_true rfl) (fun C X => ?_)
  have hn := ht.2
  have h2 := ht.1
  have hsn : s ≤ n := by rw [hs]; exact (sp_le hk).2
  generalize hR : kl2_ M n (sm_ M n s 0) = R
  have jf : ∀ (N : mm_) (f : Int32) (w : Nat) (l1 : Option Value), pf_ M N → N.1 0 3 = f → N.1 0 4 = nI w → 0 < f → R = .inr (f, w) → wq_ C G (qe_ C G (rI_ (ko3_ M n R))) 41 [some (.ref (G.1 0)), l1] [] N := by
    intro N f w l1 hp h3 h4 hpos hr
    refine w_aload_n X dX12_kill_41 rfl rfl ?_
    refine g12_fault X dX12_kill_42 ?_
    try simp only [gI_sI, gI_sL, gL_sI, gL_sL, false_and, and_false, and_self, if_false, if_true, reduceIte, Nat.reduceEqDiff, h3]
    refine w_if_le (tgt := 50) X dX12_kill_45 (by decide) (fun h45 => absurd h45 (Int32.not_le.mpr hpos)) (fun h45 => ?_)
    refine w_iconst (v := -1) X dX12_kill_48 (by decide) ?_
    refine w_irR X dX12_kill_49 ?_
    rw [hr]
    exact ⟨rfl, hp, h3, h4, hpos⟩
  rcases sm_two (least := 0) hf hsn with ⟨f, w, q, c1, hpos, hq, c2⟩ | ⟨v, q, c1, hq, c2, c3, c4, c5⟩
  · rw [c1] at hR
    have e3 : (sI_ M 0 5 (nI q)).1 0 3 = 0 := by simpa [sI_] using hf
    have hf0 : ¬ f = 0 := fun q => by rw [q] at hpos; exact absurd hpos (by decide)
    have g3 : (fa_ (sI_ M 0 5 (nI q)) f (nI w)).1 0 3 = f := by rw [fa_0 e3]; simp [sI_]
    have g4 : (fa_ (sI_ M 0 5 (nI q)) f (nI w)).1 0 4 = nI w := by rw [fa_0 e3]; simp [sI_]
    have g5 : (fa_ (sI_ M 0 5 (nI q)) f (nI w)).1 0 5 = nI q := by rw [fa_0 e3]; simp [sI_]
    have gt : tz_ (fa_ (sI_ M 0 5 (nI q)) f (nI w)) n := tz_fa (tz_sI ht (by omega))
    have gp : pf_ M (fa_ (sI_ M 0 5 (nI q)) f (nI w)) := pf_fa (pf_sI (pf_rf M) (by first | omega | exact at5_ (by omega))) hf0
    generalize fa_ (sI_ M 0 5 (nI q)) f (nI w) = N at c2 g3 g4 g5 gt gp
    have hspN := (sp_le (M := N) hq).2
    refine w_aload_n X dX12_kill_0 rfl rfl ?_
    refine w_iconst (v := 0) X dX12_kill_1 (by decide) ?_
    refine w_v1fI X dX12_kill_2 k12_smallNumber rfl rfl (c12_smallNumber G hG _ M n k s ht h5 (by omega) hs 0) (Nat.le_of_ble_eq_true rfl) ?_
    show wq_ C G _ _ _ (.int (sv2_ M n s) :: _) (sq_ M n s 0)
    rw [c2]
    refine w_istore_n X dX12_kill_5 rfl (by decide) ?_
    refine w_aload_n X dX12_kill_6 rfl rfl ?_
    refine w_v0fV X dX12_kill_7 k12_wantEnd rfl rfl (c12_wantEnd G hG _ N n q gt g5 (by first | omega | exact at5_ (by omega))) (Nat.le_of_ble_eq_true rfl) ?_
    rw [if_neg (fun y => hf0 (g3.symm.trans y.1))]
    refine w_aload_n X dX12_kill_10 rfl rfl ?_
    refine g12_fault X dX12_kill_11 ?_
    try simp only [gI_sI, gI_sL, gL_sI, gL_sL, false_and, and_false, and_self, if_false, if_true, reduceIte, Nat.reduceEqDiff, g3]
    refine w_if_ne (tgt := 41) X dX12_kill_14 (by decide) (fun h14 => ?_) (fun h14 => absurd h14 hf0)
    exact jf _ f w _ (pf_sI gp (by first | omega | exact at5_ (by omega))) (by simpa [sI_] using g3) (by simpa [sI_] using g4) hpos hR.symm
  · rw [c1] at hR
    have e3 : (sI_ M 0 5 (nI q)).1 0 3 = 0 := by simpa [sI_] using hf
    have e4 : (sI_ (sI_ M 0 5 (nI q)) 0 5 (nI (sp_ M n q))).1 0 3 = 0 := by simpa [sI_] using hf
    have gt : tz_ (sI_ M 0 5 (nI q)) n := tz_sI ht (by omega)
    have esp : sp_ (sI_ M 0 5 (nI q)) n q = sp_ M n q := sp_sI (by omega)
    have hspn := (sp_le (M := M) hq).2
    simp only [kl2_] at hR
    by_cases hsp : sp_ M n q < n
    · rw [if_pos hsp] at hR
      have g3 : (fa_ (sI_ (sI_ M 0 5 (nI q)) 0 5 (nI (sp_ M n q))) 1 (nI (sp_ M n q))).1 0 3 = 1 := by rw [fa_0 e4]; simp [sI_]
      have g4 : (fa_ (sI_ (sI_ M 0 5 (nI q)) 0 5 (nI (sp_ M n q))) 1 (nI (sp_ M n q))).1 0 4 = nI (sp_ M n q) := by rw [fa_0 e4]; simp [sI_]
      refine w_aload_n X dX12_kill_0 rfl rfl ?_
      refine w_iconst (v := 0) X dX12_kill_1 (by decide) ?_
      refine w_v1fI X dX12_kill_2 k12_smallNumber rfl rfl (c12_smallNumber G hG _ M n k s ht h5 (by omega) hs 0) (Nat.le_of_ble_eq_true rfl) ?_
      show wq_ C G _ _ _ (.int (sv2_ M n s) :: _) (sq_ M n s 0)
      rw [c2]
      refine w_istore_n X dX12_kill_5 rfl (by decide) ?_
      refine w_aload_n X dX12_kill_6 rfl rfl ?_
      refine w_v0fV X dX12_kill_7 k12_wantEnd rfl rfl (c12_wantEnd G hG _ (sI_ M 0 5 (nI q)) n q gt (by simp [sI_]) (by omega)) (Nat.le_of_ble_eq_true rfl) ?_
      rw [esp]
      rw [if_pos ⟨e3, hsp⟩]
      refine w_aload_n X dX12_kill_10 rfl rfl ?_
      refine g12_fault X dX12_kill_11 ?_
      try simp only [gI_sI, gI_sL, gL_sI, gL_sL, false_and, and_false, and_self, if_false, if_true, reduceIte, Nat.reduceEqDiff, g3]
      refine w_if_ne (tgt := 41) X dX12_kill_14 (by decide) (fun h14 => ?_) (fun h14 => absurd h14 (by decide))
      exact jf _ 1 _ _ (pf_fa (pf_sI (pf_sI (pf_rf M) (by first | omega | exact at5_ (by omega))) (by first | omega | exact at5_ (by omega)))) g3 g4 (by decide) hR.symm
    · rw [if_neg hsp] at hR
      have hspe : sp_ M n q = n := by omega
      have eM : sI_ (sI_ M 0 5 (nI q)) 0 5 (nI (sp_ M n q)) = sI_ M 0 5 (nI n) := by
        rw [hspe]
        exact sI_sI M 0 5 _ _
      have e5 : (sI_ M 0 5 (nI n)).1 0 3 = 0 := by simpa [sI_] using hf
      have e2 : (sI_ M 0 5 (nI n)).1 0 2 = nI n := by simpa [sI_] using ht.1
      have h100 : ¬ nI 100 ≤ v := fun y => absurd (Int32.le_trans y c5) (by decide)
      obtain ⟨j, hj, hv, -, hcl, -⟩ := pk_mu c4 h100 (by omega)
      subst hv
      rw [hcl] at hR
      refine w_aload_n X dX12_kill_0 rfl rfl ?_
      refine w_iconst (v := 0) X dX12_kill_1 (by decide) ?_
      refine w_v1fI X dX12_kill_2 k12_smallNumber rfl rfl (c12_smallNumber G hG _ M n k s ht h5 (by omega) hs 0) (Nat.le_of_ble_eq_true rfl) ?_
      show wq_ C G _ _ _ (.int (sv2_ M n s) :: _) (sq_ M n s 0)
      rw [c2, c3]
      refine w_istore_n X dX12_kill_5 rfl (by decide) ?_
      refine w_aload_n X dX12_kill_6 rfl rfl ?_
      refine w_v0fV X dX12_kill_7 k12_wantEnd rfl rfl (c12_wantEnd G hG _ (sI_ M 0 5 (nI q)) n q gt (by simp [sI_]) (by omega)) (Nat.le_of_ble_eq_true rfl) ?_
      rw [esp]
      rw [if_neg (fun y => hsp y.2), eM]
      refine w_aload_n X dX12_kill_10 rfl rfl ?_
      refine g12_fault X dX12_kill_11 ?_
      try simp only [gI_sI, gI_sL, gL_sI, gL_sL, false_and, and_false, and_self, if_false, if_true, reduceIte, Nat.reduceEqDiff, hf, h2]
      refine w_if_ne (tgt := 41) X dX12_kill_14 (by decide) (fun h14 => absurd rfl h14) (fun h14 => ?_)
      refine w_iload_n X dX12_kill_17 rfl rfl ?_
      refine w_bipush (v := 8) X dX12_kill_18 (by decide) ?_
      refine w_icmp_ge (tgt := 32) X dX12_kill_20 (by decide) (fun h20 => ?_) (fun h20 => ?_)
      · refine w_aload_n X dX12_kill_32 rfl rfl ?_
        refine w_iconst (v := 5) X dX12_kill_33 (by decide) ?_
        refine w_aload_n X dX12_kill_34 rfl rfl ?_
        refine g12_size X dX12_kill_35 ?_
        try simp only [gI_sI, gI_sL, gL_sI, gL_sL, false_and, and_false, and_self, if_false, if_true, reduceIte, Nat.reduceEqDiff, hf, h2]
        refine w_v2fV X dX12_kill_38 k12_fail rfl rfl (c12_fail G hG _ _ _ _) (Nat.le_of_ble_eq_true rfl) ?_
        rw [if_pos (Or.inl h20)] at hR
        exact jf _ 5 n _ (pf_fa (pf_sI (pf_rf M) (by first | omega | exact at5_ (by omega)))) (by rw [fa_0 e5]; simp [sI_]) (by rw [fa_0 e5]; simp [sI_]) (by decide) hR.symm
      · have hj8 : j < 8 := Decidable.by_contra (fun y => h20 (nI_le (a := 8) (by omega) (by omega)))
        refine w_aload_n X dX12_kill_23 rfl rfl ?_
        refine g12_kinds X dX12_kill_24 ?_
        refine w_iload_n X dX12_kill_27 rfl rfl ?_
        refine w_ialoadN X dX12_kill_28 rfl rfl (by omega) ?_
        try simp only [gI_sI, gI_sL, gL_sI, gL_sL, false_and, and_false, and_self, if_false, if_true, reduceIte, Nat.reduceEqDiff, hf, h2]
        refine w_if_ne (tgt := 41) X dX12_kill_29 (by decide) (fun h29 => ?_) (fun h29 => ?_)
        · have e29 : ¬ M.1 12 j = 0 := h29
          rw [if_neg (fun y => y.elim h20 e29)] at hR
          refine w_aload_n X dX12_kill_41 rfl rfl ?_
          refine g12_fault X dX12_kill_42 ?_
          try simp only [gI_sI, gI_sL, gL_sI, gL_sL, false_and, and_false, and_self, if_false, if_true, reduceIte, Nat.reduceEqDiff, hf]
          refine w_if_le (tgt := 50) X dX12_kill_45 (by decide) (fun h45 => ?_) (fun h45 => absurd (by decide) h45)
          refine w_aload_n X dX12_kill_50 rfl rfl ?_
          refine g12_kinds X dX12_kill_51 ?_
          refine w_iload_n X dX12_kill_54 rfl rfl ?_
          refine w_iconst (v := 0) X dX12_kill_55 (by decide) ?_
          refine w_iastoreN X dX12_kill_56 rfl rfl (by omega) ?_
          refine w_iload_n X dX12_kill_57 rfl rfl ?_
          refine w_irR X dX12_kill_58 ?_
          rw [← hR]
          exact ⟨rfl, hj8, e29, rfl⟩
        · have e29 : M.1 12 j = 0 := h29
          refine w_aload_n X dX12_kill_32 rfl rfl ?_
          refine w_iconst (v := 5) X dX12_kill_33 (by decide) ?_
          refine w_aload_n X dX12_kill_34 rfl rfl ?_
          refine g12_size X dX12_kill_35 ?_
          try simp only [gI_sI, gI_sL, gL_sI, gL_sL, false_and, and_false, and_self, if_false, if_true, reduceIte, Nat.reduceEqDiff, hf, h2]
          refine w_v2fV X dX12_kill_38 k12_fail rfl rfl (c12_fail G hG _ _ _ _) (Nat.le_of_ble_eq_true rfl) ?_
          rw [if_pos (Or.inr e29)] at hR
          exact jf _ 5 n _ (pf_fa (pf_sI (pf_rf M) (by first | omega | exact at5_ (by omega)))) (by rw [fa_0 e5]; simp [sI_]) (by rw [fa_0 e5]; simp [sI_]) (by decide) hR.symm

end
section
/-! patterns, described; simple -/
/-- a pattern from k: the place behind it and its size, or the fault -/
def pa4_ (f : Nat → Int32) : Nat → Nat → Nat → (Nat × Nat) ⊕ (Int32 × Nat)
  | 0, k, p => .inl (k, p)
  | u + 1, k, p => if 32 < f k then (if io_ (f k) = 0 ∧ ¬ f k = 42 ∧ ¬ f k = 63 then .inr (1, k) else if p = 12 then .inr (3, k) else pa4_ f u (k + 1) (p + 1)) else .inl (k, p)
def pd_ (M : mm_) (n s : Nat) : (Nat × Nat) ⊕ (Int32 × Nat) := if s < n then pa4_ (bf_ M n) (n - s) s 0 else .inr (1, s)
/-- nothing but the parser's cells and the new pattern has changed -/
def pg_ (M N : mm_) : Prop := (∀ a i : Nat, a ≠ 7 → a ≠ 8 → a ≠ 9 → a ≠ 11 → a ≠ 19 → ¬ (a = 2 ∧ 2048 ≤ i) → ¬ (a = 0 ∧ (i = 3 ∨ i = 4 ∨ i = 5 ∨ i = 12 ∨ i = 13 ∨ i = 20 ∨ i = 22 ∨ i = 23 ∨ i = 33)) → N.1 a i = M.1 a i) ∧ (∀ a i : Nat, a ≠ 10 → ¬ (a = 3 ∧ 2048 ≤ i) → ¬ (a = 0 ∧ i = 24) → N.2.1 a i = M.2.1 a i) ∧ N.2.2 = M.2.2 ∧ (N.1 0 3 = 0 → M.1 0 3 = 0 ∧ N.1 0 4 = M.1 0 4) ∧ (ao5_ M → ao5_ N)
theorem pg_pf {M N : mm_} (h : pf_ M N) : pg_ M N := ⟨fun a i a1 a2 a3 a4 _ a6 a7 => h.1 a i a1 a2 a3 a4 a6 (by omega), h.2.1, h.2.2⟩
theorem pg_rf (M : mm_) : pg_ M M := pg_pf (pf_rf M)
theorem pg_tr {M N O : mm_} (h1 : pg_ M N) (h2 : pg_ N O) : pg_ M O := ⟨fun a i a1 a2 a3 a4 a5 a6 a7 => (h2.1 a i a1 a2 a3 a4 a5 a6 a7).trans (h1.1 a i a1 a2 a3 a4 a5 a6 a7), fun a i a1 a2 a3 => (h2.2.1 a i a1 a2 a3).trans (h1.2.1 a i a1 a2 a3), h2.2.2.1.trans h1.2.2.1, fun h => ⟨(h1.2.2.2.1 (h2.2.2.2.1 h).1).1, (h2.2.2.2.1 h).2.trans (h1.2.2.2.1 (h2.2.2.2.1 h).1).2⟩, fun h => h2.2.2.2.2 (h1.2.2.2.2 h)⟩
theorem pg_sI {M N : mm_} {a i : Nat} {v : Int32} (h : pg_ M N) (hq : a = 19 ∨ (a = 0 ∧ i = 33)) : pg_ M (sI_ N a i v) := by
  refine ⟨fun x j b1 b2 b3 b4 b5 b6 b7 => ?_, h.2.1, h.2.2.1, fun y => ?_, fun y => ?_⟩
  · rw [sI_ne _ _ _ _ (fun z => by obtain ⟨rfl, rfl⟩ := z; omega)]
    exact h.1 x j b1 b2 b3 b4 b5 b6 b7
  · rw [sI_ne _ _ _ _ (by omega)] at y
    rw [sI_ne _ _ _ _ (by omega)]
    exact h.2.2.2.1 y
  · obtain ⟨r, hr, e⟩ := h.2.2.2.2 y
    exact ⟨r, hr, by rw [sI_ne _ _ _ _ (by omega)]; exact e⟩
theorem pg_s5 {M N : mm_} {q : Nat} (h : pg_ M N) (hq : q < 1073741824) : pg_ M (sI_ N 0 5 (nI q)) := pg_tr h (pg_pf (pf_sI (pf_rf N) (at5_ hq)))
theorem pg_fa {M N : mm_} {f w : Int32} (h : pg_ M N) (hf : ¬ f = 0 := by decide) : pg_ M (fa_ N f w) := pg_tr h (pg_pf (pf_fa (pf_rf N) hf))
theorem pg_tz {M N : mm_} {n : Nat} (h : pg_ M N) (ht : tz_ M n) : tz_ N n := ⟨(h.1 0 2 (by omega) (by omega) (by omega) (by omega) (by omega) (by omega) (by omega)).trans ht.1, ht.2⟩
theorem pg_bf {M N : mm_} {n : Nat} (h : pg_ M N) : bf_ N n = bf_ M n := by
  funext k
  unfold bf_
  rw [h.1 1 k (by omega) (by omega) (by omega) (by omega) (by omega) (by omega) (by omega)]
theorem pg_sp {M N : mm_} {n k : Nat} (h : pg_ M N) : sp_ N n k = sp_ M n k := by unfold sp_; rw [pg_bf h]
theorem fj_cg {M N : mm_} (h : ∀ i, N.1 12 i = M.1 12 i) : ∀ (u j : Nat), fj_ N u j = fj_ M u j
  | 0, _ => rfl
  | u + 1, j => by simp only [fj_]; rw [h, fj_cg h u (j + 1)]
theorem pg_fj {M N : mm_} {u j : Nat} (h : pg_ M N) : fj_ N u j = fj_ M u j := fj_cg (fun i => h.1 12 i (by omega) (by omega) (by omega) (by omega) (by omega) (by omega) (by omega)) u j
theorem fj_two {M : mm_} : ∀ (u j : Nat), j + u ≤ 8 → fj_ M u j = -1 ∨ ∃ b, j ≤ b ∧ b < j + u ∧ fj_ M u j = nI b ∧ M.1 12 b = 0
  | 0, _, _ => Or.inl rfl
  | u + 1, j, h => by
    simp only [fj_]
    by_cases q : M.1 12 j = 0
    · rw [if_pos q]; exact Or.inr ⟨j, Nat.le_refl _, by omega, rfl, q⟩
    · rw [if_neg q]
      rcases fj_two (M := M) u (j + 1) (by omega) with z | ⟨b, b1, b2, b3, b4⟩
      · exact Or.inl z
      · exact Or.inr ⟨b, by omega, by omega, b3, b4⟩
/-- the memory behind a pattern's reading -/
def pb_ (M : mm_) (n s : Nat) : (Nat × Nat) ⊕ (Int32 × Nat) → mm_ → Prop
  | .inl (q, p), N => pg_ M N ∧ N.1 0 3 = 0 ∧ N.1 0 5 = nI q ∧ q ≤ n ∧ N.1 0 33 = nI p ∧ p ≤ 12 ∧ ∀ i, i < p → N.1 19 i = bf_ M n (s + i)
  | .inr (f, w), N => pg_ M N ∧ N.1 0 3 = f ∧ N.1 0 4 = nI w ∧ 0 < f ∧ ∃ q : Nat, q ≤ n ∧ N.1 0 5 = nI q
theorem rq_pb {M : mm_} {n s : Nat} (hn : n ≤ 200) : ∀ (u : Nat) (N : mm_) (k p : Nat), k + u = n → k = s + p → pb_ M n s (.inl (k, p)) N → pb_ M n s (pa4_ (bf_ M n) u k p) (rq_ n u N k p)
  | 0, N, k, p, _, _, h => h
  | u + 1, N, k, p, hu, hk, h => by
    have h' := h
    obtain ⟨h1, h2, h3, h4, h5, h6, h7⟩ := h
    have eb : bf_ N n k = bf_ M n k := by rw [pg_bf h1]
    simp only [pa4_, rq_]
    rw [eb]
    by_cases c1 : 32 < bf_ M n k
    · rw [if_pos c1, if_pos c1]
      by_cases c2 : io_ (bf_ M n k) = 0 ∧ ¬ bf_ M n k = 42 ∧ ¬ bf_ M n k = 63
      · rw [if_pos c2, if_pos c2]
        exact ⟨pg_fa h1, by rw [fa_0 h2]; simp [sI_], by rw [fa_0 h2]; simp [sI_], by decide, k, h4, by rw [fa_0 h2]; simp [sI_, h3]⟩
      · rw [if_neg c2, if_neg c2]
        by_cases c3 : p = 12
        · rw [if_pos c3, if_pos c3]
          exact ⟨pg_fa h1, by rw [fa_0 h2]; simp [sI_], by rw [fa_0 h2]; simp [sI_], by decide, k, h4, by rw [fa_0 h2]; simp [sI_, h3]⟩
        · rw [if_neg c3, if_neg c3]
          refine rq_pb hn u _ (k + 1) (p + 1) (by omega) (by omega) ⟨pg_s5 (pg_sI (pg_sI h1 (by omega)) (by omega)) (by omega), by simp [sI_, h2], by simp [sI_], by omega, by simp [sI_], by omega, fun i hi => ?_⟩
          rw [sI_ne _ _ _ _ (by omega), sI_ne _ _ _ _ (by omega)]
          by_cases c4 : i = p
          · subst c4; rw [← hk]; simp [sI_]
          · rw [sI_ne _ _ _ _ (by omega)]; exact h7 i (by omega)
    · rw [if_neg c1, if_neg c1]
      exact h'
theorem rp_pb {M : mm_} {n k s : Nat} (hn : n ≤ 200) (hf : M.1 0 3 = 0) (hk : k ≤ n) (hs : s = sp_ M n k) : pb_ M n s (pd_ M n s) (rp_ M n k) := by
  have hsn := (sp_le (M := M) hk).2
  rw [← hs] at hsn
  unfold pd_ rp_
  rw [← hs]
  have g1 : pg_ M (sI_ (sI_ M 0 5 (nI s)) 0 33 0) := pg_sI (pg_s5 (pg_rf M) (by omega)) (by omega)
  have g2 : (sI_ (sI_ M 0 5 (nI s)) 0 33 0).1 0 3 = 0 := by simp [sI_, hf]
  by_cases c : s < n
  · rw [if_pos c, if_pos c]
    exact rq_pb hn (n - s) _ s 0 (by omega) (by omega) ⟨g1, g2, by simp [sI_], by omega, by simp [sI_]; rfl, by omega, fun i hi => absurd hi (by omega)⟩
  · rw [if_neg c, if_neg c]
    exact ⟨pg_fa g1, by rw [fa_0 g2]; simp [sI_], by rw [fa_0 g2]; simp [sI_], by decide, s, hsn, by rw [fa_0 g2]; simp [sI_]⟩
theorem c12_readPattern2 (G : gg_) (hG : gd_ G) (d : Nat) (M : mm_) (n k s : Nat) (ht : tz_ M n) (ha : M.1 0 5 = nI k) (hk : k ≤ n) (hf : M.1 0 3 = 0) (hs : s = sp_ M n k) : cm_ G yX12_readPattern cX12_readPattern 2 none (d + 2) [.ref (G.1 0)] M (rV_ (pb_ M n s (pd_ M n s))) :=
  cm_post (c12_readPattern G hG d M n k ht ha (by have := ht.2; omega) hf) (fun v N h => by
    obtain ⟨e1, e2⟩ := h
    refine ⟨e1, ?_⟩
    rw [e2]
    exact rp_pb ht.2 hf hk hs)
/-- simple: the pattern's size, or the fault -/
def sb_ (M : mm_) (n : Nat) : (Nat × Nat) ⊕ (Int32 × Nat) → Nat ⊕ (Int32 × Nat)
  | .inr q => .inr q
  | .inl (q, p) => if sp_ M n q < n then .inr (1, sp_ M n q) else if fj_ M 8 0 < 0 then .inr (5, n) else .inl p
def fo4_ (M : mm_) (f : Int32) (w : Nat) (r : Int32) (N : mm_) : Prop := r = -1 ∧ pg_ M N ∧ N.1 0 3 = f ∧ N.1 0 4 = nI w ∧ 0 < f
def so4_ (M : mm_) (n s : Nat) (kd : Int32) : Nat ⊕ (Int32 × Nat) → Int32 → mm_ → Prop
  | .inr (f, w), r, N => fo4_ M f w r N
  | .inl p, r, N => ∃ b N0, r = nI b ∧ b < 8 ∧ fj_ M 8 0 = nI b ∧ M.1 12 b = 0 ∧ pg_ M N0 ∧ N0.1 0 3 = 0 ∧ p ≤ 12 ∧ (∀ i, i < p → N0.1 19 i = bf_ M n (s + i)) ∧ N = nj_ N0 b p kd
set_option maxRecDepth 100000 in
set_option maxHeartbeats 4000000 in
theorem c12_simple (G : gg_) (hG : gd_ G) (d : Nat) (M : mm_) (n k s : Nat) (kd : Int32) (ht : tz_ M n) (h5 : M.1 0 5 = nI k) (hk : k ≤ n) (hf : M.1 0 3 = 0) (hs : s = sp_ M n k) : cm_ G yX12_simple cX12_simple 3 (some .int) (d + 3) [.ref (G.1 0), .int kd] M (rI_ (so4_ M n s kd (sb_ M n (pd_ M n s)))) := by
  refine cm_of hG (by decide) (Nat.le_of_ble_eq_true rfl) (fun C X => ?_)
  have hn := ht.2
  generalize hR : sb_ M n (pd_ M n s) = R
  have jf : ∀ (N : mm_) (f : Int32) (w : Nat) (l1 l2 : Option Value), pg_ M N → N.1 0 3 = f → N.1 0 4 = nI w → 0 < f → R = .inr (f, w) → wq_ C G (qe_ C G (rI_ (so4_ M n s kd R))) 33 [some (.ref (G.1 0)), l1, l2] [] N := by
    intro N f w l1 l2 hp h3 h4 hpos hr
    refine w_aload_n X dX12_simple_33 rfl rfl ?_
    refine g12_fault X dX12_simple_34 ?_
    try simp only [gI_sI, gI_sL, gL_sI, gL_sL, false_and, and_false, and_self, if_false, if_true, reduceIte, Nat.reduceEqDiff, h3]
    refine w_if_le (tgt := 44) X dX12_simple_37 (by decide) (fun h37 => absurd h37 (Int32.not_le.mpr hpos)) (fun h37 => ?_)
    refine w_iconst (v := -1) X dX12_simple_40 (by decide) ?_
    refine w_goto (tgt := 50) X dX12_simple_41 (by decide) ?_
    refine w_irR X dX12_simple_50 ?_
    rw [hr]
    exact ⟨rfl, hp, h3, h4, hpos⟩
  refine w_aload_n X dX12_simple_0 rfl rfl ?_
  refine w_v0rV X dX12_simple_1 k12_readPattern rfl rfl (c12_readPattern2 G hG _ M n k s ht h5 hk hf hs) (Nat.le_of_ble_eq_true rfl) (fun N1 h1 => ?_)
  cases hS : pd_ M n s with
  | inr q =>
    obtain ⟨f, w⟩ := q
    rw [hS] at h1 hR
    obtain ⟨g1, g2, g3, hpos, q, hq, g5⟩ := h1
    have hf0 : ¬ f = 0 := fun q => by rw [q] at hpos; exact absurd hpos (by decide)
    have hspN := (sp_le (M := N1) hq).2
    refine w_aload_n X dX12_simple_4 rfl rfl ?_
    refine w_v0fV X dX12_simple_5 k12_wantEnd rfl rfl (c12_wantEnd G hG _ N1 n q (pg_tz g1 ht) g5 (by omega)) (Nat.le_of_ble_eq_true rfl) ?_
    rw [if_neg (fun y => hf0 (g2.symm.trans y.1))]
    refine w_aload_n X dX12_simple_8 rfl rfl ?_
    refine w_v0fI X dX12_simple_9 k12_freeJob rfl rfl (c12_freeJob G hG _ _) (Nat.le_of_ble_eq_true rfl) ?_
    refine w_istore_n X dX12_simple_12 rfl (by decide) ?_
    refine w_aload_n X dX12_simple_13 rfl rfl ?_
    refine g12_fault X dX12_simple_14 ?_
    try simp only [gI_sI, gI_sL, gL_sI, gL_sL, false_and, and_false, and_self, if_false, if_true, reduceIte, Nat.reduceEqDiff, g2]
    refine w_if_ne (tgt := 33) X dX12_simple_17 (by decide) (fun h17 => ?_) (fun h17 => absurd h17 hf0)
    exact jf _ f w _ _ (pg_s5 g1 (by omega)) (by simpa [sI_] using g2) (by simpa [sI_] using g3) hpos hR.symm
  | inl q =>
    obtain ⟨q, p⟩ := q
    rw [hS] at h1 hR
    obtain ⟨g1, g2, g3, g4, g5, g6, g7⟩ := h1
    have esp : sp_ N1 n q = sp_ M n q := pg_sp g1
    have hspn := (sp_le (M := M) g4).2
    have gt := pg_tz g1 ht
    simp only [sb_] at hR
    have e4 : (sI_ N1 0 5 (nI (sp_ M n q))).1 0 3 = 0 := by simpa [sI_] using g2
    by_cases hsp : sp_ M n q < n
    · rw [if_pos hsp] at hR
      have k3 : (fa_ (sI_ N1 0 5 (nI (sp_ M n q))) 1 (nI (sp_ M n q))).1 0 3 = 1 := by rw [fa_0 e4]; simp [sI_]
      have k4 : (fa_ (sI_ N1 0 5 (nI (sp_ M n q))) 1 (nI (sp_ M n q))).1 0 4 = nI (sp_ M n q) := by rw [fa_0 e4]; simp [sI_]
      refine w_aload_n X dX12_simple_4 rfl rfl ?_
      refine w_v0fV X dX12_simple_5 k12_wantEnd rfl rfl (c12_wantEnd G hG _ N1 n q gt g3 (by omega)) (Nat.le_of_ble_eq_true rfl) ?_
      rw [esp]
      rw [if_pos ⟨g2, hsp⟩]
      refine w_aload_n X dX12_simple_8 rfl rfl ?_
      refine w_v0fI X dX12_simple_9 k12_freeJob rfl rfl (c12_freeJob G hG _ _) (Nat.le_of_ble_eq_true rfl) ?_
      refine w_istore_n X dX12_simple_12 rfl (by decide) ?_
      refine w_aload_n X dX12_simple_13 rfl rfl ?_
      refine g12_fault X dX12_simple_14 ?_
      try simp only [gI_sI, gI_sL, gL_sI, gL_sL, false_and, and_false, and_self, if_false, if_true, reduceIte, Nat.reduceEqDiff, k3]
      refine w_if_ne (tgt := 33) X dX12_simple_17 (by decide) (fun h17 => ?_) (fun h17 => absurd h17 (by decide))
      exact jf _ 1 _ _ _ (pg_fa (pg_s5 g1 (by omega))) k3 k4 (by decide) hR.symm
    · rw [if_neg hsp] at hR
      have n2 : N1.1 0 2 = nI n := gt.1
      have gp : pg_ M (sI_ N1 0 5 (nI (sp_ M n q))) := pg_s5 g1 (by omega)
      have efj : fj_ (sI_ N1 0 5 (nI (sp_ M n q))) 8 0 = fj_ M 8 0 := pg_fj gp
      rcases fj_two (M := M) 8 0 (by omega) with hj | ⟨b, -, hb, hj, hb0⟩
      · rw [hj, if_pos (by decide)] at hR
        refine w_aload_n X dX12_simple_4 rfl rfl ?_
        refine w_v0fV X dX12_simple_5 k12_wantEnd rfl rfl (c12_wantEnd G hG _ N1 n q gt g3 (by omega)) (Nat.le_of_ble_eq_true rfl) ?_
        rw [esp]
        rw [if_neg (fun y => hsp y.2)]
        refine w_aload_n X dX12_simple_8 rfl rfl ?_
        refine w_v0fI X dX12_simple_9 k12_freeJob rfl rfl (c12_freeJob G hG _ _) (Nat.le_of_ble_eq_true rfl) ?_
        rw [efj, hj]
        refine w_istore_n X dX12_simple_12 rfl (by decide) ?_
        refine w_aload_n X dX12_simple_13 rfl rfl ?_
        refine g12_fault X dX12_simple_14 ?_
        try simp only [gI_sI, gI_sL, gL_sI, gL_sL, false_and, and_false, and_self, if_false, if_true, reduceIte, Nat.reduceEqDiff, g2, n2]
        refine w_if_ne (tgt := 33) X dX12_simple_17 (by decide) (fun h17 => absurd rfl h17) (fun h17 => ?_)
        refine w_iload_n X dX12_simple_20 rfl rfl ?_
        refine w_if_ge (tgt := 33) X dX12_simple_21 (by decide) (fun h21 => absurd h21 (by decide)) (fun h21 => ?_)
        refine w_aload_n X dX12_simple_24 rfl rfl ?_
        refine w_iconst (v := 5) X dX12_simple_25 (by decide) ?_
        refine w_aload_n X dX12_simple_26 rfl rfl ?_
        refine g12_size X dX12_simple_27 ?_
        try simp only [gI_sI, gI_sL, gL_sI, gL_sL, false_and, and_false, and_self, if_false, if_true, reduceIte, Nat.reduceEqDiff, g2, n2]
        refine w_v2fV X dX12_simple_30 k12_fail rfl rfl (c12_fail G hG _ _ _ _) (Nat.le_of_ble_eq_true rfl) ?_
        exact jf _ 5 n _ _ (pg_fa gp) (by rw [fa_0 e4]; simp [sI_]) (by rw [fa_0 e4]; simp [sI_]) (by decide) hR.symm
      · have hnb : ¬ nI b < 0 := nI_pos (by omega)
        rw [hj, if_neg hnb] at hR
        refine w_aload_n X dX12_simple_4 rfl rfl ?_
        refine w_v0fV X dX12_simple_5 k12_wantEnd rfl rfl (c12_wantEnd G hG _ N1 n q gt g3 (by omega)) (Nat.le_of_ble_eq_true rfl) ?_
        rw [esp]
        rw [if_neg (fun y => hsp y.2)]
        refine w_aload_n X dX12_simple_8 rfl rfl ?_
        refine w_v0fI X dX12_simple_9 k12_freeJob rfl rfl (c12_freeJob G hG _ _) (Nat.le_of_ble_eq_true rfl) ?_
        rw [efj, hj]
        refine w_istore_n X dX12_simple_12 rfl (by decide) ?_
        refine w_aload_n X dX12_simple_13 rfl rfl ?_
        refine g12_fault X dX12_simple_14 ?_
        try simp only [gI_sI, gI_sL, gL_sI, gL_sL, false_and, and_false, and_self, if_false, if_true, reduceIte, Nat.reduceEqDiff, g2, n2]
        refine w_if_ne (tgt := 33) X dX12_simple_17 (by decide) (fun h17 => absurd rfl h17) (fun h17 => ?_)
        refine w_iload_n X dX12_simple_20 rfl rfl ?_
        refine w_if_ge (tgt := 33) X dX12_simple_21 (by decide) (fun h21 => ?_) (fun h21 => absurd (Int32.not_lt.mp hnb) h21)
        refine w_aload_n X dX12_simple_33 rfl rfl ?_
        refine g12_fault X dX12_simple_34 ?_
        try simp only [gI_sI, gI_sL, gL_sI, gL_sL, false_and, and_false, and_self, if_false, if_true, reduceIte, Nat.reduceEqDiff, g2, n2]
        refine w_if_le (tgt := 44) X dX12_simple_37 (by decide) (fun h37 => ?_) (fun h37 => absurd (by decide) h37)
        refine w_aload_n X dX12_simple_44 rfl rfl ?_
        refine w_iload_n X dX12_simple_45 rfl rfl ?_
        refine w_iload_n X dX12_simple_46 rfl rfl ?_
        refine w_v2fI X dX12_simple_47 k12_newJob rfl rfl (c12_newJob G hG _ _ b p (by omega) (by simpa [sI_] using g5) g6 kd) (Nat.le_of_ble_eq_true rfl) ?_
        refine w_irR X dX12_simple_50 ?_
        rw [← hR]
        refine ⟨b, _, rfl, by omega, hj, hb0, gp, e4, g6, fun i hi => ?_, rfl⟩
        rw [sI_ne _ _ _ _ (by omega)]
        exact g7 i hi

end
section
/-! what watch needs: the reading of an expression looks at the tape, inCommand and variables alone; a row kept; the frame with a free job's two rows -/
theorem so_cg {M N : mm_} {n k nd op : Nat} {W : List fr_} (e1 : bf_ N n = bf_ M n) (e14 : N.1 0 14 = M.1 0 14) (e15 : N.1 0 15 = M.1 0 15) : so_ N n k W nd op = so_ M n k W nd op := by
  have e2 : ∀ j, rz_ N n j = rz_ M n j := fun j => by unfold rz_; rw [e1]
  have e3 : ∀ c, vo_ N c = vo_ M c := fun c => by unfold vo_; rw [e14, e15]
  have e4 : rr_ N n k W nd op = rr_ M n k W nd op := by unfold rr_; rw [e1, e14, e2, e3]
  unfold so_ so2_
  rw [e1, e14, e4]
theorem lo_cg {M N : mm_} {n : Nat} (e1 : bf_ N n = bf_ M n) (e14 : N.1 0 14 = M.1 0 14) (e15 : N.1 0 15 = M.1 0 15) : ∀ (t : Nat) (S : ss_), lo_ N n t S = lo_ M n t S
  | 0, _ => rfl
  | t + 1, (k, W, u, nd, op) => by
    cases u with
    | none =>
      simp only [lo_]
      rw [so_cg e1 e14 e15]
      cases hS : so_ M n k W nd op with
      | inl S2 => exact lo_cg e1 e14 e15 t S2
      | inr q => rfl
    | some e =>
      simp only [lo_]
      rw [e1, e14]
      cases hS : si_ (bf_ M n k) k W e nd op with
      | inl S2 => simp only; rw [lo_cg e1 e14 e15 t S2]
      | inr q => rfl
theorem ex_cg {M N : mm_} {n k : Nat} (e1 : bf_ N n = bf_ M n) (e14 : N.1 0 14 = M.1 0 14) (e15 : N.1 0 15 = M.1 0 15) : ex_ N n k = ex_ M n k := by
  unfold ex_
  rw [lo_cg e1 e14 e15]
/-- row t holds the code of the tree e -/
def sd_ (M : mm_) (t : Nat) (e : Term) : Prop := M.1 4 t = nI (tc_ e).length ∧ ∀ (i : Nat) (x : sv_), (tc_ e)[i]? = some x → M.1 2 (64 * t + i) = x.1 ∧ M.2.1 3 (64 * t + i) = x.2
theorem kx_R {M : mm_} {t : Nat} : ∀ (j : Nat), (kx_ M t j).2.2 = M.2.2
  | 0 => rfl
  | j + 1 => kx_R (M := M) (t := t) j
/-- keepExpression keeps the tree that was read -/
theorem sd_kx {M : mm_} {t n k nd op : Nat} {e : Term} (ht : t < 32) (h : pr_ M n k [] (some e) nd op) : sd_ (sI_ (kx_ M t (tc_ e).length) 4 t (nI (tc_ e).length)) t e := by
  have hl : (tc_ e).length ≤ 40 := by have := (pr_len h).1; simpa [cs_, cu_] using this
  have hc := h.2.2.1.2
  refine ⟨by simp [sI_], fun i x hx => ?_⟩
  have hi : i < (tc_ e).length := by
    rcases Nat.lt_or_ge i (tc_ e).length with q | q
    · exact q
    · rw [List.getElem?_eq_none q] at hx; cases hx
  obtain ⟨c1, c2⟩ := hc i x (by simpa [cs_, cu_] using hx)
  constructor
  · rw [sI_ne _ _ _ _ (by omega), kx_I ht _ (by omega), if_pos (by omega), show 2048 + (64 * t + i - 64 * t) = 2048 + i by omega]
    exact c1
  · show (kx_ M t (tc_ e).length).2.1 3 (64 * t + i) = x.2
    rw [kx_L ht _ (by omega), if_pos (by omega), show 2048 + (64 * t + i - 64 * t) = 2048 + i by omega]
    exact c2
/-- a row kept stays where nothing is written into it -/
theorem sd_cg {M N : mm_} {t : Nat} {e : Term} (h : sd_ M t e) (hl : (tc_ e).length ≤ 64) (h4 : N.1 4 t = M.1 4 t) (h2 : ∀ i, i < 64 → N.1 2 (64 * t + i) = M.1 2 (64 * t + i)) (h3 : ∀ i, i < 64 → N.2.1 3 (64 * t + i) = M.2.1 3 (64 * t + i)) : sd_ N t e := by
  refine ⟨h4.trans h.1, fun i x hx => ?_⟩
  have hi : i < (tc_ e).length := by
    rcases Nat.lt_or_ge i (tc_ e).length with q | q
    · exact q
    · rw [List.getElem?_eq_none q] at hx; cases hx
  obtain ⟨c1, c2⟩ := h.2 i x hx
  exact ⟨(h2 i (by omega)).trans c1, (h3 i (by omega)).trans c2⟩
/-- nothing but the parser's cells, the new pattern and the two rows of job J has changed -/
def ph_ (J : Nat) (M N : mm_) : Prop := (∀ a i : Nat, a ≠ 7 → a ≠ 8 → a ≠ 9 → a ≠ 11 → a ≠ 19 → ¬ (a = 2 ∧ 2048 ≤ i) → ¬ (a = 2 ∧ 1024 + 128 * J ≤ i ∧ i < 1152 + 128 * J) → ¬ (a = 4 ∧ (i = 16 + 2 * J ∨ i = 17 + 2 * J)) → ¬ (a = 0 ∧ (i = 3 ∨ i = 4 ∨ i = 5 ∨ i = 12 ∨ i = 13 ∨ i = 20 ∨ i = 22 ∨ i = 23 ∨ i = 33)) → N.1 a i = M.1 a i) ∧ (∀ a i : Nat, a ≠ 10 → ¬ (a = 3 ∧ 2048 ≤ i) → ¬ (a = 3 ∧ 1024 + 128 * J ≤ i ∧ i < 1152 + 128 * J) → ¬ (a = 0 ∧ i = 24) → N.2.1 a i = M.2.1 a i) ∧ N.2.2 = M.2.2 ∧ (N.1 0 3 = 0 → M.1 0 3 = 0 ∧ N.1 0 4 = M.1 0 4) ∧ (ao5_ M → ao5_ N)
theorem ph_pg {J : Nat} {M N : mm_} (h : pg_ M N) : ph_ J M N := ⟨fun a i a1 a2 a3 a4 a5 a6 _ _ a7 => h.1 a i a1 a2 a3 a4 a5 a6 a7, fun a i a1 a2 _ a3 => h.2.1 a i a1 a2 a3, h.2.2⟩
theorem ph_tr {J : Nat} {M N O : mm_} (h1 : ph_ J M N) (h2 : ph_ J N O) : ph_ J M O := ⟨fun a i a1 a2 a3 a4 a5 a6 a7 a8 a9 => (h2.1 a i a1 a2 a3 a4 a5 a6 a7 a8 a9).trans (h1.1 a i a1 a2 a3 a4 a5 a6 a7 a8 a9), fun a i a1 a2 a3 a4 => (h2.2.1 a i a1 a2 a3 a4).trans (h1.2.1 a i a1 a2 a3 a4), h2.2.2.1.trans h1.2.2.1, fun h => ⟨(h1.2.2.2.1 (h2.2.2.2.1 h).1).1, (h2.2.2.2.1 h).2.trans (h1.2.2.2.1 (h2.2.2.2.1 h).1).2⟩, fun h => h2.2.2.2.2 (h1.2.2.2.2 h)⟩
theorem ph_kx {J : Nat} {M N : mm_} {t l : Nat} (h : ph_ J M N) (hJ : J < 8) (ht : t = 16 + 2 * J ∨ t = 17 + 2 * J) (hl : l ≤ 64) : ph_ J M (sI_ (kx_ N t l) 4 t (nI l)) := by
  have e0 : ∀ i, (sI_ (kx_ N t l) 4 t (nI l)).1 0 i = N.1 0 i := fun i => by rw [sI_ne _ _ _ _ (by omega), kx_I (by omega) _ hl, if_neg (by omega)]
  refine ph_tr h ⟨fun a i a1 a2 a3 a4 a5 a6 a7 a8 a9 => ?_, fun a i a1 a2 a3 a4 => ?_, ?_, fun y => ?_, fun y => ?_⟩
  · rw [sI_ne _ _ _ _ (by omega), kx_I (by omega) _ hl, if_neg (by omega)]
  · show (kx_ N t l).2.1 a i = N.2.1 a i
    rw [kx_L (by omega) _ hl, if_neg (by omega)]
  · show (kx_ N t l).2.2 = N.2.2
    exact kx_R l
  · rw [e0] at y
    exact ⟨y, e0 4⟩
  · obtain ⟨r, hr, e⟩ := y
    exact ⟨r, hr, by rw [e0]; exact e⟩
theorem ph_at {J : Nat} {M N : mm_} (h : ph_ J M N) {i : Nat} (hi : i ≠ 3 ∧ i ≠ 4 ∧ i ≠ 5 ∧ i ≠ 12 ∧ i ≠ 13 ∧ i ≠ 20 ∧ i ≠ 22 ∧ i ≠ 23 ∧ i ≠ 33) : N.1 0 i = M.1 0 i := h.1 0 i (by omega) (by omega) (by omega) (by omega) (by omega) (by omega) (by omega) (by omega) (by omega)
theorem ph_tz {J : Nat} {M N : mm_} {n : Nat} (h : ph_ J M N) (ht : tz_ M n) : tz_ N n := ⟨(ph_at h (by omega)).trans ht.1, ht.2⟩
theorem ph_bf {J : Nat} {M N : mm_} {n : Nat} (h : ph_ J M N) : bf_ N n = bf_ M n := by
  funext k
  unfold bf_
  rw [h.1 1 k (by omega) (by omega) (by omega) (by omega) (by omega) (by omega) (by omega) (by omega) (by omega)]
theorem ph_sp {J : Nat} {M N : mm_} {n k : Nat} (h : ph_ J M N) : sp_ N n k = sp_ M n k := by unfold sp_; rw [ph_bf h]
theorem ph_ex {J : Nat} {M N : mm_} {n k : Nat} (h : ph_ J M N) : ex_ N n k = ex_ M n k := ex_cg (ph_bf h) (ph_at h (by omega)) (ph_at h (by omega))
theorem ph_sm {J : Nat} {M N : mm_} {n k : Nat} {l : Int32} (h : ph_ J M N) : sm_ N n k l = sm_ M n k l := by unfold sm_; rw [ph_bf h]
theorem ph_s5 {J : Nat} {M N : mm_} {q : Nat} (h : ph_ J M N) (hq : q < 1073741824) : ph_ J M (sI_ N 0 5 (nI q)) := ph_tr h (ph_pg (pg_s5 (pg_rf N) hq))
theorem ph_fa {J : Nat} {M N : mm_} {f w : Int32} (h : ph_ J M N) (hf : ¬ f = 0 := by decide) : ph_ J M (fa_ N f w) := ph_tr h (ph_pg (pg_fa (pg_rf N) hf))


end
section
/-! watch: its answer, and its roads behind a fault -/
/-- the free job: its number, or 8 and -1 -/
def hj_ (M : mm_) (J : Nat) : Prop := (fj_ M 8 0 = -1 ∧ J = 8) ∨ (fj_ M 8 0 = nI J ∧ J < 8 ∧ M.1 12 J = 0)
theorem hj_ex (M : mm_) : ∃ J, hj_ M J := by
  rcases fj_two (M := M) 8 0 (by omega) with h | ⟨b, -, hb, h, h0⟩
  · exact ⟨8, Or.inl ⟨h, rfl⟩⟩
  · exact ⟨b, Or.inr ⟨h, by omega, h0⟩⟩
/-- what watch is told: point, where the pattern begins, its size, expression, condition, limit -/
abbrev wr2_ : Type := Int32 × Nat × Nat × Term × Option Term × Int32
def oc_ : Option Term → Int32
  | none => 0
  | some _ => 1
def wo_ (M : mm_) (n : Nat) : wr2_ ⊕ (Int32 × Nat) → Int32 → mm_ → Prop
  | .inr (f, w), r, N => r = -1 ∧ (∃ J, hj_ M J ∧ ph_ J M N) ∧ N.1 0 3 = f ∧ N.1 0 4 = nI w ∧ 0 < f
  | .inl (pt, s, p, e1, e2, lim), r, N => ∃ b N0, r = nI b ∧ b < 8 ∧ hj_ M b ∧ ph_ b M N0 ∧ N0.1 0 3 = 0 ∧ p ≤ 12 ∧ (∀ i, i < p → N0.1 19 i = bf_ M n (s + i)) ∧ sd_ N0 (16 + 2 * b) e1 ∧ (∀ e, e2 = some e → sd_ N0 (17 + 2 * b) e) ∧ N = sI_ (sI_ (sI_ (nj_ N0 b p 1) 13 b pt) 14 b lim) 16 b (vp_nar .boolean (oc_ e2))
/-- a fault in watch -/
def wf_ (M : mm_) (n J : Nat) (R : wr2_ ⊕ (Int32 × Nat)) (N : mm_) : Prop := ∃ (f : Int32) (w : Nat), ph_ J M N ∧ N.1 0 3 = f ∧ N.1 0 4 = nI w ∧ 0 < f ∧ ao5_ N ∧ R = .inr (f, w)
theorem wf_0 {M N : mm_} {n J : Nat} {R : wr2_ ⊕ (Int32 × Nat)} (h : wf_ M n J R N) : ¬ N.1 0 3 = 0 := by
  obtain ⟨f, w, -, h3, -, hp, -, -⟩ := h
  rw [h3]
  intro q
  rw [q] at hp
  exact absurd hp (by decide)
theorem sp_b {M : mm_} {n k : Nat} (hn : n ≤ 200) (hk : k < 1073741824) : sp_ M n k < 1073741824 := by
  have := sk_ge (bf_ M n) (n - k) k
  unfold sp_
  omega
set_option maxRecDepth 100000 in
set_option maxHeartbeats 4000000 in
theorem w12_watch_f165 {C : mc_} {G : gg_} (hG : gd_ G) {d : Nat} {M N : mm_} {n J : Nat} {R : wr2_ ⊕ (Int32 × Nat)} (ht : tz_ M n) (hJ : hj_ M J) (X : cx_ C G RX12 cX12_watch 5 (some .int) (d + 8)) (l1 l2 l3 l4 : Option Value) (h : wf_ M n J R N) : wq_ C G (qe_ C G (rI_ (wo_ M n R))) 165 [some (.ref (G.1 0)), l1, l2, l3, l4] [] N := by
  have h0 := wf_0 h
  obtain ⟨f, w, hp, h3, h4, hpos, ha, hr⟩ := h
  refine w_aload_n X dX12_watch_165 rfl rfl ?_
  refine g12_fault X dX12_watch_166 ?_
  try simp only [gI_sI, gI_sL, gL_sI, gL_sL, false_and, and_false, and_self, if_false, if_true, reduceIte, Nat.reduceEqDiff, h3]
  refine w_if_le (tgt := 174) X dX12_watch_169 (by decide) (fun h169 => absurd h169 (Int32.not_le.mpr hpos)) (fun h169 => ?_)
  refine w_iconst (v := -1) X dX12_watch_172 (by decide) ?_
  refine w_irR X dX12_watch_173 ?_
  rw [hr]
  exact ⟨rfl, ⟨J, hJ, hp⟩, h3, h4, hpos⟩
set_option maxRecDepth 100000 in
set_option maxHeartbeats 4000000 in
theorem w12_watch_f145 {C : mc_} {G : gg_} (hG : gd_ G) {d : Nat} {M N : mm_} {n J : Nat} {R : wr2_ ⊕ (Int32 × Nat)} (ht : tz_ M n) (hJ : hj_ M J) (X : cx_ C G RX12 cX12_watch 5 (some .int) (d + 8)) (l1 l2 l3 l4 : Option Value) (h : wf_ M n J R N) : wq_ C G (qe_ C G (rI_ (wo_ M n R))) 145 [some (.ref (G.1 0)), l1, l2, l3, l4] [] N := by
  have h0 := wf_0 h
  refine w_aload_n X dX12_watch_145 rfl rfl ?_
  refine g12_fault X dX12_watch_146 ?_
  refine w_if_ne (tgt := 165) X dX12_watch_149 (by decide) (fun h149 => ?_) (fun h149 => absurd h149 h0)
  exact w12_watch_f165 hG ht hJ X _ _ _ _ h
set_option maxRecDepth 100000 in
set_option maxHeartbeats 4000000 in
theorem w12_watch_f141 {C : mc_} {G : gg_} (hG : gd_ G) {d : Nat} {M N : mm_} {n J : Nat} {R : wr2_ ⊕ (Int32 × Nat)} (ht : tz_ M n) (hJ : hj_ M J) (X : cx_ C G RX12 cX12_watch 5 (some .int) (d + 8)) (l1 l2 l3 l4 : Option Value) (h : wf_ M n J R N) : wq_ C G (qe_ C G (rI_ (wo_ M n R))) 141 [some (.ref (G.1 0)), l1, l2, l3, l4] [] N := by
  have h0 := wf_0 h
  obtain ⟨f, w, hp, h3, h4, hpos, ⟨q, hq, h5⟩, hr⟩ := h
  have hs := sp_b (M := N) (n := n) (k := q) ht.2 hq
  refine w_aload_n X dX12_watch_141 rfl rfl ?_
  refine w_v0fV X dX12_watch_142 k12_wantEnd rfl rfl (c12_wantEnd G hG _ N n q (ph_tz hp ht) h5 hq) (Nat.le_of_ble_eq_true rfl) ?_
  rw [if_neg (fun y => h0 y.1)]
  exact w12_watch_f145 hG ht hJ X _ _ _ _ ⟨f, w, ph_s5 hp hs, by simpa [sI_] using h3, by simpa [sI_] using h4, hpos, ⟨_, hs, by simp [sI_]⟩, hr⟩
set_option maxRecDepth 100000 in
set_option maxHeartbeats 4000000 in
theorem w12_watch_f112 {C : mc_} {G : gg_} (hG : gd_ G) {d : Nat} {M N : mm_} {n J : Nat} {R : wr2_ ⊕ (Int32 × Nat)} (ht : tz_ M n) (hJ : hj_ M J) (X : cx_ C G RX12 cX12_watch 5 (some .int) (d + 8)) (l1 l2 l3 l4 : Option Value) (h : wf_ M n J R N) : wq_ C G (qe_ C G (rI_ (wo_ M n R))) 112 [some (.ref (G.1 0)), l1, l2, l3, l4] [] N := by
  have h0 := wf_0 h
  refine w_aload_n X dX12_watch_112 rfl rfl ?_
  refine g12_fault X dX12_watch_113 ?_
  refine w_if_ne (tgt := 141) X dX12_watch_116 (by decide) (fun h116 => ?_) (fun h116 => absurd h116 h0)
  exact w12_watch_f141 hG ht hJ X _ _ _ _ h
set_option maxRecDepth 100000 in
set_option maxHeartbeats 4000000 in
theorem w12_watch_f63 {C : mc_} {G : gg_} (hG : gd_ G) {d : Nat} {M N : mm_} {n J : Nat} {R : wr2_ ⊕ (Int32 × Nat)} (ht : tz_ M n) (hJ : hj_ M J) (X : cx_ C G RX12 cX12_watch 5 (some .int) (d + 8)) (l1 l2 l3 l4 : Option Value) (h : wf_ M n J R N) : wq_ C G (qe_ C G (rI_ (wo_ M n R))) 63 [some (.ref (G.1 0)), l1, l2, l3, l4] [] N := by
  have h0 := wf_0 h
  refine w_aload_n X dX12_watch_63 rfl rfl ?_
  refine g12_fault X dX12_watch_64 ?_
  refine w_if_ne (tgt := 112) X dX12_watch_67 (by decide) (fun h67 => ?_) (fun h67 => absurd h67 h0)
  exact w12_watch_f112 hG ht hJ X _ _ _ _ h
set_option maxRecDepth 100000 in
set_option maxHeartbeats 4000000 in
theorem w12_watch_f42 {C : mc_} {G : gg_} (hG : gd_ G) {d : Nat} {M N : mm_} {n J : Nat} {R : wr2_ ⊕ (Int32 × Nat)} (ht : tz_ M n) (hJ : hj_ M J) (X : cx_ C G RX12 cX12_watch 5 (some .int) (d + 8)) (l1 l2 l3 l4 : Option Value) (h : wf_ M n J R N) : wq_ C G (qe_ C G (rI_ (wo_ M n R))) 42 [some (.ref (G.1 0)), l1, l2, l3, l4] [] N := by
  have h0 := wf_0 h
  refine w_aload_n X dX12_watch_42 rfl rfl ?_
  refine g12_fault X dX12_watch_43 ?_
  refine w_if_ne (tgt := 63) X dX12_watch_46 (by decide) (fun h46 => ?_) (fun h46 => absurd h46 h0)
  exact w12_watch_f63 hG ht hJ X _ _ _ _ h
set_option maxRecDepth 100000 in
set_option maxHeartbeats 4000000 in
theorem w12_watch_f89 {C : mc_} {G : gg_} (hG : gd_ G) {d : Nat} {M N : mm_} {n J : Nat} {R : wr2_ ⊕ (Int32 × Nat)} (ht : tz_ M n) (hJ : hj_ M J) (X : cx_ C G RX12 cX12_watch 5 (some .int) (d + 8)) (l1 l2 l3 l4 : Option Value) (h : wf_ M n J R N) : wq_ C G (qe_ C G (rI_ (wo_ M n R))) 89 [some (.ref (G.1 0)), l1, l2, l3, l4] [] N := by
  have h0 := wf_0 h
  refine w_iconst (v := 1) X dX12_watch_89 (by decide) ?_
  refine w_istore_n X dX12_watch_90 rfl (by decide) ?_
  refine w_aload_n X dX12_watch_91 rfl rfl ?_
  refine g12_fault X dX12_watch_92 ?_
  refine w_if_ne (tgt := 112) X dX12_watch_95 (by decide) (fun h95 => ?_) (fun h95 => absurd h95 h0)
  exact w12_watch_f112 hG ht hJ X _ _ _ _ h
set_option maxRecDepth 100000 in
set_option maxHeartbeats 4000000 in
theorem w12_watch_f16 {C : mc_} {G : gg_} (hG : gd_ G) {d : Nat} {M N : mm_} {n J : Nat} {R : wr2_ ⊕ (Int32 × Nat)} (ht : tz_ M n) (hJ : hj_ M J) (X : cx_ C G RX12 cX12_watch 5 (some .int) (d + 8)) (l1 l2 l3 l4 : Option Value) (h : wf_ M n J R N) : wq_ C G (qe_ C G (rI_ (wo_ M n R))) 16 [some (.ref (G.1 0)), l1, l2, l3, l4] [] N := by
  have h0 := wf_0 h
  refine w_aload_n X dX12_watch_16 rfl rfl ?_
  refine w_v0fI X dX12_watch_17 k12_freeJob rfl rfl (c12_freeJob G hG _ _) (Nat.le_of_ble_eq_true rfl) ?_
  refine w_istore_n X dX12_watch_20 rfl (by decide) ?_
  refine w_iconst (v := 0) X dX12_watch_21 (by decide) ?_
  refine w_istore_n X dX12_watch_22 rfl (by decide) ?_
  refine w_bipush (v := 99) X dX12_watch_23 (by decide) ?_
  refine w_istore X dX12_watch_25 (by decide) ?_
  refine w_aload_n X dX12_watch_27 rfl rfl ?_
  refine g12_fault X dX12_watch_28 ?_
  refine w_if_ne (tgt := 42) X dX12_watch_31 (by decide) (fun h31 => ?_) (fun h31 => absurd h31 h0)
  exact w12_watch_f42 hG ht hJ X _ _ _ _ h

end
section
/-! watch: the good road, from behind -/
def kp5_ (N : mm_) (t : Nat) (e : Term) : Prop := sd_ N t e ∧ (tc_ e).length ≤ 40
theorem kp_cg {M N : mm_} {t : Nat} {e : Term} (h : kp5_ M t e) (h4 : N.1 4 t = M.1 4 t) (h2 : ∀ i, i < 64 → N.1 2 (64 * t + i) = M.1 2 (64 * t + i)) (h3 : ∀ i, i < 64 → N.2.1 3 (64 * t + i) = M.2.1 3 (64 * t + i)) : kp5_ N t e := ⟨sd_cg h.1 (by have := h.2; omega) h4 h2 h3, h.2⟩
theorem kp_sI {N : mm_} {t i : Nat} {v : Int32} {e : Term} (h : kp5_ N t e) : kp5_ (sI_ N 0 i v) t e := kp_cg h (sI_ne _ _ _ _ (by omega)) (fun _ _ => sI_ne _ _ _ _ (by omega)) (fun _ _ => rfl)
theorem kp_pf {M N : mm_} {t : Nat} {e : Term} (h : kp5_ M t e) (ht : t < 32) (hp : pf_ M N) : kp5_ N t e := kp_cg h (hp.1 4 t (by omega) (by omega) (by omega) (by omega) (by omega) (by omega)) (fun i hi => hp.1 2 _ (by omega) (by omega) (by omega) (by omega) (by omega) (by omega)) (fun i hi => hp.2.1 3 _ (by omega) (by omega) (by omega))
theorem kp_kx {N : mm_} {t u l : Nat} {e : Term} (h : kp5_ N t e) (hu : u < 32) (hl : l ≤ 64) (ht : t ≠ u) : kp5_ (sI_ (kx_ N u l) 4 u (nI l)) t e := by
  refine kp_cg h ?_ (fun i hi => ?_) (fun i hi => ?_)
  · rw [sI_ne _ _ _ _ (by omega), kx_I hu _ hl, if_neg (by omega)]
  · rw [sI_ne _ _ _ _ (by omega), kx_I hu _ hl, if_neg (by omega)]
  · show (kx_ N u l).2.1 3 (64 * t + i) = N.2.1 3 (64 * t + i)
    rw [kx_L hu _ hl, if_neg (by omega)]
theorem kp_new {N : mm_} {t n k nd op : Nat} {e : Term} (ht : t < 32) (h : pr_ N n k [] (some e) nd op) : kp5_ (sI_ (kx_ N t (tc_ e).length) 4 t (nI (tc_ e).length)) t e := ⟨sd_kx ht h, by have := (pr_len h).1; simpa [cs_, cu_] using this⟩
/-- no fault so far: the frame, the place, the pattern -/
def wg_ (M : mm_) (n J s p q : Nat) (N : mm_) : Prop := ph_ J M N ∧ N.1 0 3 = 0 ∧ N.1 0 5 = nI q ∧ q ≤ n ∧ N.1 0 33 = nI p ∧ p ≤ 12 ∧ ∀ i, i < p → N.1 19 i = bf_ M n (s + i)
theorem wg_s5 {M N : mm_} {n J s p q q2 : Nat} (h : wg_ M n J s p q N) (hn : n ≤ 200) (hq : q2 ≤ n) : wg_ M n J s p q2 (sI_ N 0 5 (nI q2)) := by
  obtain ⟨h1, h2, h3, h4, h5, h6, h7⟩ := h
  exact ⟨ph_s5 h1 (by omega), by simpa [sI_] using h2, by simp [sI_], hq, by simpa [sI_] using h5, h6, fun i hi => by rw [sI_ne _ _ _ _ (by omega)]; exact h7 i hi⟩
theorem wg_pf {M N N2 : mm_} {n J s p q q2 : Nat} (h : wg_ M n J s p q N) (hp : pf_ N N2) (h3 : N2.1 0 3 = 0) (h5 : N2.1 0 5 = nI q2) (hq : q2 ≤ n) : wg_ M n J s p q2 N2 := by
  obtain ⟨g1, g2, g3, g4, g5, g6, g7⟩ := h
  exact ⟨ph_tr g1 (ph_pg (pg_pf hp)), h3, h5, hq, (hp.1 0 33 (by omega) (by omega) (by omega) (by omega) (by omega) (by omega)).trans g5, g6, fun i hi => (hp.1 19 i (by omega) (by omega) (by omega) (by omega) (by omega) (by omega)).trans (g7 i hi)⟩
theorem wg_kx {M N : mm_} {n J s p q t l : Nat} (h : wg_ M n J s p q N) (hJ : J < 8) (ht : t = 16 + 2 * J ∨ t = 17 + 2 * J) (hl : l ≤ 64) : wg_ M n J s p q (sI_ (kx_ N t l) 4 t (nI l)) := by
  obtain ⟨g1, g2, g3, g4, g5, g6, g7⟩ := h
  have e : ∀ a i, a ≠ 2 → a ≠ 4 → (sI_ (kx_ N t l) 4 t (nI l)).1 a i = N.1 a i := fun a i h1 h2 => by rw [sI_ne _ _ _ _ (by omega), kx_I (by omega) _ hl, if_neg (by omega)]
  exact ⟨ph_kx g1 hJ ht hl, (e 0 3 (by omega) (by omega)).trans g2, (e 0 5 (by omega) (by omega)).trans g3, g4, (e 0 33 (by omega) (by omega)).trans g5, g6, fun i hi => (e 19 i (by omega) (by omega)).trans (g7 i hi)⟩
theorem wg_ao {M N : mm_} {n J s p q : Nat} (h : wg_ M n J s p q N) (hn : n ≤ 200) : ao5_ N := ⟨q, by have := h.2.2.2.1; omega, h.2.2.1⟩
theorem wg_wf {M N : mm_} {n J s p q w : Nat} {f : Int32} {R : wr2_ ⊕ (Int32 × Nat)} (h : wg_ M n J s p q N) (hn : n ≤ 200) (hf : 0 < f) (hr : R = .inr (f, w)) : wf_ M n J R (fa_ N f (nI w)) := by
  have hf0 : ¬ f = 0 := fun q => by rw [q] at hf; exact absurd hf (by decide)
  refine ⟨f, w, ph_fa h.1 hf0, by rw [fa_0 h.2.1]; simp [sI_], by rw [fa_0 h.2.1]; simp [sI_], hf, ⟨q, by have := h.2.2.2.1; omega, by rw [fa_0 h.2.1]; simpa [sI_] using h.2.2.1⟩, hr⟩
def w7_ (M : mm_) (n : Nat) (y : wr2_) (k : Nat) : wr2_ ⊕ (Int32 × Nat) := if sp_ M n k < n then .inr (1, sp_ M n k) else if fj_ M 8 0 < 0 then .inr (5, n) else .inl y
set_option maxRecDepth 100000 in
set_option maxHeartbeats 4000000 in
theorem w12_watch_165 {C : mc_} {G : gg_} (hG : gd_ G) {d : Nat} {M N : mm_} {n J s p q : Nat} {R : wr2_ ⊕ (Int32 × Nat)} (ht : tz_ M n) (hJ : hj_ M J) (X : cx_ C G RX12 cX12_watch 5 (some .int) (d + 8)) (pt lim : Int32) (e1 : Term) (e2 : Option Term) (g : wg_ M n J s p q N) (hk1 : J < 8 → kp5_ N (16 + 2 * J) e1) (hk2 : J < 8 → ∀ e, e2 = some e → kp5_ N (17 + 2 * J) e) (hj8 : J < 8) (hr : R = .inl (pt, s, p, e1, e2, lim)) : wq_ C G (qe_ C G (rI_ (wo_ M n R))) 165 [some (.ref (G.1 0)), some (.int pt), some (.int (nI J)), some (.int (oc_ e2)), some (.int lim)] [] N := by
  obtain ⟨g1, g2, g3, g4, g5, g6, g7⟩ := g
  have hn := ht.2
  refine w_aload_n X dX12_watch_165 rfl rfl ?_
  refine g12_fault X dX12_watch_166 ?_
  try simp only [gI_sI, gI_sL, gL_sI, gL_sL, false_and, and_false, and_self, if_false, if_true, reduceIte, Nat.reduceEqDiff, g2]
  refine w_if_le (tgt := 174) X dX12_watch_169 (by decide) (fun h169 => ?_) (fun h169 => absurd (by decide) h169)
  refine w_aload_n X dX12_watch_174 rfl rfl ?_
  refine w_iconst (v := 1) X dX12_watch_175 (by decide) ?_
  refine w_iload_n X dX12_watch_176 rfl rfl ?_
  refine w_v2fI X dX12_watch_177 k12_newJob rfl rfl (c12_newJob G hG _ _ J p hj8 g5 g6 1) (Nat.le_of_ble_eq_true rfl) ?_
  refine w_pop X dX12_watch_180 rfl ?_
  refine w_aload_n X dX12_watch_181 rfl rfl ?_
  refine g12_points X dX12_watch_182 ?_
  refine w_iload_n X dX12_watch_185 rfl rfl ?_
  refine w_iload_n X dX12_watch_186 rfl rfl ?_
  refine w_iastoreN X dX12_watch_187 rfl rfl (by omega) ?_
  refine w_aload_n X dX12_watch_188 rfl rfl ?_
  refine g12_limits X dX12_watch_189 ?_
  refine w_iload_n X dX12_watch_192 rfl rfl ?_
  refine w_iload X dX12_watch_193 rfl ?_
  refine w_iastoreN X dX12_watch_195 rfl rfl (by omega) ?_
  refine w_aload_n X dX12_watch_196 rfl rfl ?_
  refine g12_conditioned X dX12_watch_197 ?_
  refine w_iload_n X dX12_watch_200 rfl rfl ?_
  refine w_iload_n X dX12_watch_201 rfl rfl ?_
  refine w_bastoreN X dX12_watch_202 rfl rfl (by omega) ?_
  refine w_iload_n X dX12_watch_203 rfl rfl ?_
  refine w_irR X dX12_watch_204 ?_
  rw [hr]
  exact ⟨J, N, rfl, hj8, hJ, g1, g2, g6, g7, (hk1 hj8).1, fun e he => (hk2 hj8 e he).1, rfl⟩
set_option maxRecDepth 100000 in
set_option maxHeartbeats 4000000 in
theorem w12_watch_141 {C : mc_} {G : gg_} (hG : gd_ G) {d : Nat} {M N : mm_} {n J s p q : Nat} {R : wr2_ ⊕ (Int32 × Nat)} (ht : tz_ M n) (hJ : hj_ M J) (X : cx_ C G RX12 cX12_watch 5 (some .int) (d + 8)) (pt lim : Int32) (e1 : Term) (e2 : Option Term) (g : wg_ M n J s p q N) (hk1 : J < 8 → kp5_ N (16 + 2 * J) e1) (hk2 : J < 8 → ∀ e, e2 = some e → kp5_ N (17 + 2 * J) e) (hr : R = w7_ M n (pt, s, p, e1, e2, lim) q) : wq_ C G (qe_ C G (rI_ (wo_ M n R))) 141 [some (.ref (G.1 0)), some (.int pt), some (.int (fj_ M 8 0)), some (.int (oc_ e2)), some (.int lim)] [] N := by
  have hn := ht.2
  have g3 := g.2.2.1
  have g4 := g.2.2.2.1
  have g2 := g.2.1
  have gt := ph_tz g.1 ht
  have esp : sp_ N n q = sp_ M n q := ph_sp g.1
  have hs := (sp_le (M := M) g4).2
  have gs := wg_s5 (q2 := sp_ M n q) g hn hs
  have n2 : N.1 0 2 = nI n := gt.1
  unfold w7_ at hr
  by_cases hsp : sp_ M n q < n
  · rw [if_pos hsp] at hr
    refine w_aload_n X dX12_watch_141 rfl rfl ?_
    refine w_v0fV X dX12_watch_142 k12_wantEnd rfl rfl (c12_wantEnd G hG _ N n q gt g3 (by omega)) (Nat.le_of_ble_eq_true rfl) ?_
    rw [esp]
    rw [if_pos ⟨g2, hsp⟩]
    exact w12_watch_f145 hG ht hJ X _ _ _ _ (wg_wf gs hn (by decide) hr)
  · rw [if_neg hsp] at hr
    rcases hJ with ⟨j1, j2⟩ | ⟨j1, j2, j3⟩
    · rw [j1, if_pos (by decide)] at hr
      rw [j1]
      refine w_aload_n X dX12_watch_141 rfl rfl ?_
      refine w_v0fV X dX12_watch_142 k12_wantEnd rfl rfl (c12_wantEnd G hG _ N n q gt g3 (by omega)) (Nat.le_of_ble_eq_true rfl) ?_
      rw [esp]
      rw [if_neg (fun y => hsp y.2)]
      refine w_aload_n X dX12_watch_145 rfl rfl ?_
      refine g12_fault X dX12_watch_146 ?_
      try simp only [gI_sI, gI_sL, gL_sI, gL_sL, false_and, and_false, and_self, if_false, if_true, reduceIte, Nat.reduceEqDiff, g2, n2]
      refine w_if_ne (tgt := 165) X dX12_watch_149 (by decide) (fun h149 => absurd rfl h149) (fun h149 => ?_)
      refine w_iload_n X dX12_watch_152 rfl rfl ?_
      refine w_if_ge (tgt := 165) X dX12_watch_153 (by decide) (fun h153 => absurd h153 (by decide)) (fun h153 => ?_)
      refine w_aload_n X dX12_watch_156 rfl rfl ?_
      refine w_iconst (v := 5) X dX12_watch_157 (by decide) ?_
      refine w_aload_n X dX12_watch_158 rfl rfl ?_
      refine g12_size X dX12_watch_159 ?_
      try simp only [gI_sI, gI_sL, gL_sI, gL_sL, false_and, and_false, and_self, if_false, if_true, reduceIte, Nat.reduceEqDiff, g2, n2]
      refine w_v2fV X dX12_watch_162 k12_fail rfl rfl (c12_fail G hG _ _ _ _) (Nat.le_of_ble_eq_true rfl) ?_
      exact w12_watch_f165 hG ht (Or.inl ⟨j1, j2⟩) X _ _ _ _ (wg_wf gs hn (by decide) hr)
    · have hnb : ¬ nI J < 0 := nI_pos (by omega)
      rw [j1, if_neg hnb] at hr
      rw [j1]
      refine w_aload_n X dX12_watch_141 rfl rfl ?_
      refine w_v0fV X dX12_watch_142 k12_wantEnd rfl rfl (c12_wantEnd G hG _ N n q gt g3 (by omega)) (Nat.le_of_ble_eq_true rfl) ?_
      rw [esp]
      rw [if_neg (fun y => hsp y.2)]
      refine w_aload_n X dX12_watch_145 rfl rfl ?_
      refine g12_fault X dX12_watch_146 ?_
      try simp only [gI_sI, gI_sL, gL_sI, gL_sL, false_and, and_false, and_self, if_false, if_true, reduceIte, Nat.reduceEqDiff, g2, n2]
      refine w_if_ne (tgt := 165) X dX12_watch_149 (by decide) (fun h149 => absurd rfl h149) (fun h149 => ?_)
      refine w_iload_n X dX12_watch_152 rfl rfl ?_
      refine w_if_ge (tgt := 165) X dX12_watch_153 (by decide) (fun h153 => ?_) (fun h153 => absurd (Int32.not_lt.mp hnb) h153)
      exact w12_watch_165 hG ht (Or.inr ⟨j1, j2, j3⟩) X pt lim e1 e2 gs (fun y => kp_sI (hk1 y)) (fun y e he => kp_sI (hk2 y e he)) j2 hr

end
