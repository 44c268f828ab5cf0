/-- a small number at s: its value and the place behind it, or the fault -/
def sm_ (M : mm_) (n s : Nat) (least : Int32) : (Int32 × Nat) ⊕ (Int32 × Nat) :=
  if ig_ (bf_ M n s) = 0 then .inr (1, s) else if (dv_ (bf_ M n) (n - s) s 0).2 < least ∨ ¬ (dv_ (bf_ M n) (n - s) s 0).2 ≤ 99 then .inr (2, s)
  else if ¬ bf_ M n (dv_ (bf_ M n) (n - s) s 0).1 ≤ 32 then .inr (1, (dv_ (bf_ M n) (n - s) s 0).1) else .inl ((dv_ (bf_ M n) (n - s) s 0).2, (dv_ (bf_ M n) (n - s) s 0).1)
def sq_ (M : mm_) (n s : Nat) (least : Int32) : mm_ := if ig_ (bf_ M n s) = 0 then fa_ (sI_ M 0 5 (nI s)) 1 (nI s) else sn_ M n least s (dv_ (bf_ M n) (n - s) s 0).1 (dv_ (bf_ M n) (n - s) s 0).2
def sv2_ (M : mm_) (n s : Nat) : Int32 := if ig_ (bf_ M n s) = 0 then 0 else (dv_ (bf_ M n) (n - s) s 0).2
theorem sm_two {M : mm_} {n s : Nat} {least : Int32} (hf : M.1 0 3 = 0) (hs : s ≤ n) :
    (∃ f w q, sm_ M n s least = .inr (f, w) ∧ 0 < f ∧ q ≤ n ∧ sq_ M n s least = fa_ (sI_ M 0 5 (nI q)) f (nI w)) ∨
    (∃ v q, sm_ M n s least = .inl (v, q) ∧ q ≤ n ∧ sq_ M n s least = sI_ M 0 5 (nI q) ∧ sv2_ M n s = v ∧ ¬ v < least ∧ v ≤ 99) := by
  have hd := dv_le (bf_ M n) (n - s) s 0
  unfold sm_ sq_ sv2_ sn_
  generalize dv_ (bf_ M n) (n - s) s 0 = D at hd
  have e3 : ∀ q : Nat, (sI_ M 0 5 (nI q)).1 0 3 = 0 := fun q => by simpa [sI_] using hf
  by_cases h0 : ig_ (bf_ M n s) = 0
  · rw [if_pos h0, if_pos h0]
    exact Or.inl ⟨1, s, s, rfl, by decide, hs, rfl⟩
  · rw [if_neg h0, if_neg h0, if_neg h0]
    by_cases h1 : D.2 < least ∨ ¬ D.2 ≤ 99
    · rw [if_pos h1]
      simp only [if_pos h1]
      have e4 : ¬ ((fa_ (sI_ M 0 5 (nI D.1)) 2 (nI s)).1 0 3 = 0 ∧ ¬ bf_ M n D.1 ≤ 32) := fun q => by
        have := q.1
        rw [fa_0 (e3 _)] at this
        simp [sI_] at this
      rw [if_neg e4]
      exact Or.inl ⟨2, s, D.1, rfl, by decide, by omega, rfl⟩
    · rw [if_neg h1]
      simp only [if_neg h1]
      have h1a : ¬ D.2 < least := fun q => h1 (Or.inl q)
      have h1b : D.2 ≤ 99 := Decidable.by_contra (fun q => h1 (Or.inr q))
      by_cases h2 : bf_ M n D.1 ≤ 32
      · rw [if_neg (fun q => q h2), if_neg (fun q => q.2 h2)]
        exact Or.inr ⟨D.2, D.1, rfl, by omega, rfl, rfl, h1a, h1b⟩
      · rw [if_pos h2, if_pos ⟨e3 _, h2⟩]
        exact Or.inl ⟨1, D.1, D.1, rfl, by decide, by omega, rfl⟩
/-- a command's fault -/
def fo3_ (M : mm_) (f : Int32) (w : Nat) (r : Int32) (N : mm_) : Prop := r = -1 ∧ pf_ M N ∧ N.1 0 3 = f ∧ N.1 0 4 = nI w ∧ 0 < f
def kl2_ (M : mm_) (n : Nat) : (Int32 × Nat) ⊕ (Int32 × Nat) → Nat ⊕ (Int32 × Nat)
  | .inr q => .inr q
  | .inl (v, q) => if sp_ M n q < n then .inr (1, sp_ M n q) else if 8 ≤ v ∨ M.1 12 v.toNatClampNeg = 0 then .inr (5, n) else .inl v.toNatClampNeg
def ko3_ (M : mm_) (n : Nat) : Nat ⊕ (Int32 × Nat) → Int32 → mm_ → Prop
  | .inr (f, w), r, N => fo3_ M f w r N
  | .inl j, r, N => r = nI j ∧ j < 8 ∧ ¬ M.1 12 j = 0 ∧ N = sI_ (sI_ M 0 5 (nI n)) 12 j 0
theorem sp_sI {M : mm_} {a i n k : Nat} {v : Int32} (hq : a ≠ 1) : sp_ (sI_ M a i v) n k = sp_ M n k := by
  unfold sp_
  rw [show bf_ (sI_ M a i v) n = bf_ M n from funext (fun q => bf_sI hq)]
set_option maxRecDepth 100000 in
set_option maxHeartbeats 4000000 in
theorem c12_kill (G : gg_) (hG : gd_ G) (d : Nat) (M : mm_) (n k s : Nat) (ht : tz_ M n) (h5 : M.1 0 5 = nI k) (hk : k ≤ n) (hf : M.1 0 3 = 0) (hs : s = sp_ M n k) : cm_ G yX12_kill cX12_kill 2 (some .int) (d + 3) [.ref (G.1 0)] M (rI_ (ko3_ M n (kl2_ M n (sm_ M n s 0)))) := by
  refine cm_of hG (by decide) (Nat.le_of_ble_eq_true rfl) (fun C X => ?_)
  have hn := ht.2
  have h2 := ht.1
  have hsn : s ≤ n := by rw [hs]; exact (sp_le hk).2
  generalize hR : kl2_ M n (sm_ M n s 0) = R
  have jf : ∀ (N : mm_) (f : Int32) (w : Nat) (l1 : Option Value), pf_ M N → N.1 0 3 = f → N.1 0 4 = nI w → 0 < f → R = .inr (f, w) → wq_ C G (qe_ C G (rI_ (ko3_ M n R))) 41 [some (.ref (G.1 0)), l1] [] N := by
    intro N f w l1 hp h3 h4 hpos hr
    refine w_aload_n X dX12_kill_41 rfl rfl ?_
    refine g12_fault X dX12_kill_42 ?_
    try simp only [gI_sI, gI_sL, gL_sI, gL_sL, false_and, and_false, and_self, if_false, if_true, reduceIte, Nat.reduceEqDiff, h3]
    refine w_if_le (tgt := 50) X dX12_kill_45 (by decide) (fun h45 => absurd h45 (Int32.not_le.mpr hpos)) (fun h45 => ?_)
    refine w_iconst (v := -1) X dX12_kill_48 (by decide) ?_
    refine w_irR X dX12_kill_49 ?_
    rw [hr]
    exact ⟨rfl, hp, h3, h4, hpos⟩
  rcases sm_two (least := 0) hf hsn with ⟨f, w, q, c1, hpos, hq, c2⟩ | ⟨v, q, c1, hq, c2, c3, c4, c5⟩
  · rw [c1] at hR
    have e3 : (sI_ M 0 5 (nI q)).1 0 3 = 0 := by simpa [sI_] using hf
    have hf0 : ¬ f = 0 := fun q => by rw [q] at hpos; exact absurd hpos (by decide)
    have g3 : (fa_ (sI_ M 0 5 (nI q)) f (nI w)).1 0 3 = f := by rw [fa_0 e3]; simp [sI_]
    have g4 : (fa_ (sI_ M 0 5 (nI q)) f (nI w)).1 0 4 = nI w := by rw [fa_0 e3]; simp [sI_]
    have g5 : (fa_ (sI_ M 0 5 (nI q)) f (nI w)).1 0 5 = nI q := by rw [fa_0 e3]; simp [sI_]
    have gt : tz_ (fa_ (sI_ M 0 5 (nI q)) f (nI w)) n := tz_fa (tz_sI ht (by omega))
    have gp : pf_ M (fa_ (sI_ M 0 5 (nI q)) f (nI w)) := pf_fa (pf_sI (pf_rf M) (by first | omega | exact at5_ (by omega))) hf0
    generalize fa_ (sI_ M 0 5 (nI q)) f (nI w) = N at c2 g3 g4 g5 gt gp
    have hspN := (sp_le (M := N) hq).2
    refine w_aload_n X dX12_kill_0 rfl rfl ?_
    refine w_iconst (v := 0) X dX12_kill_1 (by decide) ?_
    refine w_v1fI X dX12_kill_2 k12_smallNumber rfl rfl (c12_smallNumber G hG _ M n k s ht h5 (by omega) hs 0) (Nat.le_of_ble_eq_true rfl) ?_
    show wq_ C G _ _ _ (.int (sv2_ M n s) :: _) (sq_ M n s 0)
    rw [c2]
    refine w_istore_n X dX12_kill_5 rfl (by decide) ?_
    refine w_aload_n X dX12_kill_6 rfl rfl ?_
    refine w_v0fV X dX12_kill_7 k12_wantEnd rfl rfl (c12_wantEnd G hG _ N n q gt g5 (by first | omega | exact at5_ (by omega))) (Nat.le_of_ble_eq_true rfl) ?_
    rw [if_neg (fun y => hf0 (g3.symm.trans y.1))]
    refine w_aload_n X dX12_kill_10 rfl rfl ?_
    refine g12_fault X dX12_kill_11 ?_
    try simp only [gI_sI, gI_sL, gL_sI, gL_sL, false_and, and_false, and_self, if_false, if_true, reduceIte, Nat.reduceEqDiff, g3]
    refine w_if_ne (tgt := 41) X dX12_kill_14 (by decide) (fun h14 => ?_) (fun h14 => absurd h14 hf0)
    exact jf _ f w _ (pf_sI gp (by first | omega | exact at5_ (by omega))) (by simpa [sI_] using g3) (by simpa [sI_] using g4) hpos hR.symm
  · rw [c1] at hR
    have e3 : (sI_ M 0 5 (nI q)).1 0 3 = 0 := by simpa [sI_] using hf
    have e4 : (sI_ (sI_ M 0 5 (nI q)) 0 5 (nI (sp_ M n q))).1 0 3 = 0 := by simpa [sI_] using hf
    have gt : tz_ (sI_ M 0 5 (nI q)) n := tz_sI ht (by omega)
    have esp : sp_ (sI_ M 0 5 (nI q)) n q = sp_ M n q := sp_sI (by omega)
    have hspn := (sp_le (M := M) hq).2
    simp only [kl2_] at hR
    by_cases hsp : sp_ M n q < n
    · rw [if_pos hsp] at hR
      have g3 : (fa_ (sI_ (sI_ M 0 5 (nI q)) 0 5 (nI (sp_ M n q))) 1 (nI (sp_ M n q))).1 0 3 = 1 := by rw [fa_0 e4]; simp [sI_]
      have g4 : (fa_ (sI_ (sI_ M 0 5 (nI q)) 0 5 (nI (sp_ M n q))) 1 (nI (sp_ M n q))).1 0 4 = nI (sp_ M n q) := by rw [fa_0 e4]; simp [sI_]
      refine w_aload_n X dX12_kill_0 rfl rfl ?_
      refine w_iconst (v := 0) X dX12_kill_1 (by decide) ?_
      refine w_v1fI X dX12_kill_2 k12_smallNumber rfl rfl (c12_smallNumber G hG _ M n k s ht h5 (by omega) hs 0) (Nat.le_of_ble_eq_true rfl) ?_
      show wq_ C G _ _ _ (.int (sv2_ M n s) :: _) (sq_ M n s 0)
      rw [c2]
      refine w_istore_n X dX12_kill_5 rfl (by decide) ?_
      refine w_aload_n X dX12_kill_6 rfl rfl ?_
      refine w_v0fV X dX12_kill_7 k12_wantEnd rfl rfl (c12_wantEnd G hG _ (sI_ M 0 5 (nI q)) n q gt (by simp [sI_]) (by omega)) (Nat.le_of_ble_eq_true rfl) ?_
      rw [esp]
      rw [if_pos ⟨e3, hsp⟩]
      refine w_aload_n X dX12_kill_10 rfl rfl ?_
      refine g12_fault X dX12_kill_11 ?_
      try simp only [gI_sI, gI_sL, gL_sI, gL_sL, false_and, and_false, and_self, if_false, if_true, reduceIte, Nat.reduceEqDiff, g3]
      refine w_if_ne (tgt := 41) X dX12_kill_14 (by decide) (fun h14 => ?_) (fun h14 => absurd h14 (by decide))
      exact jf _ 1 _ _ (pf_fa (pf_sI (pf_sI (pf_rf M) (by first | omega | exact at5_ (by omega))) (by first | omega | exact at5_ (by omega)))) g3 g4 (by decide) hR.symm
    · rw [if_neg hsp] at hR
      have hspe : sp_ M n q = n := by omega
      have eM : sI_ (sI_ M 0 5 (nI q)) 0 5 (nI (sp_ M n q)) = sI_ M 0 5 (nI n) := by
        rw [hspe]
        exact sI_sI M 0 5 _ _
      have e5 : (sI_ M 0 5 (nI n)).1 0 3 = 0 := by simpa [sI_] using hf
      have e2 : (sI_ M 0 5 (nI n)).1 0 2 = nI n := by simpa [sI_] using ht.1
      have h100 : ¬ nI 100 ≤ v := fun y => absurd (Int32.le_trans y c5) (by decide)
      obtain ⟨j, hj, hv, -, hcl, -⟩ := pk_mu c4 h100 (by omega)
      subst hv
      rw [hcl] at hR
      refine w_aload_n X dX12_kill_0 rfl rfl ?_
      refine w_iconst (v := 0) X dX12_kill_1 (by decide) ?_
      refine w_v1fI X dX12_kill_2 k12_smallNumber rfl rfl (c12_smallNumber G hG _ M n k s ht h5 (by omega) hs 0) (Nat.le_of_ble_eq_true rfl) ?_
      show wq_ C G _ _ _ (.int (sv2_ M n s) :: _) (sq_ M n s 0)
      rw [c2, c3]
      refine w_istore_n X dX12_kill_5 rfl (by decide) ?_
      refine w_aload_n X dX12_kill_6 rfl rfl ?_
      refine w_v0fV X dX12_kill_7 k12_wantEnd rfl rfl (c12_wantEnd G hG _ (sI_ M 0 5 (nI q)) n q gt (by simp [sI_]) (by omega)) (Nat.le_of_ble_eq_true rfl) ?_
      rw [esp]
      rw [if_neg (fun y => hsp y.2), eM]
      refine w_aload_n X dX12_kill_10 rfl rfl ?_
      refine g12_fault X dX12_kill_11 ?_
      try simp only [gI_sI, gI_sL, gL_sI, gL_sL, false_and, and_false, and_self, if_false, if_true, reduceIte, Nat.reduceEqDiff, hf, h2]
      refine w_if_ne (tgt := 41) X dX12_kill_14 (by decide) (fun h14 => absurd rfl h14) (fun h14 => ?_)
      refine w_iload_n X dX12_kill_17 rfl rfl ?_
      refine w_bipush (v := 8) X dX12_kill_18 (by decide) ?_
      refine w_icmp_ge (tgt := 32) X dX12_kill_20 (by decide) (fun h20 => ?_) (fun h20 => ?_)
      · refine w_aload_n X dX12_kill_32 rfl rfl ?_
        refine w_iconst (v := 5) X dX12_kill_33 (by decide) ?_
        refine w_aload_n X dX12_kill_34 rfl rfl ?_
        refine g12_size X dX12_kill_35 ?_
        try simp only [gI_sI, gI_sL, gL_sI, gL_sL, false_and, and_false, and_self, if_false, if_true, reduceIte, Nat.reduceEqDiff, hf, h2]
        refine w_v2fV X dX12_kill_38 k12_fail rfl rfl (c12_fail G hG _ _ _ _) (Nat.le_of_ble_eq_true rfl) ?_
        rw [if_pos (Or.inl h20)] at hR
        exact jf _ 5 n _ (pf_fa (pf_sI (pf_rf M) (by first | omega | exact at5_ (by omega)))) (by rw [fa_0 e5]; simp [sI_]) (by rw [fa_0 e5]; simp [sI_]) (by decide) hR.symm
      · have hj8 : j < 8 := Decidable.by_contra (fun y => h20 (nI_le (a := 8) (by omega) (by omega)))
        refine w_aload_n X dX12_kill_23 rfl rfl ?_
        refine g12_kinds X dX12_kill_24 ?_
        refine w_iload_n X dX12_kill_27 rfl rfl ?_
        refine w_ialoadN X dX12_kill_28 rfl rfl (by omega) ?_
        try simp only [gI_sI, gI_sL, gL_sI, gL_sL, false_and, and_false, and_self, if_false, if_true, reduceIte, Nat.reduceEqDiff, hf, h2]
        refine w_if_ne (tgt := 41) X dX12_kill_29 (by decide) (fun h29 => ?_) (fun h29 => ?_)
        · have e29 : ¬ M.1 12 j = 0 := h29
          rw [if_neg (fun y => y.elim h20 e29)] at hR
          refine w_aload_n X dX12_kill_41 rfl rfl ?_
          refine g12_fault X dX12_kill_42 ?_
          try simp only [gI_sI, gI_sL, gL_sI, gL_sL, false_and, and_false, and_self, if_false, if_true, reduceIte, Nat.reduceEqDiff, hf]
          refine w_if_le (tgt := 50) X dX12_kill_45 (by decide) (fun h45 => ?_) (fun h45 => absurd (by decide) h45)
          refine w_aload_n X dX12_kill_50 rfl rfl ?_
          refine g12_kinds X dX12_kill_51 ?_
          refine w_iload_n X dX12_kill_54 rfl rfl ?_
          refine w_iconst (v := 0) X dX12_kill_55 (by decide) ?_
          refine w_iastoreN X dX12_kill_56 rfl rfl (by omega) ?_
          refine w_iload_n X dX12_kill_57 rfl rfl ?_
          refine w_irR X dX12_kill_58 ?_
          rw [← hR]
          exact ⟨rfl, hj8, e29, rfl⟩
        · have e29 : M.1 12 j = 0 := h29
          refine w_aload_n X dX12_kill_32 rfl rfl ?_
          refine w_iconst (v := 5) X dX12_kill_33 (by decide) ?_
          refine w_aload_n X dX12_kill_34 rfl rfl ?_
          refine g12_size X dX12_kill_35 ?_
          try simp only [gI_sI, gI_sL, gL_sI, gL_sL, false_and, and_false, and_self, if_false, if_true, reduceIte, Nat.reduceEqDiff, hf, h2]
          refine w_v2fV X dX12_kill_38 k12_fail rfl rfl (c12_fail G hG _ _ _ _) (Nat.le_of_ble_eq_true rfl) ?_
          rw [if_pos (Or.inr e29)] at hR
          exact jf _ 5 n _ (pf_fa (pf_sI (pf_rf M) (by first | omega | exact at5_ (by omega)))) (by rw [fa_0 e5]; simp [sI_]) (by rw [fa_0 e5]; simp [sI_]) (by decide) hR.symm
