/-! the class's reading of a command, by the text -/
theorem vb_15 {T : Int32 → Int32} {p : Nat} : (vbT_ T p).1 = 1 ∨ (vbT_ T p).1 = 2 ∨ (vbT_ T p).1 = 3 ∨ (vbT_ T p).1 = 4 ∨ (vbT_ T p).1 = 5 := by
  unfold vbT_
  split
  · exact Or.inl rfl
  split
  · exact Or.inr (Or.inl rfl)
  split
  · exact Or.inr (Or.inr (Or.inl rfl))
  split
  · exact Or.inr (Or.inr (Or.inr (Or.inl rfl)))
  split
  · exact Or.inr (Or.inr (Or.inr (Or.inr rfl)))
  · exact Or.inr (Or.inr (Or.inr (Or.inr rfl)))
theorem RC_T {k : Nat} {M N : mm_} {v : Int32} (hk : 135 ≤ k) (h : RC_ k M v N) : RCT_ k (tb_ M) M v N := by
  obtain ⟨hcz, p, V, A, B, e1, e2, e3, hcw, hLS, hrnf, hczB, hRV, hN⟩ := h
  have tA : tb_ A = tb_ M := cw_tb hk hcw
  have tB : tb_ B = tb_ M := (tb_cg (hczB.2.1 35 1 (by omega) (by omega) (by omega) (by omega)) (fun i => hczB.2.1 36 i (by omega) (by omega) (by omega) (by omega))).trans tA
  have xB : c37_ B (xE_ B) := c37_xE
  have n37 : N.1 37 2 = (xE_ B).1 37 2 := by rw [hN, gI_sI, if_neg (by omega)]
  have nI_ : ∀ a i, a ≠ 37 → ¬ (a = k ∧ i = 0) → N.1 a i = B.1 a i := fun a i h1 h2 => by rw [hN, gI_sI, if_neg h2]; exact xB.2.1 a i h1
  have nL_ : ∀ a i, a ≠ 37 → N.2.1 a i = B.2.1 a i := fun a i h1 => by rw [hN, gL_sI]; exact xB.2.2 a i h1
  have nk0 : N.1 k 0 = v := by rw [hN, gI_sI, if_pos ⟨rfl, rfl⟩]
  obtain ⟨z0, z5, z6, z7, z9, z11⟩ := hrnf
  have hV := vb_15 (T := tb_ M) (p := p)
  rw [e2] at hV
  have fin : ∀ q, LS_ q B → (N.1 37 2 = 0 ↔ okE_ (tb_ M) q) := fun q hq => by rw [n37, xE_ok hq, tB]
  rcases hRV with ⟨v4, R, hR, hB⟩ | ⟨v1, p2, hp2, hRW⟩ | ⟨v5, hB⟩ | ⟨n4, n1, n5, P, hP, hB⟩
  · have kl := LS_kl hLS
    rw [tA, hR] at kl
    have cX : c37_ (sI_ (nuB_ R.1 (A.1 37 1) R.2 99) 38 0 R.2.toInt32) B := by rw [hB]; exact c37_ew
    have tX : tb_ (sI_ (nuB_ R.1 (A.1 37 1) R.2 99) 38 0 R.2.toInt32) = tb_ M := (c37_tb cX).symm.trans tB
    have l1 : LS_ (klT_ (tb_ M) V.2).2 (sI_ (nuB_ R.1 (A.1 37 1) R.2 99) 38 0 R.2.toInt32) := LS_37x kl.2 (by rw [gI_sI, if_neg (by omega)]) (by rw [gI_sI, if_neg (by omega)])
    have l2 := LS_ew l1
    rw [tX, ← hB] at l2
    refine ⟨p, V, _, e1, e2, e3, fin _ l2, nk0, Or.inr (Or.inl ⟨v4, rfl, ?_⟩)⟩
    rw [nI_ 38 0 (by decide) (by omega), cX.2.1 38 0 (by decide), gI_sI, if_pos ⟨rfl, rfl⟩]
    exact kl.1
  · obtain ⟨hcw2, PO, PT, W1, X1, W2, X2, q, r, c, b, g1, g2, g3, g4, g5, g6, g7, g8, g9, g10, g11, g12, g13, g14, g15, g16, g17⟩ := hRW
    rw [tA] at g1 g2 g3 g4 g5 g6 g7 g8 g13
    refine ⟨p, V, r, e1, e2, e3, fin _ g9, nk0, Or.inr (Or.inr (Or.inr ⟨v1, p2, PO, PT, W1, X1, W2, X2, q, c, b, hp2, g1, g2, g3, g4, g5, g6, g7, g8, ?_, ?_, ?_, ?_, ?_, ?_, ?_, ?_⟩))⟩
    · rw [nI_ k 1 (by omega) (by omega)]; exact g10
    · rw [nL_ k 2 (by omega)]; exact g11
    · rw [nI_ k 5 (by omega) (by omega), g12, z5]
    · rw [nI_ k 6 (by omega) (by omega), g13, z6]
    · rw [nI_ k 7 (by omega) (by omega), g14 7 (by omega) (by omega) (by omega)]; exact z7
    · rw [nI_ k 9 (by omega) (by omega), g14 9 (by omega) (by omega) (by omega)]; exact z9
    · exact hx_k g16 (fun a i h1 h2 => nI_ a i (by omega) (by omega)) (fun i => nL_ _ i (by omega))
    · exact fun hc => hx_k (g17 hc) (fun a i h1 h2 => nI_ a i (by omega) (by omega)) (fun i => nL_ _ i (by omega))
  · subst hB
    exact ⟨p, V, V.2, e1, e2, e3, fin _ hLS, nk0, Or.inl ⟨v5, rfl⟩⟩
  · have pt := LS_pat hLS
    rw [tA, hP] at pt
    have cP : c37_ A P.2 := by rw [← hP]; exact c37_tr c37_p0 (c37_pa _ _ _ _)
    have cE : c37_ A (ew_ P.2) := c37_tr cP c37_ew
    have l2 := LS_ew pt.2
    rw [c37_tb cP, tA] at l2
    generalize ew_ P.2 = X9 at hB cE l2
    have l3 : LS_ (qw_ (tb_ M) (patT_ (tb_ M) V.2).2) B := LS_37x l2 (by rw [hB, gI_sL]) (by rw [hB, gI_sL])
    have bI : ∀ a i, a ≠ 37 → B.1 a i = A.1 a i := fun a i h1 => by rw [hB, gI_sL]; exact cE.2.1 a i h1
    refine ⟨p, V, _, e1, e2, e3, fin _ l3, nk0, Or.inr (Or.inr (Or.inl ⟨?_, rfl, ?_, ?_, ?_, fun j hj => ?_⟩))⟩
    · rcases hV with y | y | y | y | y
      · exact absurd y n1
      · exact Or.inl y
      · exact Or.inr y
      · exact absurd y n4
      · exact absurd y n5
    · rw [nL_ k 2 (by omega), hB, gL_sL, if_pos ⟨rfl, rfl⟩]; exact pt.1
    · rw [nI_ k 7 (by omega) (by omega), bI k 7 (by omega)]; exact z7
    · rw [nI_ k 9 (by omega) (by omega), bI k 9 (by omega)]; exact z9
    · rw [nI_ (k + 11) j (by omega) (by omega), bI (k + 11) j (by omega)]; exact z11 j hj
