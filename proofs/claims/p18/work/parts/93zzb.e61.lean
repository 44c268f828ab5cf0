section
/-! command: the tables behind it -/
theorem ex_tr {T : Int32 → Int32} {B : mm_} {n k1 k2 : Nat} {x : Term} {W : Option Nat} {kk mm : Nat} (h14 : B.1 0 14 = 1) (hx : ex_ B n k1 = .inl (tm_ x, k2)) (hp : pe2_ T 7 false W = some (x, kk, mm)) : wfX_ true x ∧ ixn_ 7 x ∧ nsb_ x ∧ (tc_ (tm_ x)).length ≤ 40 := by
  have s1 : sB_ B = false := by unfold sB_; rw [h14]; rfl
  have s2 : vB_ B = 7 := by unfold vB_; rw [h14]; rfl
  have w := wf_ex hx
  rw [s1, s2] at w
  have w2 : wfX_ true x := wf_pe hp
  obtain ⟨w3, w4⟩ := wfR_x true x w2 w
  have := tc_le (tm_ x)
  have := nt_ex hx
  exact ⟨w2, w3, w4 rfl, by omega⟩
set_option maxHeartbeats 1000000 in
theorem cmd_st {n c S p : Nat} {J : Nat → Nat} {M N1 N2 : mm_} {r r2 : Int32} (hS : S < 9) (hJ : ∀ i, i < 8 → J i < 9 ∧ ¬ J i = S) (hd : ∀ i j, i < 8 → j < 8 → J i = J j → i = j) (hq : jq_ M J S) (hc : c ≤ 16) (hJT : JT_ J c M) (hHB : HB_ J c M) (hNK : ∀ m, m < c → NK_ (M.2.1 46 m) (M.2.1 5 m) (M.1 6 m)) (hT : TF_ (tb_ M) (bf_ N1 n) n) (hCR : CR_ n c S J M r N1) (hp : sp_ N1 n 0 = p) (hcmd : cmd_ N1 n p (rz_ N1 n p) (rv_ (bf_ N1 n) p (rz_ N1 n p)) r2 N2) : ∃ J2 S2, jq_ N2 J2 S2 ∧ jdX_ J2 S2 ∧ JT_ J2 c N2 ∧ HB_ J2 c N2 := by
  have hjd : jdX_ J S := ⟨fun i hi => (hJ i hi).2, hd⟩
  have hX := hX_CR hCR
  have hR := hR_cmd hcmd
  have hT5 := hT_cmd hcmd
  have hn := hT.1
  have hJ9 : ∀ j, j < 8 → J j < 9 := fun j hj => (hJ j hj).1
  have n5 : ∀ m, m < c → N2.2.1 5 m = N1.2.1 5 m := fun m _ => hT5.2 5 m (by unfold rU_; omega)
  have e5 : ∀ m, m < c → N2.2.1 5 m = M.2.1 5 m := fun m hm => (n5 m hm).trans (hX.2 5 m (by omega))
  obtain ⟨v, A, hRC, hCR⟩ := hCR
  have hcz := hRC.1
  have hkM : kdE_ J A M := fun i hi => by
    have := hJ i hi
    rw [hcz.2.1 (135 + 12 * J i) 0 (by omega) (by omega) (by omega) (by omega)]
    exact hJT.1 i hi
  have hkA : kdE_ J A N1 := fun i hi => by
    rw [hX.1 12 i (by omega)]; exact hkM i hi
  obtain ⟨p0, V, fin, e1, e2, e3, e4, ek0, hV⟩ := RC_T (by omega) hRC
  have hp0 : p0 = p := by rw [← e1, ← hp]; exact sp_T hT (by omega)
  subst hp0
  have hpn : p0 ≤ n := by rw [← hp]; exact (sp_le (by omega)).2
  have hz := rz_le N1 n p0
  have kA : ∀ j, j < 8 → jKf_ (135 + 12 * J j) M A := fun j hj => jKf_cz (by omega) hcz (by have := hJ j hj; omega)
  have qA : jq_ A J S := ⟨fun i hi => ⟨(hq.1 i hi).1, by rw [hcz.1 134 i (by omega)]; exact (hq.1 i hi).2⟩, hq.2.1, by rw [hcz.1 133 1 (by omega)]; exact hq.2.2⟩
  -- what the class has done
  have cNo : ¬ okE_ (tb_ M) fin → N1 = A := fun h => by
    rcases hCR with ⟨-, -, h2⟩ | ⟨h1, -⟩
    · exact h2
    · exact absurd (e4.mp h1) h
  have cNone : okE_ (tb_ M) fin → ¬ v = 5 → ¬ v = 4 → fj1_ A J 8 0 = none → N1 = fiX_ A 5 (A.1 35 1) := fun h h5 h4 hf => by
    rcases hCR with ⟨h1, -⟩ | ⟨-, h2⟩
    · exact absurd (e4.mpr h) h1
    · rcases h2 with ⟨y, -⟩ | ⟨y, -⟩ | ⟨-, x, B, ⟨hx, hB⟩, hE⟩
      · exact absurd y h5
      · exact absurd y h4
      · rw [hf] at hx hB
        have hx : x = -1 := hx
        have hB : B = A := hB
        rcases hE with ⟨y, -⟩ | ⟨-, -, y⟩
        · exact absurd hx y
        · rw [y, hB]
  have cNew : okE_ (tb_ M) fin → ¬ v = 5 → ¬ v = 4 → ∀ i, fj1_ A J 8 0 = some i → N1 = bgn_ A J S c i := fun h h5 h4 i hf => by
    rcases hCR with ⟨h1, -⟩ | ⟨-, h2⟩
    · exact absurd (e4.mpr h) h1
    · rcases h2 with ⟨y, -⟩ | ⟨y, -⟩ | ⟨-, x, B, ⟨hx, hB⟩, hE⟩
      · exact absurd y h5
      · exact absurd y h4
      · have hi := (fj1_in 8 0 i hf).2.1
        rw [hf] at hx hB
        have hx : x = nI i := hx
        have hB : B = bgn_ A J S c i := hB
        rcases hE with ⟨-, -, y⟩ | ⟨y, -⟩
        · rw [y, hB]
        · have e : nI i = -1 := hx.symm.trans y
          have := nI_n0 i (by omega)
          rw [e] at this
          exact absurd (by decide) this
  have done : ∀ b, (b = 8 ∨ M.1 12 b = 0) → rfr_ b N1 N2 → (∀ j, j < 8 → jKf_ (135 + 12 * J j) M N1) → jq_ N1 J S → ∃ J2 S2, jq_ N2 J2 S2 ∧ jdX_ J2 S2 ∧ JT_ J2 c N2 ∧ HB_ J2 c N2 := fun b hb hr hk hqn =>
    ⟨J, S, by unfold jq_ at hqn ⊢; rw [hR.1]; exact hqn, hjd, JT_sub hJT hHB (fun m hm => ⟨_, _, hNK m hm⟩) e5 (cmd_no hJ9 hJT hb hr hX hR hk)⟩
  have doneNo : ¬ okE_ (tb_ M) fin → ∀ b, (b = 8 ∨ M.1 12 b = 0) → rfr_ b N1 N2 → ∃ J2 S2, jq_ N2 J2 S2 ∧ jdX_ J2 S2 ∧ JT_ J2 c N2 ∧ HB_ J2 c N2 := fun h b hb hr => by
    have e := cNo h
    refine done b hb hr (fun j hj => by rw [e]; exact kA j hj) (by rw [e]; exact qA)
  have doneNone : okE_ (tb_ M) fin → ¬ v = 5 → ¬ v = 4 → fj1_ A J 8 0 = none → ∀ b, (b = 8 ∨ M.1 12 b = 0) → rfr_ b N1 N2 → ∃ J2 S2, jq_ N2 J2 S2 ∧ jdX_ J2 S2 ∧ JT_ J2 c N2 ∧ HB_ J2 c N2 := fun h h5 h4 hf b hb hr => by
    have e := cNone h h5 h4 hf
    refine done b hb hr (fun j hj => by rw [e]; exact jKf_tr (kA j hj) (jKf_fi (by omega))) (by rw [e]; unfold jq_; rw [fi_22]; exact qA)
  unfold cmd_ at hcmd
  rcases vb_T hT hpn with ⟨g1, g2⟩ | ⟨g1, g2⟩
  · rw [if_pos g1] at hcmd
    have hno : ¬ okE_ (tb_ M) fin := by
      rw [e2] at g2
      subst g2
      rcases hV with ⟨-, h⟩ | ⟨h, -⟩ | ⟨h, -⟩ | ⟨h, -⟩
      · rw [h]; exact ok_n
      · exact absurd h (by decide)
      · exact absurd h (by decide)
      · exact absurd h (by decide)
    refine doneNo hno 8 (Or.inl rfl) ?_
    rw [hcmd.2]
    refine rf_0 (fun a i h => ?_) (fun a i h => ?_)
    · rw [fa_o h]; unfold ra_ cb_ bg_
      rw [gI_sL, gI_sI, if_neg (by omega), gI_sI, if_neg (by omega), gI_sI, if_neg (by omega), gI_sI, if_neg (by omega), gI_sI, if_neg (by omega), gI_sI, if_neg (by omega), gI_sI, if_neg (by omega)]
    · rw [fa_22]; unfold ra_; rw [gL_sL, if_neg (by omega)]; rfl
  · rw [if_neg g1] at hcmd
    rw [e2] at g2
    generalize ha : sp_ N1 n (p0 + rz_ N1 n p0) = a at hcmd g2
    have han : a ≤ n := by rw [← ha]; exact (sp_le (by omega)).2
    generalize hw : wc_ (rv_ (bf_ N1 n) p0 (rz_ N1 n p0)) (rz_ N1 n p0) = w at hcmd g2
    subst g2
    -- the reference's memory
    obtain ⟨B, hB⟩ : ∃ B, ce5_ N1 n p0 (rz_ N1 n p0) = B := ⟨_, rfl⟩
    rw [hB] at hcmd
    have bI : ∀ a i, ¬ a = 0 → B.1 a i = N1.1 a i := fun a i h => by
      rw [← hB]; unfold ce5_ ra_ cb_ bg_
      rw [gI_sI, if_neg (by omega), gI_sL, gI_sI, if_neg (by omega), gI_sI, if_neg (by omega), gI_sI, if_neg (by omega), gI_sI, if_neg (by omega), gI_sI, if_neg (by omega), gI_sI, if_neg (by omega), gI_sI, if_neg (by omega)]
    have bL : ∀ a i, ¬ a = 0 → B.2.1 a i = N1.2.1 a i := fun a i h => by
      rw [← hB]; unfold ce5_ ra_
      rw [gL_sI, gL_sL, if_neg (by omega)]; rfl
    have rB : ∀ b, rfr_ b N1 B := fun b => rf_0 bI bL
    have b14 : B.1 0 14 = 1 := by
      rw [← hB]; unfold ce5_ ra_ cb_
      rw [gI_sI, if_neg (by omega), gI_sL, gI_sI, if_neg (by omega), gI_sI, if_neg (by omega), gI_sI, if_pos ⟨rfl, rfl⟩]
    have b15 : B.1 0 15 = 3 := by
      rw [← hB]; unfold ce5_ ra_ cb_
      rw [gI_sI, if_neg (by omega), gI_sL, gI_sI, if_neg (by omega), gI_sI, if_pos ⟨rfl, rfl⟩]
    have bbf : bf_ B n = bf_ N1 n := by funext q; unfold bf_; rw [bI 1 q (by decide)]
    have hTB : TF_ (tb_ M) (bf_ B n) n := by rw [bbf]; exact hT
    have n14 : ¬ B.1 0 14 = 0 := by rw [b14]; decide
    have hK : KN_ B 7 false := Or.inr ⟨rfl, n14, rfl, b15⟩
    have hkB : kdE_ J A B := fun i hi => by rw [bI 12 i (by decide)]; exact hkA i hi
    have vw : v = w := e3
    have b12 : ∀ i, B.1 12 i = M.1 12 i := fun i => (bI 12 i (by decide)).trans (hX.1 12 i (by omega))
    have hjB : ∀ b, hj_ B b → b = 8 ∨ M.1 12 b = 0 := fun b h => h.elim (fun y => Or.inl y.2) (fun y => Or.inr (by rw [← b12 b]; exact y.2.2))
    have fjB : ∀ b, fj_ B 8 0 = nI b → b < 8 → fj1_ A J 8 0 = some b := fun b h hb => by
      rw [fj_T hkB 8 0 (by omega)] at h
      cases hf : fj1_ A J 8 0 with
      | none =>
        rw [hf] at h
        have h : (-1 : Int32) = nI b := h
        have := nI_n0 b (by omega)
        rw [← h] at this
        exact absurd (by decide) this
      | some i =>
        rw [hf] at h
        have hi := (fj1_in 8 0 i hf).2.1
        have h : nI i = nI b := h
        rw [(nI_eq (by omega) (by omega)).mp h]
    have fjN : fj_ B 8 0 < 0 → fj1_ A J 8 0 = none := fun h => (fj_neg hkB).mp h
    unfold cd5_ at hcmd
    rcases hV with ⟨h5, hf⟩ | ⟨h4, hf, h38⟩ | ⟨h23, hf, m2, m7, m9, m11⟩ | ⟨h1, p2, PO, PT, W1, X1, W2, X2, q, cc, b, hp2, k1, k2, k3, k4, k5, k6, k7, k8, x1, x2, x5, x6, x7, x9, xe, xd⟩
    · -- reset
      have h5 : w = 5 := h5
      have hf : fin = some a := hf
      subst hf
      have o := ok_s hTB han
      rw [h5, if_neg (by decide), if_neg (by decide), if_neg (by decide)] at hcmd
      by_cases q : a < n
      · rw [if_pos q] at hcmd
        refine doneNo (fun y => o.mp y q) 8 (Or.inl rfl) (rfr_tr (rB 8) ?_)
        rw [hcmd.2]
        exact rf_0 (fun a i h => by rw [fa_o h, gI_sI, if_neg (by omega)]) (fun a i h => by rw [fa_22]; rfl)
      · rw [if_neg q] at hcmd
        rcases hCR with ⟨y, -⟩ | ⟨-, hh⟩
        · exact absurd (e4.mpr (o.mpr q)) y
        · rcases hh with ⟨-, -, y⟩ | ⟨y, -⟩ | ⟨y, -⟩
          · have kz : kdE_ J N1 N2 := by rw [y, hcmd.2]; exact kd_reset
            have nz : ∀ j, j < 8 → N2.1 12 j = 0 := fun j hj => by
              rw [← (kz j hj).1, y]
              exact ea_0 8 0 0 A j (by omega) (by omega)
            refine ⟨J, S, ?_, hjd, JT_sub hJT hHB (fun m hm => ⟨_, _, hNK m hm⟩) e5 (fun j hj => Or.inl ⟨?_, nz j hj⟩)⟩
            · unfold jq_
              rw [hR.1, y, ea_2]
              exact qA
            · rw [hR.2.2.1 _ 0 (by omega), (kz j hj).1]; exact nz j hj
          · rw [vw, h5] at y; exact absurd y (by decide)
          · exact absurd (vw.trans h5) y.1
    · -- kill
      have h4 : w = 4 := h4
      have hf : fin = qw_ (tb_ M) (klT_ (tb_ M) (some a)).2 := hf
      have h38 : A.1 38 0 = (klT_ (tb_ M) (some a)).1 := h38
      rw [h4, if_neg (by decide), if_neg (by decide), if_pos rfl] at hcmd
      rcases kl_T hTB han with ⟨z, j1, j2⟩ | ⟨l, k, j1, j2, j3, j4, j5⟩
      · rw [j1] at hcmd
        obtain ⟨f, w2⟩ := z
        have hcmd : fo3_ B f w2 r2 N2 := hcmd
        exact doneNo (by rw [hf, j2]; exact ok_n) 8 (Or.inl rfl) (rfr_tr (rB 8) (rf_pf hcmd.2.1))
      · rw [j5] at hf
        rw [j4] at h38
        rw [j1] at hcmd
        have hsk := sp_le (M := B) j3
        have o := ok_s hTB hsk.2
        rw [← hf] at o
        unfold kl2_ at hcmd
        simp only at hcmd
        by_cases q : sp_ B n k < n
        · rw [if_pos q] at hcmd
          have hcmd : fo3_ B _ _ r2 N2 := hcmd
          exact doneNo (fun y => o.mp y q) 8 (Or.inl rfl) (rfr_tr (rB 8) (rf_pf hcmd.2.1))
        · rw [if_neg q, nI_clamp (by omega)] at hcmd
          rcases hCR with ⟨y, -⟩ | ⟨-, hh⟩
          · exact absurd (e4.mpr (o.mpr q)) y
          · rcases hh with ⟨y, -⟩ | ⟨-, x, B2, hx, hE⟩ | ⟨y, -⟩
            · rw [vw, h4] at y; exact absurd y (by decide)
            · rw [h38] at hx
              rcases hx with ⟨y, hx, hB2⟩ | ⟨i, hi, ei, hx, hB2⟩
              · have hl8 : 8 ≤ nI l := y.elim (fun y => absurd ((nI_ltI (a := l) (b := 0) (by omega) (by decide)).mp y) (by omega)) id
                rw [if_pos (Or.inl hl8)] at hcmd
                have hcmd : fo3_ B _ _ r2 N2 := hcmd
                have e : N1 = fiX_ A 5 (A.1 35 1) := by
                  rcases hE with ⟨y, -⟩ | ⟨-, -, y⟩
                  · exact absurd hx y
                  · rw [y, hB2]
                exact done 8 (Or.inl rfl) (rfr_tr (rB 8) (rf_pf hcmd.2.1)) (fun j hj => by rw [e]; exact jKf_tr (kA j hj) (jKf_fi (by omega))) (by rw [e]; unfold jq_; rw [fi_22]; exact qA)
              · have hli : l = i := (nI_eq (by omega) (by omega)).mp ei
                subst hli
                have n8 : ¬ (8 : Int32) ≤ nI l := fun y => absurd ((nI_leI (a := 8) (b := l) (by decide) (by omega)).mp y) (by omega)
                rw [(hkB l hi).1] at hx hB2
                by_cases q0 : B.1 12 l = 0
                · rw [if_pos (Or.inr q0)] at hcmd
                  have hcmd : fo3_ B _ _ r2 N2 := hcmd
                  rw [if_pos q0] at hx hB2
                  have e : N1 = fiX_ A 5 (A.1 35 1) := by
                    rcases hE with ⟨y, -⟩ | ⟨-, -, y⟩
                    · exact absurd hx y
                    · rw [y, hB2]
                  exact done 8 (Or.inl rfl) (rfr_tr (rB 8) (rf_pf hcmd.2.1)) (fun j hj => by rw [e]; exact jKf_tr (kA j hj) (jKf_fi (by omega))) (by rw [e]; unfold jq_; rw [fi_22]; exact qA)
                · rw [if_neg (fun y => y.elim n8 q0)] at hcmd
                  obtain ⟨-, -, -, hN2⟩ := hcmd
                  rw [if_neg q0] at hx hB2
                  have e : N1 = sI_ A (135 + 12 * J l) 0 0 := by
                    rcases hE with ⟨-, -, y⟩ | ⟨y, -⟩
                    · rw [y, hB2]
                    · have e : nI l = -1 := hx.symm.trans y
                      have := nI_n0 l (by omega)
                      rw [e] at this
                      exact absurd (by decide) this
                  refine ⟨J, S, by unfold jq_; rw [hR.1, e]; exact qA, hjd, JT_sub hJT hHB (fun m hm => ⟨_, _, hNK m hm⟩) e5 (fun j hj => ?_)⟩
                  by_cases ejl : j = l
                  · subst ejl
                    refine Or.inl ⟨?_, ?_⟩
                    · rw [hR.2.2.1 _ 0 (by omega), e, gI_sI, if_pos ⟨rfl, rfl⟩]
                    · rw [hN2, gI_sI, if_pos ⟨rfl, rfl⟩]
                  · have nJ : ¬ J j = J l := fun y => ejl (hd j l hj hi y)
                    have k2 : jKf_ (135 + 12 * J j) M N2 := jKf_tr (kA j hj) (jKf_tr (fun a i z1 z2 => by rw [e]; exact ⟨by rw [gI_sI, if_neg (by omega)], rfl⟩) (jKf_hR (by omega) hR))
                    have kr : N2.1 12 j = B.1 12 j ∧ jKr_ j B N2 := by
                      rw [hN2]
                      exact ⟨by rw [gI_sI, if_neg (by omega), gI_sI, if_neg (by omega)], fun a i z => by unfold jcQ_ at z; rw [gI_sI, if_neg (by omega), gI_sI, if_neg (by omega)], fun i _ _ => rfl⟩
                    by_cases q1 : M.1 12 j = 0
                    · refine Or.inl ⟨?_, ?_⟩
                      · rw [(k2 _ 0 (by omega) (by omega)).1, (hJT.1 j hj).1, q1]
                      · rw [kr.1, b12 j, q1]
                    · exact Or.inr (Or.inl ⟨q1, rfl, jKf_x k2, (k2 _ 9 (by omega) (by omega)).1, jKr_tr (jKr_hX hX) (jKr_tr ((rB 8 j hj).2 (by omega)) kr.2)⟩)
            · exact absurd (vw.trans h4) y.2
    · -- monitor, keep
      have h23 : w = 2 ∨ w = 3 := h23
      have hf : fin = qw_ (tb_ M) (patT_ (tb_ M) (some a)).2 := hf
      have m2 : A.2.1 (135 + 12 * S) 2 = (patT_ (tb_ M) (some a)).1 := m2
      have w1 : ¬ w = 1 := fun y => by rw [y] at h23; exact absurd h23 (by decide)
      have w4 : w < 4 := h23.elim (fun y => by rw [y]; decide) (fun y => by rw [y]; decide)
      have v5 : ¬ v = 5 := fun y => by rw [← vw, y] at h23; exact absurd h23 (by decide)
      have v4 : ¬ v = 4 := fun y => by rw [← vw, y] at h23; exact absurd h23 (by decide)
      rw [if_neg w1, if_pos w4] at hcmd
      rcases pd_T hTB han with ⟨z, j1, j2⟩ | ⟨pl, j1, j2, j3, j4, j5, j6, j7⟩
      · rw [j1] at hcmd
        obtain ⟨f, w2⟩ := z
        have hcmd : fo4_ B f w2 r2 N2 := hcmd
        exact doneNo (by rw [hf, j2]; exact ok_n) 8 (Or.inl rfl) (rfr_tr (rB 8) (rf_ph (ph_pg hcmd.2.1)))
      · rw [j7] at hf
        rw [j1] at hcmd
        have hsk := sp_le (M := B) j3
        have o := ok_s hTB hsk.2
        rw [← hf] at o
        unfold sb_ at hcmd
        simp only at hcmd
        by_cases q : sp_ B n (a + pl) < n
        · rw [if_pos q] at hcmd
          have hcmd : fo4_ B _ _ r2 N2 := hcmd
          exact doneNo (fun y => o.mp y q) 8 (Or.inl rfl) (rfr_tr (rB 8) (rf_ph (ph_pg hcmd.2.1)))
        · rw [if_neg q] at hcmd
          by_cases f : fj_ B 8 0 < 0
          · rw [if_pos f] at hcmd
            have hcmd : fo4_ B _ _ r2 N2 := hcmd
            exact doneNone (o.mpr q) v5 v4 (fjN f) 8 (Or.inl rfl) (rfr_tr (rB 8) (rf_ph (ph_pg hcmd.2.1)))
          · rw [if_neg f] at hcmd
            obtain ⟨x, N0, y1, y2, y3, y4, y5, y6, y7, y8, y9⟩ := hcmd
            have hN1 := cNew (o.mpr q) v5 v4 x (fjB x y3 y2)
            refine new_job (kd := w) (z := pl) (f := bf_ B n) (s := a) hS hJ hd hq hc hJT hHB hNK hcz hN1 y2 hX hR n5 (fun j hj hne => ?_) ?_ (by rw [ek0]; exact vw) (Or.inr h23) m9 j2 ?_ (fun i hi => ?_) (m2.trans j6) j5 (fun y => absurd y w1) (fun y i hi => ?_)
            · have k := nj_Kr (M := N0) (z := pl) (kd := w) j2 hne
              have kp := rf_ph (ph_pg (J := 8) y5) j hj
              rw [y9]
              exact ⟨k.1.trans (kp.1.trans (bI 12 j (by decide))), jKr_tr ((rB 8 j hj).2 (by omega)) (jKr_tr (kp.2 (by omega)) k.2)⟩
            · rw [y9]; exact nj_12
            · rw [y9]; exact nj_18
            · rw [y9, nj_17 hi j2]; exact y8 i hi
            · rw [y9, nj_20 hi]; exact m11 i hi
    · -- watch
      have h1 : w = 1 := h1
      have v5 : ¬ v = 5 := fun y => by rw [vw, h1] at y; exact absurd y (by decide)
      have v4 : ¬ v = 4 := fun y => by rw [vw, h1] at y; exact absurd y (by decide)
      obtain rfl : a = p2 := Option.some.inj hp2
      rw [h1, if_pos rfl] at hcmd
      rcases wt_T hTB hK n14 han k1 k2 k3 k4 k5 k6 k7 k8 with ⟨z, j1, j2⟩ | ⟨s2, pl, xt, c2, lim, j1, j2, j3, j4, j5, j6, j7, ⟨kk, mm, j8⟩, j9, j10⟩
      · rw [j1] at hcmd
        obtain ⟨f, w2⟩ := z
        obtain ⟨-, ⟨b0, hb0, hph⟩, -⟩ := hcmd
        by_cases ok : okE_ (tb_ M) fin
        · exact doneNone ok v5 v4 (fjN (j2.resolve_left (fun y => y ok))) b0 (hjB b0 hb0) (rfr_tr (rB b0) (rf_ph hph))
        · exact doneNo ok b0 (hjB b0 hb0) (rfr_tr (rB b0) (rf_ph hph))
      · obtain ⟨⟨q1, q2, hx1⟩, hx2⟩ := wt_in j1
        have hx1 : ex_ B n q1 = .inl (tm_ xt, q2) := hx1
        have hx2 : ∀ e, c2 = some e → ∃ k1 k2, ex_ B n k1 = .inl (e, k2) := hx2
        rw [j1] at hcmd
        obtain ⟨b8, N0, y1, y2, y3, y4, y5, y6, y7, y8, y9, y10⟩ := hcmd
        have fb : fj_ B 8 0 = nI b8 := y3.elim (fun y => by omega) (fun y => y.1)
        have hN1 := cNew j2 v5 v4 b8 (fjB b8 fb y2)
        have nn : ∀ a i, ¬ ((a = 13 ∨ a = 14 ∨ a = 16) ∧ i = b8) → N2.1 a i = (nj_ N0 b8 pl 1).1 a i := fun a i h => by rw [y10, gI_sI, if_neg (by omega), gI_sI, if_neg (by omega), gI_sI, if_neg (by omega)]
        have n22 : ∀ a i, N2.2.1 a i = N0.2.1 a i := fun a i => by rw [y10, gL_sI, gL_sI, gL_sI, nj_R2]
        obtain ⟨t1, t2, t3, t4⟩ := ex_tr b14 hx1 (k4.trans j8)
        have hd1 := xe.2 _ j8
        have n15 : N2.1 15 b8 = nI 0 := by rw [nn 15 b8 (by omega), nj_15]; rfl
        have n14b : N2.1 14 b8 = lim := by rw [y10, gI_sI, if_neg (by omega), gI_sI, if_pos ⟨rfl, rfl⟩]
        have n16 : N2.1 16 b8 = vp_nar .boolean (oc_ c2) := by rw [y10, gI_sI, if_pos ⟨rfl, rfl⟩]
        have rc : ∀ e t, (t = 16 + 2 * b8 ∨ t = 17 + 2 * b8) → (tc_ (tm_ e)).length ≤ 40 → sd_ N0 t (tm_ e) → sd_ N2 t (tm_ e) := fun e t ht hl h => sd_cg h (by omega) (by rw [nn 4 _ (by omega), nj_o (by omega) (by omega) (by omega)]) (fun i hi => by rw [nn 2 _ (by omega), nj_o (by omega) (by omega) (by omega)]) (fun i hi => n22 _ _)
        refine new_job (kd := 1) (z := pl) (f := bf_ B n) (s := s2) hS hJ hd hq hc hJT hHB hNK hcz hN1 y2 hX hR n5 (fun j hj hne => ?_) ?_ (by rw [ek0]; exact vw.trans h1) (Or.inl rfl) x9 j4 ?_ (fun i hi => ?_) (x2.trans j7) j6 (fun _ => ⟨?_, ?_, ?_, ?_, ?_, ?_⟩) (fun y => absurd y (by decide))
        · have k := nj_Kr (M := N0) (z := pl) (kd := 1) (j := j) j4 hne
          have kp := rf_ph y4 j hj
          have k3 : jKr_ j (nj_ N0 b8 pl 1) N2 := ⟨fun a i z => nn a i (by unfold jcQ_ at z; omega), fun i _ _ => by rw [n22, nj_R2]⟩
          exact ⟨(nn 12 j (by omega)).trans (k.1.trans (kp.1.trans (bI 12 j (by decide)))), jKr_tr ((rB 8 j hj).2 (by omega)) (jKr_tr (kp.2 hne) (jKr_tr k.2 k3))⟩
        · rw [nn 12 b8 (by omega)]; exact nj_12
        · rw [nn 18 b8 (by omega)]; exact nj_18
        · rw [nn 17 _ (by omega), nj_17 hi j4]; exact y7 i hi
        · rw [x1, y10, gI_sI, if_neg (by omega), gI_sI, if_neg (by omega), gI_sI, if_pos ⟨rfl, rfl⟩]
        · rw [n14b, x6]
          rcases j10 with ⟨l1, l2⟩ | ⟨l1, l, l2, l3, l4, l5⟩
          · rw [l1, l2]; rfl
          · rw [l1, l4, l5]; rfl
        · rw [n15, x7]; rfl
        · rw [n14b]
          rcases j10 with ⟨l1, l2⟩ | ⟨l1, l, l2, l3, l4, l5⟩
          · exact ⟨0, 99, n15, by rw [l2]; rfl, by omega, by omega⟩
          · exact ⟨0, l, n15, l4, by omega, by omega⟩
        · exact ⟨xt, ⟨t1, t2, t3, hd1.1, by have := hd1.2; show snX_ xt ≤ 26; have h9 : 3 * snX_ xt + 1 ≤ 80 := this; omega⟩, t1, t2, t3, rc xt _ (Or.inl rfl) t4 y8, t4⟩
        · rw [n16, x5]
          rcases j9 with ⟨l1, l2⟩ | ⟨l1, x, l2, l3⟩
          · rw [l1, l2]; exact Or.inl ⟨rfl, by decide⟩
          · obtain ⟨x, kx, mx⟩ := x
            have l3 : c2 = some (tm_ x) := l3
            obtain ⟨u1, u2, hx3⟩ := hx2 _ l3
            obtain ⟨s1, s2, s3, s4⟩ := ex_tr b14 hx3 (k6.trans l2)
            have hd2 := (xd l1).2 _ l2
            rw [l1, l3]
            exact Or.inr ⟨by decide, show ¬ vp_nar .boolean 1 = 0 by decide, x, ⟨s1, s2, s3, hd2.1, by have h9 : 3 * snX_ x + 1 ≤ 80 := hd2.2; omega⟩, s1, s2, s3, rc x _ (Or.inr rfl) s4 (y9 _ l3), s4⟩

end
section
/-! the tables behind a method; records, kept, value, invoked behind both -/
def TLq_ (M : mm_) : Prop := RT_ M ∧ M.1 247 0 = M.1 0 41 ∧ M.1 247 1 = M.1 0 40
/-- the cells of records, what was kept, value, invoked -/
def tlc_ (a i : Nat) : Prop := (243 ≤ a ∧ a ≤ 247) ∨ a = 21 ∨ a = 22 ∨ (a = 0 ∧ (i = 35 ∨ i = 37 ∨ i = 40 ∨ i = 41))
def tlK_ (M N : mm_) : Prop := ∀ a i, tlc_ a i → N.1 a i = M.1 a i
theorem tlK_tr {M N O : mm_} (h1 : tlK_ M N) (h2 : tlK_ N O) : tlK_ M O := fun a i z => (h2 a i z).trans (h1 a i z)
theorem TL_cg {M N : mm_} (h : tlK_ M N) (g : TLq_ M) : TLq_ N := by
  obtain ⟨⟨a, b, r1, r2, r3, r4, r5, r6, r7, r8, r9, r10, r11, r12⟩, g2, g3⟩ := g
  have k : ∀ a i, tlc_ a i → N.1 a i = M.1 a i := h
  unfold tlc_ at k
  unfold TLq_ RT_
  refine ⟨⟨a, b, r1, (k _ _ (by omega)).trans r2, (k _ _ (by omega)).trans r3, (k _ _ (by omega)).trans r4, (k _ _ (by omega)).trans r5, fun i hi => ?_, r7, (k _ _ (by omega)).trans r8, (k _ _ (by omega)).trans r9, (k _ _ (by omega)).trans r10, (k _ _ (by omega)).trans r11, fun i hi => ?_⟩, ?_, ?_⟩
  · rw [k 244 i (by omega), k 21 i (by omega)]; exact r6 i hi
  · rw [k 246 i (by omega), k 22 i (by omega)]; exact r12 i hi
  · rw [k 247 0 (by omega), k 0 41 (by omega)]; exact g2
  · rw [k 247 1 (by omega), k 0 40 (by omega)]; exact g3
theorem tl_I {M : mm_} {a i : Nat} {v : Int32} (h : ¬ tlc_ a i) : tlK_ M (sI_ M a i v) := fun b j z => by
  rw [gI_sI, if_neg (fun y => h (by rw [← y.1, ← y.2]; exact z))]
theorem tl_pf {M N : mm_} (h : pf_ M N) : tlK_ M N := fun a i z => by
  unfold tlc_ at z
  exact h.1 a i (by omega) (by omega) (by omega) (by omega) (by omega) (by omega)
theorem tl_ph {b : Nat} {M N : mm_} (h : ph_ b M N) : tlK_ M N := fun a i z => by
  unfold tlc_ at z
  exact h.1 a i (by omega) (by omega) (by omega) (by omega) (by omega) (by omega) (by omega) (by omega) (by omega)
theorem tl_mw {M : mm_} {v : Int32} : tlK_ M (mw_ M v) := fun a i z => by
  unfold tlc_ at z
  unfold mw_ bg_
  rw [gI_sI, if_neg (by omega), gI_sI, if_neg (by omega), gI_sI, if_neg (by omega), gI_sI, if_neg (by omega), gI_sI, if_neg (by omega), gI_sI, if_neg (by omega)]
theorem tl_fa {M : mm_} {f w : Int32} : tlK_ M (fa_ M f w) := fun a i z => by
  unfold tlc_ at z
  exact fa_at (by omega)
theorem jm_o {J : Nat → Nat} {x : Int32} {y : Int64} : ∀ (u i : Nat) (M : mm_) (a z : Nat), ¬ (z = 9 ∧ ∃ j, i ≤ j ∧ j < i + u ∧ a = 135 + 12 * J j) → (jm1_ J x y u i M).1 a z = M.1 a z
  | 0, _, _, _, _, _ => rfl
  | u + 1, i, M, a, z, h => by rw [jm1_, jm_o u (i + 1) _ a z (fun ⟨h1, j, h2, h3, h4⟩ => h ⟨h1, j, by omega, by omega, h4⟩), mee_o (fun w => h ⟨w.2, i, by omega, by omega, w.1⟩)]
theorem jm_2 {J : Nat → Nat} {x : Int32} {y : Int64} : ∀ (u i : Nat) (M : mm_), (jm1_ J x y u i M).2 = M.2
  | 0, _, _ => rfl
  | u + 1, i, M => by rw [jm1_, jm_2 u (i + 1), mee_2]
theorem mee_9 {M N : mm_} {k : Nat} {x : Int32} {y : Int64} (h1 : N.1 k 9 = M.1 k 9) (h2 : N.2 = M.2) : (mee_ N k x y).1 k 9 = (mee_ M k x y).1 k 9 := by
  unfold mee_
  rw [h2]
  split
  · exact h1
  · rw [gI_sI, if_pos ⟨rfl, rfl⟩, gI_sI, if_pos ⟨rfl, rfl⟩, h1]
theorem jm_9 {J : Nat → Nat} {x : Int32} {y : Int64} (hd : ∀ i j, i < 8 → j < 8 → J i = J j → i = j) : ∀ (u i : Nat) (M : mm_) (j : Nat), i + u ≤ 8 → i ≤ j → j < i + u → (jm1_ J x y u i M).1 (135 + 12 * J j) 9 = (mee_ M (135 + 12 * J j) x y).1 (135 + 12 * J j) 9
  | 0, _, _, _, _, _, _ => by omega
  | u + 1, i, M, j, hi, h1, h2 => by
    rw [jm1_]
    by_cases e : i = j
    · subst e
      rw [jm_o u (i + 1) _ _ _ (fun ⟨_, q, q1, q2, q3⟩ => by have := hd i q (by omega) (by omega) (by omega); omega)]
    · rw [jm_9 hd u (i + 1) _ j (by omega) (by omega) (by omega)]
      have hne : ¬ J j = J i := fun y => e (hd i j (by omega) (by omega) y.symm)
      exact mee_9 (mee_o (by omega)) mee_2
theorem nI_m1 {c : Nat} (hc : c ≤ 16) : ¬ nI c = -1 := fun y => by
  have : ∀ c, c ≤ 16 → ¬ nI c = -1 := by decide
  exact this c hc y
/-- the tables behind a method -/
theorem met_st {n c S : Nat} {J : Nat → Nat} {M N1 N2 : mm_} {r r2 : Int32} (hS : S < 9) (hJ : ∀ i, i < 8 → J i < 9) (hd : ∀ i j, i < 8 → j < 8 → J i = J j → i = j) (hq : jq_ M J S) (hJT : JT_ J c M) (hHB : HB_ J c M) (hTC : TC_ n c M) (hMR : MR_ n c S J M r N1) (hMD : MDc_ n c r N1) (hmo : mo_ N1 n c (me_ N1 n c) r2 N2) : r2 = r ∧ ∃ c2, TC_ n c2 N2 ∧ jq_ N2 J S ∧ JT_ J c2 N2 ∧ HB_ J c2 N2 ∧ tlK_ M N2 := by
  have hX := hX_MR hMR
  have hR := hR_mo hmo
  obtain ⟨⟨n2, c2, t⟩, rfl⟩ := TM_mo hMD hmo
  have hc := hTC.2.2.2.1.1
  have hNK : ∀ m, m < c → NK_ (M.2.1 46 m) (M.2.1 5 m) (M.1 6 m) := fun m hm => (hTC.2.2.2.2.2 m hm).1
  obtain rfl : n2 = n := (nI_eq (by have := t.1.1; omega) (by have := hMD.1.1; omega)).mp (by rw [← t.1.2, hR.2.2.1 35 1 (by omega)]; exact hMD.1.2)
  have rmw : ∀ v, rfr_ 8 N1 (mw_ N1 v) := fun v => rf_0 (fun a i h => by unfold mw_ bg_; rw [gI_sI, if_neg (by omega), gI_sI, if_neg (by omega), gI_sI, if_neg (by omega), gI_sI, if_neg (by omega), gI_sI, if_neg (by omega), gI_sI, if_neg (by omega)]) (fun a i h => rfl)
  obtain ⟨key, A, hRM, hMR⟩ := hMR
  obtain ⟨hcr, -, -, hkey, -⟩ := hRM
  have aI : ∀ a i, a ≠ 37 → a ≠ 39 → (a < 48 + 5 * c ∨ 48 + 5 * c + 4 < a) → A.1 a i = M.1 a i := hcr.2.1
  have aL : ∀ a i, a ≠ 37 → a ≠ 48 + 5 * c + 2 → A.2.1 a i = M.2.1 a i := hcr.2.2
  have aR : ∀ a i, a ≠ 39 → A.2.2 a i = M.2.2 a i := hcr.1
  have kA : ∀ j, j < 8 → jKf_ (135 + 12 * J j) M A := fun j hj a i z1 z2 => ⟨aI a i (by omega) (by omega) (by omega), aL a i (by omega) (by omega)⟩
  have tA : tlK_ M A → True := fun _ => trivial
  have qA : jq_ A J S := ⟨fun i hi => ⟨(hq.1 i hi).1, by rw [aR 134 i (by omega)]; exact (hq.1 i hi).2⟩, hq.2.1, by rw [aR 133 1 (by omega)]; exact hq.2.2⟩
  -- the reference's cells above 242 are the class's
  have tlA : ∀ a i, 243 ≤ a → A.1 a i = M.1 a i := fun a i z => aI a i (by omega) (by omega) (by omega)
  have tl1 : (∀ a i, 243 ≤ a → N1.1 a i = M.1 a i) → tlK_ M N1 := fun h a i z => by
    unfold tlc_ at z
    by_cases q : a < 34
    · exact hX.1 a i q
    · exact h a i (by omega)
  obtain ⟨b1, b2, b3, b5, -, b6, hMD⟩ := id hMD
  rcases hMD with ⟨rfl, a4, q, hq2⟩ | ⟨rfl, a4, e, a, p, hq2, k1, k2, k3, k4⟩
  · obtain rfl : c2 = c := (nI_eq (by have := t.2.2.2.1.1; omega) (by omega)).mp (by rw [← t.2.2.2.1.2, hR.2.2.1 45 2 (by omega)]; exact a4.2)
    rw [hq2] at hmo
    obtain ⟨f, w⟩ := q
    obtain ⟨-, ⟨v, h1⟩, -⟩ := hmo
    have hr : rfr_ 8 N1 N2 := rfr_tr (rmw v) (rf_pf h1)
    have e5 : ∀ m, m < c2 → N2.2.1 5 m = M.2.1 5 m := fun m hm => by
      rw [h1.2.1 5 m (by omega) (by omega) (by omega)]
      exact hX.2 5 m (by omega)
    have fin : (∀ j, j < 8 → jKf_ (135 + 12 * J j) M N1) → jq_ N1 J S → (∀ a i, 243 ≤ a → N1.1 a i = M.1 a i) → (-1 : Int32) = -1 ∧ ∃ c3, TC_ n2 c3 N2 ∧ jq_ N2 J S ∧ JT_ J c3 N2 ∧ HB_ J c3 N2 ∧ tlK_ M N2 := fun hk hqn ht => by
      obtain ⟨s1, s2⟩ := JT_sub (J2 := J) hJT hHB (fun m hm => ⟨_, _, hNK m hm⟩) e5 (cmd_no hJ hJT (Or.inl rfl) hr hX hR hk)
      exact ⟨rfl, c2, t, by unfold jq_ at hqn ⊢; rw [hR.1]; exact hqn, s1, s2, tlK_tr (tl1 ht) (tlK_tr tl_mw (tl_pf h1))⟩
    rcases hMR with ⟨-, -, rfl⟩ | ⟨-, -, -, -, rfl⟩ | ⟨-, -, -, y, -⟩
    · exact fin (fun j hj => jKf_tr (kA j hj) (jKf_fi (by omega))) (by unfold jq_; rw [fi_22]; exact qA) (fun a i z => by rw [← tlA a i z]; unfold fiX_; split; (rw [gI_sI, if_neg (by omega), gI_sI, if_neg (by omega)]); rfl)
    · exact fin kA qA tlA
    · exact absurd y.symm (nI_m1 hc)
  · obtain rfl : c2 = c + 1 := (nI_eq (by have := t.2.2.2.1.1; omega) (by omega)).mp (by rw [← t.2.2.2.1.2, hR.2.2.1 45 2 (by omega)]; exact a4.2)
    have hl : (tc_ (tm_ e)).length ≤ 40 := by have := tc_le (tm_ e); have := (me_wf hq2).2; omega
    rw [hq2] at hmo
    obtain ⟨-, hc16, N0, k, nd, op, h1, h2, h3, hN2⟩ := hmo
    rcases hMR with ⟨-, y, -⟩ | ⟨-, -, -, y, -⟩ | ⟨-, -, -, -, hN1⟩
    · exact absurd y (nI_m1 hc)
    · exact absurd y (nI_m1 hc)
    have hI : ∀ a2 i, ¬ (a2 = 0 ∧ i = 9) → ¬ (a2 = 4 ∧ i = c) → ¬ (a2 = 6 ∧ i = c) → ¬ (a2 = 2 ∧ 64 * c ≤ i ∧ i < 64 * c + (tc_ (tm_ e)).length) → N2.1 a2 i = N0.1 a2 i := fun a2 i z1 z2 z3 z4 => by
      rw [hN2]
      unfold mk_
      rw [gI_sI, if_neg z1, gI_sI, if_neg z2, kx_I (by omega) _ (by omega), if_neg z4, gI_sI, if_neg z3]
      rfl
    have hL : ∀ a2 i, ¬ (a2 = 3 ∧ 64 * c ≤ i ∧ i < 64 * c + (tc_ (tm_ e)).length) → ¬ (a2 = 5 ∧ i = c) → N2.2.1 a2 i = N0.2.1 a2 i := fun a2 i z z2 => by
      rw [hN2]
      unfold mk_
      rw [gL_sI, gL_sI, kx_L (by omega) _ (by omega), if_neg z, gL_sI, gL_sL, if_neg z2]
    have hr : rfr_ 8 N1 N2 := rfr_tr (rfr_tr (rmw p) (rf_pf h1)) (fun j hj => ⟨hI 12 j (by omega) (by omega) (by omega) (by omega), fun _ => ⟨fun a2 i z => by
      unfold jcQ_ at z
      exact hI a2 i (by omega) (by omega) (by omega) (by omega), fun i z1 z2 => hL 3 i (by omega) (by omega)⟩⟩)
    -- the class's rows
    have mI : ∀ a i, ¬ (a = 45 ∧ i = 2) → (ma_ A c key).1 a i = A.1 a i := fun a i z => by unfold ma_; rw [gI_sI, if_neg z]; rfl
    have mL : ∀ a i, ¬ (a = 46 ∧ i = c) → (ma_ A c key).2.1 a i = A.2.1 a i := fun a i z => by unfold ma_; rw [gL_sI, gL_sL, if_neg z]
    have n1I : ∀ a i, ¬ (i = 9 ∧ 135 ≤ a ∧ a < 243) → ¬ (a = 45 ∧ i = 2) → N1.1 a i = A.1 a i := fun a i z1 z2 => by
      rw [hN1, jm_o 8 0 _ a i (fun ⟨w1, j, w2, w3, w4⟩ => z1 ⟨w1, by omega, by have := hJ j (by omega); omega⟩), mI a i z2]
    have n1L : ∀ a i, N1.2.1 a i = (ma_ A c key).2.1 a i := fun a i => by rw [hN1, jm_2]
    have n1x : ∀ j, j < 8 → ∀ a i, 135 + 12 * J j ≤ a → a ≤ 135 + 12 * J j + 11 → ¬ (a = 135 + 12 * J j ∧ i = 9) → N1.1 a i = A.1 a i := fun j hj a i z1 z2 z3 => by
      have hJj := hJ j hj
      rw [hN1, jm_o 8 0 _ a i (fun ⟨w1, j2, w2, w3, w4⟩ => z3 ⟨by have := hJ j2 (by omega); omega, w1⟩), mI a i (by omega)]
    have kx : ∀ j, j < 8 → jKx_ (135 + 12 * J j) M N2 := fun j hj => by
      have hJj := hJ j hj
      exact jKx_tr (jKf_x (kA j hj)) (jKx_tr ⟨fun a i z1 z2 z3 => n1x j hj a i z1 z2 z3, fun a i z1 z2 => by rw [n1L, mL a i (by omega)]⟩ (jKx_hR (by omega) hR))
    have c9 : ∀ j, j < 8 → N2.1 (135 + 12 * J j) 9 = if ftX_ (M.2.1 (135 + 12 * J j) 2) key = 0 then M.1 (135 + 12 * J j) 9 else M.1 (135 + 12 * J j) 9 ||| (1 <<< (nI c &&& 31)) := fun j hj => by
      have hJj := hJ j hj
      rw [hR.2.2.1 _ 9 (by omega), hN1, jm_9 hd 8 0 _ j (by omega) (by omega) (by omega)]
      unfold mee_
      rw [mL _ 2 (by omega), aL _ 2 (by omega) (by omega)]
      split
      · rw [mI _ 9 (by omega), aI _ 9 (by omega) (by omega) (by omega)]
      · rw [gI_sI, if_pos ⟨rfl, rfl⟩, mI _ 9 (by omega), aI _ 9 (by omega) (by omega) (by omega)]
    have k46 : ∀ m, m < c → N2.2.1 46 m = M.2.1 46 m := fun m hm => by
      rw [hR.2.2.2 46 m (by omega), n1L, mL 46 m (by omega), aL 46 m (by omega) (by omega)]
    have k46c : N2.2.1 46 c = key := by
      rw [hR.2.2.2 46 c (by omega), n1L]; unfold ma_; rw [gL_sI, gL_sL, if_pos ⟨rfl, rfl⟩]
    have e12 : ∀ j, j < 8 → N2.1 12 j = M.1 12 j := fun j hj => (hr j hj).1.trans (hX.1 12 j (by omega))
    refine ⟨rfl, c + 1, t, ?_, ⟨fun j hj => ?_, fun j hj h0 => ?_⟩, fun j hj h0 m z1 z2 => ?_, ?_⟩
    · unfold jq_
      rw [hR.1, hN1, jm_2]
      exact qA
    · rw [e12 j hj, (kx j hj).1 _ 0 (by omega) (by omega) (by omega)]
      exact hJT.1 j hj
    · rw [e12 j hj] at h0
      have g := hJT.2 j hj h0
      refine JT1_cg hj rfl (kx j hj) (jKr_tr (jKr_hX hX) ((hr j hj).2 (by omega))) (fun m => N2.2.1 46 m) (fun m hm => ⟨_, (t.2.2.2.2.2 m hm).1⟩) (fun m hm => ?_) g
      show _ ↔ ¬ ftX_ (M.2.1 (135 + 12 * J j) 2) (N2.2.1 46 m) = 0
      rw [c9 j hj]
      by_cases e : m = c
      · subst e
        rw [k46c]
        by_cases q : ftX_ (M.2.1 (135 + 12 * J j) 2) key = 0
        · rw [if_pos q]
          exact ⟨fun y => absurd y (hHB j hj h0 m (by omega) (by omega)), fun y => absurd q y⟩
        · rw [if_neg q, bt_or _ (by omega) (by omega)]
          exact ⟨fun _ => q, fun _ => Or.inr rfl⟩
      · have hm2 : m < c := by omega
        rw [k46 m hm2, ← JT1_bits g hm2 (hNK m hm2)]
        split
        · exact Iff.rfl
        · rw [bt_or _ (by omega) (by omega)]
          exact ⟨fun y => y.elim id (fun y => absurd y.symm e), Or.inl⟩
    · rw [e12 j hj] at h0
      rw [c9 j hj]
      have := hHB j hj h0 m (by omega) z2
      split
      · exact this
      · rw [bt_or _ (by omega) z2]
        exact fun y => y.elim this (fun y => by omega)
    · refine tlK_tr (tl1 (fun a i z => by rw [n1I a i (by omega) (by omega), tlA a i z])) (tlK_tr tl_mw (tlK_tr (tl_pf h1) (fun a i z => ?_)))
      unfold tlc_ at z
      exact hI a i (by omega) (by omega) (by omega) (by omega)

end
section
/-! what was kept are methods that are there -/
def KpA_ (c : Nat) (s : sgA_) : Prop := ∀ i, i < s.2.2.2.2.1.1 → ∃ m, m < c ∧ s.2.2.2.2.1.2 (7 * i + 1) = nI m
theorem rc_kp {E : se_} {j m d : Nat} {x e : Int32} {s : sgA_} : (rcA_ E j m d x e s).2.2.2.2.1 = s.2.2.2.2.1 := by
  have h : ∀ s2 : sgA_, s2 = (if s.2.1 j + 1 < E.2.2.2.2.1 j then sM_ s j (s.2.1 j + 1) else sK_ (sM_ s j (s.2.1 j + 1)) j 0) → s2.2.2.2.2.1 = s.2.2.2.2.1 := by
    intro s2 e2
    split at e2
    · rw [e2]; rfl
    · rw [e2]; rfl
  unfold rcA_
  have h2 := h _ rfl
  generalize (if s.2.1 j + 1 < E.2.2.2.2.1 j then sM_ s j (s.2.1 j + 1) else sK_ (sM_ s j (s.2.1 j + 1)) j 0) = q at h2 ⊢
  unfold sR5_
  split
  · exact h2
  · exact h2
theorem wg_kp {E : se_} {j m d : Nat} {V : Nat → Int32} {s : sgA_} : (wgA_ E j m d V s).2.2.2.2.1 = s.2.2.2.2.1 := by
  unfold wgA_
  split <;> exact rc_kp
theorem wt_kp {E : se_} {j m d : Nat} {V : Nat → Int32} {s : sgA_} : (wtA_ E j m d V s).2.2.2.2.1 = s.2.2.2.2.1 := by
  unfold wtA_
  split
  · exact wg_kp
  · split
    · split
      · rfl
      · exact wg_kp
    · exact rc_kp
theorem Kp_cg {c : Nat} {s s2 : sgA_} (h : s2.2.2.2.2.1 = s.2.2.2.2.1) (g : KpA_ c s) : KpA_ c s2 := fun i hi => by
  rw [h] at hi ⊢
  exact g i hi
theorem Kp_E7 {c j m p : Nat} {P : Nat → Int32} {v : Int32} {s : sgA_} (hm : m < c) (g : KpA_ c s) : KpA_ c (kpA_ j m p P v s) := by
  unfold kpA_ sE7_
  split
  · exact g
  · split
    · intro i hi
      have hi : i < s.2.2.2.2.1.1 + 1 := hi
      show ∃ m2, m2 < c ∧ rw5_ s.2.2.2.2.1.2 s.2.2.2.2.1.1 7 (fun i => if i = 0 then nI j else if i = 1 then nI m else if i < 5 then P (i - 2) else if i = 5 then (if p = 2 then 1 else 0) else v) (7 * i + 1) = nI m2
      unfold rw5_
      by_cases e : i = s.2.2.2.2.1.1
      · rw [if_pos (by omega), show 7 * i + 1 - s.2.2.2.2.1.1 * 7 = 1 by omega]
        exact ⟨m, hm, rfl⟩
      · rw [if_neg (by omega)]
        exact g i (by omega)
    · exact g
theorem Kp_pj {E : se_} {c : Nat} (hf : ∀ j m, E.2.2.2.2.2.2.2.1 j m = true → m < c) (m p d : Nat) (P : Nat → Int32) (v : Int32) (j : Nat) (s : sgA_) (g : KpA_ c s) : KpA_ c (pjA_ E m p d P v j s) := by
  unfold pjA_
  split
  · exact g
  · rename_i h
    have hm : m < c := hf j m (by
      cases hb : E.2.2.2.2.2.2.2.1 j m with
      | true => rfl
      | false => exact absurd (Or.inr hb) h)
    split
    · exact Kp_cg rfl g
    split
    · exact Kp_E7 hm g
    split
    · exact Kp_cg wt_kp g
    · exact g
theorem Kp_in {E : se_} {c : Nat} (hf : ∀ j m, E.2.2.2.2.2.2.2.1 j m = true → m < c) (hw : ∀ m, m < E.1 → wfX_ true (E.2.2.1 m)) {m : Nat} {P : Nat → Int32} {s : sgA_} (hm : m < E.1) (g : KpA_ c s) : KpA_ c (inA_ E 10 m P s).2 :=
  in_R (R := fun s s2 => KpA_ c s → KpA_ c s2) (fun _ h => h) (fun _ _ _ h1 h2 h => h2 (h1 h)) (fun m p d P v j s => Kp_pj hf m p d P v j s) (fun _ h => h) hw 10 m P s hm g
/-! the invariant between calls -/
def KPc_ (c : Nat) (M : mm_) : Prop := ∃ b, b ≤ 40 ∧ M.1 245 3 = nI b ∧ ∀ i, i < b → ∃ m, m < c ∧ M.1 246 (7 * i + 1) = nI m
theorem KPc_DX {c : Nat} {J : Nat → Nat} {s : sgA_} {N : mm_} (h : DX_ J s N) (g : KpA_ c s) : KPc_ c N := by
  obtain ⟨-, -, ⟨-, -, b3, b4, b5⟩, -, -⟩ := h
  refine ⟨_, b4, b3, fun i hi => ?_⟩
  obtain ⟨m, h1, h2⟩ := g i hi
  exact ⟨m, h1, by rw [b5 _ (by omega)]; exact h2⟩
theorem Kp_DX {c : Nat} {J : Nat → Nat} {s : sgA_} {N : mm_} (h : DX_ J s N) (g : KPc_ c N) : KpA_ c s := by
  obtain ⟨-, -, ⟨-, -, b3, b4, b5⟩, -, -⟩ := h
  obtain ⟨b, h1, h2, h3⟩ := g
  have e : b = s.2.2.2.2.1.1 := (nI_eq (by omega) (by omega)).mp (h2.symm.trans b3)
  subst e
  intro i hi
  obtain ⟨m, k1, k2⟩ := h3 i hi
  exact ⟨m, k1, by rw [← b5 _ (by omega)]; exact k2⟩
theorem KPc_cg {c : Nat} {M N : mm_} (h : tlK_ M N) (g : KPc_ c M) : KPc_ c N := by
  obtain ⟨b, h1, h2, h3⟩ := g
  refine ⟨b, h1, by rw [h 245 3 (by unfold tlc_; omega)]; exact h2, fun i hi => ?_⟩
  rw [h 246 _ (by unfold tlc_; omega)]
  exact h3 i hi
theorem KPc_up {c c2 : Nat} {M : mm_} (h : c ≤ c2) (g : KPc_ c M) : KPc_ c2 M := by
  obtain ⟨b, h1, h2, h3⟩ := g
  refine ⟨b, h1, h2, fun i hi => ?_⟩
  obtain ⟨m, k1, k2⟩ := h3 i hi
  exact ⟨m, by omega, k2⟩
def SV_q (J : Nat → Nat) (S : Nat) (M : mm_) : Prop := mb2_ M ∧ vq_ M ∧ jq_ M J S ∧ jdX_ J S
theorem SV_cg {J : Nat → Nat} {S : Nat} {M N : mm_} (h : N.2.2 = M.2.2) (g : SV_q J S M) : SV_q J S N := by
  unfold SV_q mb2_ vq_ jq_ at g ⊢
  rw [h]
  exact g
/-- all but tape and methods -/
def IVr_ (c : Nat) (J : Nat → Nat) (S : Nat) (M : mm_) : Prop := SV_q J S M ∧ JT_ J c M ∧ HB_ J c M ∧ TLq_ M ∧ KPc_ c M ∧ zoX_ (M.1 247 10)
def IVc_ (n c : Nat) (J : Nat → Nat) (S : Nat) (M : mm_) : Prop := TC_ n c M ∧ IVr_ c J S M
def IV_ (M : mm_) : Prop := ∃ n c J S, IVc_ n c J S M
/-- jobs where nothing of them has changed -/
theorem JT_same {J : Nat → Nat} {c : Nat} {M N : mm_} (hT : JT_ J c M) (hB : HB_ J c M) (hK : ∀ m, m < c → ∃ K p, NK_ K (M.2.1 5 m) p) (h5 : ∀ m, m < c → N.2.1 5 m = M.2.1 5 m) (hx : ∀ j, j < 8 → jKf_ (135 + 12 * J j) M N) (hr : ∀ j, j < 8 → jKr_ j M N) : JT_ J c N ∧ HB_ J c N := JT_sub hT hB hK h5 (fun j hj => by
  by_cases q : M.1 12 j = 0
  · refine Or.inl ⟨?_, ?_⟩
    · rw [(hx j hj _ 0 (by omega) (by omega)).1, (hT.1 j hj).1, q]
    · rw [(hr j hj).1 12 j (by unfold jcQ_; omega), q]
  · exact Or.inr (Or.inl ⟨q, rfl, jKf_x (hx j hj), (hx j hj _ 9 (by omega) (by omega)).1, hr j hj⟩))
theorem TC_NK {n c : Nat} {M : mm_} (h : TC_ n c M) : ∀ m, m < c → ∃ K p, NK_ K (M.2.1 5 m) p := fun m hm => ⟨_, _, (h.2.2.2.2.2 m hm).1⟩
theorem IVr_cg {n c S : Nat} {J : Nat → Nat} {M N : mm_} (ht : TC_ n c M) (h1 : ∀ a i, 2 ≤ a → ¬ a = 35 → ¬ a = 36 → N.1 a i = M.1 a i) (h2 : ∀ i, 3 ≤ i → N.1 0 i = M.1 0 i) (h3 : ∀ a i, ¬ a = 262 → N.2.1 a i = M.2.1 a i) (h4 : N.2.2 = M.2.2) (g : IVr_ c J S M) : IVr_ c J S N := by
  obtain ⟨g1, g2, g3, g4, g5, g6⟩ := g
  have hJ : ∀ j, j < 8 → J j < 9 := fun j hj => (g1.2.2.1.1 j hj).1
  have tl : tlK_ M N := fun a i z => by
    unfold tlc_ at z
    by_cases q : a = 0
    · subst q; exact h2 i (by omega)
    · exact h1 a i (by omega) (by omega) (by omega)
  obtain ⟨s1, s2⟩ := JT_same g2 g3 (TC_NK ht) (fun m _ => h3 5 m (by omega)) (fun j hj a i z1 z2 => by
    have := hJ j hj
    exact ⟨h1 a i (by omega) (by omega) (by omega), h3 a i (by omega)⟩) (fun j hj => ⟨fun a i z => by
    unfold jcQ_ at z
    exact h1 a i (by omega) (by omega) (by omega), fun i _ _ => h3 3 i (by omega)⟩)
  exact ⟨SV_cg h4 g1, s1, s2, TL_cg tl g4, KPc_cg tl g5, by rw [h1 247 10 (by omega) (by omega) (by omega)]; exact g6⟩

end
section
/-! a call, a replay: both programs -/
theorem JX_c2 {E : se_} {J : Nat → Nat} {c : Nat} {s : sgA_} {M N : mm_} (hJ : ∀ j, j < 8 → J j < 9) (h1 : ∀ a i, 135 ≤ a → a < 243 → N.1 a i = M.1 a i) (h2 : ∀ a i, 135 ≤ a → a < 243 → N.2.1 a i = M.2.1 a i) (g : JX_ E J c s M) : JX_ E J c s N := by
  intro j hj h0
  have hJj := hJ j hj
  obtain ⟨a1, a2, a3⟩ := g j hj h0
  have xc : ∀ k e, 135 ≤ k → k + 4 < 243 → XCo_ k e M → XCo_ k e N := fun k e z1 z2 g => ⟨g.1, g.2.1, g.2.2.1, hd_cg (fun a i y1 y2 => h1 a i (by omega) (by omega)) (fun i => h2 _ i (by omega) (by omega)) g.2.2.2.1, g.2.2.2.2⟩
  refine ⟨a1, fun m hm => by rw [h1 _ 9 (by omega) (by omega)]; exact a2 m hm, fun h => ?_⟩
  obtain ⟨b1, b2, b3, b4, b5⟩ := a3 h
  refine ⟨by rw [h1 _ 1 (by omega) (by omega)]; exact b1, by rw [h1 _ 6 (by omega) (by omega)]; exact b2, xc _ _ (by omega) (by omega) b3, fun z => by rw [h1 _ 5 (by omega) (by omega)]; exact b4 z, fun e2 z => ?_⟩
  obtain ⟨c1, c2⟩ := b5 e2 z
  exact ⟨by rw [h1 _ 5 (by omega) (by omega)]; exact c1, xc _ _ (by omega) (by omega) c2⟩
theorem JR_c2 {E : se_} {c : Nat} {s : sgA_} {M N : mm_} (h1 : ∀ a i, 2 ≤ a → a < 34 → N.1 a i = M.1 a i) (h2 : ∀ a i, a < 34 → N.2.1 a i = M.2.1 a i) (g : JR_ E c s M) : JR_ E c s N := by
  intro j hj h0
  obtain ⟨a1, ⟨z, a2, a3, a4⟩, a5⟩ := g j hj h0
  have hp : pa_ N j = pa_ M j := by funext p; exact h1 17 _ (by omega) (by omega)
  have rc : ∀ k e, RCo_ k e M → RCo_ k e N := fun k e g => ⟨g.1, g.2.1, g.2.2.1, ⟨by rw [h1 4 _ (by omega) (by omega)]; exact g.2.2.2.1.1, fun i x hx => by rw [h1 2 _ (by omega) (by omega), h2 3 _ (by omega)]; exact g.2.2.2.1.2 i x hx⟩, g.2.2.2.2⟩
  refine ⟨a1, ⟨z, a2, by rw [h1 18 _ (by omega) (by omega)]; exact a3, fun m hm => by rw [hp, h2 5 _ (by omega)]; exact a4 m hm⟩, fun h => ?_⟩
  obtain ⟨b1, b2, b3, b4, b5⟩ := a5 h
  refine ⟨by rw [h1 13 _ (by omega) (by omega)]; exact b1, by rw [h1 14 _ (by omega) (by omega)]; exact b2, rc _ _ b3, fun z => by rw [h1 16 _ (by omega) (by omega)]; exact b4 z, fun e he => ?_⟩
  obtain ⟨c1, c2⟩ := b5 e he
  exact ⟨by rw [h1 16 _ (by omega) (by omega)]; exact c1, rc _ _ c2⟩
def EE_ (E : se_) (s : sgA_) (J : Nat → Nat) (c : Nat) (M : mm_) (b : Bool) : Prop := E.1 = c ∧ (∀ m, m < c → E.2.1 m = M.2.1 46 m) ∧ (∀ m, m < c → wK_ (E.2.2.1 m) ∧ hd_ (48 + 5 * m) M (cqX_ (E.2.2.1 m) 0 0) ∧ 3 * snX_ (E.2.2.1 m) + 1 ≤ 80 ∧ sd_ M m (tm_ (E.2.2.1 m)) ∧ (tc_ (tm_ (E.2.2.1 m))).length ≤ 40 ∧ wfR_ true 3 true (tm_ (E.2.2.1 m))) ∧ E.2.2.2.2.2.2.2.2 = b ∧ JX_ E J c s M ∧ JR_ E c s M ∧ WL_ E s ∧ iv2_ s = 0 ∧ DX_ J s (sI_ M 247 1 0) ∧ DR_ s (sI_ M 0 40 0) ∧ ∀ j m, E.2.2.2.2.2.2.2.1 j m = true → m < c
/-- behind the class's call: the reference's cells are those from before -/
theorem CL_ref {J : Nat → Nat} {M A0 N0 : mm_} {o : io2_} {r0 : Int32} {v : Int64} (hA2 : A0.2 = M.2) (hAo : ∀ a i, ¬ a = 250 → A0.1 a i = M.1 a i) (h1 : CLQ_ J A0 o r0 N0) : (∀ a i, a < 135 → ¬ (a = 0 ∧ i = 0) → (sI_ (sL_ N0 262 0 v) 0 0 0).1 a i = M.1 a i) ∧ (∀ a i, ¬ a = 262 → (sI_ (sL_ N0 262 0 v) 0 0 0).2.1 a i = M.2.1 a i) ∧ (sI_ (sL_ N0 262 0 v) 0 0 0).2.2 = M.2.2 := by
  refine ⟨fun a i z1 z2 => ?_, fun a i z => ?_, ?_⟩
  · rw [gI_sI, if_neg z2, gI_sL, h1.2.1 a i (Or.inl (by omega)), hAo a i (by omega)]
  · rw [gL_sI, gL_sL, if_neg (by omega), h1.1, hA2]
  · show N0.2.2 = M.2.2
    rw [h1.1, hA2]
theorem play_ctr {G : gg_} (hG : gd_ G) (d : Nat) {n c S m q3 : Nat} {J : Nat → Nat} {E : se_} {s : sgA_} {P : Nat → Int32} {M A0 N0 : mm_} {v : Int64} {r0 x y w z : Int32} {b : Bool} (g : IVc_ n c J S M) (hE : EE_ E s J c M b) (hm : m < c) (hA2 : A0.2 = M.2) (hAo : ∀ a i, ¬ a = 250 → A0.1 a i = M.1 a i) (h1 : CLQ_ J A0 (inA_ E 10 m P s) r0 N0) (e4 : (z = 0 ∧ b = true) ∨ (z = 1 ∧ b = false)) (hq3 : q3 ≤ 3) (e6 : M.1 6 m = nI q3) (hP : ∀ i, i < 3 → P i = if i < q3 then (if i = 0 then x else if i = 1 then y else w) else 0) : cm_ G yX12_play cX12_play 6 (some .int) (d + 7) [.ref (G.1 0), .int (nI m), .int x, .int y, .int w, .int z] (sI_ (sL_ N0 262 0 v) 0 0 0) (rI_ (PLQ_ E c (sI_ (sL_ N0 262 0 v) 0 0 0) (inA_ E 10 m P s))) := by
  obtain ⟨k1, k2, k3⟩ := CL_ref (v := v) hA2 hAo h1
  obtain ⟨E1, E2, E3, E4, E5, E6, E7, E8, E9, E10, E11⟩ := hE
  obtain ⟨t1, t2, t3, t4, t5, t6⟩ := g.1
  refine play_R hG d t4.1 (by rw [k1 0 9 (by omega) (by omega)]; exact t5) E1 (fun m hm => ?_) (fun m hm => ?_) (by rw [E4]; exact e4) (JR_c2 (fun a i z1 z2 => k1 a i (by omega) (by omega)) (fun a i z => k2 a i (by omega)) E6) E7 E8 ?_ hm hq3 (by rw [k1 6 m (by omega) (by omega)]; exact e6) hP
  · rw [E2 m hm, k2 5 m (by omega), k1 6 m (by omega) (by omega)]
    exact (t6 m hm).1
  · obtain ⟨f1, f2, f3, f4, f5, f6⟩ := E3 m hm
    exact ⟨f1, ⟨by rw [k1 4 m (by omega) (by omega)]; exact f4.1, fun i q hi => by rw [k1 2 _ (by omega) (by omega), k2 3 _ (by omega)]; exact f4.2 i q hi⟩, f5, f6⟩
  · refine DR_cg (fun a i z => ?_) E10
    unfold dcR_ at z
    by_cases q : a = 0 ∧ i = 40
    · rw [gI_sI, if_pos q, gI_sI, if_pos q]
    · rw [gI_sI, if_neg q, k1 a i (by omega) (by omega), gI_sI, if_neg q]
theorem play_fin {n c S m : Nat} {J : Nat → Nat} {E : se_} {s : sgA_} {P : Nat → Int32} {M A0 N0 N2 : mm_} {v : Int64} {r0 r2 : Int32} {b : Bool} (g : IVc_ n c J S M) (hE : EE_ E s J c M b) (hm : m < c) (hA2 : A0.2 = M.2) (hAo : ∀ a i, ¬ a = 250 → A0.1 a i = M.1 a i) (h1 : CLQ_ J A0 (inA_ E 10 m P s) r0 N0) (h2 : PLQ_ E c (sI_ (sL_ N0 262 0 v) 0 0 0) (inA_ E 10 m P s) r2 N2) : IV_ N2 ∧ N2.1 0 0 = 0 ∧ r0 = r2 ∧ N2.2.1 262 0 = v := by
  obtain ⟨k1, k2, k3⟩ := CL_ref (v := v) hA2 hAo h1
  obtain ⟨E1, E2, E3, E4, E5, E6, E7, E8, E9, E10, E11⟩ := hE
  obtain ⟨ht, g1, g2, g3, g4, g5, g6⟩ := id g
  have hJ : ∀ j, j < 8 → J j < 9 := fun j hj => (g1.2.2.1.1 j hj).1
  have hw : ∀ m, m < E.1 → wfX_ true (E.2.2.1 m) := fun m hm => (E3 m (by omega)).1.1
  have hmE : m < E.1 := by omega
  have hKM : KM_ s (inA_ E 10 m P s).2 := KM_in hw hmE
  have hKp : KpA_ c (inA_ E 10 m P s).2 := Kp_in E11 hw hmE (Kp_DX E9 (by obtain ⟨b, h1, h2, h3⟩ := g5; exact ⟨b, h1, by rw [gI_sI, if_neg (by omega)]; exact h2, fun i hi => by rw [gI_sI, if_neg (by omega)]; exact h3 i hi⟩))
  have hq := in_q hw 10 m P s hmE
  generalize inA_ E 10 m P s = o at *
  -- the memories with what the law and thrown have done
  have gz : IVr_ c J S (sI_ (sL_ M 262 0 v) 0 0 0) := IVr_cg ht (fun a i z1 z2 z3 => by rw [gI_sI, if_neg (by omega)]; rfl) (fun i z => by rw [gI_sI, if_neg (by omega)]; rfl) (fun a i z => by rw [gL_sI, gL_sL, if_neg (by omega)]) rfl g.2
  have c1 : CLQ_ J (sI_ (sL_ A0 262 0 v) 0 0 0) o r0 (sI_ (sL_ N0 262 0 v) 0 0 0) := by
    obtain ⟨q1, q2, q3, q4, q5⟩ := h1
    refine ⟨?_, fun a i z => ?_, ?_, DX_cg hJ (fun a i z => by rw [gI_sI, if_neg (by omega)]; rfl) q4, ?_⟩
    · show (sL_ N0 262 0 v).2 = (sL_ A0 262 0 v).2
      unfold sL_
      rw [q1]
    · by_cases q : a = 0 ∧ i = 0
      · rw [gI_sI, if_pos q, gI_sI, if_pos q]
      · rw [gI_sI, if_neg q, gI_sI, if_neg q, gI_sL, gI_sL]; exact q2 a i z
    · rw [gI_sI, if_neg (by omega)]; exact q3
    · cases ho : o.1 with
      | inl x => rw [ho] at q5; exact ⟨q5.1, by rw [gI_sI, if_neg (by omega)]; exact q5.2⟩
      | inr x => rw [ho] at q5; exact ⟨q5.1, by rw [gI_sI, if_neg (by omega)]; exact q5.2.1, q5.2.2⟩
  have back := call_back (M := sI_ (sL_ M 262 0 v) 0 0 0) hJ gz.2.1 (JX_c2 hJ (fun a i z1 z2 => by rw [gI_sI, if_neg (by omega)]; rfl) (fun a i z1 z2 => by rw [gL_sI, gL_sL, if_neg (by omega)]) E5) (DX_cg hJ (fun a i z => by
    by_cases q : a = 247 ∧ i = 1
    · rw [gI_sI, if_pos q, gI_sI, if_pos q]
    · rw [gI_sI, if_neg q, gI_sI, if_neg (by omega), gI_sL, gI_sI, if_neg q]) E9) hKM (by
    show (sL_ A0 262 0 v).2 = (sL_ M 262 0 v).2
    unfold sL_
    rw [hA2]) (fun a i z => by
    by_cases q : a = 0 ∧ i = 0
    · rw [gI_sI, if_pos q, gI_sI, if_pos q]
    · rw [gI_sI, if_neg q, gI_sI, if_neg q]; exact hAo a i z) c1 h2 hq
  obtain ⟨b1, b2, b3, b4, b5⟩ := back
  generalize hN1 : sI_ (sL_ N0 262 0 v) 0 0 0 = N1 at *
  obtain ⟨p1, p2, p3, p4, p5, p6⟩ := h2
  have n2 : ∀ a i, 34 ≤ a → N2.1 a i = N1.1 a i := fun a i h => p2 a i (by unfold pzR_; omega) (by unfold mR_; omega)
  have e00 : N1.1 0 0 = 0 := by rw [← hN1, gI_sI, if_pos ⟨rfl, rfl⟩]
  have e262 : N1.2.1 262 0 = v := by rw [← hN1, gL_sI, gL_sL, if_pos ⟨rfl, rfl⟩]
  refine ⟨⟨n, c, J, S, TC_s ⟨fun a i z => ?_, fun a i z => ?_⟩ ⟨fun a i z1 z2 => ?_, fun a i z1 z2 => ?_, ?_, fun i => ?_⟩ ht, SV_cg (by rw [p1]; exact k3) g1, b4, fun j hj h0 => ?_, ⟨b5, b2, b3⟩, ?_, ?_⟩, ?_, b1, ?_⟩
  · unfold rT_ at z
    rw [p2 a i (by unfold pzR_; omega) (by unfold mR_; omega)]
    exact k1 a i (by omega) (by omega)
  · unfold rU_ at z
    rw [p1]; exact k2 a i (by omega)
  · rw [n2 a i (by omega)]; exact k1 a i (by omega) (by omega)
  · rw [p1]; exact k2 a i (by omega)
  · rw [n2 35 1 (by omega)]; exact k1 35 1 (by omega) (by omega)
  · rw [n2 36 i (by omega)]; exact k1 36 i (by omega) (by omega)
  · have hJj := hJ j hj
    rw [(p3.1 j hj).1] at h0
    have hs := (hKM j hj).resolve_right h0
    have hsM : s.1 j = M.1 12 j := by
      have := (E10.1 j hj).1
      rw [gI_sI, if_neg (by omega)] at this
      exact this.symm
    rw [hs, hsM] at h0
    rw [n2 _ 9 (by omega), c1.2.1 _ 9 (by unfold faX_; omega), gI_sI, if_neg (by omega), gI_sL, hAo _ 9 (by omega)]
    exact g3 j hj h0
  · exact KPc_DX (DX_cg hJ (fun a i z => n2 a i (by omega)) c1.2.2.2.1) hKp
  · rw [n2 247 10 (by omega)]; exact c1.2.2.1
  · rw [p2 0 0 (by unfold pzR_; omega) (by unfold mR_; omega)]; exact e00
  · rw [p1]; exact e262

end
section
/-! command: what it leaves alone -/
theorem CE_hi {x r : Int32} {B N : mm_} (h : CE_ x B r N) : (∀ a i, ¬ a = 37 → N.1 a i = B.1 a i) ∧ N.2 = B.2 := by
  rcases h with ⟨-, -, rfl⟩ | ⟨-, -, rfl⟩
  · exact ⟨fun _ _ _ => rfl, rfl⟩
  · refine ⟨fun a i z => ?_, fi_22⟩
    unfold fiX_
    split
    · rw [gI_sI, if_neg (by omega), gI_sI, if_neg (by omega)]
    · rfl
theorem CR_hi {n c S : Nat} {J : Nat → Nat} {M N : mm_} {r : Int32} (hS : S < 9) (hJ : ∀ i, i < 8 → J i < 9) (h : CR_ n c S J M r N) : (∀ a i, 243 ≤ a → N.1 a i = M.1 a i) ∧ ∀ a i, ¬ a = 39 → ¬ a = 133 → ¬ a = 134 → N.2.2 a i = M.2.2 a i := by
  obtain ⟨v, A, hRC, hCR⟩ := h
  have hcz := hRC.1
  have aI : ∀ a i, 243 ≤ a → A.1 a i = M.1 a i := fun a i z => hcz.2.1 a i (by omega) (by omega) (by omega) (by omega)
  have aR : ∀ a i, ¬ a = 39 → A.2.2 a i = M.2.2 a i := fun a i z => hcz.1 a i z
  rcases hCR with ⟨-, -, rfl⟩ | ⟨-, hh⟩
  · exact ⟨aI, fun a i z _ _ => aR a i z⟩
  · rcases hh with ⟨-, -, rfl⟩ | ⟨-, x, B, hx, hE⟩ | ⟨-, x, B, ⟨-, hB⟩, hE⟩
    · refine ⟨fun a i z => ?_, fun a i z _ _ => ?_⟩
      · rw [ea_o 8 0 0 A a i (fun ⟨_, j, _, h2, h3⟩ => by have := hJ j (by omega); omega)]; exact aI a i z
      · rw [ea_2]; exact aR a i z
    · obtain ⟨k1, k2⟩ := CE_hi hE
      have hB : (∀ a i, 243 ≤ a → B.1 a i = A.1 a i) ∧ B.2 = A.2 := by
        rcases hx with ⟨-, -, rfl⟩ | ⟨i, hi, -, -, rfl⟩
        · exact ⟨fun _ _ _ => rfl, rfl⟩
        · have := hJ i hi
          split
          · exact ⟨fun _ _ _ => rfl, rfl⟩
          · exact ⟨fun a i z => by rw [gI_sI, if_neg (by omega)], rfl⟩
      exact ⟨fun a i z => by rw [k1 a i (by omega), hB.1 a i z]; exact aI a i z, fun a i z _ _ => by rw [k2, hB.2]; exact aR a i z⟩
    · obtain ⟨k1, k2⟩ := CE_hi hE
      have hB2 : (∀ a i, 243 ≤ a → B.1 a i = A.1 a i) ∧ ∀ a i, ¬ a = 133 → ¬ a = 134 → B.2.2 a i = A.2.2 a i := by
        cases hf : fj1_ A J 8 0 with
        | none => rw [hf] at hB; rw [show B = A from hB]; exact ⟨fun _ _ _ => rfl, fun _ _ _ _ => rfl⟩
        | some b =>
          rw [hf] at hB
          rw [show B = bgn_ A J S c b from hB]
          unfold bgn_
          refine ⟨fun a i z => ?_, fun a i z1 z2 => ?_⟩
          · rw [me_o c 0 _ a i (by omega)]; rfl
          · rw [me_2]
            show (if a = 134 ∧ i = b then _ else if a = 133 ∧ i = 1 then _ else A.2.2 a i) = A.2.2 a i
            rw [if_neg (by omega), if_neg (by omega)]
      exact ⟨fun a i z => by rw [k1 a i (by omega), hB2.1 a i z]; exact aI a i z, fun a i z z1 z2 => by rw [k2, hB2.2 a i z1 z2]; exact aR a i z⟩
theorem tl_nj {M : mm_} {b z : Nat} {kd : Int32} : tlK_ M (nj_ M b z kd) := fun a i h => by
  unfold tlc_ at h
  exact nj_o (by omega) (by omega) (by omega)
theorem tl_zk {M : mm_} (j : Nat) : tlK_ M (zk_ M j) := fun a i h => by
  unfold tlc_ at h
  exact zk_I j a i (by omega)
theorem tl_c0 {M N : mm_} (h : ∀ a i, ¬ (a = 0 ∧ i < 35) → N.1 a i = M.1 a i) : tlK_ M N := fun a i z => by
  unfold tlc_ at z
  exact h a i (by omega)
theorem tl_ra {M : mm_} {n s : Nat} : tlK_ M (ra_ (cb_ M) n s) := tl_c0 (fun a i h => by
  unfold ra_ cb_ bg_
  rw [gI_sL, gI_sI, if_neg (by omega), gI_sI, if_neg (by omega), gI_sI, if_neg (by omega), gI_sI, if_neg (by omega), gI_sI, if_neg (by omega), gI_sI, if_neg (by omega), gI_sI, if_neg (by omega)])
theorem cmd_tl {M N : mm_} {n s z : Nat} {v : Int64} {r : Int32} (h : cmd_ M n s z v r N) : tlK_ M N := by
  unfold cmd_ at h
  split at h
  · rw [h.2]; exact tlK_tr tl_ra tl_fa
  · have gB : tlK_ M (ce5_ M n s z) := tlK_tr tl_ra (tl_I (by unfold tlc_; omega))
    refine tlK_tr gB ?_
    generalize ce5_ M n s z = B at h
    generalize sp_ M n (s + z) = t at h
    unfold cd5_ at h
    split at h
    · cases hw : wt_ B n t (rz_ B n t) (rv_ (bf_ B n) t (rz_ B n t)) with
      | inr q =>
        rw [hw] at h
        obtain ⟨f, w⟩ := q
        obtain ⟨-, ⟨J, j1, j2⟩, -⟩ := h
        exact tl_ph j2
      | inl x =>
        rw [hw] at h
        obtain ⟨pt, s3, p, e1, e2, lim⟩ := x
        obtain ⟨b, N0, -, hb, hj, hph, -, hp, -, sd1, sd2, rfl⟩ := h
        exact tlK_tr (tl_ph hph) (tlK_tr tl_nj (tlK_tr (tl_I (by unfold tlc_; omega)) (tlK_tr (tl_I (by unfold tlc_; omega)) (tl_I (by unfold tlc_; omega)))))
    · split at h
      · cases hs : sb_ B n (pd_ B n t) with
        | inr q =>
          rw [hs] at h
          obtain ⟨f, w⟩ := q
          exact tl_ph (ph_pg (J := 8) h.2.1)
        | inl p =>
          rw [hs] at h
          obtain ⟨b, N0, -, -, -, -, hpg, -, -, -, rfl⟩ := h
          exact tlK_tr (tl_ph (ph_pg (J := 8) hpg)) tl_nj
      · split at h
        · cases hk : kl2_ B n (sm_ B n t 0) with
          | inr q =>
            rw [hk] at h
            obtain ⟨f, w⟩ := q
            exact tl_pf h.2.1
          | inl j =>
            rw [hk] at h
            obtain ⟨-, -, -, rfl⟩ := h
            exact tlK_tr (tl_I (by unfold tlc_; omega)) (tl_I (by unfold tlc_; omega))
        · split at h
          · rw [h.2]; exact tlK_tr (tl_I (by unfold tlc_; omega)) tl_fa
          · rw [h.2]; exact tlK_tr (tl_I (by unfold tlc_; omega)) (tl_zk 8)
theorem MDc_of {n c S : Nat} {J : Nat → Nat} {M N : mm_} {r : Int32} (h : TC_ n c M) (hM : MR_ n c S J M r N) : MDc_ n c r N := by
  have hX := hX_MR hM
  obtain ⟨a1, a2, a3, a4, a5, a6⟩ := h
  have hc := a4.1
  unfold MDc_
  have hTF := TF_of (N := N) a1 a3 (fun i => hX.1 1 i (by omega))
  have ht := mt_tie hTF
  obtain ⟨key, A, hRM, hM⟩ := hM
  obtain ⟨hcr, hLS, -, hkey, hhd⟩ := hRM
  have eA : ∀ a i, a ≠ 37 → a ≠ 39 → (a < 48 + 5 * c ∨ 48 + 5 * c + 4 < a) → A.1 a i = M.1 a i := hcr.2.1
  have eL : ∀ a i, a ≠ 37 → a ≠ 48 + 5 * c + 2 → A.2.1 a i = M.2.1 a i := hcr.2.2
  have e9 : N.1 0 9 = nI c := by rw [hX.1 0 9 (by omega)]; exact a5
  have e2 : N.1 0 2 = nI n := by rw [hX.1 0 2 (by omega)]; exact a2
  have hrefI : ∀ a i, (a = 2 ∧ i < 64 * c) ∨ (a = 4 ∧ i < c) ∨ (a = 6 ∧ i < c) → N.1 a i = M.1 a i := fun a i z => hX.1 a i (by omega)
  have hrefL : ∀ a i, (a = 5 ∧ i < c) ∨ (a = 3 ∧ i < 64 * c) → N.2.1 a i = M.2.1 a i := fun a i z => hX.2 a i (by omega)
  have hNK : ∀ m, m < c → NK_ (A.2.1 46 m) (N.2.1 5 m) (N.1 6 m) := fun m hm => by
    rw [eL 46 m (by omega) (by omega), hX.2 5 m (by omega), hX.1 6 m (by omega)]
    exact (a6 m hm).1
  have done : ∀ (hN1 : ∀ a i, 35 ≤ a → a < 48 + 5 * c → ¬ (a = 37) → ¬ a = 39 → ¬ (a = 45 ∧ i = 2) → N.1 a i = A.1 a i) (hN2 : ∀ a i, 40 ≤ a → a < 48 + 5 * c → ¬ (a = 46 ∧ i = c) → N.2.1 a i = A.2.1 a i), tpX_ N n ∧ TQ_ n N ∧ MQ_ c N := fun hN1 hN2 => by
    refine ⟨⟨a1.1, by rw [hN1 35 1 (by omega) (by omega) (by omega) (by omega) (by omega), eA 35 1 (by omega) (by omega) (by omega)]; exact a1.2⟩, fun k hk => ?_, MQ_s hc (fun a i z1 z2 z3 => ?_) (fun a i z1 z2 z3 => ?_) hrefI hrefL a6⟩
    · rw [hN1 36 k (by omega) (by omega) (by omega) (by omega) (by omega), eA 36 k (by omega) (by omega) (by omega), hX.1 1 k (by omega)]
      exact a3 k hk
    · rw [hN1 a i (by omega) z2 (by omega) (by omega) z3, eA a i (by omega) (by omega) (by omega)]
    · rw [hN2 a i z1 z2 z3, eL a i (by omega) (by omega)]
  have hmt : A.1 45 2 = nI c := by rw [eA 45 2 (by omega) (by omega) (by omega)]; exact a4.2
  have hfi : ∀ f w, (∀ a i, 35 ≤ a → a < 48 + 5 * c → ¬ (a = 37) → ¬ a = 39 → ¬ (a = 45 ∧ i = 2) → (fiX_ A f w).1 a i = A.1 a i) ∧ (fiX_ A f w).1 45 2 = A.1 45 2 ∧ (fiX_ A f w).2 = A.2 := fun f w => by
    unfold fiX_
    split
    · exact ⟨fun a i _ _ z _ _ => by rw [gI_sI, if_neg (fun y => z y.1), gI_sI, if_neg (fun y => z y.1)], by rw [gI_sI, if_neg (by omega), gI_sI, if_neg (by omega)], rfl⟩
    · exact ⟨fun _ _ _ _ _ _ _ => rfl, rfl, rfl⟩
  rcases ht with ⟨x, a, p, t1, t2, t3, t4⟩ | ⟨t1, t2⟩
  · have hfm : fd1_ A c key c 0 = fm_ N a p c 0 := fd_fm hNK (by rw [hkey]; exact t3) c 0 (by omega)
    have hiff : (c < 16 ∧ fd1_ A c key c 0 = -1) ↔ ¬ (c = 16 ∨ ¬ fm_ N a p c 0 < 0) := by
      rw [fd_neg hc, hfm]
      constructor
      · rintro ⟨q1, q2⟩ (q | q)
        · omega
        · exact q q2
      · intro q
        exact ⟨by omega, Decidable.not_not.mp (fun y => q (Or.inr y))⟩
    have h0 : A.1 37 2 = 0 := by
      have hLS2 : LS_ (some x.2.1) A := by rw [← t2]; exact hLS
      exact hLS2.1
    rcases hM with ⟨q, rfl, rfl⟩ | ⟨-, -, q, -, -⟩ | ⟨q1, q2, -, rfl, rfl⟩
    · obtain ⟨f1, f2, f3⟩ := hfi 5 (A.1 35 1)
      obtain ⟨d1, d2, d3⟩ := done f1 (fun a i _ _ _ => by rw [f3])
      refine ⟨d1, e2, d2, e9, hc, d3, Or.inl ⟨rfl, ⟨hc, by rw [f2]; exact hmt⟩, (5, n), ?_⟩⟩
      rw [t4 c, if_pos (Decidable.not_not.mp (fun y => q (hiff.mpr y)))]
    · exact absurd h0 q
    · have hj : ∀ a i, a < 135 → (jm1_ J (nI c) key 8 0 (ma_ A c key)).1 a i = (ma_ A c key).1 a i := fun a i z => jm_37 8 0 _ a i z
      have hC := hC_jm (J := J) (x := nI c) (y := key) 8 0 (ma_ A c key)
      generalize hD : jm1_ J (nI c) key 8 0 (ma_ A c key) = D at *
      have m1 : ∀ a i, ¬ (a = 45 ∧ i = 2) → (ma_ A c key).1 a i = A.1 a i := fun a i z => by unfold ma_; rw [gI_sI, if_neg z]; rfl
      have m2 : ∀ a i, ¬ (a = 46 ∧ i = c) → (ma_ A c key).2.1 a i = A.2.1 a i := fun a i z => by unfold ma_; rw [gL_sI, gL_sL, if_neg z]
      obtain ⟨d1, d2, d3⟩ := done (fun a i z1 z2 z3 z4 z5 => by rw [hj a i (by omega), m1 a i z5]) (fun a i z1 z2 z3 => by rw [hC.2.1 a i z1 (by omega), m2 a i z3])
      refine ⟨d1, e2, d2, e9, hc, d3, Or.inr ⟨rfl, ⟨by omega, ?_⟩, x.1, a, p, ?_, ?_, ?_, ?_, (hhd x t1).2⟩⟩
      · rw [hj 45 2 (by omega)]; unfold ma_; rw [gI_sI, if_pos ⟨rfl, rfl⟩]
      · rw [t4 c, if_neg (hiff.mp ⟨q1, q2⟩)]
      · rw [hC.2.1 46 c (by omega) (by omega)]
        unfold ma_
        rw [gL_sI, gL_sL, if_pos ⟨rfl, rfl⟩, hkey]
        exact t3
      · exact ⟨wf_pe (show pe2_ (tb_ M) (pv_ (tb_ M) (mq2_ (tb_ M))) true (mq5_ (tb_ M)) = some x from t1), KK_pe hTF (fun p9 hp9 => mq5_in hTF hp9) (show pe2_ (tb_ M) (pv_ (tb_ M) (mq2_ (tb_ M))) true (mq5_ (tb_ M)) = some x from t1)⟩
      · exact hd_cg (fun a i z1 z2 => by rw [hj a i (by omega), m1 a i (by omega)]) (fun i => by rw [hC.2.1 _ i (by omega) (by omega), m2 _ i (by omega)]) (hhd x t1).1
  · have h0 : ¬ A.1 37 2 = 0 := by
      have hLS2 : LS_ none A := by rw [← t1]; exact hLS
      exact hLS2
    rcases hM with ⟨q, rfl, rfl⟩ | ⟨-, -, q, rfl, rfl⟩ | ⟨-, -, q, -, -⟩
    · obtain ⟨f1, f2, f3⟩ := hfi 5 (A.1 35 1)
      obtain ⟨d1, d2, d3⟩ := done f1 (fun a i _ _ _ => by rw [f3])
      exact ⟨d1, e2, d2, e9, hc, d3, Or.inl ⟨rfl, ⟨hc, by rw [f2]; exact hmt⟩, t2 c⟩⟩
    · obtain ⟨d1, d2, d3⟩ := done (fun _ _ _ _ _ _ _ => rfl) (fun _ _ _ _ _ => rfl)
      exact ⟨d1, e2, d2, e9, hc, d3, Or.inl ⟨rfl, ⟨hc, hmt⟩, t2 c⟩⟩
    · exact absurd q h0

end
