/-! command: the tables behind it -/
theorem ex_tr {T : Int32 → Int32} {B : mm_} {n k1 k2 : Nat} {x : Term} {W : Option Nat} {kk mm : Nat} (h14 : B.1 0 14 = 1) (hx : ex_ B n k1 = .inl (tm_ x, k2)) (hp : pe2_ T 7 false W = some (x, kk, mm)) : wfX_ true x ∧ ixn_ 7 x ∧ nsb_ x ∧ (tc_ (tm_ x)).length ≤ 40 := by
  have s1 : sB_ B = false := by unfold sB_; rw [h14]; rfl
  have s2 : vB_ B = 7 := by unfold vB_; rw [h14]; rfl
  have w := wf_ex hx
  rw [s1, s2] at w
  have w2 : wfX_ true x := wf_pe hp
  obtain ⟨w3, w4⟩ := wfR_x true x w2 w
  have := tc_le (tm_ x)
  have := nt_ex hx
  exact ⟨w2, w3, w4 rfl, by omega⟩
set_option maxHeartbeats 1000000 in
theorem cmd_st {n c S p : Nat} {J : Nat → Nat} {M N1 N2 : mm_} {r r2 : Int32} (hS : S < 9) (hJ : ∀ i, i < 8 → J i < 9 ∧ ¬ J i = S) (hd : ∀ i j, i < 8 → j < 8 → J i = J j → i = j) (hq : jq_ M J S) (hc : c ≤ 16) (hJT : JT_ J c M) (hHB : HB_ J c M) (hNK : ∀ m, m < c → NK_ (M.2.1 46 m) (M.2.1 5 m) (M.1 6 m)) (hT : TF_ (tb_ M) (bf_ N1 n) n) (hCR : CR_ n c S J M r N1) (hp : sp_ N1 n 0 = p) (hcmd : cmd_ N1 n p (rz_ N1 n p) (rv_ (bf_ N1 n) p (rz_ N1 n p)) r2 N2) : ∃ J2 S2, jq_ N2 J2 S2 ∧ jdX_ J2 S2 ∧ JT_ J2 c N2 ∧ HB_ J2 c N2 := by
  have hjd : jdX_ J S := ⟨fun i hi => (hJ i hi).2, hd⟩
  have hX := hX_CR hCR
  have hR := hR_cmd hcmd
  have hT5 := hT_cmd hcmd
  have hn := hT.1
  have hJ9 : ∀ j, j < 8 → J j < 9 := fun j hj => (hJ j hj).1
  have n5 : ∀ m, m < c → N2.2.1 5 m = N1.2.1 5 m := fun m _ => hT5.2 5 m (by unfold rU_; omega)
  have e5 : ∀ m, m < c → N2.2.1 5 m = M.2.1 5 m := fun m hm => (n5 m hm).trans (hX.2 5 m (by omega))
  obtain ⟨v, A, hRC, hCR⟩ := hCR
  have hcz := hRC.1
  have hkM : kdE_ J A M := fun i hi => by
    have := hJ i hi
    rw [hcz.2.1 (135 + 12 * J i) 0 (by omega) (by omega) (by omega) (by omega)]
    exact hJT.1 i hi
  have hkA : kdE_ J A N1 := fun i hi => by
    rw [hX.1 12 i (by omega)]; exact hkM i hi
  obtain ⟨p0, V, fin, e1, e2, e3, e4, ek0, hV⟩ := RC_T (by omega) hRC
  have hp0 : p0 = p := by rw [← e1, ← hp]; exact sp_T hT (by omega)
  subst hp0
  have hpn : p0 ≤ n := by rw [← hp]; exact (sp_le (by omega)).2
  have hz := rz_le N1 n p0
  have kA : ∀ j, j < 8 → jKf_ (135 + 12 * J j) M A := fun j hj => jKf_cz (by omega) hcz (by have := hJ j hj; omega)
  have qA : jq_ A J S := ⟨fun i hi => ⟨(hq.1 i hi).1, by rw [hcz.1 134 i (by omega)]; exact (hq.1 i hi).2⟩, hq.2.1, by rw [hcz.1 133 1 (by omega)]; exact hq.2.2⟩
  -- what the class has done
  have cNo : ¬ okE_ (tb_ M) fin → N1 = A := fun h => by
    rcases hCR with ⟨-, -, h2⟩ | ⟨h1, -⟩
    · exact h2
    · exact absurd (e4.mp h1) h
  have cNone : okE_ (tb_ M) fin → ¬ v = 5 → ¬ v = 4 → fj1_ A J 8 0 = none → N1 = fiX_ A 5 (A.1 35 1) := fun h h5 h4 hf => by
    rcases hCR with ⟨h1, -⟩ | ⟨-, h2⟩
    · exact absurd (e4.mpr h) h1
    · rcases h2 with ⟨y, -⟩ | ⟨y, -⟩ | ⟨-, x, B, ⟨hx, hB⟩, hE⟩
      · exact absurd y h5
      · exact absurd y h4
      · rw [hf] at hx hB
        have hx : x = -1 := hx
        have hB : B = A := hB
        rcases hE with ⟨y, -⟩ | ⟨-, -, y⟩
        · exact absurd hx y
        · rw [y, hB]
  have cNew : okE_ (tb_ M) fin → ¬ v = 5 → ¬ v = 4 → ∀ i, fj1_ A J 8 0 = some i → N1 = bgn_ A J S c i := fun h h5 h4 i hf => by
    rcases hCR with ⟨h1, -⟩ | ⟨-, h2⟩
    · exact absurd (e4.mpr h) h1
    · rcases h2 with ⟨y, -⟩ | ⟨y, -⟩ | ⟨-, x, B, ⟨hx, hB⟩, hE⟩
      · exact absurd y h5
      · exact absurd y h4
      · have hi := (fj1_in 8 0 i hf).2.1
        rw [hf] at hx hB
        have hx : x = nI i := hx
        have hB : B = bgn_ A J S c i := hB
        rcases hE with ⟨-, -, y⟩ | ⟨y, -⟩
        · rw [y, hB]
        · have e : nI i = -1 := hx.symm.trans y
          have := nI_n0 i (by omega)
          rw [e] at this
          exact absurd (by decide) this
  have done : ∀ b, (b = 8 ∨ M.1 12 b = 0) → rfr_ b N1 N2 → (∀ j, j < 8 → jKf_ (135 + 12 * J j) M N1) → jq_ N1 J S → ∃ J2 S2, jq_ N2 J2 S2 ∧ jdX_ J2 S2 ∧ JT_ J2 c N2 ∧ HB_ J2 c N2 := fun b hb hr hk hqn =>
    ⟨J, S, by unfold jq_ at hqn ⊢; rw [hR.1]; exact hqn, hjd, JT_sub hJT hHB (fun m hm => ⟨_, _, hNK m hm⟩) e5 (cmd_no hJ9 hJT hb hr hX hR hk)⟩
  have doneNo : ¬ okE_ (tb_ M) fin → ∀ b, (b = 8 ∨ M.1 12 b = 0) → rfr_ b N1 N2 → ∃ J2 S2, jq_ N2 J2 S2 ∧ jdX_ J2 S2 ∧ JT_ J2 c N2 ∧ HB_ J2 c N2 := fun h b hb hr => by
    have e := cNo h
    refine done b hb hr (fun j hj => by rw [e]; exact kA j hj) (by rw [e]; exact qA)
  have doneNone : okE_ (tb_ M) fin → ¬ v = 5 → ¬ v = 4 → fj1_ A J 8 0 = none → ∀ b, (b = 8 ∨ M.1 12 b = 0) → rfr_ b N1 N2 → ∃ J2 S2, jq_ N2 J2 S2 ∧ jdX_ J2 S2 ∧ JT_ J2 c N2 ∧ HB_ J2 c N2 := fun h h5 h4 hf b hb hr => by
    have e := cNone h h5 h4 hf
    refine done b hb hr (fun j hj => by rw [e]; exact jKf_tr (kA j hj) (jKf_fi (by omega))) (by rw [e]; unfold jq_; rw [fi_22]; exact qA)
  unfold cmd_ at hcmd
  rcases vb_T hT hpn with ⟨g1, g2⟩ | ⟨g1, g2⟩
  · rw [if_pos g1] at hcmd
    have hno : ¬ okE_ (tb_ M) fin := by
      rw [e2] at g2
      subst g2
      rcases hV with ⟨-, h⟩ | ⟨h, -⟩ | ⟨h, -⟩ | ⟨h, -⟩
      · rw [h]; exact ok_n
      · exact absurd h (by decide)
      · exact absurd h (by decide)
      · exact absurd h (by decide)
    refine doneNo hno 8 (Or.inl rfl) ?_
    rw [hcmd.2]
    refine rf_0 (fun a i h => ?_) (fun a i h => ?_)
    · rw [fa_o h]; unfold ra_ cb_ bg_
      rw [gI_sL, gI_sI, if_neg (by omega), gI_sI, if_neg (by omega), gI_sI, if_neg (by omega), gI_sI, if_neg (by omega), gI_sI, if_neg (by omega), gI_sI, if_neg (by omega), gI_sI, if_neg (by omega)]
    · rw [fa_22]; unfold ra_; rw [gL_sL, if_neg (by omega)]; rfl
  · rw [if_neg g1] at hcmd
    rw [e2] at g2
    generalize ha : sp_ N1 n (p0 + rz_ N1 n p0) = a at hcmd g2
    have han : a ≤ n := by rw [← ha]; exact (sp_le (by omega)).2
    generalize hw : wc_ (rv_ (bf_ N1 n) p0 (rz_ N1 n p0)) (rz_ N1 n p0) = w at hcmd g2
    subst g2
    -- the reference's memory
    obtain ⟨B, hB⟩ : ∃ B, ce5_ N1 n p0 (rz_ N1 n p0) = B := ⟨_, rfl⟩
    rw [hB] at hcmd
    have bI : ∀ a i, ¬ a = 0 → B.1 a i = N1.1 a i := fun a i h => by
      rw [← hB]; unfold ce5_ ra_ cb_ bg_
      rw [gI_sI, if_neg (by omega), gI_sL, gI_sI, if_neg (by omega), gI_sI, if_neg (by omega), gI_sI, if_neg (by omega), gI_sI, if_neg (by omega), gI_sI, if_neg (by omega), gI_sI, if_neg (by omega), gI_sI, if_neg (by omega)]
    have bL : ∀ a i, ¬ a = 0 → B.2.1 a i = N1.2.1 a i := fun a i h => by
      rw [← hB]; unfold ce5_ ra_
      rw [gL_sI, gL_sL, if_neg (by omega)]; rfl
    have rB : ∀ b, rfr_ b N1 B := fun b => rf_0 bI bL
    have b14 : B.1 0 14 = 1 := by
      rw [← hB]; unfold ce5_ ra_ cb_
      rw [gI_sI, if_neg (by omega), gI_sL, gI_sI, if_neg (by omega), gI_sI, if_neg (by omega), gI_sI, if_pos ⟨rfl, rfl⟩]
    have b15 : B.1 0 15 = 3 := by
      rw [← hB]; unfold ce5_ ra_ cb_
      rw [gI_sI, if_neg (by omega), gI_sL, gI_sI, if_neg (by omega), gI_sI, if_pos ⟨rfl, rfl⟩]
    have bbf : bf_ B n = bf_ N1 n := by funext q; unfold bf_; rw [bI 1 q (by decide)]
    have hTB : TF_ (tb_ M) (bf_ B n) n := by rw [bbf]; exact hT
    have n14 : ¬ B.1 0 14 = 0 := by rw [b14]; decide
    have hK : KN_ B 7 false := Or.inr ⟨rfl, n14, rfl, b15⟩
    have hkB : kdE_ J A B := fun i hi => by rw [bI 12 i (by decide)]; exact hkA i hi
    have vw : v = w := e3
    have b12 : ∀ i, B.1 12 i = M.1 12 i := fun i => (bI 12 i (by decide)).trans (hX.1 12 i (by omega))
    have hjB : ∀ b, hj_ B b → b = 8 ∨ M.1 12 b = 0 := fun b h => h.elim (fun y => Or.inl y.2) (fun y => Or.inr (by rw [← b12 b]; exact y.2.2))
    have fjB : ∀ b, fj_ B 8 0 = nI b → b < 8 → fj1_ A J 8 0 = some b := fun b h hb => by
      rw [fj_T hkB 8 0 (by omega)] at h
      cases hf : fj1_ A J 8 0 with
      | none =>
        rw [hf] at h
        have h : (-1 : Int32) = nI b := h
        have := nI_n0 b (by omega)
        rw [← h] at this
        exact absurd (by decide) this
      | some i =>
        rw [hf] at h
        have hi := (fj1_in 8 0 i hf).2.1
        have h : nI i = nI b := h
        rw [(nI_eq (by omega) (by omega)).mp h]
    have fjN : fj_ B 8 0 < 0 → fj1_ A J 8 0 = none := fun h => (fj_neg hkB).mp h
    unfold cd5_ at hcmd
    rcases hV with ⟨h5, hf⟩ | ⟨h4, hf, h38⟩ | ⟨h23, hf, m2, m7, m9, m11⟩ | ⟨h1, p2, PO, PT, W1, X1, W2, X2, q, cc, b, hp2, k1, k2, k3, k4, k5, k6, k7, k8, x1, x2, x5, x6, x7, x9, xe, xd⟩
    · -- reset
      have h5 : w = 5 := h5
      have hf : fin = some a := hf
      subst hf
      have o := ok_s hTB han
      rw [h5, if_neg (by decide), if_neg (by decide), if_neg (by decide)] at hcmd
      by_cases q : a < n
      · rw [if_pos q] at hcmd
        refine doneNo (fun y => o.mp y q) 8 (Or.inl rfl) (rfr_tr (rB 8) ?_)
        rw [hcmd.2]
        exact rf_0 (fun a i h => by rw [fa_o h, gI_sI, if_neg (by omega)]) (fun a i h => by rw [fa_22]; rfl)
      · rw [if_neg q] at hcmd
        rcases hCR with ⟨y, -⟩ | ⟨-, hh⟩
        · exact absurd (e4.mpr (o.mpr q)) y
        · rcases hh with ⟨-, -, y⟩ | ⟨y, -⟩ | ⟨y, -⟩
          · have kz : kdE_ J N1 N2 := by rw [y, hcmd.2]; exact kd_reset
            have nz : ∀ j, j < 8 → N2.1 12 j = 0 := fun j hj => by
              rw [← (kz j hj).1, y]
              exact ea_0 8 0 0 A j (by omega) (by omega)
            refine ⟨J, S, ?_, hjd, JT_sub hJT hHB (fun m hm => ⟨_, _, hNK m hm⟩) e5 (fun j hj => Or.inl ⟨?_, nz j hj⟩)⟩
            · unfold jq_
              rw [hR.1, y, ea_2]
              exact qA
            · rw [hR.2.2.1 _ 0 (by omega), (kz j hj).1]; exact nz j hj
          · rw [vw, h5] at y; exact absurd y (by decide)
          · exact absurd (vw.trans h5) y.1
    · -- kill
      have h4 : w = 4 := h4
      have hf : fin = qw_ (tb_ M) (klT_ (tb_ M) (some a)).2 := hf
      have h38 : A.1 38 0 = (klT_ (tb_ M) (some a)).1 := h38
      rw [h4, if_neg (by decide), if_neg (by decide), if_pos rfl] at hcmd
      rcases kl_T hTB han with ⟨z, j1, j2⟩ | ⟨l, k, j1, j2, j3, j4, j5⟩
      · rw [j1] at hcmd
        obtain ⟨f, w2⟩ := z
        have hcmd : fo3_ B f w2 r2 N2 := hcmd
        exact doneNo (by rw [hf, j2]; exact ok_n) 8 (Or.inl rfl) (rfr_tr (rB 8) (rf_pf hcmd.2.1))
      · rw [j5] at hf
        rw [j4] at h38
        rw [j1] at hcmd
        have hsk := sp_le (M := B) j3
        have o := ok_s hTB hsk.2
        rw [← hf] at o
        unfold kl2_ at hcmd
        simp only at hcmd
        by_cases q : sp_ B n k < n
        · rw [if_pos q] at hcmd
          have hcmd : fo3_ B _ _ r2 N2 := hcmd
          exact doneNo (fun y => o.mp y q) 8 (Or.inl rfl) (rfr_tr (rB 8) (rf_pf hcmd.2.1))
        · rw [if_neg q, nI_clamp (by omega)] at hcmd
          rcases hCR with ⟨y, -⟩ | ⟨-, hh⟩
          · exact absurd (e4.mpr (o.mpr q)) y
          · rcases hh with ⟨y, -⟩ | ⟨-, x, B2, hx, hE⟩ | ⟨y, -⟩
            · rw [vw, h4] at y; exact absurd y (by decide)
            · rw [h38] at hx
              rcases hx with ⟨y, hx, hB2⟩ | ⟨i, hi, ei, hx, hB2⟩
              · have hl8 : 8 ≤ nI l := y.elim (fun y => absurd ((nI_ltI (a := l) (b := 0) (by omega) (by decide)).mp y) (by omega)) id
                rw [if_pos (Or.inl hl8)] at hcmd
                have hcmd : fo3_ B _ _ r2 N2 := hcmd
                have e : N1 = fiX_ A 5 (A.1 35 1) := by
                  rcases hE with ⟨y, -⟩ | ⟨-, -, y⟩
                  · exact absurd hx y
                  · rw [y, hB2]
                exact done 8 (Or.inl rfl) (rfr_tr (rB 8) (rf_pf hcmd.2.1)) (fun j hj => by rw [e]; exact jKf_tr (kA j hj) (jKf_fi (by omega))) (by rw [e]; unfold jq_; rw [fi_22]; exact qA)
              · have hli : l = i := (nI_eq (by omega) (by omega)).mp ei
                subst hli
                have n8 : ¬ (8 : Int32) ≤ nI l := fun y => absurd ((nI_leI (a := 8) (b := l) (by decide) (by omega)).mp y) (by omega)
                rw [(hkB l hi).1] at hx hB2
                by_cases q0 : B.1 12 l = 0
                · rw [if_pos (Or.inr q0)] at hcmd
                  have hcmd : fo3_ B _ _ r2 N2 := hcmd
                  rw [if_pos q0] at hx hB2
                  have e : N1 = fiX_ A 5 (A.1 35 1) := by
                    rcases hE with ⟨y, -⟩ | ⟨-, -, y⟩
                    · exact absurd hx y
                    · rw [y, hB2]
                  exact done 8 (Or.inl rfl) (rfr_tr (rB 8) (rf_pf hcmd.2.1)) (fun j hj => by rw [e]; exact jKf_tr (kA j hj) (jKf_fi (by omega))) (by rw [e]; unfold jq_; rw [fi_22]; exact qA)
                · rw [if_neg (fun y => y.elim n8 q0)] at hcmd
                  obtain ⟨-, -, -, hN2⟩ := hcmd
                  rw [if_neg q0] at hx hB2
                  have e : N1 = sI_ A (135 + 12 * J l) 0 0 := by
                    rcases hE with ⟨-, -, y⟩ | ⟨y, -⟩
                    · rw [y, hB2]
                    · have e : nI l = -1 := hx.symm.trans y
                      have := nI_n0 l (by omega)
                      rw [e] at this
                      exact absurd (by decide) this
                  refine ⟨J, S, by unfold jq_; rw [hR.1, e]; exact qA, hjd, JT_sub hJT hHB (fun m hm => ⟨_, _, hNK m hm⟩) e5 (fun j hj => ?_)⟩
                  by_cases ejl : j = l
                  · subst ejl
                    refine Or.inl ⟨?_, ?_⟩
                    · rw [hR.2.2.1 _ 0 (by omega), e, gI_sI, if_pos ⟨rfl, rfl⟩]
                    · rw [hN2, gI_sI, if_pos ⟨rfl, rfl⟩]
                  · have nJ : ¬ J j = J l := fun y => ejl (hd j l hj hi y)
                    have k2 : jKf_ (135 + 12 * J j) M N2 := jKf_tr (kA j hj) (jKf_tr (fun a i z1 z2 => by rw [e]; exact ⟨by rw [gI_sI, if_neg (by omega)], rfl⟩) (jKf_hR (by omega) hR))
                    have kr : N2.1 12 j = B.1 12 j ∧ jKr_ j B N2 := by
                      rw [hN2]
                      exact ⟨by rw [gI_sI, if_neg (by omega), gI_sI, if_neg (by omega)], fun a i z => by unfold jcQ_ at z; rw [gI_sI, if_neg (by omega), gI_sI, if_neg (by omega)], fun i _ _ => rfl⟩
                    by_cases q1 : M.1 12 j = 0
                    · refine Or.inl ⟨?_, ?_⟩
                      · rw [(k2 _ 0 (by omega) (by omega)).1, (hJT.1 j hj).1, q1]
                      · rw [kr.1, b12 j, q1]
                    · exact Or.inr (Or.inl ⟨q1, rfl, jKf_x k2, (k2 _ 9 (by omega) (by omega)).1, jKr_tr (jKr_hX hX) (jKr_tr ((rB 8 j hj).2 (by omega)) kr.2)⟩)
            · exact absurd (vw.trans h4) y.2
    · -- monitor, keep
      have h23 : w = 2 ∨ w = 3 := h23
      have hf : fin = qw_ (tb_ M) (patT_ (tb_ M) (some a)).2 := hf
      have m2 : A.2.1 (135 + 12 * S) 2 = (patT_ (tb_ M) (some a)).1 := m2
      have w1 : ¬ w = 1 := fun y => by rw [y] at h23; exact absurd h23 (by decide)
      have w4 : w < 4 := h23.elim (fun y => by rw [y]; decide) (fun y => by rw [y]; decide)
      have v5 : ¬ v = 5 := fun y => by rw [← vw, y] at h23; exact absurd h23 (by decide)
      have v4 : ¬ v = 4 := fun y => by rw [← vw, y] at h23; exact absurd h23 (by decide)
      rw [if_neg w1, if_pos w4] at hcmd
      rcases pd_T hTB han with ⟨z, j1, j2⟩ | ⟨pl, j1, j2, j3, j4, j5, j6, j7⟩
      · rw [j1] at hcmd
        obtain ⟨f, w2⟩ := z
        have hcmd : fo4_ B f w2 r2 N2 := hcmd
        exact doneNo (by rw [hf, j2]; exact ok_n) 8 (Or.inl rfl) (rfr_tr (rB 8) (rf_ph (ph_pg hcmd.2.1)))
      · rw [j7] at hf
        rw [j1] at hcmd
        have hsk := sp_le (M := B) j3
        have o := ok_s hTB hsk.2
        rw [← hf] at o
        unfold sb_ at hcmd
        simp only at hcmd
        by_cases q : sp_ B n (a + pl) < n
        · rw [if_pos q] at hcmd
          have hcmd : fo4_ B _ _ r2 N2 := hcmd
          exact doneNo (fun y => o.mp y q) 8 (Or.inl rfl) (rfr_tr (rB 8) (rf_ph (ph_pg hcmd.2.1)))
        · rw [if_neg q] at hcmd
          by_cases f : fj_ B 8 0 < 0
          · rw [if_pos f] at hcmd
            have hcmd : fo4_ B _ _ r2 N2 := hcmd
            exact doneNone (o.mpr q) v5 v4 (fjN f) 8 (Or.inl rfl) (rfr_tr (rB 8) (rf_ph (ph_pg hcmd.2.1)))
          · rw [if_neg f] at hcmd
            obtain ⟨x, N0, y1, y2, y3, y4, y5, y6, y7, y8, y9⟩ := hcmd
            have hN1 := cNew (o.mpr q) v5 v4 x (fjB x y3 y2)
            refine new_job (kd := w) (z := pl) (f := bf_ B n) (s := a) hS hJ hd hq hc hJT hHB hNK hcz hN1 y2 hX hR n5 (fun j hj hne => ?_) ?_ (by rw [ek0]; exact vw) (Or.inr h23) m9 j2 ?_ (fun i hi => ?_) (m2.trans j6) j5 (fun y => absurd y w1) (fun y i hi => ?_)
            · have k := nj_Kr (M := N0) (z := pl) (kd := w) j2 hne
              have kp := rf_ph (ph_pg (J := 8) y5) j hj
              rw [y9]
              exact ⟨k.1.trans (kp.1.trans (bI 12 j (by decide))), jKr_tr ((rB 8 j hj).2 (by omega)) (jKr_tr (kp.2 (by omega)) k.2)⟩
            · rw [y9]; exact nj_12
            · rw [y9]; exact nj_18
            · rw [y9, nj_17 hi j2]; exact y8 i hi
            · rw [y9, nj_20 hi]; exact m11 i hi
    · -- watch
      have h1 : w = 1 := h1
      have v5 : ¬ v = 5 := fun y => by rw [vw, h1] at y; exact absurd y (by decide)
      have v4 : ¬ v = 4 := fun y => by rw [vw, h1] at y; exact absurd y (by decide)
      obtain rfl : a = p2 := Option.some.inj hp2
      rw [h1, if_pos rfl] at hcmd
      rcases wt_T hTB hK n14 han k1 k2 k3 k4 k5 k6 k7 k8 with ⟨z, j1, j2⟩ | ⟨s2, pl, xt, c2, lim, j1, j2, j3, j4, j5, j6, j7, ⟨kk, mm, j8⟩, j9, j10⟩
      · rw [j1] at hcmd
        obtain ⟨f, w2⟩ := z
        obtain ⟨-, ⟨b0, hb0, hph⟩, -⟩ := hcmd
        by_cases ok : okE_ (tb_ M) fin
        · exact doneNone ok v5 v4 (fjN (j2.resolve_left (fun y => y ok))) b0 (hjB b0 hb0) (rfr_tr (rB b0) (rf_ph hph))
        · exact doneNo ok b0 (hjB b0 hb0) (rfr_tr (rB b0) (rf_ph hph))
      · obtain ⟨⟨q1, q2, hx1⟩, hx2⟩ := wt_in j1
        have hx1 : ex_ B n q1 = .inl (tm_ xt, q2) := hx1
        have hx2 : ∀ e, c2 = some e → ∃ k1 k2, ex_ B n k1 = .inl (e, k2) := hx2
        rw [j1] at hcmd
        obtain ⟨b8, N0, y1, y2, y3, y4, y5, y6, y7, y8, y9, y10⟩ := hcmd
        have fb : fj_ B 8 0 = nI b8 := y3.elim (fun y => by omega) (fun y => y.1)
        have hN1 := cNew j2 v5 v4 b8 (fjB b8 fb y2)
        have nn : ∀ a i, ¬ ((a = 13 ∨ a = 14 ∨ a = 16) ∧ i = b8) → N2.1 a i = (nj_ N0 b8 pl 1).1 a i := fun a i h => by rw [y10, gI_sI, if_neg (by omega), gI_sI, if_neg (by omega), gI_sI, if_neg (by omega)]
        have n22 : ∀ a i, N2.2.1 a i = N0.2.1 a i := fun a i => by rw [y10, gL_sI, gL_sI, gL_sI, nj_R2]
        obtain ⟨t1, t2, t3, t4⟩ := ex_tr b14 hx1 (k4.trans j8)
        have hd1 := xe.2 _ j8
        have n15 : N2.1 15 b8 = nI 0 := by rw [nn 15 b8 (by omega), nj_15]; rfl
        have n14b : N2.1 14 b8 = lim := by rw [y10, gI_sI, if_neg (by omega), gI_sI, if_pos ⟨rfl, rfl⟩]
        have n16 : N2.1 16 b8 = vp_nar .boolean (oc_ c2) := by rw [y10, gI_sI, if_pos ⟨rfl, rfl⟩]
        have rc : ∀ e t, (t = 16 + 2 * b8 ∨ t = 17 + 2 * b8) → (tc_ (tm_ e)).length ≤ 40 → sd_ N0 t (tm_ e) → sd_ N2 t (tm_ e) := fun e t ht hl h => sd_cg h (by omega) (by rw [nn 4 _ (by omega), nj_o (by omega) (by omega) (by omega)]) (fun i hi => by rw [nn 2 _ (by omega), nj_o (by omega) (by omega) (by omega)]) (fun i hi => n22 _ _)
        refine new_job (kd := 1) (z := pl) (f := bf_ B n) (s := s2) hS hJ hd hq hc hJT hHB hNK hcz hN1 y2 hX hR n5 (fun j hj hne => ?_) ?_ (by rw [ek0]; exact vw.trans h1) (Or.inl rfl) x9 j4 ?_ (fun i hi => ?_) (x2.trans j7) j6 (fun _ => ⟨?_, ?_, ?_, ?_, ?_, ?_⟩) (fun y => absurd y (by decide))
        · have k := nj_Kr (M := N0) (z := pl) (kd := 1) (j := j) j4 hne
          have kp := rf_ph y4 j hj
          have k3 : jKr_ j (nj_ N0 b8 pl 1) N2 := ⟨fun a i z => nn a i (by unfold jcQ_ at z; omega), fun i _ _ => by rw [n22, nj_R2]⟩
          exact ⟨(nn 12 j (by omega)).trans (k.1.trans (kp.1.trans (bI 12 j (by decide)))), jKr_tr ((rB 8 j hj).2 (by omega)) (jKr_tr (kp.2 hne) (jKr_tr k.2 k3))⟩
        · rw [nn 12 b8 (by omega)]; exact nj_12
        · rw [nn 18 b8 (by omega)]; exact nj_18
        · rw [nn 17 _ (by omega), nj_17 hi j4]; exact y7 i hi
        · rw [x1, y10, gI_sI, if_neg (by omega), gI_sI, if_neg (by omega), gI_sI, if_pos ⟨rfl, rfl⟩]
        · rw [n14b, x6]
          rcases j10 with ⟨l1, l2⟩ | ⟨l1, l, l2, l3, l4, l5⟩
          · rw [l1, l2]; rfl
          · rw [l1, l4, l5]; rfl
        · rw [n15, x7]; rfl
        · rw [n14b]
          rcases j10 with ⟨l1, l2⟩ | ⟨l1, l, l2, l3, l4, l5⟩
          · exact ⟨0, 99, n15, by rw [l2]; rfl, by omega, by omega⟩
          · exact ⟨0, l, n15, l4, by omega, by omega⟩
        · exact ⟨xt, ⟨t1, t2, t3, hd1.1, by have := hd1.2; show snX_ xt ≤ 26; have h9 : 3 * snX_ xt + 1 ≤ 80 := this; omega⟩, t1, t2, t3, rc xt _ (Or.inl rfl) t4 y8, t4⟩
        · rw [n16, x5]
          rcases j9 with ⟨l1, l2⟩ | ⟨l1, x, l2, l3⟩
          · rw [l1, l2]; exact Or.inl ⟨rfl, by decide⟩
          · obtain ⟨x, kx, mx⟩ := x
            have l3 : c2 = some (tm_ x) := l3
            obtain ⟨u1, u2, hx3⟩ := hx2 _ l3
            obtain ⟨s1, s2, s3, s4⟩ := ex_tr b14 hx3 (k6.trans l2)
            have hd2 := (xd l1).2 _ l2
            rw [l1, l3]
            exact Or.inr ⟨by decide, show ¬ vp_nar .boolean 1 = 0 by decide, x, ⟨s1, s2, s3, hd2.1, by have h9 : 3 * snX_ x + 1 ≤ 80 := hd2.2; omega⟩, s1, s2, s3, rc x _ (Or.inr rfl) s4 (y9 _ l3), s4⟩
