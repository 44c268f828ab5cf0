/-! command: the two answers -/
theorem CE_r {x r : Int32} {B N : mm_} (h : CE_ x B r N) : r = x := h.elim (fun y => y.2.1) (fun y => y.2.1)
theorem n_32 : (5 : Int32) = 5 := rfl
/-- the answers of command are the same, where tape and kinds are -/
theorem cmd_ans {n c S p : Nat} {J : Nat → Nat} {M N N2 R : mm_} {r r2 : Int32} (hS : S < 9) (hJ : ∀ i, i < 8 → J i < 9 ∧ ¬ J i = S) (hd : ∀ i j, i < 8 → j < 8 → J i = J j → i = j) (hT : TF_ (tb_ M) (bf_ R n) n) (hkd : kdE_ J M R) (hCR : CR_ n c S J M r N) (hp : sp_ R n 0 = p) (hcmd : cmd_ R n p (rz_ R n p) (rv_ (bf_ R n) p (rz_ R n p)) r2 N2) : r2 = r := by
  have hn := hT.1
  obtain ⟨v, A, hRC, hCR⟩ := hCR
  have hkA : kdE_ J A R := fun i hi => by
    have := hJ i hi
    rw [hRC.1.2.1 (135 + 12 * J i) 0 (by omega) (by omega) (by omega) (by omega)]
    exact hkd i hi
  obtain ⟨p0, V, fin, e1, e2, e3, e4, -, hV⟩ := RC_T (by omega) hRC
  have hp0 : p0 = p := by rw [← e1, ← hp]; exact sp_T hT (by omega)
  subst hp0
  have hpn : p0 ≤ n := by rw [← hp]; exact (sp_le (by omega)).2
  have hz := rz_le R n p0
  -- what the class answers
  have cNo : ¬ okE_ (tb_ M) fin → r = -1 := fun h => by
    rcases hCR with ⟨-, h2, -⟩ | ⟨h1, -⟩
    · exact h2
    · exact absurd (e4.mp h1) h
  have cJob : okE_ (tb_ M) fin → ¬ v = 5 → ¬ v = 4 → r = fj_ R 8 0 := fun h h5 h4 => by
    rcases hCR with ⟨h1, -⟩ | ⟨-, h2⟩
    · exact absurd (e4.mpr h) h1
    · rcases h2 with ⟨y, -⟩ | ⟨y, -⟩ | ⟨-, x, B, ⟨hx, -⟩, hE⟩
      · exact absurd y h5
      · exact absurd y h4
      · rw [CE_r hE, hx, fj_T hkA 8 0 (by omega)]
        cases fj1_ A J 8 0 <;> rfl
  unfold cmd_ at hcmd
  rcases vb_T hT hpn with ⟨g1, g2⟩ | ⟨g1, g2⟩
  · rw [if_pos g1] at hcmd
    rw [hcmd.1]
    refine (cNo ?_).symm
    rw [e2] at g2
    subst g2
    rcases hV with ⟨-, h⟩ | ⟨h, -⟩ | ⟨h, -⟩ | ⟨h, -⟩
    · rw [h]; exact ok_n
    · exact absurd h (by decide)
    · exact absurd h (by decide)
    · exact absurd h (by decide)
  · rw [if_neg g1] at hcmd
    rw [e2] at g2
    generalize ha : sp_ R n (p0 + rz_ R n p0) = a at hcmd g2
    have han : a ≤ n := by rw [← ha]; exact (sp_le (by omega)).2
    generalize hw : wc_ (rv_ (bf_ R n) p0 (rz_ R n p0)) (rz_ R n p0) = w at hcmd g2
    subst g2
    -- the reference's memory
    obtain ⟨B, hB⟩ : ∃ B, ce5_ R n p0 (rz_ R n p0) = B := ⟨_, rfl⟩
    rw [hB] at hcmd
    have bI : ∀ a i, ¬ a = 0 → B.1 a i = R.1 a i := fun a i h => by
      rw [← hB]; unfold ce5_ ra_ cb_ bg_
      rw [gI_sI, if_neg (by omega), gI_sL, gI_sI, if_neg (by omega), gI_sI, if_neg (by omega), gI_sI, if_neg (by omega), gI_sI, if_neg (by omega), gI_sI, if_neg (by omega), gI_sI, if_neg (by omega), gI_sI, if_neg (by omega)]
    have b14 : B.1 0 14 = 1 := by
      rw [← hB]; unfold ce5_ ra_ cb_
      rw [gI_sI, if_neg (by omega), gI_sL, gI_sI, if_neg (by omega), gI_sI, if_neg (by omega), gI_sI, if_pos ⟨rfl, rfl⟩]
    have b15 : B.1 0 15 = 3 := by
      rw [← hB]; unfold ce5_ ra_ cb_
      rw [gI_sI, if_neg (by omega), gI_sL, gI_sI, if_neg (by omega), gI_sI, if_pos ⟨rfl, rfl⟩]
    have bbf : bf_ B n = bf_ R n := by funext q; unfold bf_; rw [bI 1 q (by decide)]
    have hTB : TF_ (tb_ M) (bf_ B n) n := by rw [bbf]; exact hT
    have n14 : ¬ B.1 0 14 = 0 := by rw [b14]; decide
    have hK : KN_ B 7 false := Or.inr ⟨rfl, n14, rfl, b15⟩
    have hkB : kdE_ J A B := fun i hi => by rw [bI 12 i (by decide)]; exact hkA i hi
    have vw : v = w := e3
    have fjB : fj_ R 8 0 = fj_ B 8 0 := by rw [fj_T hkA 8 0 (by omega), fj_T hkB 8 0 (by omega)]
    have fjn : fj_ B 8 0 < 0 → fj_ B 8 0 = -1 := fun f => by
      rcases fj_two (M := B) 8 0 (by omega) with y | ⟨x, -, y2, y3, -⟩
      · exact y
      · rw [y3] at f; exact absurd f (nI_n0 x (by omega))
    unfold cd5_ at hcmd
    rcases hV with ⟨h5, hf⟩ | ⟨h4, hf, h38⟩ | ⟨h23, hf, -⟩ | ⟨h1, p2, PO, PT, W1, X1, W2, X2, q, cc, b, hp2, k1, k2, k3, k4, k5, k6, k7, k8, -⟩
    · -- reset
      have h5 : w = 5 := h5
      have hf : fin = some a := hf
      subst hf
      have o := ok_s hTB han
      rw [h5, if_neg (by decide), if_neg (by decide), if_neg (by decide)] at hcmd
      by_cases q : a < n
      · rw [if_pos q] at hcmd
        rw [hcmd.1]
        exact (cNo (fun y => o.mp y q)).symm
      · rw [if_neg q] at hcmd
        rw [hcmd.1]
        rcases hCR with ⟨y, -⟩ | ⟨-, hh⟩
        · exact absurd (e4.mpr (o.mpr q)) y
        · rcases hh with ⟨-, y, -⟩ | ⟨y, -⟩ | ⟨y, -⟩
          · rw [y, ea_T hd 8 0 0 A (by omega) (fun j _ hj => hkB j hj) rfl]
          · rw [vw, h5] at y; exact absurd y (by decide)
          · exact absurd (vw.trans h5) y.1
    · -- kill
      have h4 : w = 4 := h4
      have hf : fin = qw_ (tb_ M) (klT_ (tb_ M) (some a)).2 := hf
      have h38 : A.1 38 0 = (klT_ (tb_ M) (some a)).1 := h38
      rw [h4, if_neg (by decide), if_neg (by decide), if_pos rfl] at hcmd
      rcases kl_T hTB han with ⟨z, j1, j2⟩ | ⟨l, k, j1, j2, j3, j4, j5⟩
      · rw [j1] at hcmd
        obtain ⟨f, w2⟩ := z
        rw [show r2 = -1 from hcmd.1]
        exact (cNo (by rw [hf, j2]; exact ok_n)).symm
      · rw [j5] at hf
        rw [j4] at h38
        rw [j1] at hcmd
        have hsk := sp_le (M := B) j3
        have o := ok_s hTB hsk.2
        rw [← hf] at o
        unfold kl2_ at hcmd
        simp only at hcmd
        by_cases q : sp_ B n k < n
        · rw [if_pos q] at hcmd
          rw [show r2 = -1 from hcmd.1]
          exact (cNo (fun y => o.mp y q)).symm
        · rw [if_neg q, nI_clamp (by omega)] at hcmd
          have hr : ∀ x B2, CE_ x B2 r N → r = x := fun x B2 h => CE_r h
          rcases hCR with ⟨y, -⟩ | ⟨-, hh⟩
          · exact absurd (e4.mpr (o.mpr q)) y
          · rcases hh with ⟨y, -⟩ | ⟨-, x, B2, hx, hE⟩ | ⟨y, -⟩
            · rw [vw, h4] at y; exact absurd y (by decide)
            · rw [hr x B2 hE]
              rw [h38] at hx
              rcases hx with ⟨y, hx, -⟩ | ⟨i, hi, ei, hx, -⟩
              · have hl8 : 8 ≤ nI l := y.elim (fun y => absurd ((nI_ltI (a := l) (b := 0) (by omega) (by decide)).mp y) (by omega)) id
                rw [if_pos (Or.inl hl8)] at hcmd
                rw [show r2 = -1 from hcmd.1, hx]
              · have hli : l = i := (nI_eq (by omega) (by omega)).mp ei
                subst hli
                have n8 : ¬ (8 : Int32) ≤ nI l := fun y => absurd ((nI_leI (a := 8) (b := l) (by decide) (by omega)).mp y) (by omega)
                rw [(hkB l hi).1] at hx
                by_cases q0 : B.1 12 l = 0
                · rw [if_pos (Or.inr q0)] at hcmd
                  rw [if_pos q0] at hx
                  rw [show r2 = -1 from hcmd.1, hx]
                · rw [if_neg (fun y => y.elim n8 q0)] at hcmd
                  rw [if_neg q0] at hx
                  rw [show r2 = nI l from hcmd.1, hx]
            · exact absurd (vw.trans h4) y.2
    · -- monitor, keep
      have h23 : w = 2 ∨ w = 3 := h23
      have hf : fin = qw_ (tb_ M) (patT_ (tb_ M) (some a)).2 := hf
      have w1 : ¬ w = 1 := fun y => by rw [y] at h23; exact absurd h23 (by decide)
      have w4 : w < 4 := h23.elim (fun y => by rw [y]; decide) (fun y => by rw [y]; decide)
      have v5 : ¬ v = 5 := fun y => by rw [← vw, y] at h23; exact absurd h23 (by decide)
      have v4 : ¬ v = 4 := fun y => by rw [← vw, y] at h23; exact absurd h23 (by decide)
      rw [if_neg w1, if_pos w4] at hcmd
      rcases pd_T hTB han with ⟨z, j1, j2⟩ | ⟨pl, j1, j2, j3, j4, j5, j6, j7⟩
      · rw [j1] at hcmd
        obtain ⟨f, w2⟩ := z
        rw [show r2 = -1 from hcmd.1]
        exact (cNo (by rw [hf, j2]; exact ok_n)).symm
      · rw [j7] at hf
        rw [j1] at hcmd
        have hsk := sp_le (M := B) j3
        have o := ok_s hTB hsk.2
        rw [← hf] at o
        unfold sb_ at hcmd
        simp only at hcmd
        by_cases q : sp_ B n (a + pl) < n
        · rw [if_pos q] at hcmd
          rw [show r2 = -1 from hcmd.1]
          exact (cNo (fun y => o.mp y q)).symm
        · rw [if_neg q] at hcmd
          have hr := cJob (o.mpr q) v5 v4
          rw [fjB] at hr
          by_cases f : fj_ B 8 0 < 0
          · rw [if_pos f] at hcmd
            rw [show r2 = -1 from hcmd.1, hr]
            exact (fjn f).symm
          · rw [if_neg f] at hcmd
            obtain ⟨x, N0, y1, y2, y3, -⟩ := hcmd
            rw [y1, hr, y3]
    · -- watch
      have h1 : w = 1 := h1
      have v5 : ¬ v = 5 := fun y => by rw [vw, h1] at y; exact absurd y (by decide)
      have v4 : ¬ v = 4 := fun y => by rw [vw, h1] at y; exact absurd y (by decide)
      obtain rfl : a = p2 := Option.some.inj hp2
      rw [h1, if_pos rfl] at hcmd
      rcases wt_T hTB hK n14 han k1 k2 k3 k4 k5 k6 k7 k8 with ⟨z, j1, j2⟩ | ⟨s2, pl, x1, c2, lim, j1, j2, j3, -⟩
      · rw [j1] at hcmd
        obtain ⟨f, w2⟩ := z
        rw [show r2 = -1 from hcmd.1]
        by_cases ok : okE_ (tb_ M) fin
        · have hr := cJob ok v5 v4
          have f := j2.resolve_left (fun y => y ok)
          rw [fjB, fjn f] at hr
          exact hr.symm
        · exact (cNo ok).symm
      · rw [j1] at hcmd
        obtain ⟨x, N0, y1, y2, y3, -⟩ := hcmd
        have hr := cJob j2 v5 v4
        rw [fjB] at hr
        rcases y3 with ⟨-, y⟩ | ⟨y, -⟩
        · omega
        · rw [y1, hr, y]
