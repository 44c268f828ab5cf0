/-! command: what it leaves alone -/
theorem CE_hi {x r : Int32} {B N : mm_} (h : CE_ x B r N) : (∀ a i, ¬ a = 37 → N.1 a i = B.1 a i) ∧ N.2 = B.2 := by
  rcases h with ⟨-, -, rfl⟩ | ⟨-, -, rfl⟩
  · exact ⟨fun _ _ _ => rfl, rfl⟩
  · refine ⟨fun a i z => ?_, fi_22⟩
    unfold fiX_
    split
    · rw [gI_sI, if_neg (by omega), gI_sI, if_neg (by omega)]
    · rfl
theorem CR_hi {n c S : Nat} {J : Nat → Nat} {M N : mm_} {r : Int32} (hS : S < 9) (hJ : ∀ i, i < 8 → J i < 9) (h : CR_ n c S J M r N) : (∀ a i, 243 ≤ a → N.1 a i = M.1 a i) ∧ ∀ a i, ¬ a = 39 → ¬ a = 133 → ¬ a = 134 → N.2.2 a i = M.2.2 a i := by
  obtain ⟨v, A, hRC, hCR⟩ := h
  have hcz := hRC.1
  have aI : ∀ a i, 243 ≤ a → A.1 a i = M.1 a i := fun a i z => hcz.2.1 a i (by omega) (by omega) (by omega) (by omega)
  have aR : ∀ a i, ¬ a = 39 → A.2.2 a i = M.2.2 a i := fun a i z => hcz.1 a i z
  rcases hCR with ⟨-, -, rfl⟩ | ⟨-, hh⟩
  · exact ⟨aI, fun a i z _ _ => aR a i z⟩
  · rcases hh with ⟨-, -, rfl⟩ | ⟨-, x, B, hx, hE⟩ | ⟨-, x, B, ⟨-, hB⟩, hE⟩
    · refine ⟨fun a i z => ?_, fun a i z _ _ => ?_⟩
      · rw [ea_o 8 0 0 A a i (fun ⟨_, j, _, h2, h3⟩ => by have := hJ j (by omega); omega)]; exact aI a i z
      · rw [ea_2]; exact aR a i z
    · obtain ⟨k1, k2⟩ := CE_hi hE
      have hB : (∀ a i, 243 ≤ a → B.1 a i = A.1 a i) ∧ B.2 = A.2 := by
        rcases hx with ⟨-, -, rfl⟩ | ⟨i, hi, -, -, rfl⟩
        · exact ⟨fun _ _ _ => rfl, rfl⟩
        · have := hJ i hi
          split
          · exact ⟨fun _ _ _ => rfl, rfl⟩
          · exact ⟨fun a i z => by rw [gI_sI, if_neg (by omega)], rfl⟩
      exact ⟨fun a i z => by rw [k1 a i (by omega), hB.1 a i z]; exact aI a i z, fun a i z _ _ => by rw [k2, hB.2]; exact aR a i z⟩
    · obtain ⟨k1, k2⟩ := CE_hi hE
      have hB2 : (∀ a i, 243 ≤ a → B.1 a i = A.1 a i) ∧ ∀ a i, ¬ a = 133 → ¬ a = 134 → B.2.2 a i = A.2.2 a i := by
        cases hf : fj1_ A J 8 0 with
        | none => rw [hf] at hB; rw [show B = A from hB]; exact ⟨fun _ _ _ => rfl, fun _ _ _ _ => rfl⟩
        | some b =>
          rw [hf] at hB
          rw [show B = bgn_ A J S c b from hB]
          unfold bgn_
          refine ⟨fun a i z => ?_, fun a i z1 z2 => ?_⟩
          · rw [me_o c 0 _ a i (by omega)]; rfl
          · rw [me_2]
            show (if a = 134 ∧ i = b then _ else if a = 133 ∧ i = 1 then _ else A.2.2 a i) = A.2.2 a i
            rw [if_neg (by omega), if_neg (by omega)]
      exact ⟨fun a i z => by rw [k1 a i (by omega), hB2.1 a i z]; exact aI a i z, fun a i z z1 z2 => by rw [k2, hB2.2 a i z1 z2]; exact aR a i z⟩
theorem tl_nj {M : mm_} {b z : Nat} {kd : Int32} : tlK_ M (nj_ M b z kd) := fun a i h => by
  unfold tlc_ at h
  exact nj_o (by omega) (by omega) (by omega)
theorem tl_zk {M : mm_} (j : Nat) : tlK_ M (zk_ M j) := fun a i h => by
  unfold tlc_ at h
  exact zk_I j a i (by omega)
theorem tl_c0 {M N : mm_} (h : ∀ a i, ¬ (a = 0 ∧ i < 35) → N.1 a i = M.1 a i) : tlK_ M N := fun a i z => by
  unfold tlc_ at z
  exact h a i (by omega)
theorem tl_ra {M : mm_} {n s : Nat} : tlK_ M (ra_ (cb_ M) n s) := tl_c0 (fun a i h => by
  unfold ra_ cb_ bg_
  rw [gI_sL, gI_sI, if_neg (by omega), gI_sI, if_neg (by omega), gI_sI, if_neg (by omega), gI_sI, if_neg (by omega), gI_sI, if_neg (by omega), gI_sI, if_neg (by omega), gI_sI, if_neg (by omega)])
theorem cmd_tl {M N : mm_} {n s z : Nat} {v : Int64} {r : Int32} (h : cmd_ M n s z v r N) : tlK_ M N := by
  unfold cmd_ at h
  split at h
  · rw [h.2]; exact tlK_tr tl_ra tl_fa
  · have gB : tlK_ M (ce5_ M n s z) := tlK_tr tl_ra (tl_I (by unfold tlc_; omega))
    refine tlK_tr gB ?_
    generalize ce5_ M n s z = B at h
    generalize sp_ M n (s + z) = t at h
    unfold cd5_ at h
    split at h
    · cases hw : wt_ B n t (rz_ B n t) (rv_ (bf_ B n) t (rz_ B n t)) with
      | inr q =>
        rw [hw] at h
        obtain ⟨f, w⟩ := q
        obtain ⟨-, ⟨J, j1, j2⟩, -⟩ := h
        exact tl_ph j2
      | inl x =>
        rw [hw] at h
        obtain ⟨pt, s3, p, e1, e2, lim⟩ := x
        obtain ⟨b, N0, -, hb, hj, hph, -, hp, -, sd1, sd2, rfl⟩ := h
        exact tlK_tr (tl_ph hph) (tlK_tr tl_nj (tlK_tr (tl_I (by unfold tlc_; omega)) (tlK_tr (tl_I (by unfold tlc_; omega)) (tl_I (by unfold tlc_; omega)))))
    · split at h
      · cases hs : sb_ B n (pd_ B n t) with
        | inr q =>
          rw [hs] at h
          obtain ⟨f, w⟩ := q
          exact tl_ph (ph_pg (J := 8) h.2.1)
        | inl p =>
          rw [hs] at h
          obtain ⟨b, N0, -, -, -, -, hpg, -, -, -, rfl⟩ := h
          exact tlK_tr (tl_ph (ph_pg (J := 8) hpg)) tl_nj
      · split at h
        · cases hk : kl2_ B n (sm_ B n t 0) with
          | inr q =>
            rw [hk] at h
            obtain ⟨f, w⟩ := q
            exact tl_pf h.2.1
          | inl j =>
            rw [hk] at h
            obtain ⟨-, -, -, rfl⟩ := h
            exact tlK_tr (tl_I (by unfold tlc_; omega)) (tl_I (by unfold tlc_; omega))
        · split at h
          · rw [h.2]; exact tlK_tr (tl_I (by unfold tlc_; omega)) tl_fa
          · rw [h.2]; exact tlK_tr (tl_I (by unfold tlc_; omega)) (tl_zk 8)
theorem MDc_of {n c S : Nat} {J : Nat → Nat} {M N : mm_} {r : Int32} (h : TC_ n c M) (hM : MR_ n c S J M r N) : MDc_ n c r N := by
  have hX := hX_MR hM
  obtain ⟨a1, a2, a3, a4, a5, a6⟩ := h
  have hc := a4.1
  unfold MDc_
  have hTF := TF_of (N := N) a1 a3 (fun i => hX.1 1 i (by omega))
  have ht := mt_tie hTF
  obtain ⟨key, A, hRM, hM⟩ := hM
  obtain ⟨hcr, hLS, -, hkey, hhd⟩ := hRM
  have eA : ∀ a i, a ≠ 37 → a ≠ 39 → (a < 48 + 5 * c ∨ 48 + 5 * c + 4 < a) → A.1 a i = M.1 a i := hcr.2.1
  have eL : ∀ a i, a ≠ 37 → a ≠ 48 + 5 * c + 2 → A.2.1 a i = M.2.1 a i := hcr.2.2
  have e9 : N.1 0 9 = nI c := by rw [hX.1 0 9 (by omega)]; exact a5
  have e2 : N.1 0 2 = nI n := by rw [hX.1 0 2 (by omega)]; exact a2
  have hrefI : ∀ a i, (a = 2 ∧ i < 64 * c) ∨ (a = 4 ∧ i < c) ∨ (a = 6 ∧ i < c) → N.1 a i = M.1 a i := fun a i z => hX.1 a i (by omega)
  have hrefL : ∀ a i, (a = 5 ∧ i < c) ∨ (a = 3 ∧ i < 64 * c) → N.2.1 a i = M.2.1 a i := fun a i z => hX.2 a i (by omega)
  have hNK : ∀ m, m < c → NK_ (A.2.1 46 m) (N.2.1 5 m) (N.1 6 m) := fun m hm => by
    rw [eL 46 m (by omega) (by omega), hX.2 5 m (by omega), hX.1 6 m (by omega)]
    exact (a6 m hm).1
  have done : ∀ (hN1 : ∀ a i, 35 ≤ a → a < 48 + 5 * c → ¬ (a = 37) → ¬ a = 39 → ¬ (a = 45 ∧ i = 2) → N.1 a i = A.1 a i) (hN2 : ∀ a i, 40 ≤ a → a < 48 + 5 * c → ¬ (a = 46 ∧ i = c) → N.2.1 a i = A.2.1 a i), tpX_ N n ∧ TQ_ n N ∧ MQ_ c N := fun hN1 hN2 => by
    refine ⟨⟨a1.1, by rw [hN1 35 1 (by omega) (by omega) (by omega) (by omega) (by omega), eA 35 1 (by omega) (by omega) (by omega)]; exact a1.2⟩, fun k hk => ?_, MQ_s hc (fun a i z1 z2 z3 => ?_) (fun a i z1 z2 z3 => ?_) hrefI hrefL a6⟩
    · rw [hN1 36 k (by omega) (by omega) (by omega) (by omega) (by omega), eA 36 k (by omega) (by omega) (by omega), hX.1 1 k (by omega)]
      exact a3 k hk
    · rw [hN1 a i (by omega) z2 (by omega) (by omega) z3, eA a i (by omega) (by omega) (by omega)]
    · rw [hN2 a i z1 z2 z3, eL a i (by omega) (by omega)]
  have hmt : A.1 45 2 = nI c := by rw [eA 45 2 (by omega) (by omega) (by omega)]; exact a4.2
  have hfi : ∀ f w, (∀ a i, 35 ≤ a → a < 48 + 5 * c → ¬ (a = 37) → ¬ a = 39 → ¬ (a = 45 ∧ i = 2) → (fiX_ A f w).1 a i = A.1 a i) ∧ (fiX_ A f w).1 45 2 = A.1 45 2 ∧ (fiX_ A f w).2 = A.2 := fun f w => by
    unfold fiX_
    split
    · exact ⟨fun a i _ _ z _ _ => by rw [gI_sI, if_neg (fun y => z y.1), gI_sI, if_neg (fun y => z y.1)], by rw [gI_sI, if_neg (by omega), gI_sI, if_neg (by omega)], rfl⟩
    · exact ⟨fun _ _ _ _ _ _ _ => rfl, rfl, rfl⟩
  rcases ht with ⟨x, a, p, t1, t2, t3, t4⟩ | ⟨t1, t2⟩
  · have hfm : fd1_ A c key c 0 = fm_ N a p c 0 := fd_fm hNK (by rw [hkey]; exact t3) c 0 (by omega)
    have hiff : (c < 16 ∧ fd1_ A c key c 0 = -1) ↔ ¬ (c = 16 ∨ ¬ fm_ N a p c 0 < 0) := by
      rw [fd_neg hc, hfm]
      constructor
      · rintro ⟨q1, q2⟩ (q | q)
        · omega
        · exact q q2
      · intro q
        exact ⟨by omega, Decidable.not_not.mp (fun y => q (Or.inr y))⟩
    have h0 : A.1 37 2 = 0 := by
      have hLS2 : LS_ (some x.2.1) A := by rw [← t2]; exact hLS
      exact hLS2.1
    rcases hM with ⟨q, rfl, rfl⟩ | ⟨-, -, q, -, -⟩ | ⟨q1, q2, -, rfl, rfl⟩
    · obtain ⟨f1, f2, f3⟩ := hfi 5 (A.1 35 1)
      obtain ⟨d1, d2, d3⟩ := done f1 (fun a i _ _ _ => by rw [f3])
      refine ⟨d1, e2, d2, e9, hc, d3, Or.inl ⟨rfl, ⟨hc, by rw [f2]; exact hmt⟩, (5, n), ?_⟩⟩
      rw [t4 c, if_pos (Decidable.not_not.mp (fun y => q (hiff.mpr y)))]
    · exact absurd h0 q
    · have hj : ∀ a i, a < 135 → (jm1_ J (nI c) key 8 0 (ma_ A c key)).1 a i = (ma_ A c key).1 a i := fun a i z => jm_37 8 0 _ a i z
      have hC := hC_jm (J := J) (x := nI c) (y := key) 8 0 (ma_ A c key)
      generalize hD : jm1_ J (nI c) key 8 0 (ma_ A c key) = D at *
      have m1 : ∀ a i, ¬ (a = 45 ∧ i = 2) → (ma_ A c key).1 a i = A.1 a i := fun a i z => by unfold ma_; rw [gI_sI, if_neg z]; rfl
      have m2 : ∀ a i, ¬ (a = 46 ∧ i = c) → (ma_ A c key).2.1 a i = A.2.1 a i := fun a i z => by unfold ma_; rw [gL_sI, gL_sL, if_neg z]
      obtain ⟨d1, d2, d3⟩ := done (fun a i z1 z2 z3 z4 z5 => by rw [hj a i (by omega), m1 a i z5]) (fun a i z1 z2 z3 => by rw [hC.2.1 a i z1 (by omega), m2 a i z3])
      refine ⟨d1, e2, d2, e9, hc, d3, Or.inr ⟨rfl, ⟨by omega, ?_⟩, x.1, a, p, ?_, ?_, ?_, ?_, (hhd x t1).2⟩⟩
      · rw [hj 45 2 (by omega)]; unfold ma_; rw [gI_sI, if_pos ⟨rfl, rfl⟩]
      · rw [t4 c, if_neg (hiff.mp ⟨q1, q2⟩)]
      · rw [hC.2.1 46 c (by omega) (by omega)]
        unfold ma_
        rw [gL_sI, gL_sL, if_pos ⟨rfl, rfl⟩, hkey]
        exact t3
      · exact ⟨wf_pe (show pe2_ (tb_ M) (pv_ (tb_ M) (mq2_ (tb_ M))) true (mq5_ (tb_ M)) = some x from t1), KK_pe hTF (fun p9 hp9 => mq5_in hTF hp9) (show pe2_ (tb_ M) (pv_ (tb_ M) (mq2_ (tb_ M))) true (mq5_ (tb_ M)) = some x from t1)⟩
      · exact hd_cg (fun a i z1 z2 => by rw [hj a i (by omega), m1 a i (by omega)]) (fun i => by rw [hC.2.1 _ i (by omega) (by omega), m2 _ i (by omega)]) (hhd x t1).1
  · have h0 : ¬ A.1 37 2 = 0 := by
      have hLS2 : LS_ none A := by rw [← t1]; exact hLS
      exact hLS2
    rcases hM with ⟨q, rfl, rfl⟩ | ⟨-, -, q, rfl, rfl⟩ | ⟨-, -, q, -, -⟩
    · obtain ⟨f1, f2, f3⟩ := hfi 5 (A.1 35 1)
      obtain ⟨d1, d2, d3⟩ := done f1 (fun a i _ _ _ => by rw [f3])
      exact ⟨d1, e2, d2, e9, hc, d3, Or.inl ⟨rfl, ⟨hc, by rw [f2]; exact hmt⟩, t2 c⟩⟩
    · obtain ⟨d1, d2, d3⟩ := done (fun _ _ _ _ _ _ _ => rfl) (fun _ _ _ _ _ => rfl)
      exact ⟨d1, e2, d2, e9, hc, d3, Or.inl ⟨rfl, ⟨hc, hmt⟩, t2 c⟩⟩
    · exact absurd q h0
