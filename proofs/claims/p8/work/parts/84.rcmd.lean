/-! the reference between calls: behind a command -/
theorem zj_I {M : mm_} {b : Nat} : ∀ (j a i : Nat), a ≠ 20 → (zj_ M b j).1 a i = M.1 a i
  | 0, _, _, _ => rfl
  | j + 1, a, i, h => by rw [zj_, sI_ne _ _ _ _ (fun q => h q.1), zj_I j a i h]
theorem zj_2 {M : mm_} {b : Nat} : ∀ j, (zj_ M b j).2 = M.2
  | 0 => rfl
  | j + 1 => zj_2 (M := M) (b := b) j
theorem pj_2 {M : mm_} {b : Nat} : ∀ j, (pj_ M b j).2 = M.2
  | 0 => rfl
  | j + 1 => pj_2 (M := M) (b := b) j
theorem nj_o {M : mm_} {b z : Nat} {kd : Int32} {a i : Nat} (h : a ≠ 20) (h2 : a ≠ 17) (h3 : ¬ ((a = 12 ∨ a = 14 ∨ a = 15 ∨ a = 16 ∨ a = 18) ∧ i = b)) : (nj_ M b z kd).1 a i = M.1 a i := by
  unfold nj_
  rw [zj_I _ _ _ h, pj_I _ _ _ h2, gI_sI, if_neg (by omega), gI_sI, if_neg (by omega), gI_sI, if_neg (by omega), gI_sI, if_neg (by omega), gI_sI, if_neg (by omega)]
theorem nj_12 {M : mm_} {b z : Nat} {kd : Int32} : (nj_ M b z kd).1 12 b = kd := by
  unfold nj_
  rw [zj_I _ _ _ (by decide), pj_I _ _ _ (by decide), gI_sI, if_neg (by omega), gI_sI, if_neg (by omega), gI_sI, if_neg (by omega), gI_sI, if_neg (by omega), gI_sI, if_pos ⟨rfl, rfl⟩]
theorem nj_18 {M : mm_} {b z : Nat} {kd : Int32} : (nj_ M b z kd).1 18 b = nI z := by
  unfold nj_
  rw [zj_I _ _ _ (by decide), pj_I _ _ _ (by decide), gI_sI, if_pos ⟨rfl, rfl⟩]
theorem nj_R2 {M : mm_} {b z : Nat} {kd : Int32} : (nj_ M b z kd).2 = M.2 := by
  unfold nj_
  rw [zj_2, pj_2]; rfl
theorem RI_nj {M N : mm_} {b z : Nat} (g : RI_ M) (hb : b < 8) (hz : z ≤ 12) (e2 : N.2 = M.2) (eI : ∀ a i, a ≠ 13 → a ≠ 14 → a ≠ 15 → a ≠ 17 → a ≠ 20 → ¬ ((a = 12 ∨ a = 16 ∨ a = 18) ∧ i = b) → N.1 a i = M.1 a i) (e18 : N.1 18 b = nI z) (hk : N.1 12 b = 1 → okT_ 7 (16 + 2 * b) M ∧ (¬ N.1 16 b = 0 → okT_ 7 (17 + 2 * b) M)) : RI_ N := by
  obtain ⟨⟨n, b1, b2⟩, ⟨c, a1, a2, a3⟩, a4, a5⟩ := g
  have ek : ∀ {V t : Nat}, okT_ V t M → okT_ V t N := fun k => okT_fr (fun i => eI 4 i (by omega) (by omega) (by omega) (by omega) (by omega) (by omega)) (fun i => eI 2 i (by omega) (by omega) (by omega) (by omega) (by omega) (by omega)) (fun i => by rw [e2]) k
  refine ⟨⟨n, by rw [eI 0 2 (by omega) (by omega) (by omega) (by omega) (by omega) (by omega)]; exact b1, b2⟩, ⟨c, a1, by rw [eI 0 9 (by omega) (by omega) (by omega) (by omega) (by omega) (by omega)]; exact a2, fun m hm => ⟨ek (a3 m hm).1, ?_⟩⟩, ckR_s (fun i hi => eI 0 i (by omega) (by omega) (by omega) (by omega) (by omega) (by omega)) (fun i => eI 22 i (by omega) (by omega) (by omega) (by omega) (by omega) (by omega)) a4, fun j hj => ?_⟩
  · obtain ⟨q, c1, c2⟩ := (a3 m hm).2
    exact ⟨q, c1, by rw [eI 6 _ (by omega) (by omega) (by omega) (by omega) (by omega) (by omega)]; exact c2⟩
  · by_cases hjb : j = b
    · subst hjb
      exact ⟨⟨z, hz, e18⟩, fun k => ⟨ek (hk k).1, fun q => ek ((hk k).2 q)⟩⟩
    · obtain ⟨⟨y, d1, d2⟩, d3⟩ := a5 j hj
      refine ⟨⟨y, d1, by rw [eI 18 _ (by omega) (by omega) (by omega) (by omega) (by omega) (by omega)]; exact d2⟩, fun k => ?_⟩
      rw [eI 12 _ (by omega) (by omega) (by omega) (by omega) (by omega) (by omega)] at k
      obtain ⟨k1, k2⟩ := d3 k
      exact ⟨ek k1, fun q => ek (k2 (by rw [eI 16 _ (by omega) (by omega) (by omega) (by omega) (by omega) (by omega)] at q; exact q))⟩
theorem RI_ph {J : Nat} {M N : mm_} (h : ph_ J M N) (hJ : J < 8 → M.1 12 J = 0) (g : RI_ M) : RI_ N := by
  obtain ⟨⟨n, b1, b2⟩, ⟨c, a1, a2, a3⟩, a4, a5⟩ := g
  have e : ∀ a i, a ≠ 7 → a ≠ 8 → a ≠ 9 → a ≠ 11 → a ≠ 19 → ¬ (a = 2 ∧ 2048 ≤ i) → ¬ (a = 2 ∧ 1024 + 128 * J ≤ i ∧ i < 1152 + 128 * J) → ¬ (a = 4 ∧ (i = 16 + 2 * J ∨ i = 17 + 2 * J)) → ¬ (a = 0 ∧ (i = 3 ∨ i = 4 ∨ i = 5 ∨ i = 12 ∨ i = 13 ∨ i = 20 ∨ i = 22 ∨ i = 23 ∨ i = 33)) → N.1 a i = M.1 a i := h.1
  have ek : ∀ {V t : Nat}, t < 32 → ¬ t = 16 + 2 * J → ¬ t = 17 + 2 * J → okT_ V t M → okT_ V t N := fun ht n1 n2 k => okT_f3 (e 4 _ (by omega) (by omega) (by omega) (by omega) (by omega) (by omega) (by omega) (by omega) (by omega)) (fun i hi => e 2 _ (by omega) (by omega) (by omega) (by omega) (by omega) (by omega) (by omega) (by omega) (by omega)) (fun i hi => h.2.1 3 _ (by omega) (by omega) (by omega) (by omega)) k
  have eo : ∀ a i, a = 6 ∨ a = 12 ∨ a = 16 ∨ a = 18 ∨ a = 22 ∨ (a = 0 ∧ (i = 2 ∨ i = 9 ∨ i = 35 ∨ i = 37)) → N.1 a i = M.1 a i := fun a i z => e a i (by omega) (by omega) (by omega) (by omega) (by omega) (by omega) (by omega) (by omega) (by omega)
  refine ⟨⟨n, by rw [eo 0 2 (by omega)]; exact b1, b2⟩, ⟨c, a1, by rw [eo 0 9 (by omega)]; exact a2, fun m hm => ⟨ek (by omega) (by omega) (by omega) (a3 m hm).1, ?_⟩⟩, ckR_s (fun i hi => eo 0 i (by omega)) (fun i => eo 22 i (by omega)) a4, fun j hj => ?_⟩
  · obtain ⟨q, c1, c2⟩ := (a3 m hm).2
    exact ⟨q, c1, by rw [eo 6 _ (by omega)]; exact c2⟩
  · obtain ⟨⟨y, d1, d2⟩, d3⟩ := a5 j hj
    refine ⟨⟨y, d1, by rw [eo 18 _ (by omega)]; exact d2⟩, fun k => ?_⟩
    rw [eo 12 _ (by omega)] at k
    have hne : ¬ j = J := fun z => by rw [z] at k hj; exact absurd (k.symm.trans (hJ hj)) (by decide)
    obtain ⟨k1, k2⟩ := d3 k
    exact ⟨ek (by omega) (by omega) (by omega) k1, fun q => ek (by omega) (by omega) (by omega) (k2 (by rw [eo 16 _ (by omega)] at q; exact q))⟩
theorem w7_in {M : mm_} {n k : Nat} {y x : wr2_} (h : w7_ M n y k = .inl x) : x = y := by
  unfold w7_ at h
  split at h
  · cases h
  · split at h
    · cases h
    · cases h; rfl
theorem w6_in {M : mm_} {n k : Nat} {y : Int32 → wr2_} {x : wr2_} (h : w6_ M n y k = .inl x) : ∃ v, x = y v := by
  unfold w6_ at h
  split at h
  · unfold w6m_ at h
    split at h
    · cases h
    · exact ⟨_, w7_in h⟩
  · exact ⟨99, w7_in h⟩
theorem w5_in {M : mm_} {n k : Nat} {y : Option Term → Int32 → wr2_} {x : wr2_} (h : w5_ M n y k = .inl x) : ∃ v o, x = y o v ∧ ∀ e, o = some e → ∃ k1 k2, ex_ M n k1 = .inl (e, k2) := by
  unfold w5_ at h
  split at h
  · cases hx : ex_ M n (sp_ M n k) with
    | inr q => rw [hx] at h; cases h
    | inl z =>
      obtain ⟨e, k2⟩ := z
      rw [hx] at h
      obtain ⟨v, hv⟩ := w6_in (show w6_ M n (y (some e)) k2 = .inl x from h)
      exact ⟨v, some e, hv, fun e2 he => by cases he; exact ⟨_, _, hx⟩⟩
  · obtain ⟨v, hv⟩ := w6_in h
    exact ⟨v, none, hv, fun e he => by cases he⟩
theorem wt_in {M : mm_} {n s z : Nat} {v : Int64} {x : wr2_} (h : wt_ M n s z v = .inl x) : (∃ k1 k2, ex_ M n k1 = .inl (x.2.2.2.1, k2)) ∧ ∀ e, x.2.2.2.2.1 = some e → ∃ k1 k2, ex_ M n k1 = .inl (e, k2) := by
  unfold wt_ at h
  split at h
  · cases h
  · unfold w3m_ at h
    split at h
    · cases h
    · rename_i q p hq
      unfold w4_ w4m_ at h
      cases hx : ex_ M n (sp_ M n q) with
      | inr w => rw [hx] at h; cases h
      | inl w =>
        obtain ⟨e, k2⟩ := w
        rw [hx] at h
        obtain ⟨v2, o, hv, ho⟩ := w5_in h
        subst hv
        exact ⟨⟨_, _, hx⟩, ho⟩
theorem RI_12 {M : mm_} {j : Nat} (hj : j < 8) (g : RI_ M) : RI_ (sI_ M 12 j 0) := by
  obtain ⟨z, z1, z2⟩ := (g.2.2.2 j hj).1
  exact RI_nj g hj z1 rfl (fun a i n1 n2 n3 n4 n5 n6 => by rw [gI_sI, if_neg (by omega)]) (by rw [gI_sI, if_neg (by omega)]; exact z2) (fun y => by rw [gI_sI, if_pos ⟨rfl, rfl⟩] at y; exact absurd y (by decide))
theorem RI_zk {M : mm_} : ∀ (j : Nat), j ≤ 8 → RI_ M → RI_ (zk_ M j)
  | 0, _, g => g
  | j + 1, hj, g => RI_12 (by omega) (RI_zk j (by omega) g)
theorem RI_cmd {M N : mm_} {n s z : Nat} {v : Int64} {r : Int32} (g : RI_ M) (h : cmd_ M n s z v r N) : RI_ N := by
  unfold cmd_ at h
  split at h
  · rw [h.2]; exact RI_fa (RI_ra (RI_cb g))
  · have gB := RI_ce (n := n) (s := s) (z := z) g
    have e14 : (ce5_ M n s z).1 0 14 = 1 := rfl
    generalize ce5_ M n s z = B at h gB e14
    have s1 : sB_ B = false := by unfold sB_; rw [e14]; rfl
    have s2 : vB_ B = 7 := by unfold vB_; rw [e14]; rfl
    generalize sp_ M n (s + z) = t at h
    unfold cd5_ at h
    split at h
    · cases hw : wt_ B n t (rz_ B n t) (rv_ (bf_ B n) t (rz_ B n t)) with
      | inr q =>
        rw [hw] at h
        obtain ⟨f, w⟩ := q
        obtain ⟨-, ⟨J, j1, j2⟩, -⟩ := h
        exact RI_ph j2 (fun hJ => by rcases j1 with y | y; (omega); exact y.2.2) gB
      | inl x =>
        have hx := wt_in hw
        rw [hw] at h
        obtain ⟨pt, s3, p, e1, e2, lim⟩ := x
        obtain ⟨b, N0, -, hb, hj, hph, -, hp, -, sd1, sd2, rfl⟩ := h
        have hb0 : B.1 12 b = 0 := by rcases hj with y | y; (omega); exact y.2.2
        have g0 := RI_ph hph (fun _ => hb0) gB
        obtain ⟨⟨k1, k2, hx1⟩, hx2⟩ := hx
        have w1 := wf_ex hx1
        rw [s1, s2] at w1
        refine RI_nj g0 hb hp ?_ (fun a i n1 n2 n3 n4 n5 n6 => ?_) ?_ (fun _ => ⟨okT_sd (S := false) (fun y => by cases y) (by decide) w1 (nt_ex hx1) sd1, fun y => ?_⟩)
        · show (nj_ N0 b p 1).2 = N0.2
          exact nj_R2
        · rw [gI_sI, if_neg (by omega), gI_sI, if_neg (by omega), gI_sI, if_neg (by omega), nj_o n5 n4 (by omega)]
        · rw [gI_sI, if_neg (by omega), gI_sI, if_neg (by omega), gI_sI, if_neg (by omega), nj_18]
        · rw [gI_sI, if_pos ⟨rfl, rfl⟩] at y
          cases e2 with
          | none => exact absurd (by decide) y
          | some e =>
            obtain ⟨k3, k4, hx3⟩ := hx2 e rfl
            have w3 := wf_ex hx3
            rw [s1, s2] at w3
            exact okT_sd (S := false) (fun y => by cases y) (by decide) w3 (nt_ex hx3) (sd2 e rfl)
    · split at h
      · rename_i hc1 hc4
        cases hs : sb_ B n (pd_ B n t) with
        | inr q =>
          rw [hs] at h
          obtain ⟨f, w⟩ := q
          exact RI_pg h.2.1 gB
        | inl p =>
          rw [hs] at h
          obtain ⟨b, N0, -, hb, -, hb0, hpg, -, hp, -, rfl⟩ := h
          refine RI_nj (RI_pg hpg gB) hb hp nj_R2 (fun a i n1 n2 n3 n4 n5 n6 => nj_o n5 n4 (by omega)) nj_18 (fun y => ?_)
          rw [nj_12] at y
          exact absurd y hc1
      · split at h
        · cases hs : kl2_ B n (sm_ B n t 0) with
          | inr q =>
            rw [hs] at h
            obtain ⟨f, w⟩ := q
            exact RI_pf h.2.1 gB
          | inl j =>
            rw [hs] at h
            obtain ⟨-, hj, -, rfl⟩ := h
            exact RI_12 hj (RI_0 (by omega) gB)
        · split at h
          · rw [h.2]; exact RI_fa (RI_0 (by omega) gB)
          · rw [h.2]; exact RI_zk 8 (by omega) (RI_0 (by omega) gB)
