/-! the tables behind a method; records, kept, value, invoked behind both -/
def TLq_ (M : mm_) : Prop := RT_ M ∧ M.1 247 0 = M.1 0 41 ∧ M.1 247 1 = M.1 0 40
/-- the cells of records, what was kept, value, invoked -/
def tlc_ (a i : Nat) : Prop := (243 ≤ a ∧ a ≤ 247) ∨ a = 21 ∨ a = 22 ∨ (a = 0 ∧ (i = 35 ∨ i = 37 ∨ i = 40 ∨ i = 41))
def tlK_ (M N : mm_) : Prop := ∀ a i, tlc_ a i → N.1 a i = M.1 a i
theorem tlK_tr {M N O : mm_} (h1 : tlK_ M N) (h2 : tlK_ N O) : tlK_ M O := fun a i z => (h2 a i z).trans (h1 a i z)
theorem TL_cg {M N : mm_} (h : tlK_ M N) (g : TLq_ M) : TLq_ N := by
  obtain ⟨⟨a, b, r1, r2, r3, r4, r5, r6, r7, r8, r9, r10, r11, r12⟩, g2, g3⟩ := g
  have k : ∀ a i, tlc_ a i → N.1 a i = M.1 a i := h
  unfold tlc_ at k
  unfold TLq_ RT_
  refine ⟨⟨a, b, r1, (k _ _ (by omega)).trans r2, (k _ _ (by omega)).trans r3, (k _ _ (by omega)).trans r4, (k _ _ (by omega)).trans r5, fun i hi => ?_, r7, (k _ _ (by omega)).trans r8, (k _ _ (by omega)).trans r9, (k _ _ (by omega)).trans r10, (k _ _ (by omega)).trans r11, fun i hi => ?_⟩, ?_, ?_⟩
  · rw [k 244 i (by omega), k 21 i (by omega)]; exact r6 i hi
  · rw [k 246 i (by omega), k 22 i (by omega)]; exact r12 i hi
  · rw [k 247 0 (by omega), k 0 41 (by omega)]; exact g2
  · rw [k 247 1 (by omega), k 0 40 (by omega)]; exact g3
theorem tl_I {M : mm_} {a i : Nat} {v : Int32} (h : ¬ tlc_ a i) : tlK_ M (sI_ M a i v) := fun b j z => by
  rw [gI_sI, if_neg (fun y => h (by rw [← y.1, ← y.2]; exact z))]
theorem tl_pf {M N : mm_} (h : pf_ M N) : tlK_ M N := fun a i z => by
  unfold tlc_ at z
  exact h.1 a i (by omega) (by omega) (by omega) (by omega) (by omega) (by omega)
theorem tl_ph {b : Nat} {M N : mm_} (h : ph_ b M N) : tlK_ M N := fun a i z => by
  unfold tlc_ at z
  exact h.1 a i (by omega) (by omega) (by omega) (by omega) (by omega) (by omega) (by omega) (by omega) (by omega)
theorem tl_mw {M : mm_} {v : Int32} : tlK_ M (mw_ M v) := fun a i z => by
  unfold tlc_ at z
  unfold mw_ bg_
  rw [gI_sI, if_neg (by omega), gI_sI, if_neg (by omega), gI_sI, if_neg (by omega), gI_sI, if_neg (by omega), gI_sI, if_neg (by omega), gI_sI, if_neg (by omega)]
theorem tl_fi {M : mm_} {f w : Int32} : tlK_ M (fiX_ M f w) := fun a i z => by
  unfold tlc_ at z
  unfold fiX_
  split
  · rw [gI_sI, if_neg (by omega), gI_sI, if_neg (by omega)]
  · rfl
theorem tl_fa {M : mm_} {f w : Int32} : tlK_ M (fa_ M f w) := fun a i z => by
  unfold tlc_ at z
  exact fa_at (by omega)
theorem jm_o {J : Nat → Nat} {x : Int32} {y : Int64} : ∀ (u i : Nat) (M : mm_) (a z : Nat), ¬ (z = 9 ∧ ∃ j, i ≤ j ∧ j < i + u ∧ a = 135 + 12 * J j) → (jm1_ J x y u i M).1 a z = M.1 a z
  | 0, _, _, _, _, _ => rfl
  | u + 1, i, M, a, z, h => by rw [jm1_, jm_o u (i + 1) _ a z (fun ⟨h1, j, h2, h3, h4⟩ => h ⟨h1, j, by omega, by omega, h4⟩), mee_o (fun w => h ⟨w.2, i, by omega, by omega, w.1⟩)]
theorem jm_2 {J : Nat → Nat} {x : Int32} {y : Int64} : ∀ (u i : Nat) (M : mm_), (jm1_ J x y u i M).2 = M.2
  | 0, _, _ => rfl
  | u + 1, i, M => by rw [jm1_, jm_2 u (i + 1), mee_2]
theorem mee_9 {M N : mm_} {k : Nat} {x : Int32} {y : Int64} (h1 : N.1 k 9 = M.1 k 9) (h2 : N.2 = M.2) : (mee_ N k x y).1 k 9 = (mee_ M k x y).1 k 9 := by
  unfold mee_
  rw [h2]
  split
  · exact h1
  · rw [gI_sI, if_pos ⟨rfl, rfl⟩, gI_sI, if_pos ⟨rfl, rfl⟩, h1]
theorem jm_9 {J : Nat → Nat} {x : Int32} {y : Int64} (hd : ∀ i j, i < 8 → j < 8 → J i = J j → i = j) : ∀ (u i : Nat) (M : mm_) (j : Nat), i + u ≤ 8 → i ≤ j → j < i + u → (jm1_ J x y u i M).1 (135 + 12 * J j) 9 = (mee_ M (135 + 12 * J j) x y).1 (135 + 12 * J j) 9
  | 0, _, _, _, _, _, _ => by omega
  | u + 1, i, M, j, hi, h1, h2 => by
    rw [jm1_]
    by_cases e : i = j
    · subst e
      rw [jm_o u (i + 1) _ _ _ (fun ⟨_, q, q1, q2, q3⟩ => by have := hd i q (by omega) (by omega) (by omega); omega)]
    · rw [jm_9 hd u (i + 1) _ j (by omega) (by omega) (by omega)]
      have hne : ¬ J j = J i := fun y => e (hd i j (by omega) (by omega) y.symm)
      exact mee_9 (mee_o (by omega)) mee_2
theorem nI_m1 {c : Nat} (hc : c ≤ 16) : ¬ nI c = -1 := fun y => by
  have : ∀ c, c ≤ 16 → ¬ nI c = -1 := by decide
  exact this c hc y
/-- the tables behind a method -/
theorem met_st {n c S : Nat} {J : Nat → Nat} {M N1 N2 : mm_} {r r2 : Int32} (hS : S < 9) (hJ : ∀ i, i < 8 → J i < 9) (hd : ∀ i j, i < 8 → j < 8 → J i = J j → i = j) (hq : jq_ M J S) (hJT : JT_ J c M) (hHB : HB_ J c M) (hTC : TC_ n c M) (hMR : MR_ n c S J M r N1) (hMD : MDc_ n c r N1) (hmo : mo_ N1 n c (me_ N1 n c) r2 N2) : r2 = r ∧ ∃ c2, TC_ n c2 N2 ∧ jq_ N2 J S ∧ JT_ J c2 N2 ∧ HB_ J c2 N2 ∧ tlK_ M N2 := by
  have hX := hX_MR hMR
  have hR := hR_mo hmo
  obtain ⟨⟨n2, c2, t⟩, rfl⟩ := TM_mo hMD hmo
  have hc := hTC.2.2.2.1.1
  have hNK : ∀ m, m < c → NK_ (M.2.1 46 m) (M.2.1 5 m) (M.1 6 m) := fun m hm => (hTC.2.2.2.2.2 m hm).1
  obtain rfl : n2 = n := (nI_eq (by have := t.1.1; omega) (by have := hMD.1.1; omega)).mp (by rw [← t.1.2, hR.2.2.1 35 1 (by omega)]; exact hMD.1.2)
  have rmw : ∀ v, rfr_ 8 N1 (mw_ N1 v) := fun v => rf_0 (fun a i h => by unfold mw_ bg_; rw [gI_sI, if_neg (by omega), gI_sI, if_neg (by omega), gI_sI, if_neg (by omega), gI_sI, if_neg (by omega), gI_sI, if_neg (by omega), gI_sI, if_neg (by omega)]) (fun a i h => rfl)
  obtain ⟨key, A, hRM, hMR⟩ := hMR
  obtain ⟨hcr, -, -, hkey, -⟩ := hRM
  have aI : ∀ a i, a ≠ 37 → a ≠ 39 → (a < 48 + 5 * c ∨ 48 + 5 * c + 4 < a) → A.1 a i = M.1 a i := hcr.2.1
  have aL : ∀ a i, a ≠ 37 → a ≠ 48 + 5 * c + 2 → A.2.1 a i = M.2.1 a i := hcr.2.2
  have aR : ∀ a i, a ≠ 39 → A.2.2 a i = M.2.2 a i := hcr.1
  have kA : ∀ j, j < 8 → jKf_ (135 + 12 * J j) M A := fun j hj a i z1 z2 => ⟨aI a i (by omega) (by omega) (by omega), aL a i (by omega) (by omega)⟩
  have tA : tlK_ M A → True := fun _ => trivial
  have qA : jq_ A J S := ⟨fun i hi => ⟨(hq.1 i hi).1, by rw [aR 134 i (by omega)]; exact (hq.1 i hi).2⟩, hq.2.1, by rw [aR 133 1 (by omega)]; exact hq.2.2⟩
  -- the reference's cells above 242 are the class's
  have tlA : ∀ a i, 243 ≤ a → A.1 a i = M.1 a i := fun a i z => aI a i (by omega) (by omega) (by omega)
  have tl1 : (∀ a i, 243 ≤ a → N1.1 a i = M.1 a i) → tlK_ M N1 := fun h a i z => by
    unfold tlc_ at z
    by_cases q : a < 34
    · exact hX.1 a i q
    · exact h a i (by omega)
  obtain ⟨b1, b2, b3, b5, -, b6, hMD⟩ := id hMD
  rcases hMD with ⟨rfl, a4, q, hq2⟩ | ⟨rfl, a4, e, a, p, hq2, k1, k2, k3, k4⟩
  · obtain rfl : c2 = c := (nI_eq (by have := t.2.2.2.1.1; omega) (by omega)).mp (by rw [← t.2.2.2.1.2, hR.2.2.1 45 2 (by omega)]; exact a4.2)
    rw [hq2] at hmo
    obtain ⟨f, w⟩ := q
    obtain ⟨-, ⟨v, h1⟩, -⟩ := hmo
    have hr : rfr_ 8 N1 N2 := rfr_tr (rmw v) (rf_pf h1)
    have e5 : ∀ m, m < c2 → N2.2.1 5 m = M.2.1 5 m := fun m hm => by
      rw [h1.2.1 5 m (by omega) (by omega) (by omega)]
      exact hX.2 5 m (by omega)
    have fin : (∀ j, j < 8 → jKf_ (135 + 12 * J j) M N1) → jq_ N1 J S → (∀ a i, 243 ≤ a → N1.1 a i = M.1 a i) → (-1 : Int32) = -1 ∧ ∃ c3, TC_ n2 c3 N2 ∧ jq_ N2 J S ∧ JT_ J c3 N2 ∧ HB_ J c3 N2 ∧ tlK_ M N2 := fun hk hqn ht => by
      obtain ⟨s1, s2⟩ := JT_sub (J2 := J) hJT hHB (fun m hm => ⟨_, _, hNK m hm⟩) e5 (cmd_no hJ hJT (Or.inl rfl) hr hX hR hk)
      exact ⟨rfl, c2, t, by unfold jq_ at hqn ⊢; rw [hR.1]; exact hqn, s1, s2, tlK_tr (tl1 ht) (tlK_tr tl_mw (tl_pf h1))⟩
    rcases hMR with ⟨-, -, rfl⟩ | ⟨-, -, -, -, rfl⟩ | ⟨-, -, -, y, -⟩
    · exact fin (fun j hj => jKf_tr (kA j hj) (jKf_fi (by omega))) (by unfold jq_; rw [fi_22]; exact qA) (fun a i z => by rw [← tlA a i z]; unfold fiX_; split; (rw [gI_sI, if_neg (by omega), gI_sI, if_neg (by omega)]); rfl)
    · exact fin kA qA tlA
    · exact absurd y.symm (nI_m1 hc)
  · obtain rfl : c2 = c + 1 := (nI_eq (by have := t.2.2.2.1.1; omega) (by omega)).mp (by rw [← t.2.2.2.1.2, hR.2.2.1 45 2 (by omega)]; exact a4.2)
    have hl : (tc_ (tm_ e)).length ≤ 40 := by have := tc_le (tm_ e); have := (me_wf hq2).2; omega
    rw [hq2] at hmo
    obtain ⟨-, hc16, N0, k, nd, op, h1, h2, h3, hN2⟩ := hmo
    rcases hMR with ⟨-, y, -⟩ | ⟨-, -, -, y, -⟩ | ⟨-, -, -, -, hN1⟩
    · exact absurd y (nI_m1 hc)
    · exact absurd y (nI_m1 hc)
    have hI : ∀ a2 i, ¬ (a2 = 0 ∧ i = 9) → ¬ (a2 = 4 ∧ i = c) → ¬ (a2 = 6 ∧ i = c) → ¬ (a2 = 2 ∧ 64 * c ≤ i ∧ i < 64 * c + (tc_ (tm_ e)).length) → N2.1 a2 i = N0.1 a2 i := fun a2 i z1 z2 z3 z4 => by
      rw [hN2]
      unfold mk_
      rw [gI_sI, if_neg z1, gI_sI, if_neg z2, kx_I (by omega) _ (by omega), if_neg z4, gI_sI, if_neg z3]
      rfl
    have hL : ∀ a2 i, ¬ (a2 = 3 ∧ 64 * c ≤ i ∧ i < 64 * c + (tc_ (tm_ e)).length) → ¬ (a2 = 5 ∧ i = c) → N2.2.1 a2 i = N0.2.1 a2 i := fun a2 i z z2 => by
      rw [hN2]
      unfold mk_
      rw [gL_sI, gL_sI, kx_L (by omega) _ (by omega), if_neg z, gL_sI, gL_sL, if_neg z2]
    have hr : rfr_ 8 N1 N2 := rfr_tr (rfr_tr (rmw p) (rf_pf h1)) (fun j hj => ⟨hI 12 j (by omega) (by omega) (by omega) (by omega), fun _ => ⟨fun a2 i z => by
      unfold jcQ_ at z
      exact hI a2 i (by omega) (by omega) (by omega) (by omega), fun i z1 z2 => hL 3 i (by omega) (by omega)⟩⟩)
    -- the class's rows
    have mI : ∀ a i, ¬ (a = 45 ∧ i = 2) → (ma_ A c key).1 a i = A.1 a i := fun a i z => by unfold ma_; rw [gI_sI, if_neg z]; rfl
    have mL : ∀ a i, ¬ (a = 46 ∧ i = c) → (ma_ A c key).2.1 a i = A.2.1 a i := fun a i z => by unfold ma_; rw [gL_sI, gL_sL, if_neg z]
    have n1I : ∀ a i, ¬ (i = 9 ∧ 135 ≤ a ∧ a < 243) → ¬ (a = 45 ∧ i = 2) → N1.1 a i = A.1 a i := fun a i z1 z2 => by
      rw [hN1, jm_o 8 0 _ a i (fun ⟨w1, j, w2, w3, w4⟩ => z1 ⟨w1, by omega, by have := hJ j (by omega); omega⟩), mI a i z2]
    have n1L : ∀ a i, N1.2.1 a i = (ma_ A c key).2.1 a i := fun a i => by rw [hN1, jm_2]
    have n1x : ∀ j, j < 8 → ∀ a i, 135 + 12 * J j ≤ a → a ≤ 135 + 12 * J j + 11 → ¬ (a = 135 + 12 * J j ∧ i = 9) → N1.1 a i = A.1 a i := fun j hj a i z1 z2 z3 => by
      have hJj := hJ j hj
      rw [hN1, jm_o 8 0 _ a i (fun ⟨w1, j2, w2, w3, w4⟩ => z3 ⟨by have := hJ j2 (by omega); omega, w1⟩), mI a i (by omega)]
    have kx : ∀ j, j < 8 → jKx_ (135 + 12 * J j) M N2 := fun j hj => by
      have hJj := hJ j hj
      exact jKx_tr (jKf_x (kA j hj)) (jKx_tr ⟨fun a i z1 z2 z3 => n1x j hj a i z1 z2 z3, fun a i z1 z2 => by rw [n1L, mL a i (by omega)]⟩ (jKx_hR (by omega) hR))
    have c9 : ∀ j, j < 8 → N2.1 (135 + 12 * J j) 9 = if ftX_ (M.2.1 (135 + 12 * J j) 2) key = 0 then M.1 (135 + 12 * J j) 9 else M.1 (135 + 12 * J j) 9 ||| (1 <<< (nI c &&& 31)) := fun j hj => by
      have hJj := hJ j hj
      rw [hR.2.2.1 _ 9 (by omega), hN1, jm_9 hd 8 0 _ j (by omega) (by omega) (by omega)]
      unfold mee_
      rw [mL _ 2 (by omega), aL _ 2 (by omega) (by omega)]
      split
      · rw [mI _ 9 (by omega), aI _ 9 (by omega) (by omega) (by omega)]
      · rw [gI_sI, if_pos ⟨rfl, rfl⟩, mI _ 9 (by omega), aI _ 9 (by omega) (by omega) (by omega)]
    have k46 : ∀ m, m < c → N2.2.1 46 m = M.2.1 46 m := fun m hm => by
      rw [hR.2.2.2 46 m (by omega), n1L, mL 46 m (by omega), aL 46 m (by omega) (by omega)]
    have k46c : N2.2.1 46 c = key := by
      rw [hR.2.2.2 46 c (by omega), n1L]; unfold ma_; rw [gL_sI, gL_sL, if_pos ⟨rfl, rfl⟩]
    have e12 : ∀ j, j < 8 → N2.1 12 j = M.1 12 j := fun j hj => (hr j hj).1.trans (hX.1 12 j (by omega))
    refine ⟨rfl, c + 1, t, ?_, ⟨fun j hj => ?_, fun j hj h0 => ?_⟩, fun j hj h0 m z1 z2 => ?_, ?_⟩
    · unfold jq_
      rw [hR.1, hN1, jm_2]
      exact qA
    · rw [e12 j hj, (kx j hj).1 _ 0 (by omega) (by omega) (by omega)]
      exact hJT.1 j hj
    · rw [e12 j hj] at h0
      have g := hJT.2 j hj h0
      refine JT1_cg hj rfl (kx j hj) (jKr_tr (jKr_hX hX) ((hr j hj).2 (by omega))) (fun m => N2.2.1 46 m) (fun m hm => ⟨_, (t.2.2.2.2.2 m hm).1⟩) (fun m hm => ?_) g
      show _ ↔ ¬ ftX_ (M.2.1 (135 + 12 * J j) 2) (N2.2.1 46 m) = 0
      rw [c9 j hj]
      by_cases e : m = c
      · subst e
        rw [k46c]
        by_cases q : ftX_ (M.2.1 (135 + 12 * J j) 2) key = 0
        · rw [if_pos q]
          exact ⟨fun y => absurd y (hHB j hj h0 m (by omega) (by omega)), fun y => absurd q y⟩
        · rw [if_neg q, bt_or _ (by omega) (by omega)]
          exact ⟨fun _ => q, fun _ => Or.inr rfl⟩
      · have hm2 : m < c := by omega
        rw [k46 m hm2, ← JT1_bits g hm2 (hNK m hm2)]
        split
        · exact Iff.rfl
        · rw [bt_or _ (by omega) (by omega)]
          exact ⟨fun y => y.elim id (fun y => absurd y.symm e), Or.inl⟩
    · rw [e12 j hj] at h0
      rw [c9 j hj]
      have := hHB j hj h0 m (by omega) z2
      split
      · exact this
      · rw [bt_or _ (by omega) z2]
        exact fun y => y.elim this (fun y => by omega)
    · refine tlK_tr (tl1 (fun a i z => by rw [n1I a i (by omega) (by omega), tlA a i z])) (tlK_tr tl_mw (tlK_tr (tl_pf h1) (fun a i z => ?_)))
      unfold tlc_ at z
      exact hI a i (by omega) (by omega) (by omega) (by omega)
