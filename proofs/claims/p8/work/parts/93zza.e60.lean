/-! the tables behind a command -/
def jKf_ (k : Nat) (M N : mm_) : Prop := ∀ a i, k ≤ a → a ≤ k + 11 → N.1 a i = M.1 a i ∧ N.2.1 a i = M.2.1 a i
theorem jKf_tr {k : Nat} {M N O : mm_} (h1 : jKf_ k M N) (h2 : jKf_ k N O) : jKf_ k M O := fun a i z1 z2 => ⟨(h2 a i z1 z2).1.trans (h1 a i z1 z2).1, (h2 a i z1 z2).2.trans (h1 a i z1 z2).2⟩
theorem jKf_hR {k : Nat} {M N : mm_} (hk : 34 ≤ k) (h : hR_ M N) : jKf_ k M N := fun a i z1 z2 => ⟨h.2.2.1 a i (by omega), h.2.2.2 a i (by omega)⟩
theorem jKf_x {k : Nat} {M N : mm_} (h : jKf_ k M N) : jKx_ k M N := ⟨fun a i z1 z2 _ => (h a i z1 z2).1, fun a i z1 z2 => (h a i z1 z2).2⟩
theorem jKf_cz {k q : Nat} {M N : mm_} (hk : 135 ≤ k) (h : czX_ q M N) (hq : k + 11 < q ∨ q + 11 < k) : jKf_ k M N := fun a i z1 z2 => ⟨h.2.1 a i (by omega) (by omega) (by omega) (by omega), h.2.2 a i (by omega) (by omega) (by omega)⟩
theorem jKf_fi {k : Nat} {M : mm_} {f w : Int32} (hk : 135 ≤ k) : jKf_ k M (fiX_ M f w) := fun a i z1 z2 => by
  unfold fiX_
  split
  · exact ⟨by rw [gI_sI, if_neg (by omega), gI_sI, if_neg (by omega)], rfl⟩
  · exact ⟨rfl, rfl⟩
theorem fi_22 {M : mm_} {f w : Int32} : (fiX_ M f w).2 = M.2 := by unfold fiX_; split <;> rfl
/-- the reference's tables but of one job -/
def rfr_ (b : Nat) (M N : mm_) : Prop := ∀ j, j < 8 → N.1 12 j = M.1 12 j ∧ (¬ j = b → jKr_ j M N)
theorem rfr_tr {b : Nat} {M N O : mm_} (h1 : rfr_ b M N) (h2 : rfr_ b N O) : rfr_ b M O := fun j hj => ⟨((h2 j hj).1).trans (h1 j hj).1, fun z => jKr_tr ((h1 j hj).2 z) ((h2 j hj).2 z)⟩
theorem rf_ph {b : Nat} {M N : mm_} (h : ph_ b M N) : rfr_ b M N := fun j hj => ⟨h.1 12 j (by omega) (by omega) (by omega) (by omega) (by omega) (by omega) (by omega) (by omega) (by omega), fun hb => ⟨fun a i z => by
  unfold jcQ_ at z
  exact h.1 a i (by omega) (by omega) (by omega) (by omega) (by omega) (by omega) (by omega) (by omega) (by omega), fun i z1 z2 => h.2.1 3 i (by omega) (by omega) (by omega) (by omega)⟩⟩
theorem rf_pf {b : Nat} {M N : mm_} (h : pf_ M N) : rfr_ b M N := fun j hj => ⟨h.1 12 j (by omega) (by omega) (by omega) (by omega) (by omega) (by omega), fun hb => ⟨fun a i z => by
  unfold jcQ_ at z
  exact h.1 a i (by omega) (by omega) (by omega) (by omega) (by omega) (by omega), fun i z1 z2 => h.2.1 3 i (by omega) (by omega) (by omega)⟩⟩
theorem rf_0 {b : Nat} {M N : mm_} (h1 : ∀ a i, ¬ a = 0 → N.1 a i = M.1 a i) (h2 : ∀ a i, ¬ a = 0 → N.2.1 a i = M.2.1 a i) : rfr_ b M N := fun j hj => ⟨h1 12 j (by omega), fun hb => ⟨fun a i z => by
  unfold jcQ_ at z
  exact h1 a i (by omega), fun i _ _ => h2 3 i (by omega)⟩⟩
theorem fa_o {M : mm_} {f w : Int32} {a i : Nat} (h : ¬ a = 0) : (fa_ M f w).1 a i = M.1 a i := fa_at (fun y => h y.1)
theorem fa_22 {M : mm_} {f w : Int32} : (fa_ M f w).2 = M.2 := by unfold fa_; split <;> rfl
/-- nothing of the jobs has changed -/
theorem cmd_no {J : Nat → Nat} {c b : Nat} {M N1 N2 : mm_} (hJ : ∀ j, j < 8 → J j < 9) (hT : JT_ J c M) (hb : b = 8 ∨ M.1 12 b = 0) (hr : rfr_ b N1 N2) (hX : hX_ M N1) (hR : hR_ N1 N2) (hk : ∀ j, j < 8 → jKf_ (135 + 12 * J j) M N1) : ∀ j, j < 8 → (N2.1 (135 + 12 * J j) 0 = 0 ∧ N2.1 12 j = 0) ∨ (¬ M.1 12 j = 0 ∧ J j = J j ∧ jKx_ (135 + 12 * J j) M N2 ∧ N2.1 (135 + 12 * J j) 9 = M.1 (135 + 12 * J j) 9 ∧ jKr_ j M N2) ∨ (N2.1 (135 + 12 * J j) 0 = N2.1 12 j ∧ (N2.1 12 j = 1 ∨ N2.1 12 j = 2 ∨ N2.1 12 j = 3) ∧ JT1_ J c N2 j ∧ ∀ m, c ≤ m → m < 16 → ¬ btX_ (N2.1 (135 + 12 * J j) 9) (nI m) = 1) := fun j hj => by
  have k2 := jKf_tr (hk j hj) (jKf_hR (by omega) hR)
  by_cases q : M.1 12 j = 0
  · refine Or.inl ⟨?_, ?_⟩
    · rw [(k2 _ 0 (by omega) (by omega)).1, (hT.1 j hj).1, q]
    · rw [(hr j hj).1, hX.1 12 j (by omega), q]
  · exact Or.inr (Or.inl ⟨q, rfl, jKf_x k2, (k2 _ 9 (by omega) (by omega)).1, jKr_tr (jKr_hX hX) ((hr j hj).2 (fun y => by subst y; exact hb.elim (fun y => by omega) q))⟩)
/-- a new job b -/
theorem new_job {J : Nat → Nat} {c b S z : Nat} {M A N1 N2 : mm_} {kd : Int32} {f : Nat → Int32} {s : Nat} (hS : S < 9) (hJ : ∀ i, i < 8 → J i < 9 ∧ ¬ J i = S) (hd : ∀ i j, i < 8 → j < 8 → J i = J j → i = j) (hq : jq_ M J S) (hc : c ≤ 16) (hT : JT_ J c M) (hB : HB_ J c M) (hNK : ∀ m, m < c → NK_ (M.2.1 46 m) (M.2.1 5 m) (M.1 6 m)) (hcz : czX_ (135 + 12 * S) M A) (hN1 : N1 = bgn_ A J S c b) (hb : b < 8) (hX : hX_ M N1) (hR : hR_ N1 N2) (h5 : ∀ m, m < c → N2.2.1 5 m = N1.2.1 5 m) (hr : ∀ j, j < 8 → ¬ j = b → N2.1 12 j = N1.1 12 j ∧ jKr_ j N1 N2) (hk1 : N2.1 12 b = kd) (hk2 : A.1 (135 + 12 * S) 0 = kd) (hk3 : kd = 1 ∨ kd = 2 ∨ kd = 3) (h9 : A.1 (135 + 12 * S) 9 = 0) (hz : z ≤ 12) (h18 : N2.1 18 b = nI z) (h17 : ∀ x, x < z → N2.1 17 (12 * b + x) = f (s + x)) (hpw : A.2.1 (135 + 12 * S) 2 = pwT_ f s z) (hne : ∀ x, x < z → ¬ sgX_ (f (s + x)) = 0)
    (hw : kd = 1 → A.1 (135 + 12 * S) 1 = N2.1 13 b ∧ A.1 (135 + 12 * S) 6 = N2.1 14 b ∧ A.1 (135 + 12 * S) 7 = N2.1 15 b ∧ (∃ a l, N2.1 15 b = nI a ∧ N2.1 14 b = nI l ∧ a < l ∧ l ≤ 99) ∧ (∃ e, XCo_ (135 + 12 * S + 1) e A ∧ RCo_ (16 + 2 * b) e N2) ∧ ((A.1 (135 + 12 * S) 5 = 0 ∧ N2.1 16 b = 0) ∨ (¬ A.1 (135 + 12 * S) 5 = 0 ∧ ¬ N2.1 16 b = 0 ∧ ∃ e, XCo_ (135 + 12 * S + 6) e A ∧ RCo_ (17 + 2 * b) e N2)))
    (hm : kd = 2 → ∀ i, i < 48 → A.1 (135 + 12 * S + 11) i = N2.1 20 (48 * b + i)) : ∃ J2 S2, jq_ N2 J2 S2 ∧ jdX_ J2 S2 ∧ JT_ J2 c N2 ∧ HB_ J2 c N2 := by
  have b1 : ∀ a i, ¬ (a = 135 + 12 * S ∧ i = 9) → N1.1 a i = A.1 a i := fun a i h => by rw [hN1]; unfold bgn_; rw [me_o c 0 _ a i h]; rfl
  have b2 : ∀ a i, N1.2.1 a i = A.2.1 a i := fun a i => by rw [hN1]; unfold bgn_; rw [me_2]; rfl
  have b3 : ∀ a i, N1.2.2 a i = if a = 134 ∧ i = b then some (135 + 12 * S) else if a = 133 ∧ i = 1 then some (135 + 12 * J b) else A.2.2 a i := fun a i => by rw [hN1]; unfold bgn_; rw [me_2]; rfl
  let J2 : Nat → Nat := fun x => if x = b then S else J x
  have jb : J2 b = S := if_pos rfl
  have jo : ∀ j, ¬ j = b → J2 j = J j := fun j h => if_neg h
  -- the new row, from A to N2
  have xk : jKx_ (135 + 12 * S) A N2 := jKx_tr ⟨fun a i z1 z2 z3 => b1 a i z3, fun a i _ _ => b2 a i⟩ (jKx_hR (by omega) hR)
  have x1 : ∀ i, ¬ i = 9 → N2.1 (135 + 12 * S) i = A.1 (135 + 12 * S) i := fun i hi => xk.1 _ i (by omega) (by omega) (by omega)
  have xc : ∀ e q, (q = 1 ∨ q = 6) → XCo_ (135 + 12 * S + q) e A → XCo_ (135 + 12 * S + q) e N2 := fun e q hq g => ⟨g.1, g.2.1, g.2.2.1, hd_cg (fun a i z1 z2 => xk.1 a i (by omega) (by omega) (by omega)) (fun i => xk.2 _ i (by omega) (by omega)) g.2.2.2.1, g.2.2.2.2⟩
  have pw : pwT_ (pa_ N2 b) 0 z = pwT_ f s z := pw_cg z (fun x hx => by rw [Nat.zero_add]; exact h17 x hx)
  have ne : ∀ x, x < z → ¬ sgX_ (pa_ N2 b x) = 0 := fun x hx => by
    have : pa_ N2 b x = f (s + x) := h17 x hx
    rw [this]; exact hne x hx
  have bits : ∀ m, m < 16 → (btX_ (N2.1 (135 + 12 * S) 9) (nI m) = 1 ↔ (m < c ∧ ¬ ftX_ (pwT_ f s z) (M.2.1 46 m) = 0)) := fun m hm => by
    rw [hR.2.2.1 _ 9 (by omega), hN1]
    unfold bgn_
    rw [me_bits hm c 0 _ (by omega), gI_sR, gI_sR, h9, gL_sR, gL_sR, hpw]
    constructor
    · rintro (h | ⟨-, h1, h2⟩)
      · exact absurd h (bt_z hm)
      · have e : kf_ (sR_ (sR_ A 133 1 (some (135 + 12 * J b))) 134 b (some (135 + 12 * S))) c (nI m) = M.2.1 46 m := by
          unfold kf_
          rw [if_pos ⟨Int32.not_lt.mp (nI_n0 m (by omega)), nI_lt (by omega) (by omega)⟩, nI_clamp (by omega), gL_sR, gL_sR]
          exact hcz.2.2 46 m (by omega) (by omega) (by omega)
        rw [e] at h2
        exact ⟨by omega, h2⟩
    · rintro ⟨h1, h2⟩
      have e : kf_ (sR_ (sR_ A 133 1 (some (135 + 12 * J b))) 134 b (some (135 + 12 * S))) c (nI m) = M.2.1 46 m := by
        unfold kf_
        rw [if_pos ⟨Int32.not_lt.mp (nI_n0 m (by omega)), nI_lt (by omega) (by omega)⟩, nI_clamp (by omega), gL_sR, gL_sR]
        exact hcz.2.2 46 m (by omega) (by omega) (by omega)
      rw [e]
      exact Or.inr ⟨by omega, by omega, h2⟩
  have e5 : ∀ m, m < c → N2.2.1 5 m = M.2.1 5 m := fun m hm => (h5 m hm).trans (hX.2 5 m (by omega))
  refine ⟨J2, J b, ⟨fun i hi => ?_, (hJ b hb).1, ?_⟩, ⟨fun i hi => ?_, fun i j hi hj e => ?_⟩, JT_sub hT hB (fun m hm => ⟨_, _, hNK m hm⟩) e5 (fun j hj => ?_)⟩
  · by_cases e : i = b
    · subst e
      rw [jb, hR.1, b3, if_pos ⟨rfl, rfl⟩]
      exact ⟨hS, rfl⟩
    · rw [jo i e, hR.1, b3, if_neg (by omega), if_neg (by omega), hcz.1 134 i (by omega)]
      exact ⟨(hJ i hi).1, (hq.1 i hi).2⟩
  · rw [hR.1, b3, if_neg (by omega), if_pos ⟨rfl, rfl⟩]
  · by_cases e : i = b
    · subst e; rw [jb]; exact fun y => (hJ i hi).2 y.symm
    · rw [jo i e]; exact fun y => e (hd i b hi hb y)
  · by_cases e1 : i = b
    · by_cases e2 : j = b
      · omega
      · subst e1; rw [jb, jo j e2] at e; exact absurd e.symm (hJ j hj).2
    · by_cases e2 : j = b
      · subst e2; rw [jb, jo i e1] at e; exact absurd e (hJ i hi).2
      · rw [jo i e1, jo j e2] at e; exact hd i j hi hj e
  · by_cases e : j = b
    · subst e
      refine Or.inr (Or.inr ?_)
      rw [jb, hk1, x1 0 (by omega), hk2]
      refine ⟨rfl, hk3, ?_, fun m h1 h2 y => by have := (bits m h2).mp y; omega⟩
      unfold JT1_
      rw [jb, hk1, x1 1 (by omega), x1 6 (by omega), x1 7 (by omega), x1 5 (by omega)]
      refine ⟨z, hz, h18, by rw [xk.2 _ 2 (by omega) (by omega), pw]; exact hpw, ne, fun m hm => ?_, fun h1 => ?_, fun h2 i hi => ?_⟩
      · rw [bits m (by omega), e5 m hm, ft_key hz ne (hNK m hm), pw]
        exact ⟨fun y => y.2, fun y => ⟨hm, y⟩⟩
      · obtain ⟨w1, w2, w3, w4, ⟨e, w5, w6⟩, w7⟩ := hw h1
        refine ⟨w1, w2, w3, w4, ⟨e, xc e 1 (by omega) w5, w6⟩, ?_⟩
        rcases w7 with w7 | ⟨w8, w9, e2, w10, w11⟩
        · exact Or.inl w7
        · exact Or.inr ⟨w8, w9, e2, xc e2 6 (by omega) w10, w11⟩
      · rw [xk.1 _ i (by omega) (by omega) (by omega)]
        exact hm h2 i hi
    · have hJj := hJ j hj
      have k2 : jKf_ (135 + 12 * J j) M N2 := jKf_tr (jKf_cz (by omega) hcz (by omega)) (jKf_tr (fun a i z1 z2 => ⟨b1 a i (by omega), b2 a i⟩) (jKf_hR (by omega) hR))
      obtain ⟨r1, r2⟩ := hr j hj e
      rw [jo j e]
      by_cases q : M.1 12 j = 0
      · refine Or.inl ⟨?_, ?_⟩
        · rw [(k2 _ 0 (by omega) (by omega)).1, (hT.1 j hj).1, q]
        · rw [r1, hX.1 12 j (by omega), q]
      · exact Or.inr (Or.inl ⟨q, rfl, jKf_x k2, (k2 _ 9 (by omega) (by omega)).1, jKr_tr (jKr_hX hX) r2⟩)
/-- the reference's new job -/
theorem nj_17 {M : mm_} {b z : Nat} {kd : Int32} {x : Nat} (hx : x < z) (hz : z ≤ 12) : (nj_ M b z kd).1 17 (12 * b + x) = M.1 19 x := by
  have pj : ∀ (R : mm_) j, x < j → (pj_ R b j).1 17 (12 * b + x) = R.1 19 x := by
    intro R j
    induction j with
    | zero => intro h; omega
    | succ j ih =>
      intro h
      rw [pj_, gI_sI]
      by_cases e : x = j
      · subst e; rw [if_pos ⟨rfl, rfl⟩]
      · rw [if_neg (by omega)]; exact ih (by omega)
  unfold nj_
  rw [zj_I _ _ _ (by omega), pj _ _ hx, gI_sI, if_neg (by omega), gI_sI, if_neg (by omega), gI_sI, if_neg (by omega), gI_sI, if_neg (by omega), gI_sI, if_neg (by omega)]
theorem nj_20 {M : mm_} {b z : Nat} {kd : Int32} {i : Nat} (hi : i < 48) : (nj_ M b z kd).1 20 (48 * b + i) = 0 := by
  have zj : ∀ (R : mm_) j, i < j → (zj_ R b j).1 20 (48 * b + i) = 0 := by
    intro R j
    induction j with
    | zero => intro h; omega
    | succ j ih =>
      intro h
      rw [zj_, gI_sI]
      by_cases e : i = j
      · subst e; rw [if_pos ⟨rfl, rfl⟩]
      · rw [if_neg (by omega)]; exact ih (by omega)
  unfold nj_
  exact zj _ 48 hi
theorem pj_17 {M : mm_} {b x : Nat} : ∀ j, ¬ (12 * b ≤ x ∧ x < 12 * b + j) → (pj_ M b j).1 17 x = M.1 17 x
  | 0, _ => rfl
  | j + 1, h => by rw [pj_, gI_sI, if_neg (by omega), pj_17 j (by omega)]
theorem zj_20 {M : mm_} {b x : Nat} : ∀ j, ¬ (48 * b ≤ x ∧ x < 48 * b + j) → (zj_ M b j).1 20 x = M.1 20 x
  | 0, _ => rfl
  | j + 1, h => by rw [zj_, gI_sI, if_neg (by omega), zj_20 j (by omega)]
theorem nj_15 {M : mm_} {b z : Nat} {kd : Int32} : (nj_ M b z kd).1 15 b = 0 := by
  unfold nj_
  rw [zj_I _ _ _ (by omega), pj_I _ _ _ (by omega), gI_sI, if_neg (by omega), gI_sI, if_neg (by omega), gI_sI, if_neg (by omega), gI_sI, if_pos ⟨rfl, rfl⟩]
theorem nj_Kr {M : mm_} {b z j : Nat} {kd : Int32} (hz : z ≤ 12) (hj : ¬ j = b) : (nj_ M b z kd).1 12 j = M.1 12 j ∧ jKr_ j M (nj_ M b z kd) := by
  refine ⟨nj_o (by omega) (by omega) (by omega), fun a i h => ?_, fun i _ _ => by rw [nj_R2]⟩
  unfold jcQ_ at h
  by_cases h17 : a = 17
  · subst h17
    unfold nj_
    rw [zj_I _ _ _ (by omega), pj_17 _ (by omega), gI_sI, if_neg (by omega), gI_sI, if_neg (by omega), gI_sI, if_neg (by omega), gI_sI, if_neg (by omega), gI_sI, if_neg (by omega)]
  · by_cases h20 : a = 20
    · subst h20
      unfold nj_
      rw [zj_20 _ (by omega), pj_I _ _ _ (by omega), gI_sI, if_neg (by omega), gI_sI, if_neg (by omega), gI_sI, if_neg (by omega), gI_sI, if_neg (by omega), gI_sI, if_neg (by omega)]
    · exact nj_o h20 h17 (by omega)
