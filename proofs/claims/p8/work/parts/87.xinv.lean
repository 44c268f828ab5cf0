/-! the class between calls: what stays so (XI_) -/
def jdX_ (J : Nat → Nat) (S : Nat) : Prop := (∀ i, i < 8 → ¬ J i = S) ∧ ∀ i j, i < 8 → j < 8 → J i = J j → i = j
def XSt_ (c : Nat) (J : Nat → Nat) (S : Nat) (M : mm_) : Prop := kmX_ c J S M ∧ jdX_ J S ∧ kpX_ M ∧ zoX_ (M.1 247 10)
def XI_ (n : Nat) (M : mm_) : Prop := tpX_ M n ∧ ∃ c J S, XSt_ c J S M
def usX_ (c : Nat) (J : Nat → Nat) (a i : Nat) : Prop := (a = 45 ∧ i = 2) ∨ a = 245 ∨ a = 246 ∨ (a = 247 ∧ i = 10) ∨ (48 ≤ a ∧ a < 48 + 5 * c) ∨ ∃ t, t < 8 ∧ ((a = 135 + 12 * J t ∧ (i = 0 ∨ i = 5)) ∨ (135 + 12 * J t < a ∧ a < 135 + 12 * J t + 11))
theorem okX_cg {k : Nat} {M N : mm_} (h1 : ∀ a i, k ≤ a → a ≤ k + 4 → N.1 a i = M.1 a i) (h2 : ∀ i, N.2.1 (k + 2) i = M.2.1 (k + 2) i) (h : okX_ k M) : okX_ k N := by
  obtain ⟨L, H, g1, g2, g3, g4, g5⟩ := h
  refine ⟨L, H, g1, by rw [h1 _ _ (by omega) (by omega)]; exact g2, g3, g4, fun i hi => ?_⟩
  rw [h1 _ _ (by omega) (by omega), h1 _ _ (by omega) (by omega), h2]
  exact g5 i hi
theorem XS_s {c S : Nat} {J : Nat → Nat} {M N : mm_} (hR : ∀ a i, a ≠ 39 → N.2.2 a i = M.2.2 a i) (hI : ∀ a i, usX_ c J a i → N.1 a i = M.1 a i) (hL : ∀ a i, usX_ c J a 0 → N.2.1 a i = M.2.1 a i) (h : XSt_ c J S M) : XSt_ c J S N := by
  obtain ⟨⟨g1, g2, g3, g4, g5, g6⟩, hj, hk, hz⟩ := h
  have h45 : N.1 45 2 = M.1 45 2 := hI _ _ (Or.inl ⟨rfl, rfl⟩)
  refine ⟨⟨⟨g1.1, by rw [h45]; exact g1.2⟩, fun i hi => by rw [hR _ _ (by decide)]; exact g2 i hi, ⟨fun i hi => ⟨(g3.1 i hi).1, by rw [hR _ _ (by decide)]; exact (g3.1 i hi).2⟩, g3.2.1, by rw [hR _ _ (by decide)]; exact g3.2.2⟩, fun i hi => by rw [hR _ _ (by decide)]; exact g4 i hi, fun i hi => ?_, fun j hj2 a1 a2 a3 => ?_⟩, hj, kpX_s h45 (fun i => hI _ _ (Or.inr (Or.inl rfl))) (fun i => hI _ _ (Or.inr (Or.inr (Or.inl rfl)))) hk, by rw [hI _ _ (Or.inr (Or.inr (Or.inr (Or.inl ⟨rfl, rfl⟩))))]; exact hz⟩
  · exact okX_cg (fun a k h1 h2 => hI _ _ (Or.inr (Or.inr (Or.inr (Or.inr (Or.inl ⟨by omega, by omega⟩)))))) (fun k => hL _ _ (Or.inr (Or.inr (Or.inr (Or.inr (Or.inl ⟨by omega, by omega⟩)))))) (g5 i hi)
  · have e0 : ∀ i, i = 0 ∨ i = 5 → N.1 (135 + 12 * J j) i = M.1 (135 + 12 * J j) i := fun i hi => hI _ _ (Or.inr (Or.inr (Or.inr (Or.inr (Or.inr ⟨j, hj2, Or.inl ⟨rfl, hi⟩⟩)))))
    have e1 : ∀ a i, 135 + 12 * J j < a → a < 135 + 12 * J j + 11 → N.1 a i = M.1 a i := fun a i z1 z2 => hI _ _ (Or.inr (Or.inr (Or.inr (Or.inr (Or.inr ⟨j, hj2, Or.inr ⟨z1, z2⟩⟩)))))
    have e2 : ∀ a i, 135 + 12 * J j < a → a < 135 + 12 * J j + 11 → N.2.1 a i = M.2.1 a i := fun a i z1 z2 => hL _ _ (Or.inr (Or.inr (Or.inr (Or.inr (Or.inr ⟨j, hj2, Or.inr ⟨z1, z2⟩⟩)))))
    rw [e0 0 (Or.inl rfl)] at a1 a2 a3
    obtain ⟨k1, k2⟩ := g6 j hj2 a1 a2 a3
    refine ⟨okX_cg (fun a i z1 z2 => e1 _ _ (by omega) (by omega)) (fun i => e2 _ _ (by omega) (by omega)) k1, fun q => okX_cg (fun a i z1 z2 => e1 _ _ (by omega) (by omega)) (fun i => e2 _ _ (by omega) (by omega)) (k2 ?_)⟩
    rw [e0 5 (Or.inr rfl)] at q; exact q
theorem XS_fz {c S : Nat} {J : Nat → Nat} {M N : mm_} (h : fzX_ M N) (hz : zoX_ (N.1 247 10)) (g : XSt_ c J S M) : XSt_ c J S N := ⟨kmX_fz h g.1, g.2.1, h.2.2.2 g.2.2.1, hz⟩
theorem XI_fy {n r : Nat} {M N : mm_} (h : fyX_ r M N) (hz : zoX_ (N.1 247 10)) (g : XI_ n M) : XI_ n N := by
  obtain ⟨⟨t1, t2⟩, c, J, S, g⟩ := g
  exact ⟨⟨t1, by rw [h.1.2.1 35 1 (by unfold faX_; omega)]; exact t2⟩, c, J, S, XS_fz h.1 hz g⟩
theorem XS_37 {c S i : Nat} {J : Nat → Nat} {M : mm_} {v : Int32} (g : XSt_ c J S M) : XSt_ c J S (sI_ M 37 i v) := XS_s (M := M) (fun _ _ _ => rfl) (fun a j z => by
  rw [gI_sI, if_neg ?_]
  intro y
  rw [y.1] at z
  unfold usX_ at z
  rcases z with z | z | z | z | z | ⟨t, ht, z⟩ <;> omega) (fun _ _ _ => rfl) g
theorem XS_fi {c S : Nat} {J : Nat → Nat} {M : mm_} {f w : Int32} (g : XSt_ c J S M) : XSt_ c J S (fiX_ M f w) := by
  unfold fiX_; split
  · exact XS_37 (XS_37 g)
  · exact g
theorem mee_o {M : mm_} {k : Nat} {x : Int32} {y : Int64} {a i : Nat} (h : ¬ (a = k ∧ i = 9)) : (mee_ M k x y).1 a i = M.1 a i := by
  unfold mee_; split
  · rfl
  · rw [gI_sI, if_neg h]
theorem mee_2 {M : mm_} {k : Nat} {x : Int32} {y : Int64} : (mee_ M k x y).2 = M.2 := by unfold mee_; split <;> rfl
theorem XS_mee {c S t : Nat} {J : Nat → Nat} {M : mm_} {x : Int32} {y : Int64} (ht : t < 9) (g : XSt_ c J S M) : XSt_ c J S (mee_ M (135 + 12 * t) x y) := XS_s (M := M) (fun a i _ => by rw [mee_2]) (fun a i z => mee_o (fun q => by
  have hJ := g.1.2.2.1
  have hc := g.1.1.1
  unfold usX_ at z
  rcases z with z | z | z | z | z | ⟨u, hu, z⟩
  · omega
  · omega
  · omega
  · omega
  · omega
  · have := (hJ.1 u hu).1
    omega)) (fun a i _ => by rw [mee_2]) g
theorem XS_jm {c S : Nat} {J : Nat → Nat} {x : Int32} {y : Int64} : ∀ (u i : Nat) (M : mm_), i + u ≤ 8 → XSt_ c J S M → XSt_ c J S (jm1_ J x y u i M)
  | 0, _, _, _, g => g
  | u + 1, i, M, h, g => XS_jm u (i + 1) _ (by omega) (XS_mee (g.1.2.2.1.1 i (by omega)).1 g)
theorem jm_37 {J : Nat → Nat} {x : Int32} {y : Int64} : ∀ (u i : Nat) (M : mm_) (b j : Nat), b < 135 → (jm1_ J x y u i M).1 b j = M.1 b j
  | 0, _, _, _, _, _ => rfl
  | u + 1, i, M, b, j, h => by rw [jm1_, jm_37 u (i + 1) _ b j h, mee_o (by omega)]
theorem LS_0 {q : Option Nat} {M : mm_} (h : LS_ q M) (h0 : M.1 37 2 = 0) : ∃ p, q = some p := by
  cases q with
  | none => exact absurd h0 h
  | some p => exact ⟨p, rfl⟩
theorem qE_in {T : Int32 → Int32} {q : Option Nat} {p : Nat} (h : qE_ T q = some p) : ∃ p2, q = some p2 := by
  cases q with
  | none => cases h
  | some p2 => exact ⟨p2, rfl⟩
theorem qw_in {T : Int32 → Int32} {q : Option Nat} {p : Nat} (h : qw_ T q = some p) : ∃ p2, q = some p2 := by
  cases q with
  | none => cases h
  | some p2 => exact ⟨p2, rfl⟩
theorem qx_in {r : px2_} {p : Nat} (h : qx_ r = some p) : ∃ x, r = some x := by
  cases r with
  | none => cases h
  | some x => exact ⟨x, rfl⟩
theorem XI_MR {n c S : Nat} {J : Nat → Nat} {M N : mm_} {r : Int32} (ht : tpX_ M n) (g : XSt_ c J S M) (h : MR_ n c S J M r N) : XI_ n N := by
  obtain ⟨key, A, ⟨hcr, hLS, -, -, hhd⟩, h⟩ := h
  have hc := g.1.1.1
  have hJ := g.1.2.2.1
  have gA : XSt_ c J S A := XS_s hcr.1 (fun a i z => hcr.2.1 a i (fun y => by unfold usX_ at z; rcases z with z | z | z | z | z | ⟨t, ht, z⟩ <;> omega) (fun y => by unfold usX_ at z; rcases z with z | z | z | z | z | ⟨t, ht, z⟩ <;> omega) (by unfold usX_ at z; rcases z with z | z | z | z | z | ⟨t, ht, z⟩ <;> omega)) (fun a i z => hcr.2.2 a i (fun y => by unfold usX_ at z; rcases z with z | z | z | z | z | ⟨t, ht, z⟩ <;> omega) (fun y => by unfold usX_ at z; rcases z with z | z | z | z | z | ⟨t, ht, z⟩ <;> omega)) g
  have tA : tpX_ A n := ⟨ht.1, by rw [hcr.2.1 35 1 (by decide) (by decide) (by omega)]; exact ht.2⟩
  rcases h with ⟨-, -, rfl⟩ | ⟨-, -, -, -, rfl⟩ | ⟨h16, -, h0, -, rfl⟩
  · exact ⟨tp_fi tA, c, J, S, XS_fi gA⟩
  · exact ⟨tA, c, J, S, gA⟩
  · obtain ⟨p, hp⟩ := LS_0 hLS h0
    obtain ⟨p2, hp2⟩ := qE_in hp
    obtain ⟨x, hx⟩ := qx_in hp2
    obtain ⟨hd1, hd2⟩ := hhd x hx
    have ok := ok_hd (wf_pe hx) hd2 hd1
    refine ⟨⟨tA.1, by rw [jm_37 _ _ _ _ _ (by decide)]; show (sI_ (sL_ A 46 c key) 45 2 (nI (c + 1))).1 35 1 = nI n; rw [gI_sI, if_neg (by omega)]; exact tA.2⟩, c + 1, J, S, XS_jm 8 0 _ (by omega) ?_⟩
    have eI : ∀ a i, ¬ (a = 45 ∧ i = 2) → (ma_ A c key).1 a i = A.1 a i := fun a i z => by
      show (sI_ (sL_ A 46 c key) 45 2 (nI (c + 1))).1 a i = A.1 a i
      rw [gI_sI, if_neg z]; rfl
    have eL : ∀ a i, ¬ a = 46 → (ma_ A c key).2.1 a i = A.2.1 a i := fun a i z => by
      show (sI_ (sL_ A 46 c key) 45 2 (nI (c + 1))).2.1 a i = A.2.1 a i
      rw [gL_sI, gL_sL, if_neg (fun y => z y.1)]
    have e45 : (ma_ A c key).1 45 2 = nI (c + 1) := by
      show (sI_ (sL_ A 46 c key) 45 2 (nI (c + 1))).1 45 2 = nI (c + 1)
      rw [gI_sI, if_pos ⟨rfl, rfl⟩]
    obtain ⟨⟨g1, g2, g3, g4, g5, g6⟩, hj, ⟨c2, k1, k2, k3, z, k4, k5, k6⟩, hz⟩ := gA
    obtain rfl : c2 = c := (nI_eq (by have := k1.1; omega) (by omega)).mp (k1.2.symm.trans g1.2)
    refine ⟨⟨⟨by omega, e45⟩, g2, g3, g4, fun i hi => ?_, fun j hj2 a1 a2 a3 => ?_⟩, hj, ⟨c2 + 1, ⟨by omega, e45⟩, by rw [eI _ _ (by omega)]; exact k2, by rw [eI _ _ (by omega)]; exact k3, z, k4, by rw [eI _ _ (by omega)]; exact k5, fun i hi => ?_⟩, by rw [eI _ _ (by omega)]; exact hz⟩
    · by_cases hic : i = c2
      · subst hic
        exact okX_cg (fun a k z1 z2 => eI _ _ (by omega)) (fun k => eL _ _ (by omega)) ok
      · exact okX_cg (fun a k z1 z2 => eI _ _ (by omega)) (fun k => eL _ _ (by omega)) (g5 i (by omega))
    · rw [eI _ _ (by omega)] at a1 a2 a3
      obtain ⟨k1, k2⟩ := g6 j hj2 a1 a2 a3
      exact ⟨okX_cg (fun a k z1 z2 => eI _ _ (by omega)) (fun k => eL _ _ (by omega)) k1, fun q => okX_cg (fun a k z1 z2 => eI _ _ (by omega)) (fun k => eL _ _ (by omega)) (k2 (by rw [eI _ _ (by omega)] at q; exact q))⟩
    · obtain ⟨m, b1, b2⟩ := k6 i hi
      exact ⟨m, by omega, by rw [eI _ _ (by omega)]; exact b2⟩
theorem XS_kill {c S i : Nat} {J : Nat → Nat} {M : mm_} (hi : i < 8) (g : XSt_ c J S M) : XSt_ c J S (sI_ M (135 + 12 * J i) 0 0) := XS_fz (fyX_0 (r := 0) (g.1.2.2.1.1 i hi).1).1 (by rw [gI_sI, if_neg (by have := (g.1.2.2.1.1 i hi).1; omega)]; exact g.2.2.2) g
theorem XS_ea {c S : Nat} {J : Nat → Nat} : ∀ (u i : Nat) (r : Int32) (M : mm_), i + u ≤ 8 → XSt_ c J S M → XSt_ c J S (ea1_ J u i r M).2
  | 0, _, _, _, _, g => g
  | u + 1, i, r, M, h, g => XS_ea u (i + 1) _ _ (by omega) (XS_kill (by omega) g)
theorem ea_lo {J : Nat → Nat} : ∀ (u i : Nat) (r : Int32) (M : mm_) (b j : Nat), b < 135 → (ea1_ J u i r M).2.1 b j = M.1 b j
  | 0, _, _, _, _, _, _ => rfl
  | u + 1, i, r, M, b, j, h => by rw [ea1_, ea_lo u (i + 1) _ _ b j h, gI_sI, if_neg (by omega)]
theorem me_o {c k : Nat} : ∀ (u m : Nat) (M : mm_) (a i : Nat), ¬ (a = k ∧ i = 9) → (me1_ c k u m M).1 a i = M.1 a i
  | 0, _, _, _, _, _ => rfl
  | u + 1, m, M, a, i, h => by rw [me1_, me_o u (m + 1) _ a i h, mee_o h]
theorem me_2 {c k : Nat} : ∀ (u m : Nat) (M : mm_), (me1_ c k u m M).2 = M.2
  | 0, _, _ => rfl
  | u + 1, m, M => by rw [me1_, me_2 u (m + 1), mee_2]
theorem fj_in {M : mm_} {J : Nat → Nat} : ∀ (u i : Nat) (k : Nat), fj1_ M J u i = some k → k < i + u
  | 0, _, _, h => by cases h
  | u + 1, i, k, h => by
    rw [fj1_] at h
    split at h
    · cases h; omega
    · have := fj_in u (i + 1) k h; omega
theorem vb_in {T : Int32 → Int32} {p : Nat} : (vbT_ T p).1 = 1 ∨ (vbT_ T p).1 = 2 ∨ (vbT_ T p).1 = 3 ∨ (vbT_ T p).1 = 4 ∨ (vbT_ T p).1 = 5 := by
  unfold vbT_
  split
  · exact Or.inl rfl
  · split
    · exact Or.inr (Or.inl rfl)
    · split
      · exact Or.inr (Or.inr (Or.inl rfl))
      · split
        · exact Or.inr (Or.inr (Or.inr (Or.inl rfl)))
        · split
          · exact Or.inr (Or.inr (Or.inr (Or.inr rfl)))
          · exact Or.inr (Or.inr (Or.inr (Or.inr rfl)))
theorem xE_0 {M : mm_} (h : (xE_ M).1 37 2 = 0) : M.1 37 2 = 0 := by
  unfold xE_ at h
  split at h
  · exact h
  · unfold fiX_ at h
    split at h
    · rename_i h2; exact h2
    · exact h
theorem xE_o {M : mm_} {a i : Nat} (h : ¬ a = 37) : (xE_ M).1 a i = M.1 a i := (c37_xE (M := M)).2.1 a i h
/-- what a watch that was read has: codes that can be run -/
theorem RW_ok {k p : Nat} {M N : mm_} (h : RW_ k M p N) (h0 : N.1 37 2 = 0) (h5 : M.1 k 5 = 0) : okX_ (k + 1) N ∧ (¬ N.1 k 5 = 0 → okX_ (k + 6) N) := by
  obtain ⟨-, PO, PT, W1, X1, W2, X2, q, r, c, b, e1, e2, e3, e4, e5, e6, a3, a4, hLS, -, -, f5, -, -, -, x1, x2⟩ := h
  obtain ⟨p1, hp1⟩ := LS_0 hLS h0
  have hq : ∃ y, q = some y := by
    rcases a4 with ⟨-, hm, -⟩ | ⟨-, -, hr⟩
    · cases q with
      | none => exact absurd hm id
      | some y => exact ⟨y, rfl⟩
    · exact ⟨p1, by rw [← hr]; exact hp1⟩
  obtain ⟨y, hy⟩ := hq
  have hW2 : ∃ y, W2 = some y := by
    rcases a3 with ⟨-, hm, -⟩ | ⟨-, -, hr⟩
    · cases W2 with
      | none => exact absurd hm id
      | some y => exact ⟨y, rfl⟩
    · exact ⟨y, by rw [← hr]; exact hy⟩
  obtain ⟨y2, hy2⟩ := hW2
  obtain ⟨y3, hy3⟩ := qw_in (e5.trans hy2)
  obtain ⟨z1, hz1⟩ := qx_in hy3
  obtain ⟨k1, k2⟩ := x1.2 z1 hz1
  refine ⟨ok_hd (wf_pe (e4.trans hz1)) k2 k1, fun hn => ?_⟩
  have hc : c = true := by
    cases c with
    | true => rfl
    | false => rw [if_neg (by decide)] at f5; exact absurd (f5.trans h5) hn
  rcases a3 with ⟨-, -, hr⟩ | ⟨hcf, -, -⟩
  · obtain ⟨y4, hy4⟩ := qw_in (hr.symm.trans hy)
    obtain ⟨z2, hz2⟩ := qx_in hy4
    obtain ⟨k3, k4⟩ := (x2 hc).2 z2 hz2
    exact ok_hd (wf_pe (e6.trans hz2)) k4 k3
  · rw [hc] at hcf; cases hcf
theorem XI_CR {n c S : Nat} {J : Nat → Nat} {M N : mm_} {r : Int32} (ht : tpX_ M n) (g : XSt_ c J S M) (h : CR_ n c S J M r N) : XI_ n N := by
  obtain ⟨v, A, ⟨hcz, p, V, A0, B, -, eV, hv, -, -, hrn, -, hRV, hA⟩, h⟩ := h
  have hS := g.1.2.2.1.2.1
  have hJ := g.1.2.2.1
  have hjd := g.2.1
  have hc := g.1.1.1
  have us : ∀ a i, usX_ c J a i → a ≠ 37 ∧ a ≠ 38 ∧ a ≠ 39 ∧ (a < 135 + 12 * S ∨ 135 + 12 * S + 11 < a) := by
    intro a i z
    unfold usX_ at z
    rcases z with z | z | z | z | z | ⟨t, ht, z⟩
    · omega
    · omega
    · omega
    · omega
    · omega
    · have := hjd.1 t ht
      omega
  have gA : XSt_ c J S A := XS_s hcz.1 (fun a i z => hcz.2.1 a i (us a i z).1 (us a i z).2.1 (us a i z).2.2.1 (us a i z).2.2.2) (fun a i z => hcz.2.2 a i (us a 0 z).1 (us a 0 z).2.1 (us a 0 z).2.2.2) g
  have tA : tpX_ A n := ⟨ht.1, by rw [hcz.2.1 35 1 (by decide) (by decide) (by decide) (by omega)]; exact ht.2⟩
  have fin : ∀ (x : Int32) (D : mm_) (c2 : Nat) (J2 : Nat → Nat) (S2 : Nat), tpX_ D n → XSt_ c2 J2 S2 D → CE_ x D r N → XI_ n N := by
    intro x D c2 J2 S2 tD gD hCE
    rcases hCE with ⟨-, -, rfl⟩ | ⟨-, -, rfl⟩
    · exact ⟨tD, c2, J2, S2, gD⟩
    · exact ⟨tp_fi tD, c2, J2, S2, XS_fi gD⟩
  rcases h with ⟨-, -, rfl⟩ | ⟨h0, h⟩
  · exact ⟨tA, c, J, S, gA⟩
  rcases h with ⟨-, -, rfl⟩ | ⟨-, x, D, hD, hCE⟩ | ⟨⟨n5, n4⟩, x, D, ⟨-, hD⟩, hCE⟩
  · exact ⟨⟨tA.1, by rw [ea_lo _ _ _ _ _ _ (by decide)]; exact tA.2⟩, c, J, S, XS_ea 8 0 0 A (by omega) gA⟩
  · rcases hD with ⟨-, -, rfl⟩ | ⟨i, hi, -, -, rfl⟩
    · exact fin x D c J S tA gA hCE
    · refine fin x _ c J S ?_ ?_ hCE
      · split
        · exact tA
        · exact ⟨tA.1, by rw [gI_sI, if_neg (by omega)]; exact tA.2⟩
      · split
        · exact gA
        · exact XS_kill hi gA
  · cases hf : fj1_ A J 8 0 with
    | none =>
      rw [hf] at hD
      subst hD
      exact fin x _ c J S tA gA hCE
    | some i =>
      have hi : i < 8 := by have := fj_in _ _ _ hf; omega
      rw [hf] at hD
      simp only at hD
      have hJi := (hJ.1 i hi).1
      have eI : ∀ a j, ¬ (a = 135 + 12 * S ∧ j = 9) → D.1 a j = A.1 a j := fun a j z => by rw [hD]; unfold bgn_; rw [me_o _ _ _ _ _ z]; rfl
      have eL : D.2.1 = A.2.1 := by rw [hD]; unfold bgn_; rw [me_2]; rfl
      have eR : ∀ a j, D.2.2 a j = if a = 134 ∧ j = i then some (135 + 12 * S) else if a = 133 ∧ j = 1 then some (135 + 12 * J i) else A.2.2 a j := fun a j => by
        rw [hD]; unfold bgn_; rw [me_2, gR_sR, gR_sR]
      -- what the spare job has
      have hk0 : A.1 (135 + 12 * S) 0 = v := by rw [hA, gI_sI, if_pos ⟨rfl, rfl⟩]
      have hB0 : B.1 37 2 = 0 := xE_0 (by have := h0; rw [hA, gI_sI, if_neg (by omega)] at this; exact this)
      have hv3 : v = 1 ∨ v = 2 ∨ v = 3 := by
        have z := vb_in (T := tb_ M) (p := p)
        rw [eV] at z
        rw [hv] at n5 n4 ⊢
        rcases z with z | z | z | z | z
        · exact Or.inl z
        · exact Or.inr (Or.inl z)
        · exact Or.inr (Or.inr z)
        · exact absurd z n4
        · exact absurd z n5
      have hokS : v = 1 → okX_ (135 + 12 * S + 1) D ∧ (¬ D.1 (135 + 12 * S) 5 = 0 → okX_ (135 + 12 * S + 6) D) := by
        intro hv1
        have hRW : ∃ p2, RW_ (135 + 12 * S) A0 p2 B := by
          rcases hRV with ⟨z, -⟩ | ⟨-, p2, -, z⟩ | ⟨z, -⟩ | ⟨-, z, -⟩
          · rw [← hv, hv1] at z; exact absurd z (by decide)
          · exact ⟨p2, z⟩
          · rw [← hv, hv1] at z; exact absurd z (by decide)
          · rw [← hv, hv1] at z; exact absurd rfl z
        obtain ⟨p2, hRW⟩ := hRW
        obtain ⟨k1, k2⟩ := RW_ok hRW hB0 hrn.2.1
        have eB : ∀ a j, ¬ a = 37 → ¬ (a = 135 + 12 * S ∧ (j = 0 ∨ j = 9)) → D.1 a j = B.1 a j := fun a j z1 z2 => by
          rw [eI a j (by omega), hA, gI_sI, if_neg (by omega), xE_o z1]
        have eBL : ∀ a j, ¬ a = 37 → D.2.1 a j = B.2.1 a j := fun a j z1 => by
          rw [eL, hA, gL_sI]; exact (c37_xE (M := B)).2.2 a j z1
        refine ⟨okX_cg (fun a j z1 z2 => eB _ _ (by omega) (by omega)) (fun j => eBL _ _ (by omega)) k1, fun q => okX_cg (fun a j z1 z2 => eB _ _ (by omega) (by omega)) (fun j => eBL _ _ (by omega)) (k2 ?_)⟩
        rw [eB _ _ (by omega) (by omega)] at q; exact q
      obtain ⟨⟨g1, g2, g3, g4, g5, g6⟩, hj, hkp, hz⟩ := gA
      refine fin x D c (fun j => if j = i then S else J j) (J i) ⟨tA.1, by rw [eI _ _ (by omega)]; exact tA.2⟩ ⟨⟨⟨g1.1, by rw [eI _ _ (by omega)]; exact g1.2⟩, fun j hj2 => ?_, ⟨fun j hj2 => ?_, hJi, ?_⟩, fun j hj2 => ?_, fun j hj2 => ?_, fun j hj2 a1 a2 a3 => ?_⟩, ⟨fun j hj2 => ?_, fun j k hj2 hk2 e => ?_⟩, kpX_s (eI _ _ (by omega)) (fun j => eI _ _ (by omega)) (fun j => eI _ _ (by omega)) hkp, by rw [eI _ _ (by omega)]; exact hz⟩ hCE
      · rw [eR, if_neg (by omega), if_neg (by omega)]; exact g2 j hj2
      · rw [eR]
        by_cases z : j = i
        · simp only [z, if_true, and_self]
          exact ⟨hS, trivial⟩
        · rw [if_neg (fun y => z y.2), if_neg (by omega)]
          simp only [if_neg z]
          exact g3.1 j hj2
      · rw [eR, if_neg (by omega), if_pos ⟨rfl, rfl⟩]
      · rw [eR, if_neg (by omega), if_neg (by omega)]; exact g4 j hj2
      · exact okX_cg (fun a k z1 z2 => eI _ _ (by omega)) (fun k => by rw [eL]) (g5 j hj2)
      · by_cases z : j = i
        · simp only [z, if_true] at a1 a2 a3 ⊢
          rw [eI _ _ (by omega), hk0] at a1 a2 a3
          exact hokS (hv3.resolve_right (fun y => y.elim a2 a3))
        · simp only [if_neg z] at a1 a2 a3 ⊢
          have hne := hj.1 j hj2
          have hJj := (g3.1 j hj2).1
          rw [eI _ _ (by omega)] at a1 a2 a3
          obtain ⟨k1, k2⟩ := g6 j hj2 a1 a2 a3
          exact ⟨okX_cg (fun a k z1 z2 => eI _ _ (by omega)) (fun k => by rw [eL]) k1, fun q => okX_cg (fun a k z1 z2 => eI _ _ (by omega)) (fun k => by rw [eL]) (k2 (by rw [eI _ _ (by omega)] at q; exact q))⟩
      · show ¬ (if j = i then S else J j) = J i
        by_cases z : j = i
        · rw [if_pos z]; exact fun y => hj.1 i hi y.symm
        · rw [if_neg z]; exact fun y => z (hj.2 j i hj2 hi y)
      · have e2 : (if j = i then S else J j) = (if k = i then S else J k) := e
        by_cases z : j = i
        · rw [if_pos z] at e2
          by_cases w : k = i
          · omega
          · rw [if_neg w] at e2; exact absurd e2.symm (hj.1 k hk2)
        · rw [if_neg z] at e2
          by_cases w : k = i
          · rw [if_pos w] at e2; exact absurd e2 (hj.1 j hj2)
          · rw [if_neg w] at e2; exact hj.2 j k hj2 hk2 e2
