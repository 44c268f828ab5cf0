section
/-! Machine: watch, probe, invoke, by the abstract state -/
def PI_ (E : se_) (J : Nat → Nat) (c r b : Nat) (M : mm_) (z : Int32) (s : sgA_) (N : mm_) : Prop := XF_ (r - 1) b M N ∧ (∀ i, ¬ i = 6 → N.1 (249 + r) i = M.1 (249 + r) i) ∧ N.1 247 8 = nI b ∧ N.1 247 12 = z ∧ zoX_ (N.1 247 10) ∧ DX_ J s N ∧ JX_ E J c s N
theorem XF_row {r b q i : Nat} {M N : mm_} {v : Int32} (hq : r < q) (hq2 : q ≤ 11) (h : XF_ r b M N) : XF_ r b M (sI_ N (249 + q) i v) := XF_I (by unfold faX_; omega) (fun p _ => by omega) (fun y => by omega) (by omega) (fun t ht y => by omega) h
theorem ht20_ {k : Nat} {e : Term} {M : mm_} (w : wfX_ true e) (hs : snX_ e ≤ 26) (h : hd_ k M (cqX_ e 0 0)) : ∀ (i : Nat) (q : cq2_), (cqX_ e 0 0)[i]? = some q → ∃ g, g ≤ 20 ∧ q.2.2.2 = nI g := by
  obtain ⟨L, H, o1, o2, o3, o4, o5⟩ := ok_hd w (by omega) h
  have hL : L = snX_ e := by
    have h1 := h.1
    rw [cq_len] at h1
    exact (nI_eq (by omega) (by omega)).mp (o2.symm.trans h1)
  intro i q hq
  have hi := (List.getElem?_eq_some_iff.mp hq).1
  rw [cq_len] at hi
  refine ⟨H (i + 1), o4 (i + 1) (by omega), ?_⟩
  rw [← (h.2 i q hq).2.2.2]
  exact (o5 i (by omega)).1
/-- a probe's expression -/
theorem RG_p {G : gg_} {d : Nat} {J : Nat → Nat} {k r b : Nat} {N : mm_} {z : Int32} {e : Term} {W : Nat → Int32} (hJ : ∀ j, j < 8 → J j < 9) (hk : kcX_ k) (hr : r ≤ 10) (hb : b ≤ 180) (hc : XCo_ k e N) (h5 : N.1 (249 + r) 5 = nI r) (hW : ∀ i, i < 7 → N.1 (249 + r) i = W i) : RG_ G d J k (snX_ e) r b N z (cqX_ e 0 0) I0_ W := by
  have n7 : ∀ (i : Nat) (q : cq2_), (cqX_ e 0 0)[i]? = some q → ¬ q.1 = 7 := fun i q hq => ns7_ true e hc.1 hc.2.2.1 0 0 q (List.mem_of_getElem? hq)
  exact ⟨hJ, hk, hc.2.2.2.1, cq_len e 0 0, hc.2.2.2.2, h5, hr, hb, hW, Or.inr n7, fun N2 t s K j _ _ _ _ _ _ _ y => by obtain ⟨i, q, h1, h2⟩ := y; exact absurd h2 (n7 i q h1), ht20_ hc.1 hc.2.2.2.2 hc.2.2.2.1⟩
theorem o1_q {f : Int32 → List Int32 → sgA_ → eo_} {r : eo_} (h : ∀ q, r.1 = .inr q → q.1 = 1) (hf : ∀ x t s q, (f x t s).1 = .inr q → q.1 = 1) : ∀ q, (o1_ f r).1 = .inr q → q.1 = 1 := by
  obtain ⟨o, s2⟩ := r
  match o with
  | .inr q2 => exact h
  | .inl [] => exact h
  | .inl (x :: t) => exact hf x t s2
/-- without invocations nothing stops -/
theorem ES_q (V : Nat → Int32) : ∀ (g : Bool) (e : Term), wfX_ g e → nsb_ e → ∀ (t : List Int32) (s : sgA_) (q : Nat × Int32), (ES_ I0_ V e t s).1 = .inr q → q.1 = 1
  | true, .int v, _, _, t, s, q, h => by rw [ES_] at h; cases h
  | true, .index i, _, _, t, s, q, h => by rw [ES_] at h; cases h
  | true, .length e, w, n, t, s, q, h => by rw [ES_] at h; exact o1_q (ES_q V true e w n t s) (fun _ _ _ _ y => by cases y) q h
  | true, .sum e, w, n, t, s, q, h => by rw [ES_] at h; exact o1_q (ES_q V true e w n t s) (fun _ _ _ _ y => by cases y; rfl) q h
  | true, .elem c (.add a b), w, n, t, s, q, h => by
    rw [ES_, ES_] at h
    have ha := ES_q V true a w.2.1 n.1 t s
    generalize ES_ I0_ V a t s = o at h ha
    obtain ⟨o, s2⟩ := o
    cases o with
    | inr q2 => exact ha q h
    | inl u =>
      simp only at h
      have hb := ES_q V true b w.2.2 n.2 u s2
      generalize ES_ I0_ V b u s2 = o2 at h hb
      obtain ⟨o2, s3⟩ := o2
      match o2 with
      | .inr q2 => exact hb q h
      | .inl [] => exact hb q h
      | .inl [_] => exact hb q h
      | .inl (y :: x :: t2) =>
        unfold o2_ at h
        simp only at h
        split at h
        · cases h; rfl
        · cases h
  | true, .mul a (.div b c), w, n, t, s, q, h => by
    rw [ES_] at h
    refine o1_q (ES_q V true a w.1 n.1 t s) (fun x t2 s2 q2 y => ?_) q h
    split at y
    · exact ES_q V true c w.2.2 n.2.2 t2 s2 q2 y
    · exact ES_q V true b w.2.1 n.2.1 t2 s2 q2 y
  | true, .rem a b, w, n, t, s, q, h => by
    rw [ES_] at h
    split at h
    · exact ES_q V true b w.2 n.2 t _ q h
    · exact ES_q V true a w.1 n.1 t s q h
  | false, .null, _, _, t, s, q, h => by cases h
  | false, .add a r, w, n, t, s, q, h => by
    rw [ES_] at h
    have ha := ES_q V true a w.1 n.1 t s
    generalize ES_ I0_ V a t s = o at h ha
    obtain ⟨o, s2⟩ := o
    cases o with
    | inr q2 => exact ha q h
    | inl u => exact ES_q V false r w.2 n.2 u s2 q h
theorem RP_x {J : Nat → Nat} {r b : Nat} {M N : mm_} {z v : Int32} {W : Nat → Int32} {e : Term} {s : sgA_} (w : wfX_ true e) (hn : nsb_ e) (h : RP_ J r b M z (ES_ I0_ W e [] s) v N) : XF_ r b M N ∧ N.1 247 8 = nI b ∧ N.1 247 12 = z ∧ DX_ J s N ∧ ((N.1 247 10 = 0 ∧ xpA_ W e s = .inl v) ∨ (N.1 247 10 = 1 ∧ xpA_ W e s = .inr v)) := by
  have hs := ES_s I0_ W true e w hn [] s
  have hq := ES_q W true e w hn [] s
  unfold xpA_
  obtain ⟨h1, h2, h3⟩ := h
  generalize ES_ I0_ W e [] s = o at h3 hs hq ⊢
  obtain ⟨o, s2⟩ := o
  obtain rfl : s2 = s := hs
  cases o with
  | inl t =>
    obtain ⟨a1, a2, a3, a4⟩ := h3
    exact ⟨h1, h2, a3, a4, Or.inl ⟨a1, by rw [a2]⟩⟩
  | inr q =>
    obtain ⟨a1, a2, a3, a4, -⟩ := h3
    have hq1 : q.1 = 1 := hq q rfl
    rw [if_neg (by omega)] at a3
    exact ⟨h1, h2, a3, a4, Or.inr ⟨a1, by rw [a2]⟩⟩
theorem va5_6 {P : Nat → Int32} {p d i : Nat} {v k k2 : Int32} (h : i < 6) : va5_ P p d v k i = va5_ P p d v k2 i := by
  unfold va5_
  by_cases h1 : i < 3
  · rw [if_pos h1, if_pos h1]
  rw [if_neg h1, if_neg h1]
  by_cases h2 : i = 3
  · rw [if_pos h2, if_pos h2]
  rw [if_neg h2, if_neg h2]
  by_cases h3 : i = 4
  · rw [if_pos h3, if_pos h3]
  rw [if_neg h3, if_neg h3, if_pos (by omega), if_pos (by omega)]
section WPT
variable {G : gg_} {d : Nat} {E : se_} {J : Nat → Nat} {S c r b : Nat} {M : mm_} {z : Int32}
theorem c4_watchT (hG : gd_ G) (hq : jq_ M J S) (hd : ∀ i j, i < 8 → j < 8 → J i = J j → i = j) (hr1 : 1 ≤ r) (hr : r ≤ 10) (hb : b ≤ 180) {s : sgA_} {j : Nat} (hj : j < 8) (m p : Nat) (P : Nat → Int32) (v : Int32) (hk : s.1 j = 1) (hX : JX_ E J c s M) (hD : DX_ J s M) (hh : M.1 247 8 = nI b) (h12 : M.1 247 12 = z) (hrow : ∀ i, i < 6 → M.1 (249 + r) i = va5_ P p r v 0 i) : cm_ G yX4_watch cX4_watch 6 none (d + 4) [.ref (G.1 247), .int (nI j), .int (nI m), .ref (G.1 (249 + r))] M (rV_ (PI_ E J c r b M z (wtA_ E j m r (va5_ P p r v (s.2.1 j)) s))) := by
  have hJ : ∀ j, j < 8 → J j < 9 := fun j hj => (hq.1 j hj).1
  have hJj := hJ j hj
  obtain ⟨-, -, x3⟩ := hX j hj (by rw [hk]; decide)
  obtain ⟨x4, x5, x6, x7, x8⟩ := x3 hk
  obtain ⟨kj1, kj2, -⟩ := hD.1 j hj
  generalize hW : va5_ P p r v (s.2.1 j) = W
  obtain ⟨M0, hM0⟩ : ∃ M0, sI_ (sI_ M (249 + r) 6 (M.1 (135 + 12 * J j) 7)) 247 10 0 = M0 := ⟨_, rfl⟩
  have f0 : XF_ (r - 1) b M M0 := by rw [← hM0]; exact XF_247 (by omega) (by omega) (XF_row (by omega) (by omega) XF_rf)
  have row0 : ∀ i, ¬ i = 6 → M0.1 (249 + r) i = M.1 (249 + r) i := fun i hi => by rw [← hM0, gI_sI, if_neg (by omega), gI_sI, if_neg (by omega)]
  have rowW : ∀ i, i < 7 → M0.1 (249 + r) i = W i := fun i hi => by
    by_cases e : i = 6
    · subst e
      rw [← hM0, gI_sI, if_neg (by omega), gI_sI, if_pos ⟨rfl, rfl⟩, kj2, ← hW]
      rfl
    · rw [row0 i e, hrow i (by omega), ← hW]; exact va5_6 (by omega)
  have h50 : M0.1 (249 + r) 5 = nI r := by rw [row0 5 (by omega), hrow 5 (by omega)]; rfl
  have d0 : DX_ J s M0 := by rw [← hM0]; exact DX_m hJ (by omega) (by omega) (DX_m hJ (by omega) (by omega) hD)
  have h80 : M0.1 247 8 = nI b := by rw [← hM0, gI_sI, if_neg (by omega), gI_sI, if_neg (by omega)]; exact hh
  have z0 : M0.1 247 12 = z := by rw [← hM0, gI_sI, if_neg (by omega), gI_sI, if_neg (by omega)]; exact h12
  have t0 : M0.1 247 10 = 0 := by rw [← hM0, gI_sI, if_pos ⟨rfl, rfl⟩]
  have x60 := XC_cg (kcX_e hJj) f0 x6
  have l60 : M0.1 (135 + 12 * J j) 6 = E.2.2.2.2.1 j := by rw [f0.2.1 _ 6 (by unfold faX_; omega)]; exact x5
  -- a memory behind a run
  have fin : ∀ (N : mm_) (s2 : sgA_), XF_ r b M0 N → N.1 247 8 = nI b → N.1 247 12 = z → zoX_ (N.1 247 10) → DX_ J s2 N → KM_ s s2 → PI_ E J c r b M z s2 N := fun N s2 g1 g2 g3 g4 g5 g6 => by
    have g7 := XF_tr f0 (XF_le g1 (by omega) (Nat.le_refl b))
    exact ⟨g7, fun i hi => by rw [g1.2.2.1 r i (Nat.le_refl _)]; exact row0 i hi, g2, g3, g4, g5, JX_cg hJ g7 g6 hX⟩
  have recd : ∀ (N : mm_) (x : Int32), XF_ r b M0 N → N.1 247 8 = nI b → N.1 247 12 = z → zoX_ (N.1 247 10) → DX_ J s N → PI_ E J c r b M z (rcA_ E j m r x (if N.1 247 10 = 0 then 0 else 1) s) (reX_ N (135 + 12 * J j) r (nI j) (nI m) x) := fun N x g1 g2 g3 g4 g5 => by
    obtain ⟨a1, a2, a3⟩ := DX_re (E := E) (m := m) (v := x) (by omega) hJ hd hj (by rw [g1.2.1 _ 6 (by unfold faX_; omega)]; exact l60) (by rw [g1.2.2.1 r 5 (Nat.le_refl _)]; exact h50) g5 g1
    exact fin _ _ a2 (by rw [a3]; exact g2) (by rw [a3]; exact g3) (by rw [a3]; exact g4) a1 KM_rc
  have go : ∀ (N : mm_) (y : Int32) (Q : mm_ → Prop), XF_ r b M0 N → N.1 247 8 = nI b → N.1 247 12 = z → N.1 247 10 = 0 → DX_ J s N → (∀ N2, PI_ E J c r b M z (wgA_ E j m r W s) N2 → Q N2) → ∃ QE : Int32 → mm_ → Prop, cm_ G yX4_run cX4_run 7 (some .int) (d + 3) [.ref (G.1 247), .ref (G.1 (135 + 12 * J j + 1)), .ref (G.1 (249 + r))] N (rI_ QE) ∧ ∀ v2 N2, QE v2 N2 → Q (reX_ N2 (135 + 12 * J j) r (nI j) (nI m) v2) := fun N y Q g1 g2 g3 g4 g5 hQ => by
    have x61 := XC_cg (kcX_e hJj) g1 x60
    have RG := RG_p (G := G) (d := d) (z := z) (W := W) hJ (kcX_e hJj) hr hb x61 (by rw [g1.2.2.1 r 5 (Nat.le_refl _)]; exact h50) (fun i hi => by rw [g1.2.2.1 r i (Nat.le_refl _)]; exact rowW i hi)
    refine ⟨_, c4_runT G hG d J _ r b N z _ I0_ W s (jd_all _ hJj).2.2.1 RG x61.1 (ixn_7 (by omega) true _ x61.1 x61.2.1) g2 g3 g5, fun v2 N2 h => hQ _ ?_⟩
    obtain ⟨b1, b2, b3, b4, b5⟩ := RP_x x61.1 x61.2.2.1 h
    have b6 := XF_tr g1 b1
    unfold wgA_
    rcases b5 with ⟨b7, b8⟩ | ⟨b7, b8⟩
    · have := recd N2 v2 b6 b2 b3 (Or.inl b7) b4
      rw [if_pos b7] at this
      rw [b8]; exact this
    · have := recd N2 v2 b6 b2 b3 (Or.inr b7) b4
      rw [if_neg (by rw [b7]; decide)] at this
      rw [b8]; exact this
  refine c4_watchE G hG d r hr M J S hq j hj (nI m) _ (fun h5 => ?_) (fun h5 => ?_)
  · rw [hM0]
    have hc : E.2.2.2.2.2.2.1 j = none := by
      cases hc : E.2.2.2.2.2.2.1 j with
      | none => rfl
      | some e => exact absurd h5 (x8 e hc).1
    refine ⟨fun y => absurd y (by decide), fun y => absurd t0 y, fun _ _ => go M0 1 _ XF_rf h80 z0 t0 d0 (fun N2 h => ?_)⟩
    unfold wtA_; rw [hc]; exact h
  · rw [hM0]
    cases hc : E.2.2.2.2.2.2.1 j with
    | none => exact absurd (x7 hc) h5
    | some e =>
      obtain ⟨-, x9⟩ := x8 e hc
      have x90 := XC_cg (kcX_c hJj) f0 x9
      have RG := RG_p (G := G) (d := d) (z := z) hJ (kcX_c hJj) hr hb x90 h50 rowW
      refine ⟨_, c4_runT G hG d J _ r b M0 z _ I0_ W s (jd_all _ hJj).2.2.2 RG x90.1 (ixn_7 (by omega) true _ x90.1 x90.2.1) h80 z0 d0, fun v2 N h => ?_⟩
      obtain ⟨b1, b2, b3, b4, b5⟩ := RP_x x90.1 x90.2.2.1 h
      rcases b5 with ⟨b7, b8⟩ | ⟨b7, b8⟩
      · refine ⟨fun y _ => ?_, fun y => absurd b7 y, fun y _ => go N v2 _ b1 b2 b3 b7 b4 (fun N2 h2 => ?_)⟩
        · unfold wtA_; rw [hc]; simp only; rw [b8]; simp only; rw [if_pos y]
          exact fin N s b1 b2 b3 (Or.inl b7) b4 (KM_rf s)
        · unfold wtA_; rw [hc]; simp only; rw [b8]; simp only; rw [if_neg y]
          exact h2
      · refine ⟨fun _ y => absurd (b7.symm.trans y) (by decide), fun _ => ?_, fun _ y => absurd (b7.symm.trans y) (by decide)⟩
        have := recd N v2 b1 b2 b3 (Or.inr b7) b4
        rw [if_neg (by rw [b7]; decide)] at this
        unfold wtA_; rw [hc]; simp only; rw [b8]; exact this
theorem see_0 {N : mm_} {K : Nat} {x : Int32} : see_ N K x = 0 ↔ (N.1 K 0 = 0 ∨ ¬ btX_ (N.1 K 9) x = 1) := by
  unfold see_
  by_cases h : ¬ N.1 K 0 = 0 ∧ btX_ (N.1 K 9) x = 1
  · rw [if_pos h]
    exact ⟨fun y => absurd y (by decide), fun y => y.elim (fun y => absurd y h.1) (fun y => absurd h.2 y)⟩
  · rw [if_neg h]
    refine ⟨fun _ => ?_, fun _ => rfl⟩
    by_cases h1 : N.1 K 0 = 0
    · exact Or.inl h1
    · exact Or.inr (fun h2 => h ⟨h1, h2⟩)
theorem PW_T (hG : gd_ G) (hq : jq_ M J S) (hd : ∀ i j, i < 8 → j < 8 → J i = J j → i = j) (hr1 : 1 ≤ r) (hr : r ≤ 10) (hb : b ≤ 180) (m p : Nat) (hm : m < c) (hm16 : m < 16) (hp : p ≤ 2) (P : Nat → Int32) (v : Int32) (hrow : ∀ i, i < 6 → M.1 (249 + r) i = va5_ P p r v 0 i) (Q : mm_ → Prop) : ∀ (u i : Nat) (s : sgA_) (N : mm_), i + u = 8 → PI_ E J c r b M z s N → (∀ N2, PI_ E J c r b M z (pkA_ E m p r P v u i s) N2 → Q N2) → PWX_ G d J S r m p Q u i N
  | 0, i, s, N, _, hI, hQ => hQ N hI
  | u + 1, i, s, N, hi, hI, hQ => by
    have hJ : ∀ j, j < 8 → J j < 9 := fun j hj => (hq.1 j hj).1
    have hJi := hJ i (by omega)
    obtain ⟨i1, i2, i3, i4, i5, i6, i7⟩ := id hI
    have hqN : jq_ N J S := by unfold jq_ at hq ⊢; rw [i1.1]; exact hq
    obtain ⟨k1, k2, k3⟩ := i6.1 i (by omega)
    have rowN : ∀ x, x < 6 → N.1 (249 + r) x = va5_ P p r v 0 x := fun x hx => by rw [i2 x (by omega)]; exact hrow x hx
    have go : ∀ (N2 : mm_) (s2 : sgA_), pjA_ E m p r P v i s = s2 → PI_ E J c r b M z s2 N2 → PWX_ G d J S r m p Q u (i + 1) N2 := fun N2 s2 e h => PW_T hG hq hd hr1 hr hb m p hm hm16 hp P v hrow Q u (i + 1) s2 N2 (by omega) h (fun N3 h3 => hQ N3 (by rw [pkA_, e]; exact h3))
    have upd : ∀ (N2 : mm_) (s2 : sgA_), XF_ r b N N2 → (∀ x, N2.1 247 x = N.1 247 x) → DX_ J s2 N2 → KM_ s s2 → PI_ E J c r b M z s2 N2 := fun N2 s2 g1 g2 g3 g4 => by
      have g7 := XF_le g1 (show r - 1 ≤ r by omega) (Nat.le_refl b)
      exact ⟨XF_tr i1 g7, fun x hx => by rw [g1.2.2.1 r x (Nat.le_refl _)]; exact i2 x hx, by rw [g2]; exact i3, by rw [g2]; exact i4, by rw [g2]; exact i5, g3, JX_cg hJ g7 g4 i7⟩
    refine ⟨hqN, fun h0 => ?_, fun h0 => ?_⟩
    · refine go N s ?_ hI
      unfold pjA_
      rw [if_pos]
      rcases see_0.mp h0 with y | y
      · exact Or.inl (k1.symm.trans y)
      · by_cases s0 : s.1 i = 0
        · exact Or.inl s0
        · refine Or.inr ?_
          obtain ⟨-, a2, -⟩ := i7 i (by omega) s0
          cases hb2 : E.2.2.2.2.2.2.2.1 i m with
          | false => rfl
          | true => exact absurd ((a2 m hm).mpr hb2) y
    · have h1 : ¬ s.1 i = 0 := fun y => h0 (see_0.mpr (Or.inl (k1.trans y)))
      obtain ⟨a1, a2, a3⟩ := i7 i (by omega) h1
      have hb2 : E.2.2.2.2.2.2.2.1 i m = true := (a2 m hm).mp (Decidable.not_not.mp (fun y => h0 (see_0.mpr (Or.inr y))))
      have hn : ¬ (s.1 i = 0 ∨ E.2.2.2.2.2.2.2.1 i m = false) := fun y => y.elim h1 (fun y => by rw [hb2] at y; exact absurd y (by decide))
      rw [k1]
      refine ⟨fun h2 => ?_, fun h2 h3 => ?_, fun h2 h3 => ⟨fun h4 => ?_, fun h4 => ?_⟩⟩
      · refine go _ (sCA_ s i (3 * m + p) (s.2.2.1 i (3 * m + p) + 1)) (by unfold pjA_; rw [if_neg hn, if_pos h2]) (upd _ _ (XF_job (by omega) (by unfold faX_; omega) (by omega) XF_rf (fun t ht y1 y2 => by omega)) (fun x => by rw [gI_sI, if_neg (by omega)]) ?_ (fun _ _ => Or.inl rfl))
        rw [k3 _ (by omega), Nat.mul_comm m 3]
        exact DX_ct hJ hd (show i < 8 by omega) i6
      · obtain ⟨e1, e2, e3⟩ := DX_ke (j := i) (m := m) (p := p) (P := P) (v := v) (by omega) hJ hp (fun x hx => by rw [rowN x (by omega)]; exact if_pos hx) (fun y => by rw [rowN 3 (by omega)]; show (if p = 1 then v else 0) = v; rw [if_pos y]) (fun y => by rw [rowN 4 (by omega)]; show (if p = 2 then v else 0) = v; rw [if_pos y]) i6 (XF_rf (r := r) (b := b) (M := N))
        refine go _ _ (by unfold pjA_; rw [if_neg hn, if_neg h2, if_pos h3]) (upd _ _ e2 e3 e1 ?_)
        unfold kpA_ sE7_
        split
        · exact KM_rf s
        · split
          · exact fun _ _ => Or.inl rfl
          · exact KM_rf s
      · refine go N s ?_ hI
        have hk1 : s.1 i = 1 := by rcases a1 with y | y | y; exact y; exact absurd y h2; exact absurd y h3
        unfold pjA_
        rw [if_neg hn, if_neg h2, if_neg h3, if_neg (fun y => h4 ((a3 hk1).1.trans y))]
      · have hk1 : s.1 i = 1 := by rcases a1 with y | y | y; exact y; exact absurd y h2; exact absurd y h3
        refine ⟨_, c4_watchT hG hqN hd hr1 hr hb (by omega) m p P v hk1 i7 i6 i3 i4 rowN, fun N2 h => ?_⟩
        refine go N2 _ (by unfold pjA_; rw [if_neg hn, if_neg h2, if_neg h3, if_pos ((a3 hk1).1.symm.trans h4)]) ?_
        obtain ⟨g1, g2, g3, g4, g5, g6, g7⟩ := h
        exact ⟨XF_tr i1 g1, fun x hx => (g2 x hx).trans (i2 x hx), g3, g4, g5, g6, g7⟩
theorem c4_probeT (hG : gd_ G) (hq : jq_ M J S) (hd : ∀ i j, i < 8 → j < 8 → J i = J j → i = j) (hr1 : 1 ≤ r) (hr : r ≤ 10) (hb : b ≤ 180) (m p : Nat) (hm : m < c) (hm16 : m < 16) (hp : p ≤ 2) (P : Nat → Int32) (v : Int32) {s : sgA_} (hrow : ∀ i, i < 6 → M.1 (249 + r) i = va5_ P p r v 0 i) (h9 : M.1 247 9 = 0 ↔ E.2.2.2.2.2.2.2.2 = false) (hX : JX_ E J c s M) (hD : DX_ J s M) (hh : M.1 247 8 = nI b) (h12 : M.1 247 12 = z) (hz : zoX_ (M.1 247 10)) : CP_ G d r m p M (PI_ E J c r b M z (pbA_ E m p r P v s)) := by
  have h0 : PI_ E J c r b M z s M := ⟨XF_rf, fun _ _ => rfl, hh, h12, hz, hD, hX⟩
  refine c4_probeE G hG d r hr M J S m hm16 p hp _ (fun y => ?_) (fun y => ?_)
  · unfold pbA_; rw [if_neg (by rw [h9.mp y]; decide)]; exact h0
  · have hl : E.2.2.2.2.2.2.2.2 = true := by
      cases hl : E.2.2.2.2.2.2.2.2 with
      | true => rfl
      | false => exact absurd (h9.mpr hl) y
    refine PW_T hG hq hd hr1 hr hb m p hm hm16 hp P v hrow _ 8 0 s M (by omega) h0 (fun N2 h => ?_)
    unfold pbA_; rw [if_pos hl]; exact h
end WPT
end
section
/-! Machine: invocations, by the abstract state -/
def BXo_ (k : Nat) (e : Term) (M : mm_) : Prop := wfX_ true e ∧ ixn_ 3 e ∧ hd_ k M (cqX_ e 0 0) ∧ snX_ e ≤ 26
/-- what a call finds in the class and leaves so -/
def SX_ (E : se_) (J : Nat → Nat) (S c : Nat) (M : mm_) : Prop := mt_ M c ∧ mb2_ M ∧ vq_ M ∧ jq_ M J S ∧ (∀ i j, i < 8 → j < 8 → J i = J j → i = j) ∧ E.1 = c ∧ (∀ m, m < c → M.2.1 46 m = E.2.1 m) ∧ (∀ m, m < c → BXo_ (48 + 5 * m) (E.2.2.1 m) M) ∧ (M.1 247 9 = 0 ↔ E.2.2.2.2.2.2.2.2 = false)
theorem SX_cg {E : se_} {J : Nat → Nat} {S c r b : Nat} {M N : mm_} (h : XF_ r b M N) (g : SX_ E J S c M) : SX_ E J S c N := by
  obtain ⟨g1, g2, g3, g4, g5, g6, g7, g8, g9⟩ := g
  have hc := g1.1
  refine ⟨⟨hc, by rw [h.2.1 45 2 (by unfold faX_; omega)]; exact g1.2⟩, fun i hi => by rw [h.1]; exact g2 i hi, fun i hi => by rw [h.1]; exact g3 i hi, by unfold jq_ at g4 ⊢; rw [h.1]; exact g4, g5, g6, fun m hm => by rw [h.1]; exact g7 m hm, fun m hm => ?_, by rw [h.2.2.2.2.1]; exact g9⟩
  obtain ⟨a1, a2, a3, a4⟩ := g8 m hm
  exact ⟨a1, a2, hd_XF (kcX_b (by omega)) h a3, a4⟩
/-- an invocation at depth r -/
def ivT_ (E : se_) (r m : Nat) (P : Nat → Int32) (s : sgA_) : io2_ := if 10 < r then (.inr (1, -2), s) else if 1000 ≤ s.2.2.2.2.2 then (.inr (2, -3), s) else inA_ E (11 - r) m P s
theorem nm_iv (E : se_) (d : Nat) (K : Int64) (a : List Int32) (s : sgA_) : nmA_ E d (inA_ E (10 - d)) K a s = match fnA_ E K E.1 0 with | none => (.inr (1, -4), s) | some m => ivT_ E (d + 1) m (fun i => a.reverse.getD i 0) s := by
  unfold nmA_
  cases fnA_ E K E.1 0 with
  | none => rfl
  | some m =>
    simp only
    unfold ivT_
    by_cases h : 10 ≤ d
    · rw [if_pos h, if_pos (by omega)]
    · rw [if_neg h, if_neg (show ¬ 10 < d + 1 by omega), show 11 - (d + 1) = 10 - d by omega]
/-- what comes of an invocation -/
def IP_ (J : Nat → Nat) (r b : Nat) (M : mm_) (o : io2_) (v : Int32) (N : mm_) : Prop := XF_ (r - 1) b M N ∧ N.1 247 8 = nI b ∧ match o with
  | (.inl x, s) => v = x ∧ N.1 247 10 = 0 ∧ N.1 247 12 = 0 ∧ DX_ J s N
  | (.inr q, s) => v = q.2 ∧ N.1 247 10 = 1 ∧ N.1 247 12 = (if q.1 = 2 then 1 else 0) ∧ DX_ J s N ∧ (q.1 = 1 ∨ q.1 = 2)
def IT_ (G : gg_) (E : se_) (J : Nat → Nat) (S c r w : Nat) : Prop := ∀ (e : Nat) (M : mm_) (m b : Nat) (P : Nat → Int32) (s : sgA_), SX_ E J S c M → m < c → M.1 247 8 = nI b → b ≤ 20 * (r - 1) → zoX_ (M.1 247 10) → M.1 247 12 = 0 → DX_ J s M → JX_ E J c s M → (∀ i, i < 3 → M.1 (249 + r) i = P i) → cm_ G yX4_invoke cX4_invoke 6 (some .int) (e + w) [.ref (G.1 247), .int (nI m), .int (nI r)] M (rI_ (IP_ J r b M (ivT_ E r m P s)))
theorem fn_fd {E : se_} {c : Nat} {K : Int64} {N : mm_} (h : ∀ m, m < c → N.2.1 46 m = E.2.1 m) : ∀ u i, i + u ≤ c → fd1_ N c K u i = match fnA_ E K u i with | none => -1 | some m => nI m
  | 0, _, _ => rfl
  | u + 1, i, hi => by
    rw [fd1_, fnA_, h i (by omega)]
    by_cases q : E.2.1 i = K
    · rw [if_pos q, if_pos q]
    · rw [if_neg q, if_neg q]; exact fn_fd h u (i + 1) (by omega)
theorem st_at {b : Nat} {N : mm_} : ∀ {t : List Int32} (i : Nat), st_ b t N → i < t.length → N.1 261 (b + (t.length - 1 - i)) = t.getD i 0
  | [], i, _, h => by simp at h
  | x :: t, 0, h, _ => by rw [List.length_cons, Nat.add_sub_cancel, Nat.sub_zero]; exact h.1
  | x :: t, i + 1, h, hi => by
    rw [List.length_cons] at hi
    rw [List.length_cons, show t.length + 1 - 1 - (i + 1) = t.length - 1 - i by omega, st_at i h.2 (by omega)]
    simp
theorem getD_rt (t : List Int32) (j i : Nat) (hj : j ≤ t.length) (hi : i < j) : ((t.take j).reverse).getD i 0 = t.getD (j - 1 - i) 0 := by
  have h1 : (t.take j).length = j := by rw [List.length_take]; omega
  rw [List.getD_eq_getElem?_getD, List.getD_eq_getElem?_getD, List.getElem?_reverse (by omega), h1, List.getElem?_take_of_lt (by omega)]
section IVS
variable {G : gg_} {E : se_} {J : Nat → Nat} {S c r b : Nat} {M : mm_}
/-- invokeNamed, from the next depth's invocations -/
theorem nm_T (hG : gd_ G) {d : Nat} (hr1 : 1 ≤ r) (hr : r ≤ 10) (hb : b ≤ 20 * (r - 1)) (hI : ∀ (M : mm_) (m b : Nat) (P : Nat → Int32) (s : sgA_), SX_ E J S c M → m < c → M.1 247 8 = nI b → b ≤ 20 * (r + 1 - 1) → zoX_ (M.1 247 10) → M.1 247 12 = 0 → DX_ J s M → JX_ E J c s M → (∀ i, i < 3 → M.1 (249 + (r + 1)) i = P i) → cm_ G yX4_invoke cX4_invoke 6 (some .int) d [.ref (G.1 247), .int (nI m), .int (nI (r + 1))] M (rI_ (IP_ J (r + 1) b M (ivT_ E (r + 1) m P s)))) (hS : SX_ E J S c M) {N : mm_} {t : List Int32} {s : sgA_} {K : Int64} {j : Nat} (hZ : ZX_ J r b M 0 t s N) (hXs : JX_ E J c s N) (hj : poX_ K = nI j) (hj3 : j ≤ 3) (hjt : j ≤ t.length) (ht : t.length ≤ 26) (ht2 : t.length ≤ j + 20) : ∃ QN : mm_ → Prop, cm_ G yX4_invokeNamed cX4_invokeNamed 8 none (d + 1) [.ref (G.1 247), .long K, .int (nI (r + 1))] N (rV_ QN) ∧ ∀ N2, QN N2 → RI9_ J r b M 0 (t.drop j) (nmA_ E r (inA_ E (10 - r)) K (t.take j) s) N2 := by
  have hSN := SX_cg hZ.1 hS
  have hJ : ∀ j, j < 8 → J j < 9 := fun j hj => (hS.2.2.2.1.1 j hj).1
  have hdl : (t.drop j).length = t.length - j := List.length_drop
  have hh : b + t.length ≤ 220 := by omega
  refine ⟨RI9_ J r b M 0 (t.drop j) (nmA_ E r (inA_ E (10 - r)) K (t.take j) s), ?_, fun _ h => h⟩
  rw [nm_iv]
  -- behind the arguments' taking
  have base : ∀ N2, IA_ N (b + t.length) j r N2 → XF_ r b M N2 ∧ N2.1 247 8 = nI (b + (t.drop j).length) ∧ st_ b (t.drop j) N2 ∧ N2.1 247 10 = 0 ∧ N2.1 247 12 = 0 ∧ DX_ J s N2 ∧ JX_ E J c s N2 ∧ XF_ r (b + (t.drop j).length) N N2 := fun N2 h => by
    obtain ⟨a1, a2, a3, a4⟩ := h
    have f : ∀ a i, ¬ (a = 247 ∧ i = 8) → ¬ a = 249 + (r + 1) → N2.1 a i = N.1 a i := fun a i z1 z2 => a3 a i z1 (fun y => z2 y.1)
    have x2 : XF_ r (b + (t.drop j).length) N N2 := ⟨a1, fun a i z => f a i (fun y => by unfold faX_ at z; omega) (fun y => by unfold faX_ at z; omega), fun q i z => f _ i (by omega) (by omega), fun i z => f 261 i (by omega) (by omega), f 247 9 (by omega) (by omega), fun q hq => Or.inl (f _ 0 (by omega) (by omega))⟩
    have x1 : XF_ r b M N2 := XF_tr hZ.1 (XF_le x2 (Nat.le_refl _) (by omega))
    refine ⟨x1, by rw [a2, hdl]; congr 1; omega, ?_, by rw [f _ _ (by omega) (by omega)]; exact hZ.2.2.2.1, by rw [f _ _ (by omega) (by omega)]; exact hZ.2.2.2.2.1, DX_cg hJ (fun a i z => f a i (by omega) (by omega)) hZ.2.2.2.2.2, JX_cg hJ x2 (KM_rf s) hXs, x2⟩
    refine st_cg (M := N) (fun i hi => f 261 i (by omega) (by omega)) ?_
    have e : t = t.take j ++ t.drop j := (List.take_append_drop j t).symm
    rw [e] at hZ
    exact st_ap hZ.2.2.1
  refine c4_invokeNamedE G hG d c r hr N hSN.1 hSN.2.2.1 K j hj hj3 (b + t.length) hZ.2.1 (by omega) hh _ (fun N2 h hf => ?_) (fun N2 m h hm hf => ?_)
  · obtain ⟨b1, b2, b3, b4, b5, b6, b7, -⟩ := base N2 h
    have hk : ∀ m, m < c → N2.2.1 46 m = E.2.1 m := fun m hm => by rw [b1.1]; exact hS.2.2.2.2.2.2.1 m hm
    rw [fn_fd hk c 0 (by omega)] at hf
    rw [hS.2.2.2.2.2.1]
    cases hfn : fnA_ E K c 0 with
    | some m =>
      rw [hfn] at hf
      have := fn_lt E K c 0 m hfn
      exact absurd hf (nI_ne1 m (by have := hS.1.1; omega))
    | none =>
      have zx : ZX_ J r b M 0 (t.drop j) s N2 := ⟨b1, b2, b3, b4, b5, b6⟩
      exact ⟨ZX_fl hJ (by omega) (by omega) (-4) zx, Or.inl rfl⟩
  · obtain ⟨b1, b2, b3, b4, b5, b6, b7, b8⟩ := base N2 h
    have hk : ∀ m, m < c → N2.2.1 46 m = E.2.1 m := fun m hm => by rw [b1.1]; exact hS.2.2.2.2.2.2.1 m hm
    rw [fn_fd hk c 0 (by omega)] at hf
    rw [hS.2.2.2.2.2.1]
    cases hfn : fnA_ E K c 0 with
    | none =>
      rw [hfn] at hf
      exact absurd hf.symm (nI_ne1 m (by have := hS.1.1; omega))
    | some m2 =>
      rw [hfn] at hf
      have h2 := fn_lt E K c 0 m2 hfn
      obtain rfl : m2 = m := (nI_eq (by have := hS.1.1; omega) (by have := hS.1.1; omega)).mp hf
      simp only
      refine ⟨_, hI N2 m2 (b + (t.drop j).length) (fun i => (t.take j).reverse.getD i 0) s (SX_cg b1 hS) hm b2 (by omega) (Or.inl b4) b5 b6 b7 (fun i hi => ?_), fun v N1 g => ?_⟩
      · rw [h.2.2.2 i (by omega) hi]
        by_cases hij : i < j
        · rw [if_pos hij, getD_rt t j i hjt hij, ← st_at (j - 1 - i) hZ.2.2.1 (by omega)]
          rw [show b + t.length - j + i = b + (t.length - 1 - (j - 1 - i)) by omega]
        · rw [if_neg hij]
          have : ((t.take j).reverse).length ≤ i := by rw [List.length_reverse, List.length_take]; omega
          rw [List.getD_eq_getElem?_getD, List.getElem?_eq_none this]; rfl
      · obtain ⟨g1, g2, g3⟩ := g
        have g1' : XF_ r (b + (t.drop j).length) N2 N1 := g1
        have x1 : XF_ r b M N1 := XF_tr b1 (XF_le g1' (Nat.le_refl _) (by omega))
        have s1 : st_ b (t.drop j) N1 := st_cg (fun i hi => g1'.2.2.2.1 i hi) b3
        cases ho : ivT_ E (r + 1) m2 (fun i => (t.take j).reverse.getD i 0) s with
        | mk o s2 =>
          rw [ho] at g3
          cases o with
          | inl x =>
            obtain ⟨c1, c2, c3, c4⟩ := g3
            refine ⟨⟨b + (t.drop j).length, by omega, g2, fun _ => ?_⟩, fun y => absurd c2 y⟩
            have zx : ZX_ J r b M 0 (t.drop j) s2 N1 := ⟨x1, g2, s1, c2, c3, c4⟩
            rw [c1]
            exact ZX_push hJ (by omega) (by omega) x zx
          | inr q =>
            obtain ⟨c1, c2, c3, c4, c5⟩ := g3
            refine ⟨⟨b + (t.drop j).length, by omega, g2, fun y => absurd (c2.symm.trans y) (by decide)⟩, fun _ => ?_⟩
            refine ⟨⟨XF_247 (by omega) (by omega) x1, ⟨b + (t.drop j).length, by omega, by rw [gI_sI, if_neg (by omega)]; exact g2⟩, st_cg (fun i hi => by rw [gI_sI, if_neg (by omega)]) s1, by rw [gI_sI, if_neg (by omega)]; exact c2, by rw [gI_sI, if_pos ⟨rfl, rfl⟩]; exact c1, by rw [gI_sI, if_neg (by omega)]; exact c3, DX_m hJ (by omega) (by omega) c4⟩, c5⟩
/-- kinds of jobs at the run's states -/
theorem c4_invT (hG : gd_ G) {w : Nat} (hr1 : 1 ≤ r) (hr : r ≤ 10) (hI : IT_ G E J S c (r + 1) w) : IT_ G E J S c r (w + 6) := by
  intro e M m b P s hS hm hh hb hz h12 hD hX hP
  have hJ : ∀ j, j < 8 → J j < 9 := fun j hj => (hS.2.2.2.1.1 j hj).1
  have hc16 := hS.1.1
  have hb8 : b ≤ 180 := by omega
  unfold ivT_
  rw [if_neg (by omega)]
  have hiv : (1000 ≤ M.1 247 1) ↔ 1000 ≤ s.2.2.2.2.2 := by
    rw [hD.2.2.2.1, show (1000 : Int32) = nI 1000 from rfl]
    have := hD.2.2.2.2
    exact nI_leI (by decide) (by omega)
  rw [show e + (w + 6) = e + w + 6 by omega]
  refine c4_invokeE G hG (e + w) c r hr1 hr M hS.1 hS.2.1 hS.2.2.1 m hm _ (fun y => ?_) (fun y => ?_)
  · rw [if_pos (hiv.mp y)]
    refine ⟨XF_247 (by omega) (by omega) (XF_247 (by omega) (by omega) XF_rf), by rw [gI_sI, if_neg (by omega), gI_sI, if_neg (by omega)]; exact hh, rfl, by rw [gI_sI, if_neg (by omega), gI_sI, if_pos ⟨rfl, rfl⟩], by rw [gI_sI, if_pos ⟨rfl, rfl⟩]; rfl, DX_m hJ (by omega) (by omega) (DX_m hJ (by omega) (by omega) hD), Or.inr rfl⟩
  · rw [if_neg (fun y2 => y (hiv.mpr y2))]
    obtain ⟨u, hu⟩ : ∃ u, 11 - r = u + 1 := ⟨10 - r, by omega⟩
    have hu2 : 10 - u = r := by omega
    have hu3 : u = 10 - r := by omega
    rw [hu, inA_, hu2, hu3]
    -- the invocation begins
    obtain ⟨A, hA⟩ : ∃ A, IVA_ M r = A := ⟨_, rfl⟩
    have fA : XF_ (r - 1) b M A := by
      rw [← hA]; unfold IVA_
      exact XF_row (by omega) (by omega) (XF_row (by omega) (by omega) (XF_row (by omega) (by omega) (XF_247 (by omega) (by omega) XF_rf)))
    have a7 : ∀ i, ¬ i = 1 → A.1 247 i = M.1 247 i := fun i hi => by rw [← hA]; unfold IVA_; rw [gI_sI, if_neg (by omega), gI_sI, if_neg (by omega), gI_sI, if_neg (by omega), gI_sI, if_neg (by omega)]
    have aR : ∀ i, i < 6 → A.1 (249 + r) i = va5_ P 0 r 0 0 i := fun i hi => by
      rw [← hA]; unfold IVA_
      obtain h | rfl | rfl | rfl : i < 3 ∨ i = 3 ∨ i = 4 ∨ i = 5 := by omega
      · rw [gI_sI, if_neg (by omega), gI_sI, if_neg (by omega), gI_sI, if_neg (by omega), gI_sI, if_neg (by omega), hP i h]
        unfold va5_; rw [if_pos h]
      · rw [gI_sI, if_neg (by omega), gI_sI, if_neg (by omega), gI_sI, if_pos ⟨rfl, rfl⟩]; rfl
      · rw [gI_sI, if_neg (by omega), gI_sI, if_pos ⟨rfl, rfl⟩]; rfl
      · rw [gI_sI, if_pos ⟨rfl, rfl⟩]; rfl
    have dA : DX_ J (ivA_ s) A := by
      obtain ⟨g1, g2, g3, g4, g5⟩ := hD
      have hs1 : s.2.2.2.2.2 < 1000 := by
        rcases Nat.lt_or_ge s.2.2.2.2.2 1000 with q | q
        · exact q
        · exact absurd (hiv.mpr q) y
      have k : DX_ J s (sI_ (sI_ (sI_ M (249 + r) 3 0) (249 + r) 4 0) (249 + r) 5 (nI r)) := DX_m hJ (by omega) (by omega) (DX_m hJ (by omega) (by omega) (DX_m hJ (by omega) (by omega) ⟨g1, g2, g3, g4, g5⟩))
      have f : ∀ a i, 135 ≤ a → a ≤ 246 → A.1 a i = M.1 a i := fun a i z1 z2 => by rw [← hA]; unfold IVA_; rw [gI_sI, if_neg (by omega), gI_sI, if_neg (by omega), gI_sI, if_neg (by omega), gI_sI, if_neg (by omega)]
      refine ⟨fun j hj => ?_, ?_, ?_, ?_, by show s.2.2.2.2.2 + 1 ≤ 1000; omega⟩
      · have hJj := hJ j hj
        obtain ⟨c1, c2, c3⟩ := g1 j hj
        exact ⟨by rw [f _ _ (by omega) (by omega)]; exact c1, by rw [f _ _ (by omega) (by omega)]; exact c2, fun i hi => by rw [f _ _ (by omega) (by omega)]; exact c3 i hi⟩
      · obtain ⟨c1, c2, c3, c4, c5⟩ := g2
        exact ⟨by rw [f _ _ (by omega) (by omega)]; exact c1, by rw [f _ _ (by omega) (by omega)]; exact c2, by rw [f _ _ (by omega) (by omega)]; exact c3, c4, fun i hi => by rw [f _ _ (by omega) (by omega)]; exact c5 i hi⟩
      · obtain ⟨c1, c2, c3, c4, c5⟩ := g3
        exact ⟨by rw [f _ _ (by omega) (by omega)]; exact c1, by rw [f _ _ (by omega) (by omega)]; exact c2, by rw [f _ _ (by omega) (by omega)]; exact c3, c4, fun i hi => by rw [f _ _ (by omega) (by omega)]; exact c5 i hi⟩
      · rw [← hA]; unfold IVA_
        rw [gI_sI, if_neg (by omega), gI_sI, if_neg (by omega), gI_sI, if_neg (by omega), gI_sI, if_pos ⟨rfl, rfl⟩, g4, nI_1]; rfl
    have sA := SX_cg fA hS
    have xA : JX_ E J c (ivA_ s) A := JX_cg hJ fA (fun _ _ => Or.inl rfl) hX
    rw [hA]
    refine ⟨_, c4_probeT (d := e + w) (b := b) (z := 0) hG sA.2.2.2.1 hS.2.2.2.2.1 hr1 hr hb8 m 0 hm (by omega) (by omega) P 0 aR sA.2.2.2.2.2.2.2.2 xA dA (by rw [a7 8 (by omega)]; exact hh) (by rw [a7 12 (by omega)]; exact h12) (by rw [a7 10 (by omega)]; exact hz), fun N hN => ?_⟩
    obtain ⟨n1, n2, n3, n4, n5, n6, n7⟩ := hN
    have fN := XF_tr fA n1
    have sN := SX_cg n1 sA
    obtain ⟨w1, w2, w3, w4⟩ := sN.2.2.2.2.2.2.2.1 m hm
    refine ⟨sN.1, sN.2.1, ?_⟩
    generalize hs1 : pbA_ E m 0 r P 0 (ivA_ s) = s1 at n6 n7
    obtain ⟨V, hV⟩ : ∃ V : Nat → Int32, V = fun i => N.1 (249 + r) i := ⟨_, rfl⟩
    have hVP : ∀ i, i < 3 → P i = V i := fun i hi => by
      rw [hV]; show P i = N.1 (249 + r) i
      rw [n2 i (by omega), aR i (by omega)]; unfold va5_; rw [if_pos hi]
    have h5N : N.1 (249 + r) 5 = nI r := by rw [n2 5 (by omega), aR 5 (by omega)]; rfl
    have RG : RG_ G (e + 2 + w) J (48 + 5 * m) (snX_ (E.2.2.1 m)) r b N 0 (cqX_ (E.2.2.1 m) 0 0) (nmA_ E r (inA_ E (10 - r))) V := by
      refine ⟨hJ, kcX_b (by omega), w3, cq_len _ 0 0, w4, h5N, hr, hb8, fun i _ => by rw [hV], Or.inl rfl, fun N2 t s2 K j hZ hj hj3 hjt ht ht2 _ _ => ?_, ht20_ w1 w4 w3⟩
      exact nm_T hG hr1 hr hb (hI (e + 2)) sN hZ (JX_cg hJ hZ.1 (KM_of hJ hZ.1 n6 hZ.2.2.2.2.2) n7) hj hj3 hjt ht ht2
    have hrun := c4_runT G hG (e + 2 + w) J _ r b N 0 (E.2.2.1 m) _ V s1 (cd_body m (by omega)) RG w1 (ixn_7 (by omega) true _ w1 w2) n3 n4 n6
    rw [show e + 2 + w + 3 = e + w + 5 by omega, ← ES_V _ hVP true _ w1 w2] at hrun
    refine ⟨_, hrun, fun v N2 h2 => ?_⟩
    obtain ⟨r1, r2, r3⟩ := h2
    have fN2 : XF_ (r - 1) b M N2 := XF_tr fN (XF_le r1 (by omega) (Nat.le_refl b))
    have rowN2 : ∀ i, i < 6 → N2.1 (249 + r) i = va5_ P 0 r 0 0 i := fun i hi => by rw [r1.2.2.1 r i (Nat.le_refl _), n2 i (by omega)]; exact aR i hi
    cases ho : ES_ (nmA_ E r (inA_ E (10 - r))) P (E.2.2.1 m) [] s1 with
    | mk o s2 =>
      rw [ho] at r3
      have xN2 : DX_ J s2 N2 → JX_ E J c s2 N2 := fun y => JX_cg hJ r1 (KM_of hJ r1 n6 y) n7
      have sN2 := SX_cg r1 sN
      cases o with
      | inl t =>
        obtain ⟨q1, q2, q3, q4⟩ := r3
        refine ⟨Or.inl q1, fun _ => ?_, fun y => absurd q1 y⟩
        have fB : XF_ (r - 1) b N2 (sI_ N2 (249 + r) 3 v) := XF_row (by omega) (by omega) XF_rf
        have sB := SX_cg fB sN2
        refine ⟨_, c4_probeT (d := e + w) (b := b) (z := 0) hG sB.2.2.2.1 hS.2.2.2.2.1 hr1 hr hb8 m 1 hm (by omega) (by omega) P v (s := s2) (fun i hi => ?_) sB.2.2.2.2.2.2.2.2 (JX_cg hJ fB (KM_rf s2) (xN2 q4)) (DX_m hJ (by omega) (by omega) q4) (by rw [gI_sI, if_neg (by omega)]; exact r2) (by rw [gI_sI, if_neg (by omega)]; exact q3) (by rw [gI_sI, if_neg (by omega)]; exact Or.inl q1), fun N4 h4 => ?_⟩
        · by_cases e3 : i = 3
          · subst e3; rw [gI_sI, if_pos ⟨rfl, rfl⟩]; rfl
          · rw [gI_sI, if_neg (fun y => e3 y.2), rowN2 i hi]
            unfold va5_
            obtain h | rfl | rfl : i < 3 ∨ i = 4 ∨ i = 5 := by omega
            · rw [if_pos h, if_pos h]
            · rfl
            · rfl
        · obtain ⟨p1, p2, p3, p4, p5, p6, p7⟩ := h4
          refine ⟨XF_247 (by omega) (by omega) (XF_tr fN2 (XF_tr fB p1)), by rw [gI_sI, if_neg (by omega)]; exact p3, ?_⟩
          show v = t.headD 0 ∧ _ ∧ _ ∧ DX_ J (pbA_ E m 1 r P (t.headD 0) s2) _
          rw [← q2]
          exact ⟨rfl, by rw [gI_sI, if_pos ⟨rfl, rfl⟩], by rw [gI_sI, if_neg (by omega)]; exact p4, DX_m hJ (by omega) (by omega) p6⟩
      | inr q =>
        obtain ⟨q1, q2, q3, q4, hq12⟩ := r3
        refine ⟨Or.inr q1, fun y => absurd (q1.symm.trans y) (by decide), fun _ => ?_⟩
        have fB : XF_ (r - 1) b N2 (sI_ N2 (249 + r) 4 v) := XF_row (by omega) (by omega) XF_rf
        have sB := SX_cg fB sN2
        refine ⟨_, c4_probeT (d := e + w) (b := b) (z := if q.1 = 2 then 1 else 0) hG sB.2.2.2.1 hS.2.2.2.2.1 hr1 hr hb8 m 2 hm (by omega) (by omega) P v (s := s2) (fun i hi => ?_) sB.2.2.2.2.2.2.2.2 (JX_cg hJ fB (KM_rf s2) (xN2 q4)) (DX_m hJ (by omega) (by omega) q4) (by rw [gI_sI, if_neg (by omega)]; exact r2) (by rw [gI_sI, if_neg (by omega)]; exact q3) (by rw [gI_sI, if_neg (by omega)]; exact Or.inr q1), fun N4 h4 => ?_⟩
        · by_cases e4 : i = 4
          · subst e4; rw [gI_sI, if_pos ⟨rfl, rfl⟩]; rfl
          · rw [gI_sI, if_neg (fun y => e4 y.2), rowN2 i hi]
            unfold va5_
            obtain h | rfl | rfl : i < 3 ∨ i = 3 ∨ i = 5 := by omega
            · rw [if_pos h, if_pos h]
            · rfl
            · rfl
        · obtain ⟨p1, p2, p3, p4, p5, p6, p7⟩ := h4
          refine ⟨XF_247 (by omega) (by omega) (XF_tr fN2 (XF_tr fB p1)), by rw [gI_sI, if_neg (by omega)]; exact p3, ?_⟩
          show v = q.2 ∧ _ ∧ _ ∧ DX_ J (pbA_ E m 2 r P q.2 s2) _ ∧ _
          rw [← q2]
          exact ⟨rfl, by rw [gI_sI, if_pos ⟨rfl, rfl⟩], by rw [gI_sI, if_neg (by omega)]; exact p4, DX_m hJ (by omega) (by omega) p6, hq12⟩
end IVS
theorem IT_all (G : gg_) (hG : gd_ G) (E : se_) (J : Nat → Nat) (S c : Nat) : ∀ u r, r + u = 11 → 1 ≤ r → IT_ G E J S c r (6 * u)
  | 0, r, h1, h2 => by
    intro e M m b P s hS hm hh hb hz h12 hD hX hP
    obtain rfl : r = 11 := by omega
    have hJ : ∀ j, j < 8 → J j < 9 := fun j hj => (hS.2.2.2.1.1 j hj).1
    refine cm_post (c4_invokeTE G hG _ M m) (fun v N z => ⟨_, z.1, ?_⟩)
    rw [z.2]
    unfold ivT_
    rw [if_pos (by decide)]
    exact ⟨XF_247 (by omega) (by omega) XF_rf, by rw [gI_sI, if_neg (by omega)]; exact hh, rfl, by rw [gI_sI, if_pos ⟨rfl, rfl⟩], by rw [gI_sI, if_neg (by omega)]; exact h12, DX_m hJ (by omega) (by omega) hD, Or.inl rfl⟩
  | u + 1, r, h1, h2 => c4_invT hG h2 (by omega) (IT_all G hG E J S c u (r + 1) (by omega) (by omega))

end
