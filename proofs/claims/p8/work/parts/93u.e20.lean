/-! Machine: watch, probe, invoke, by the abstract state -/
def PI_ (E : se_) (J : Nat → Nat) (c r b : Nat) (M : mm_) (z : Int32) (s : sgA_) (N : mm_) : Prop := XF_ (r - 1) b M N ∧ (∀ i, ¬ i = 6 → N.1 (249 + r) i = M.1 (249 + r) i) ∧ N.1 247 8 = nI b ∧ N.1 247 12 = z ∧ zoX_ (N.1 247 10) ∧ DX_ J s N ∧ JX_ E J c s N
theorem XF_row {r b q i : Nat} {M N : mm_} {v : Int32} (hq : r < q) (hq2 : q ≤ 11) (h : XF_ r b M N) : XF_ r b M (sI_ N (249 + q) i v) := XF_I (by unfold faX_; omega) (fun p _ => by omega) (fun y => by omega) (by omega) (fun t ht y => by omega) h
theorem ht20_ {k : Nat} {e : Term} {M : mm_} (w : wfX_ true e) (hs : snX_ e ≤ 26) (h : hd_ k M (cqX_ e 0 0)) : ∀ (i : Nat) (q : cq2_), (cqX_ e 0 0)[i]? = some q → ∃ g, g ≤ 20 ∧ q.2.2.2 = nI g := by
  obtain ⟨L, H, o1, o2, o3, o4, o5⟩ := ok_hd w (by omega) h
  have hL : L = snX_ e := by
    have h1 := h.1
    rw [cq_len] at h1
    exact (nI_eq (by omega) (by omega)).mp (o2.symm.trans h1)
  intro i q hq
  have hi := (List.getElem?_eq_some_iff.mp hq).1
  rw [cq_len] at hi
  refine ⟨H (i + 1), o4 (i + 1) (by omega), ?_⟩
  rw [← (h.2 i q hq).2.2.2]
  exact (o5 i (by omega)).1
/-- a probe's expression -/
theorem RG_p {G : gg_} {d : Nat} {J : Nat → Nat} {k r b : Nat} {N : mm_} {z : Int32} {e : Term} {W : Nat → Int32} (hJ : ∀ j, j < 8 → J j < 9) (hk : kcX_ k) (hr : r ≤ 10) (hb : b ≤ 180) (hc : XCo_ k e N) (h5 : N.1 (249 + r) 5 = nI r) (hW : ∀ i, i < 7 → N.1 (249 + r) i = W i) : RG_ G d J k (snX_ e) r b N z (cqX_ e 0 0) I0_ W := by
  have n7 : ∀ (i : Nat) (q : cq2_), (cqX_ e 0 0)[i]? = some q → ¬ q.1 = 7 := fun i q hq => ns7_ true e hc.1 hc.2.2.1 0 0 q (List.mem_of_getElem? hq)
  exact ⟨hJ, hk, hc.2.2.2.1, cq_len e 0 0, hc.2.2.2.2, h5, hr, hb, hW, Or.inr n7, fun N2 t s K j _ _ _ _ _ _ _ y => by obtain ⟨i, q, h1, h2⟩ := y; exact absurd h2 (n7 i q h1), ht20_ hc.1 hc.2.2.2.2 hc.2.2.2.1⟩
theorem o1_q {f : Int32 → List Int32 → sgA_ → eo_} {r : eo_} (h : ∀ q, r.1 = .inr q → q.1 = 1) (hf : ∀ x t s q, (f x t s).1 = .inr q → q.1 = 1) : ∀ q, (o1_ f r).1 = .inr q → q.1 = 1 := by
  obtain ⟨o, s2⟩ := r
  match o with
  | .inr q2 => exact h
  | .inl [] => exact h
  | .inl (x :: t) => exact hf x t s2
/-- without invocations nothing stops -/
theorem ES_q (V : Nat → Int32) : ∀ (g : Bool) (e : Term), wfX_ g e → nsb_ e → ∀ (t : List Int32) (s : sgA_) (q : Nat × Int32), (ES_ I0_ V e t s).1 = .inr q → q.1 = 1
  | true, .int v, _, _, t, s, q, h => by rw [ES_] at h; cases h
  | true, .index i, _, _, t, s, q, h => by rw [ES_] at h; cases h
  | true, .length e, w, n, t, s, q, h => by rw [ES_] at h; exact o1_q (ES_q V true e w n t s) (fun _ _ _ _ y => by cases y) q h
  | true, .sum e, w, n, t, s, q, h => by rw [ES_] at h; exact o1_q (ES_q V true e w n t s) (fun _ _ _ _ y => by cases y; rfl) q h
  | true, .elem c (.add a b), w, n, t, s, q, h => by
    rw [ES_, ES_] at h
    have ha := ES_q V true a w.2.1 n.1 t s
    generalize ES_ I0_ V a t s = o at h ha
    obtain ⟨o, s2⟩ := o
    cases o with
    | inr q2 => exact ha q h
    | inl u =>
      simp only at h
      have hb := ES_q V true b w.2.2 n.2 u s2
      generalize ES_ I0_ V b u s2 = o2 at h hb
      obtain ⟨o2, s3⟩ := o2
      match o2 with
      | .inr q2 => exact hb q h
      | .inl [] => exact hb q h
      | .inl [_] => exact hb q h
      | .inl (y :: x :: t2) =>
        unfold o2_ at h
        simp only at h
        split at h
        · cases h; rfl
        · cases h
  | true, .mul a (.div b c), w, n, t, s, q, h => by
    rw [ES_] at h
    refine o1_q (ES_q V true a w.1 n.1 t s) (fun x t2 s2 q2 y => ?_) q h
    split at y
    · exact ES_q V true c w.2.2 n.2.2 t2 s2 q2 y
    · exact ES_q V true b w.2.1 n.2.1 t2 s2 q2 y
  | true, .rem a b, w, n, t, s, q, h => by
    rw [ES_] at h
    split at h
    · exact ES_q V true b w.2 n.2 t _ q h
    · exact ES_q V true a w.1 n.1 t s q h
  | false, .null, _, _, t, s, q, h => by cases h
  | false, .add a r, w, n, t, s, q, h => by
    rw [ES_] at h
    have ha := ES_q V true a w.1 n.1 t s
    generalize ES_ I0_ V a t s = o at h ha
    obtain ⟨o, s2⟩ := o
    cases o with
    | inr q2 => exact ha q h
    | inl u => exact ES_q V false r w.2 n.2 u s2 q h
theorem RP_x {J : Nat → Nat} {r b : Nat} {M N : mm_} {z v : Int32} {W : Nat → Int32} {e : Term} {s : sgA_} (w : wfX_ true e) (hn : nsb_ e) (h : RP_ J r b M z (ES_ I0_ W e [] s) v N) : XF_ r b M N ∧ N.1 247 8 = nI b ∧ N.1 247 12 = z ∧ DX_ J s N ∧ ((N.1 247 10 = 0 ∧ xpA_ W e s = .inl v) ∨ (N.1 247 10 = 1 ∧ xpA_ W e s = .inr v)) := by
  have hs := ES_s I0_ W true e w hn [] s
  have hq := ES_q W true e w hn [] s
  unfold xpA_
  obtain ⟨h1, h2, h3⟩ := h
  generalize ES_ I0_ W e [] s = o at h3 hs hq ⊢
  obtain ⟨o, s2⟩ := o
  obtain rfl : s2 = s := hs
  cases o with
  | inl t =>
    obtain ⟨a1, a2, a3, a4⟩ := h3
    exact ⟨h1, h2, a3, a4, Or.inl ⟨a1, by rw [a2]⟩⟩
  | inr q =>
    obtain ⟨a1, a2, a3, a4, -⟩ := h3
    have hq1 : q.1 = 1 := hq q rfl
    rw [if_neg (by omega)] at a3
    exact ⟨h1, h2, a3, a4, Or.inr ⟨a1, by rw [a2]⟩⟩
theorem va5_6 {P : Nat → Int32} {p d i : Nat} {v k k2 : Int32} (h : i < 6) : va5_ P p d v k i = va5_ P p d v k2 i := by
  unfold va5_
  by_cases h1 : i < 3
  · rw [if_pos h1, if_pos h1]
  rw [if_neg h1, if_neg h1]
  by_cases h2 : i = 3
  · rw [if_pos h2, if_pos h2]
  rw [if_neg h2, if_neg h2]
  by_cases h3 : i = 4
  · rw [if_pos h3, if_pos h3]
  rw [if_neg h3, if_neg h3, if_pos (by omega), if_pos (by omega)]
section WPT
variable {G : gg_} {d : Nat} {E : se_} {J : Nat → Nat} {S c r b : Nat} {M : mm_} {z : Int32}
theorem c4_watchT (hG : gd_ G) (hq : jq_ M J S) (hd : ∀ i j, i < 8 → j < 8 → J i = J j → i = j) (hr1 : 1 ≤ r) (hr : r ≤ 10) (hb : b ≤ 180) {s : sgA_} {j : Nat} (hj : j < 8) (m p : Nat) (P : Nat → Int32) (v : Int32) (hk : s.1 j = 1) (hX : JX_ E J c s M) (hD : DX_ J s M) (hh : M.1 247 8 = nI b) (h12 : M.1 247 12 = z) (hrow : ∀ i, i < 6 → M.1 (249 + r) i = va5_ P p r v 0 i) : cm_ G yX4_watch cX4_watch 6 none (d + 4) [.ref (G.1 247), .int (nI j), .int (nI m), .ref (G.1 (249 + r))] M (rV_ (PI_ E J c r b M z (wtA_ E j m r (va5_ P p r v (s.2.1 j)) s))) := by
  have hJ : ∀ j, j < 8 → J j < 9 := fun j hj => (hq.1 j hj).1
  have hJj := hJ j hj
  obtain ⟨-, -, x3⟩ := hX j hj (by rw [hk]; decide)
  obtain ⟨x4, x5, x6, x7, x8⟩ := x3 hk
  obtain ⟨kj1, kj2, -⟩ := hD.1 j hj
  generalize hW : va5_ P p r v (s.2.1 j) = W
  obtain ⟨M0, hM0⟩ : ∃ M0, sI_ (sI_ M (249 + r) 6 (M.1 (135 + 12 * J j) 7)) 247 10 0 = M0 := ⟨_, rfl⟩
  have f0 : XF_ (r - 1) b M M0 := by rw [← hM0]; exact XF_247 (by omega) (by omega) (XF_row (by omega) (by omega) XF_rf)
  have row0 : ∀ i, ¬ i = 6 → M0.1 (249 + r) i = M.1 (249 + r) i := fun i hi => by rw [← hM0, gI_sI, if_neg (by omega), gI_sI, if_neg (by omega)]
  have rowW : ∀ i, i < 7 → M0.1 (249 + r) i = W i := fun i hi => by
    by_cases e : i = 6
    · subst e
      rw [← hM0, gI_sI, if_neg (by omega), gI_sI, if_pos ⟨rfl, rfl⟩, kj2, ← hW]
      rfl
    · rw [row0 i e, hrow i (by omega), ← hW]; exact va5_6 (by omega)
  have h50 : M0.1 (249 + r) 5 = nI r := by rw [row0 5 (by omega), hrow 5 (by omega)]; rfl
  have d0 : DX_ J s M0 := by rw [← hM0]; exact DX_m hJ (by omega) (by omega) (DX_m hJ (by omega) (by omega) hD)
  have h80 : M0.1 247 8 = nI b := by rw [← hM0, gI_sI, if_neg (by omega), gI_sI, if_neg (by omega)]; exact hh
  have z0 : M0.1 247 12 = z := by rw [← hM0, gI_sI, if_neg (by omega), gI_sI, if_neg (by omega)]; exact h12
  have t0 : M0.1 247 10 = 0 := by rw [← hM0, gI_sI, if_pos ⟨rfl, rfl⟩]
  have x60 := XC_cg (kcX_e hJj) f0 x6
  have l60 : M0.1 (135 + 12 * J j) 6 = E.2.2.2.2.1 j := by rw [f0.2.1 _ 6 (by unfold faX_; omega)]; exact x5
  -- a memory behind a run
  have fin : ∀ (N : mm_) (s2 : sgA_), XF_ r b M0 N → N.1 247 8 = nI b → N.1 247 12 = z → zoX_ (N.1 247 10) → DX_ J s2 N → KM_ s s2 → PI_ E J c r b M z s2 N := fun N s2 g1 g2 g3 g4 g5 g6 => by
    have g7 := XF_tr f0 (XF_le g1 (by omega) (Nat.le_refl b))
    exact ⟨g7, fun i hi => by rw [g1.2.2.1 r i (Nat.le_refl _)]; exact row0 i hi, g2, g3, g4, g5, JX_cg hJ g7 g6 hX⟩
  have recd : ∀ (N : mm_) (x : Int32), XF_ r b M0 N → N.1 247 8 = nI b → N.1 247 12 = z → zoX_ (N.1 247 10) → DX_ J s N → PI_ E J c r b M z (rcA_ E j m r x (if N.1 247 10 = 0 then 0 else 1) s) (reX_ N (135 + 12 * J j) r (nI j) (nI m) x) := fun N x g1 g2 g3 g4 g5 => by
    obtain ⟨a1, a2, a3⟩ := DX_re (E := E) (m := m) (v := x) (by omega) hJ hd hj (by rw [g1.2.1 _ 6 (by unfold faX_; omega)]; exact l60) (by rw [g1.2.2.1 r 5 (Nat.le_refl _)]; exact h50) g5 g1
    exact fin _ _ a2 (by rw [a3]; exact g2) (by rw [a3]; exact g3) (by rw [a3]; exact g4) a1 KM_rc
  have go : ∀ (N : mm_) (y : Int32) (Q : mm_ → Prop), XF_ r b M0 N → N.1 247 8 = nI b → N.1 247 12 = z → N.1 247 10 = 0 → DX_ J s N → (∀ N2, PI_ E J c r b M z (wgA_ E j m r W s) N2 → Q N2) → ∃ QE : Int32 → mm_ → Prop, cm_ G yX4_run cX4_run 7 (some .int) (d + 3) [.ref (G.1 247), .ref (G.1 (135 + 12 * J j + 1)), .ref (G.1 (249 + r))] N (rI_ QE) ∧ ∀ v2 N2, QE v2 N2 → Q (reX_ N2 (135 + 12 * J j) r (nI j) (nI m) v2) := fun N y Q g1 g2 g3 g4 g5 hQ => by
    have x61 := XC_cg (kcX_e hJj) g1 x60
    have RG := RG_p (G := G) (d := d) (z := z) (W := W) hJ (kcX_e hJj) hr hb x61 (by rw [g1.2.2.1 r 5 (Nat.le_refl _)]; exact h50) (fun i hi => by rw [g1.2.2.1 r i (Nat.le_refl _)]; exact rowW i hi)
    refine ⟨_, c4_runT G hG d J _ r b N z _ I0_ W s (jd_all _ hJj).2.2.1 RG x61.1 (ixn_7 (by omega) true _ x61.1 x61.2.1) g2 g3 g5, fun v2 N2 h => hQ _ ?_⟩
    obtain ⟨b1, b2, b3, b4, b5⟩ := RP_x x61.1 x61.2.2.1 h
    have b6 := XF_tr g1 b1
    unfold wgA_
    rcases b5 with ⟨b7, b8⟩ | ⟨b7, b8⟩
    · have := recd N2 v2 b6 b2 b3 (Or.inl b7) b4
      rw [if_pos b7] at this
      rw [b8]; exact this
    · have := recd N2 v2 b6 b2 b3 (Or.inr b7) b4
      rw [if_neg (by rw [b7]; decide)] at this
      rw [b8]; exact this
  refine c4_watchE G hG d r hr M J S hq j hj (nI m) _ (fun h5 => ?_) (fun h5 => ?_)
  · rw [hM0]
    have hc : E.2.2.2.2.2.2.1 j = none := by
      cases hc : E.2.2.2.2.2.2.1 j with
      | none => rfl
      | some e => exact absurd h5 (x8 e hc).1
    refine ⟨fun y => absurd y (by decide), fun y => absurd t0 y, fun _ _ => go M0 1 _ XF_rf h80 z0 t0 d0 (fun N2 h => ?_)⟩
    unfold wtA_; rw [hc]; exact h
  · rw [hM0]
    cases hc : E.2.2.2.2.2.2.1 j with
    | none => exact absurd (x7 hc) h5
    | some e =>
      obtain ⟨-, x9⟩ := x8 e hc
      have x90 := XC_cg (kcX_c hJj) f0 x9
      have RG := RG_p (G := G) (d := d) (z := z) hJ (kcX_c hJj) hr hb x90 h50 rowW
      refine ⟨_, c4_runT G hG d J _ r b M0 z _ I0_ W s (jd_all _ hJj).2.2.2 RG x90.1 (ixn_7 (by omega) true _ x90.1 x90.2.1) h80 z0 d0, fun v2 N h => ?_⟩
      obtain ⟨b1, b2, b3, b4, b5⟩ := RP_x x90.1 x90.2.2.1 h
      rcases b5 with ⟨b7, b8⟩ | ⟨b7, b8⟩
      · refine ⟨fun y _ => ?_, fun y => absurd b7 y, fun y _ => go N v2 _ b1 b2 b3 b7 b4 (fun N2 h2 => ?_)⟩
        · unfold wtA_; rw [hc]; simp only; rw [b8]; simp only; rw [if_pos y]
          exact fin N s b1 b2 b3 (Or.inl b7) b4 (KM_rf s)
        · unfold wtA_; rw [hc]; simp only; rw [b8]; simp only; rw [if_neg y]
          exact h2
      · refine ⟨fun _ y => absurd (b7.symm.trans y) (by decide), fun _ => ?_, fun _ y => absurd (b7.symm.trans y) (by decide)⟩
        have := recd N v2 b1 b2 b3 (Or.inr b7) b4
        rw [if_neg (by rw [b7]; decide)] at this
        unfold wtA_; rw [hc]; simp only; rw [b8]; exact this
theorem see_0 {N : mm_} {K : Nat} {x : Int32} : see_ N K x = 0 ↔ (N.1 K 0 = 0 ∨ ¬ btX_ (N.1 K 9) x = 1) := by
  unfold see_
  by_cases h : ¬ N.1 K 0 = 0 ∧ btX_ (N.1 K 9) x = 1
  · rw [if_pos h]
    exact ⟨fun y => absurd y (by decide), fun y => y.elim (fun y => absurd y h.1) (fun y => absurd h.2 y)⟩
  · rw [if_neg h]
    refine ⟨fun _ => ?_, fun _ => rfl⟩
    by_cases h1 : N.1 K 0 = 0
    · exact Or.inl h1
    · exact Or.inr (fun h2 => h ⟨h1, h2⟩)
theorem PW_T (hG : gd_ G) (hq : jq_ M J S) (hd : ∀ i j, i < 8 → j < 8 → J i = J j → i = j) (hr1 : 1 ≤ r) (hr : r ≤ 10) (hb : b ≤ 180) (m p : Nat) (hm : m < c) (hm16 : m < 16) (hp : p ≤ 2) (P : Nat → Int32) (v : Int32) (hrow : ∀ i, i < 6 → M.1 (249 + r) i = va5_ P p r v 0 i) (Q : mm_ → Prop) : ∀ (u i : Nat) (s : sgA_) (N : mm_), i + u = 8 → PI_ E J c r b M z s N → (∀ N2, PI_ E J c r b M z (pkA_ E m p r P v u i s) N2 → Q N2) → PWX_ G d J S r m p Q u i N
  | 0, i, s, N, _, hI, hQ => hQ N hI
  | u + 1, i, s, N, hi, hI, hQ => by
    have hJ : ∀ j, j < 8 → J j < 9 := fun j hj => (hq.1 j hj).1
    have hJi := hJ i (by omega)
    obtain ⟨i1, i2, i3, i4, i5, i6, i7⟩ := id hI
    have hqN : jq_ N J S := by unfold jq_ at hq ⊢; rw [i1.1]; exact hq
    obtain ⟨k1, k2, k3⟩ := i6.1 i (by omega)
    have rowN : ∀ x, x < 6 → N.1 (249 + r) x = va5_ P p r v 0 x := fun x hx => by rw [i2 x (by omega)]; exact hrow x hx
    have go : ∀ (N2 : mm_) (s2 : sgA_), pjA_ E m p r P v i s = s2 → PI_ E J c r b M z s2 N2 → PWX_ G d J S r m p Q u (i + 1) N2 := fun N2 s2 e h => PW_T hG hq hd hr1 hr hb m p hm hm16 hp P v hrow Q u (i + 1) s2 N2 (by omega) h (fun N3 h3 => hQ N3 (by rw [pkA_, e]; exact h3))
    have upd : ∀ (N2 : mm_) (s2 : sgA_), XF_ r b N N2 → (∀ x, N2.1 247 x = N.1 247 x) → DX_ J s2 N2 → KM_ s s2 → PI_ E J c r b M z s2 N2 := fun N2 s2 g1 g2 g3 g4 => by
      have g7 := XF_le g1 (show r - 1 ≤ r by omega) (Nat.le_refl b)
      exact ⟨XF_tr i1 g7, fun x hx => by rw [g1.2.2.1 r x (Nat.le_refl _)]; exact i2 x hx, by rw [g2]; exact i3, by rw [g2]; exact i4, by rw [g2]; exact i5, g3, JX_cg hJ g7 g4 i7⟩
    refine ⟨hqN, fun h0 => ?_, fun h0 => ?_⟩
    · refine go N s ?_ hI
      unfold pjA_
      rw [if_pos]
      rcases see_0.mp h0 with y | y
      · exact Or.inl (k1.symm.trans y)
      · by_cases s0 : s.1 i = 0
        · exact Or.inl s0
        · refine Or.inr ?_
          obtain ⟨-, a2, -⟩ := i7 i (by omega) s0
          cases hb2 : E.2.2.2.2.2.2.2.1 i m with
          | false => rfl
          | true => exact absurd ((a2 m hm).mpr hb2) y
    · have h1 : ¬ s.1 i = 0 := fun y => h0 (see_0.mpr (Or.inl (k1.trans y)))
      obtain ⟨a1, a2, a3⟩ := i7 i (by omega) h1
      have hb2 : E.2.2.2.2.2.2.2.1 i m = true := (a2 m hm).mp (Decidable.not_not.mp (fun y => h0 (see_0.mpr (Or.inr y))))
      have hn : ¬ (s.1 i = 0 ∨ E.2.2.2.2.2.2.2.1 i m = false) := fun y => y.elim h1 (fun y => by rw [hb2] at y; exact absurd y (by decide))
      rw [k1]
      refine ⟨fun h2 => ?_, fun h2 h3 => ?_, fun h2 h3 => ⟨fun h4 => ?_, fun h4 => ?_⟩⟩
      · refine go _ (sCA_ s i (3 * m + p) (s.2.2.1 i (3 * m + p) + 1)) (by unfold pjA_; rw [if_neg hn, if_pos h2]) (upd _ _ (XF_job (by omega) (by unfold faX_; omega) (by omega) XF_rf (fun t ht y1 y2 => by omega)) (fun x => by rw [gI_sI, if_neg (by omega)]) ?_ (fun _ _ => Or.inl rfl))
        rw [k3 _ (by omega), Nat.mul_comm m 3]
        exact DX_ct hJ hd (show i < 8 by omega) i6
      · obtain ⟨e1, e2, e3⟩ := DX_ke (j := i) (m := m) (p := p) (P := P) (v := v) (by omega) hJ hp (fun x hx => by rw [rowN x (by omega)]; exact if_pos hx) (fun y => by rw [rowN 3 (by omega)]; show (if p = 1 then v else 0) = v; rw [if_pos y]) (fun y => by rw [rowN 4 (by omega)]; show (if p = 2 then v else 0) = v; rw [if_pos y]) i6 (XF_rf (r := r) (b := b) (M := N))
        refine go _ _ (by unfold pjA_; rw [if_neg hn, if_neg h2, if_pos h3]) (upd _ _ e2 e3 e1 ?_)
        unfold kpA_ sE7_
        split
        · exact KM_rf s
        · split
          · exact fun _ _ => Or.inl rfl
          · exact KM_rf s
      · refine go N s ?_ hI
        have hk1 : s.1 i = 1 := by rcases a1 with y | y | y; exact y; exact absurd y h2; exact absurd y h3
        unfold pjA_
        rw [if_neg hn, if_neg h2, if_neg h3, if_neg (fun y => h4 ((a3 hk1).1.trans y))]
      · have hk1 : s.1 i = 1 := by rcases a1 with y | y | y; exact y; exact absurd y h2; exact absurd y h3
        refine ⟨_, c4_watchT hG hqN hd hr1 hr hb (by omega) m p P v hk1 i7 i6 i3 i4 rowN, fun N2 h => ?_⟩
        refine go N2 _ (by unfold pjA_; rw [if_neg hn, if_neg h2, if_neg h3, if_pos ((a3 hk1).1.symm.trans h4)]) ?_
        obtain ⟨g1, g2, g3, g4, g5, g6, g7⟩ := h
        exact ⟨XF_tr i1 g1, fun x hx => (g2 x hx).trans (i2 x hx), g3, g4, g5, g6, g7⟩
theorem c4_probeT (hG : gd_ G) (hq : jq_ M J S) (hd : ∀ i j, i < 8 → j < 8 → J i = J j → i = j) (hr1 : 1 ≤ r) (hr : r ≤ 10) (hb : b ≤ 180) (m p : Nat) (hm : m < c) (hm16 : m < 16) (hp : p ≤ 2) (P : Nat → Int32) (v : Int32) {s : sgA_} (hrow : ∀ i, i < 6 → M.1 (249 + r) i = va5_ P p r v 0 i) (h9 : M.1 247 9 = 0 ↔ E.2.2.2.2.2.2.2.2 = false) (hX : JX_ E J c s M) (hD : DX_ J s M) (hh : M.1 247 8 = nI b) (h12 : M.1 247 12 = z) (hz : zoX_ (M.1 247 10)) : CP_ G d r m p M (PI_ E J c r b M z (pbA_ E m p r P v s)) := by
  have h0 : PI_ E J c r b M z s M := ⟨XF_rf, fun _ _ => rfl, hh, h12, hz, hD, hX⟩
  refine c4_probeE G hG d r hr M J S m hm16 p hp _ (fun y => ?_) (fun y => ?_)
  · unfold pbA_; rw [if_neg (by rw [h9.mp y]; decide)]; exact h0
  · have hl : E.2.2.2.2.2.2.2.2 = true := by
      cases hl : E.2.2.2.2.2.2.2.2 with
      | true => rfl
      | false => exact absurd (h9.mpr hl) y
    refine PW_T hG hq hd hr1 hr hb m p hm hm16 hp P v hrow _ 8 0 s M (by omega) h0 (fun N2 h => ?_)
    unfold pbA_; rw [if_pos hl]; exact h
end WPT
