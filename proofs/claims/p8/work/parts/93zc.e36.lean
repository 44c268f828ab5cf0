/-! the reference: watchOne and probe, by the abstract state -/
def JR_ (E : se_) (c : Nat) (s : sgA_) (M : mm_) : Prop := ∀ j, j < 8 → ¬ s.1 j = 0 → (s.1 j = 1 ∨ s.1 j = 2 ∨ s.1 j = 3) ∧ (∃ z, z ≤ 12 ∧ M.1 18 j = nI z ∧ ∀ m, m < c → (ft_ (pa_ M j) z (M.2.1 5 m) = 0 ↔ E.2.2.2.2.2.2.2.1 j m = false)) ∧
  (s.1 j = 1 → M.1 13 j = E.2.2.2.1 j ∧ M.1 14 j = E.2.2.2.2.1 j ∧ RCo_ (16 + 2 * j) (E.2.2.2.2.2.1 j) M ∧ (E.2.2.2.2.2.2.1 j = none → M.1 16 j = 0) ∧ ∀ e, E.2.2.2.2.2.2.1 j = some e → ¬ M.1 16 j = 0 ∧ RCo_ (17 + 2 * j) e M)
/-- what jobs hang on -/
def jcR_ (a i : Nat) : Prop := a = 2 ∨ a = 4 ∨ a = 13 ∨ a = 14 ∨ a = 16 ∨ a = 17 ∨ a = 18
theorem RC_cg {k : Nat} {e : Term} {M N : mm_} (h2 : N.2 = M.2) (h : ∀ a i, jcR_ a i → N.1 a i = M.1 a i) (g : RCo_ k e M) : RCo_ k e N := ⟨g.1, g.2.1, g.2.2.1, ⟨by rw [h _ _ (by unfold jcR_; omega)]; exact g.2.2.2.1.1, fun i x hx => by rw [h _ _ (by unfold jcR_; omega), h2]; exact g.2.2.2.1.2 i x hx⟩, g.2.2.2.2⟩
theorem JR_cg {E : se_} {c : Nat} {s s2 : sgA_} {M N : mm_} (h2 : N.2 = M.2) (h : ∀ a i, jcR_ a i → N.1 a i = M.1 a i) (hs : KM_ s s2) (g : JR_ E c s M) : JR_ E c s2 N := by
  intro j hj h0
  have hs2 : s2.1 j = s.1 j := (hs j hj).resolve_right h0
  rw [hs2] at h0 ⊢
  obtain ⟨a1, ⟨z, a2, a3, a4⟩, a5⟩ := g j hj h0
  have hp : pa_ N j = pa_ M j := by funext p; exact h _ _ (by unfold jcR_; omega)
  refine ⟨a1, ⟨z, a2, by rw [h _ _ (by unfold jcR_; omega)]; exact a3, fun m hm => by rw [hp, h2]; exact a4 m hm⟩, fun h1 => ?_⟩
  obtain ⟨b1, b2, b3, b4, b5⟩ := a5 h1
  refine ⟨by rw [h _ _ (by unfold jcR_; omega)]; exact b1, by rw [h _ _ (by unfold jcR_; omega)]; exact b2, RC_cg h2 h b3, fun z => by rw [h _ _ (by unfold jcR_; omega)]; exact b4 z, fun e he => ?_⟩
  obtain ⟨c1, c2⟩ := b5 e he
  exact ⟨by rw [h _ _ (by unfold jcR_; omega)]; exact c1, RC_cg h2 h c2⟩
theorem JR_fF {E : se_} {c : Nat} {s s2 : sgA_} {M N : mm_} (h : fF_ M N) (hs : KM_ s s2) (g : JR_ E c s M) : JR_ E c s2 N := JR_cg h.1 (fun a i z => h.2 a i (fun y => by unfold jcR_ at z; unfold pzR_ at y; omega)) hs g
def PIR_ (E : se_) (c : Nat) (M : mm_) (s : sgA_) (N : mm_) : Prop := fF_ M N ∧ DR_ s N ∧ JR_ E c s N ∧ WL_ E s
section RPT
variable {G : gg_} {d : Nat} {E : se_} {c q : Nat} {M : mm_}
theorem c12_watchT (hG : gd_ G) (hq : q ≤ 10) {s : sgA_} {j : Nat} (hj : j < 8) (m p : Nat) (P : Nat → Int32) (v : Int32) (hk : s.1 j = 1) (hX : JR_ E c s M) (hD : DR_ s M) (hL : WL_ E s) (h23 : M.1 23 q = nI m) (hrow : ∀ i, i < 6 → M.1 30 i = va5_ P p q v 0 i) : cm_ G yX12_watchOne cX12_watchOne 3 none (d + 2) [.ref (G.1 0), .int (nI j), .int (nI q)] M (rV_ (PIR_ E c M (wtA_ E j m q (va5_ P p q v (s.2.1 j)) s))) := by
  obtain ⟨-, -, x3⟩ := hX j hj (by rw [hk]; decide)
  obtain ⟨x4, x5, x6, x7, x8⟩ := x3 hk
  generalize hW : va5_ P p q v (s.2.1 j) = W
  have kj : M.1 15 j = s.2.1 j := (hD.1 j hj).2.1 hk
  obtain ⟨M0, hM0⟩ : ∃ M0, sI_ M 30 6 (M.1 15 j) = M0 := ⟨_, rfl⟩
  have f0 : fF_ M M0 := by rw [← hM0]; exact fF_I fF_rf (by unfold pzR_; omega)
  have d0 : DR_ s M0 := by rw [← hM0]; exact DR_I (by unfold dcR_; omega) hD
  have j0 : JR_ E c s M0 := JR_fF f0 (KM_rf s) hX
  have row : ∀ i, i < 7 → M0.1 30 i = W i := fun i hi => by
    by_cases e : i = 6
    · subst e; rw [← hM0, gI_sI, if_pos ⟨rfl, rfl⟩, kj, ← hW]; rfl
    · rw [← hM0, gI_sI, if_neg (by omega), hrow i (by omega), ← hW]; exact va5_6 (by omega)
  obtain ⟨-, -, y3⟩ := j0 j hj (by rw [hk]; decide)
  obtain ⟨y4, y5, y6, y7, y8⟩ := y3 hk
  have recd : ∀ (N : mm_) (x : Int32), fpE_ M0 N → N.1 0 58 = x → ∃ c9, c9 ≤ 300 ∧ N.1 0 35 = nI c9 ∧ PIR_ E c M (rcA_ E j m q x (if N.1 0 59 = 0 then 0 else 1) s) (rd_ N c9 j (N.1 23 q) (nI q)) := fun N x h h58 => by
    have dN := DR_pe h d0
    refine ⟨s.2.2.2.1.1, dN.2.1.2.1, dN.2.1.1, ?_⟩
    have e23 : N.1 23 q = nI m := by rw [h.2 23 q (by decide) (by decide) (by decide) (by omega), f0.2 23 q (by unfold pzR_; omega)]; exact h23
    have e14 : N.1 14 j = E.2.2.2.2.1 j := by rw [h.2 14 j (by decide) (by decide) (by decide) (by omega)]; exact y5
    rw [e23]
    have fr : fF_ M (rd_ N s.2.2.2.1.1 j (nI m) (nI q)) := fF_tr (fF_tr f0 (fF_pe h)) ⟨rd_two, fun a i z => rd_oth z⟩
    exact ⟨fr, DR_rd hj hk hL e14 h58 dN, JR_fF fr KM_rc hX, WL_rc hj hk hL⟩
  have go : ∀ (N : mm_) (Q : mm_ → Prop), fpE_ M0 N → (∀ N2, PIR_ E c M (wgA_ E j m q W s) N2 → Q N2) → WGR_ G d j q Q N := fun N Q h hQ => by
    have rN : RCo_ (16 + 2 * j) (E.2.2.2.2.2.1 j) N := RC_cg h.1 (fun a i z => h.2 a i (by unfold jcR_ at z; omega) (by unfold jcR_ at z; omega) (by unfold jcR_ at z; omega) (by unfold jcR_ at z; omega)) y6
    refine ⟨_, c12_peT G hG d N (16 + 2 * j) (by omega) _ W s rN (fun i hi => by rw [h.2 30 i (by decide) (by decide) (by decide) (by omega)]; exact row i hi), fun N2 h2 => ?_⟩
    obtain ⟨h3, h4⟩ := h2
    have h5 : fpE_ M0 N2 := ⟨h3.1.trans h.1, fun a i z1 z2 z3 z4 => (h3.2 a i z1 z2 z3 z4).trans (h.2 a i z1 z2 z3 z4)⟩
    obtain ⟨c9, g1, g2, g3⟩ := recd N2 _ h5 rfl
    refine ⟨c9, g1, g2, hQ _ ?_⟩
    unfold wgA_
    rcases h4 with ⟨h6, h7⟩ | ⟨h6, h7⟩
    · rw [if_pos h6] at g3; rw [h7]; exact g3
    · rw [if_neg (by rw [h6]; decide)] at g3; rw [h7]; exact g3
  refine c12_watchOneE G hG d M j hj q hq _ (fun hn => ?_) (fun hn => ?_)
  · rw [hM0]
    have hc : E.2.2.2.2.2.2.1 j = none := by
      cases hc : E.2.2.2.2.2.2.1 j with
      | none => rfl
      | some e => exact absurd hn (x8 e hc).1
    refine go M0 _ ⟨rfl, fun _ _ _ _ _ _ => rfl⟩ (fun N2 h => ?_)
    unfold wtA_; rw [hc]; exact h
  · rw [hM0]
    cases hc : E.2.2.2.2.2.2.1 j with
    | none => exact absurd (x7 hc) hn
    | some e =>
      obtain ⟨-, y9⟩ := y8 e hc
      refine ⟨_, c12_peT G hG d M0 (17 + 2 * j) (by omega) _ W s y9 row, fun N h => ?_⟩
      obtain ⟨h3, h4⟩ := h
      rcases h4 with ⟨h6, h7⟩ | ⟨h6, h7⟩
      · refine ⟨fun y => absurd h6 y, fun _ y => ?_, fun _ y => go N _ h3 (fun N2 h2 => ?_)⟩
        · unfold wtA_; rw [hc]; simp only; rw [h7]; simp only; rw [if_pos y]
          have fr := fF_tr f0 (fF_pe h3)
          exact ⟨fr, DR_pe h3 d0, JR_fF fr (KM_rf s) hX, hL⟩
        · unfold wtA_; rw [hc]; simp only; rw [h7]; simp only; rw [if_neg y]; exact h2
      · refine ⟨fun _ => ?_, fun y => absurd (h6.symm.trans y) (by decide), fun y => absurd (h6.symm.trans y) (by decide)⟩
        obtain ⟨c9, g1, g2, g3⟩ := recd N _ h3 rfl
        rw [if_neg (by rw [h6]; decide)] at g3
        refine ⟨c9, g1, g2, ?_⟩
        unfold wtA_; rw [hc]; simp only; rw [h7]; exact g3
theorem PWR_T (hG : gd_ G) (hq : q ≤ 10) (m p : Nat) (hm : m < c) (hm16 : m < 16) (hp : p ≤ 2) (P : Nat → Int32) (v : Int32) (h23 : M.1 23 q = nI m) (hrow : ∀ i, i < 3 → M.1 24 (3 * q + i) = P i) (h42 : M.1 0 42 = 0) (Q : mm_ → Prop) : ∀ (u i : Nat) (s : sgA_) (N : mm_), i + u = 8 → PIR_ E c M s N → (∀ N2, PIR_ E c M (pkA_ E m p q P v u i s) N2 → Q N2) → PWR_ G d q p v Q u i N
  | 0, i, s, N, _, hI, hQ => hQ N hI
  | u + 1, i, s, N, hi, hI, hQ => by
    obtain ⟨i1, i2, i3, i4⟩ := id hI
    have go : ∀ (N2 : mm_) (s2 : sgA_), pjA_ E m p q P v i s = s2 → PIR_ E c M s2 N2 → PWR_ G d q p v Q u (i + 1) N2 := fun N2 s2 e h => PWR_T hG hq m p hm hm16 hp P v h23 hrow h42 Q u (i + 1) s2 N2 (by omega) h (fun N3 h3 => hQ N3 (by rw [pkA_, e]; exact h3))
    have N42 : N.1 0 42 = 0 := by rw [i1.2 0 42 (by unfold pzR_; omega)]; exact h42
    have N23 : N.1 23 q = nI m := by rw [i1.2 23 q (by unfold pzR_; omega)]; exact h23
    have N24 : ∀ x, x < 3 → N.1 24 (3 * q + x) = P x := fun x hx => by rw [i1.2 24 _ (by unfold pzR_; omega)]; exact hrow x hx
    obtain ⟨k1, k2, k3⟩ := i2.1 i (by omega)
    refine ⟨fun y => absurd N42 y, fun _ => ⟨fun y => ?_, fun y => ?_⟩⟩
    · refine go N s ?_ hI
      have s0 : s.1 i = 0 := by
        by_cases h0 : s.1 i = 0
        · exact h0
        · rw [k1] at y
          rcases (i3 i (by omega) h0).1 with z | z | z <;> rw [z] at y <;> exact absurd y (by decide)
      unfold pjA_; rw [if_pos (Or.inl s0)]
    · have h0 : ¬ s.1 i = 0 := fun z => y (by rw [k1, z]; decide)
      obtain ⟨a1, ⟨z, a2, a3, a4⟩, a5⟩ := i3 i (by omega) h0
      refine ⟨z, m, a2, a3, hm16, N23, fun hf => ?_, fun hf A hA => ?_⟩
      · refine go N s ?_ hI
        unfold pjA_; rw [if_pos (Or.inr ((a4 m hm).mp hf))]
      · have hn : ¬ (s.1 i = 0 ∨ E.2.2.2.2.2.2.2.1 i m = false) := fun y => y.elim h0 (fun y => hf ((a4 m hm).mpr y))
        have fA : fF_ N A := by
          rw [hA]; unfold seR_
          exact fF_I (fF_I (fF_I (fF_I (fF_I (fF_I fF_rf (by unfold pzR_; omega)) (by unfold pzR_; omega)) (by unfold pzR_; omega)) (by unfold pzR_; omega)) (by unfold pzR_; omega)) (by unfold pzR_; omega)
        have dA : DR_ s A := by
          rw [hA]; unfold seR_
          exact DR_I (by unfold dcR_; omega) (DR_I (by unfold dcR_; omega) (DR_I (by unfold dcR_; omega) (DR_I (by unfold dcR_; omega) (DR_I (by unfold dcR_; omega) (DR_I (by unfold dcR_; omega) i2)))))
        have jA : JR_ E c s A := JR_fF fA (KM_rf s) i3
        have fMA := fF_tr i1 fA
        have hIA : PIR_ E c M s A := ⟨fMA, dA, jA, i4⟩
        have e1 : (nI p = 1) ↔ p = 1 := by rw [show (1 : Int32) = nI 1 from rfl]; exact nI_eq (by omega) (by decide)
        have e2 : (nI p = 2) ↔ p = 2 := by rw [show (2 : Int32) = nI 2 from rfl]; exact nI_eq (by omega) (by decide)
        have rA : ∀ x, x < 6 → A.1 30 x = va5_ P p q v 0 x := fun x hx => by
          rw [hA]; unfold seR_
          have q1 : (if nI p = 1 then v else (0 : Int32)) = if p = 1 then v else 0 := by
            by_cases w : p = 1
            · rw [if_pos (e1.mpr w), if_pos w]
            · rw [if_neg (fun w2 => w (e1.mp w2)), if_neg w]
          have q2 : (if nI p = 2 then v else (0 : Int32)) = if p = 2 then v else 0 := by
            by_cases w : p = 2
            · rw [if_pos (e2.mpr w), if_pos w]
            · rw [if_neg (fun w2 => w (e2.mp w2)), if_neg w]
          rw [q1, q2, N24 0 (by omega), N24 1 (by omega), N24 2 (by omega)]
          obtain rfl | rfl | rfl | rfl | rfl | rfl : x = 0 ∨ x = 1 ∨ x = 2 ∨ x = 3 ∨ x = 4 ∨ x = 5 := by omega
          · rw [gI_sI, if_neg (by omega), gI_sI, if_neg (by omega), gI_sI, if_neg (by omega), gI_sI, if_neg (by omega), gI_sI, if_neg (by omega), gI_sI, if_pos ⟨rfl, rfl⟩]; rfl
          · rw [gI_sI, if_neg (by omega), gI_sI, if_neg (by omega), gI_sI, if_neg (by omega), gI_sI, if_neg (by omega), gI_sI, if_pos ⟨rfl, rfl⟩]; rfl
          · rw [gI_sI, if_neg (by omega), gI_sI, if_neg (by omega), gI_sI, if_neg (by omega), gI_sI, if_pos ⟨rfl, rfl⟩]; rfl
          · rw [gI_sI, if_neg (by omega), gI_sI, if_neg (by omega), gI_sI, if_pos ⟨rfl, rfl⟩]; rfl
          · rw [gI_sI, if_neg (by omega), gI_sI, if_pos ⟨rfl, rfl⟩]; rfl
          · rw [gI_sI, if_pos ⟨rfl, rfl⟩]; rfl
        have A23 : A.1 23 q = nI m := by rw [fA.2 23 q (by unfold pzR_; omega)]; exact N23
        have A24 : ∀ x, x < 3 → A.1 24 (3 * q + x) = P x := fun x hx => by rw [fA.2 24 _ (by unfold pzR_; omega)]; exact N24 x hx
        have A12 : A.1 12 i = s.1 i := (dA.1 i (by omega)).1
        have A13 : s.1 i = 1 → A.1 13 i = E.2.2.2.1 i := fun y => ((jA i (by omega) h0).2.2 y).1
        rw [A12]
        refine ⟨A23, fun h1 hpt => ?_, fun h2 => ?_, fun h3 hp0 => ?_, fun h1 hpt => ?_, fun h3 hp0 => ?_, a1⟩
        · refine ⟨_, c12_watchT hG hq (by omega) m p P v h1 jA dA i4 A23 rA, fun N2 h => ?_⟩
          refine go N2 _ (by unfold pjA_; rw [if_neg hn, if_neg (by rw [h1]; decide), if_neg (by rw [h1]; decide), if_pos ((A13 h1).symm.trans hpt)]) ?_
          exact ⟨fF_tr fMA h.1, h.2⟩
        · have hct : A.1 20 (48 * i + (3 * m + p)) = s.2.2.1 i (3 * m + p) := (dA.1 i (by omega)).2.2 h2 _ (by omega)
          rw [Nat.add_assoc, hct]
          have fr : fF_ M (sI_ A 20 (48 * i + (3 * m + p)) (s.2.2.1 i (3 * m + p) + 1)) := fF_I fMA (by unfold pzR_; omega)
          have km : KM_ s (sCA_ s i (3 * m + p) (s.2.2.1 i (3 * m + p) + 1)) := fun _ _ => Or.inl rfl
          exact go _ (sCA_ s i (3 * m + p) (s.2.2.1 i (3 * m + p) + 1)) (by unfold pjA_; rw [if_neg hn, if_pos h2]) ⟨fr, DR_ct (by omega) (by omega) dA, JR_fF (fF_I fA (by unfold pzR_; omega)) km i3, i4⟩
        · obtain ⟨k4, k5⟩ := DR_ko (j := i) (m := m) (p := p) (v := v) (by omega) A23 A24 dA
          refine ⟨s.2.2.2.2.1.1, dA.2.2.1.2.1, dA.2.2.1.1, ?_⟩
          have km : KM_ s (kpA_ i m p P v s) := fun j _ => Or.inl (by rw [kp_km.1])
          refine go _ _ (by unfold pjA_; rw [if_neg hn, if_neg (by rw [h3]; decide), if_pos h3]) ⟨fF_tr fMA k5, k4, JR_fF (fF_tr fA k5) km i3, ?_⟩
          intro j hj hj1
          rw [kp_km.1] at hj1
          rw [kp_km.2]
          exact i4 j hj hj1
        · exact go A s (by unfold pjA_; rw [if_neg hn, if_neg (by rw [h1]; decide), if_neg (by rw [h1]; decide), if_neg (fun y => hpt ((A13 h1).trans y))]) hIA
        · exact go A s (by unfold pjA_ kpA_; rw [if_neg hn, if_neg (by rw [h3]; decide), if_pos h3, if_pos hp0]) hIA
theorem c12_probeT (hG : gd_ G) (hq : q ≤ 10) (m p : Nat) (hm : m < c) (hm16 : m < 16) (hp : p ≤ 2) (P : Nat → Int32) (v : Int32) {s : sgA_} (h23 : M.1 23 q = nI m) (hrow : ∀ i, i < 3 → M.1 24 (3 * q + i) = P i) (h42 : M.1 0 42 = 0 ↔ E.2.2.2.2.2.2.2.2 = true) (hX : JR_ E c s M) (hD : DR_ s M) (hL : WL_ E s) : CPR_ G d q p v M (PIR_ E c M (pbA_ E m p q P v s)) := by
  have h0 : PIR_ E c M s M := ⟨fF_rf, hD, hX, hL⟩
  refine c12_probeE G hG d M q hq p hp v _ ?_
  by_cases y : M.1 0 42 = 0
  · refine PWR_T hG hq m p hm hm16 hp P v h23 hrow y _ 8 0 s M (by omega) h0 (fun N2 h => ?_)
    unfold pbA_; rw [if_pos (h42.mp y)]; exact h
  · have e : pbA_ E m p q P v s = s := by unfold pbA_; rw [if_neg (fun z => y (h42.mpr z))]
    rw [e]
    exact ⟨fun _ => h0, fun z => absurd z y⟩
end RPT
