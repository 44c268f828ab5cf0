section
/-! the reference's machine: a frame, and play -/
section FRR
variable {G : gg_} {d : Nat} {Q : mm_ → Prop} {E : se_} {c D : Nat}
theorem frame_P (hG : gd_ G) (hD : D ≤ 9) (hnext : D + 1 ≤ 9 → IRP_ G d Q E c (D + 1)) : IRP_ G d Q E c D := by
  intro m b tb P s A R u d2 hS hm h39 h23 h25 h24 h47 h51 hb htb hTB hDR hJR hWL hu K
  have hc := hS.2.1
  obtain ⟨w, hw⟩ : ∃ w, 10 - D = w + 1 := ⟨9 - D, by omega⟩
  have hw2 : 10 - w = D + 1 := by omega
  have hw3 : w = 9 - D := by omega
  rw [hw, inA_, hw2, hw3] at K
  refine cm_post (c12_probeT hG (by omega) m 0 hm (by omega) (by omega) P 0 h23 h24 hS.2.2.2.2.2 hJR hDR hWL) (fun v N0 hv => ⟨hv.1, ?_⟩)
  obtain ⟨n1, n2, n3, n4⟩ := hv.2
  generalize hs1 : pbA_ E m 0 (D + 1) P 0 (ivA_ s) = s1 at n2 n3 n4 K
  have hiv1 : iv2_ s1 = iv2_ (ivA_ s) := by rw [← hs1]; exact iv_pb
  have fA : FZ_ D b tb A N0 := FZ_fF n1
  have hS0 := SR_cg fA hS
  obtain ⟨w1, w2, w3, w4, w5⟩ := hS0.2.2.2.2.1 m hm
  have e39 : N0.1 0 39 = nI (D + 1) := by rw [n1.2 0 39 (by unfold pzR_; omega)]; exact h39
  have e23 : N0.1 23 (D + 1) = nI m := by rw [n1.2 23 _ (by unfold pzR_; omega)]; exact h23
  have e25 : N0.1 25 (D + 1) = nI 0 := by rw [n1.2 25 _ (by unfold pzR_; omega)]; exact h25
  have e24 : ∀ i, i < 3 → N0.1 24 (3 * (D + 1) + i) = P i := fun i hi => by rw [n1.2 24 _ (by unfold pzR_; omega)]; exact h24 i hi
  have e47 : N0.1 0 47 = nI b := by rw [n1.2 0 47 (by unfold pzR_; omega)]; exact h47
  have e51 : N0.1 0 51 = nI tb := by rw [n1.2 0 51 (by unfold pzR_; omega)]; exact h51
  have eTB : TBq_ D tb N0 := hTB.imp id (fun ⟨q, z1, z2⟩ => ⟨q, z1, by rw [n1.2 29 _ (by unfold pzR_; omega)]; exact z2⟩)
  generalize hn : (tc_ (tm_ (E.2.2.1 m))).length = n at w5
  have hR : RGP_ G d Q E c D b tb m n R N0 (tc_ (tm_ (E.2.2.1 m))) P (nmA_ E (D + 1) (inA_ E (9 - D))) := ⟨e23, by omega, by rw [← hn]; exact w4.1, hn, w5, w4.2, e24, hD, hb, htb, fun N t L s2 K2 j p u2 g1 g2 g3 g4 g5 g6 g7 g8 g9 g10 g11 => inv_H hD hS0 hnext eTB hb htb w5 N t L s2 K2 j p u2 g1 g2 g3 g4 g5 g6 g7 g8 g9 g10 g11⟩
  refine TRP_ hR true (E.2.2.1 m) w1 w2 w3 0 u [] [] s1 N0 (fun i q hq => by rw [Nat.zero_add]; exact hq) (by simp) (by simp) (by rw [hn]; simp) (by rw [hiv1]; omega) ⟨⟨FZ_rf, trivial, trivial, e39, e51, n2, n3, n4⟩, e47, e25⟩ ?_
  rw [hn, Nat.zero_add]
  -- a probe behind the body, at a memory of this frame
  have prb : ∀ (d3 pt : Nat) (v : Int32) (s2 : sgA_) (N : mm_), pt ≤ 2 → ZS_ E c D b tb N0 s2 N → CPR_ G d3 (D + 1) pt v N (PIR_ E c N (pbA_ E m pt (D + 1) P v s2)) := fun d3 pt v s2 N hpt hz => by
    have hSN := SR_cg hz.1 hS0
    exact c12_probeT hG (by omega) m pt hm (by omega) hpt P v (by rw [hz.1.2 23 _ (by unfold pzR_; omega) (by unfold mvR_; omega)]; exact e23) (fun i hi => by rw [hz.1.2 24 _ (by unfold pzR_; omega) (by unfold mvR_; omega)]; exact e24 i hi) hSN.2.2.2.2.2 hz.2.2.2.1 hz.2.2.1 hz.2.2.2.2
  have zpr : ∀ (s2 s3 : sgA_) (N N2 : mm_), ZS_ E c D b tb N0 s2 N → PIR_ E c N s3 N2 → ZS_ E c D b tb A s3 N2 ∧ N2.1 0 51 = N.1 0 51 ∧ N2.1 0 47 = N.1 0 47 := fun s2 s3 N N2 hz hp => by
    obtain ⟨p1, p2, p3, p4⟩ := hp
    exact ⟨⟨FZ_tr fA (FZ_tr hz.1 (FZ_fF p1)), by rw [p1.2 0 39 (by unfold pzR_; omega)]; exact hz.2.1, p2, p3, p4⟩, p1.2 0 51 (by unfold pzR_; omega), p1.2 0 47 (by unfold pzR_; omega)⟩
  cases ho : ES_ (nmA_ E (D + 1) (inA_ E (9 - D))) P (E.2.2.1 m) [] s1 with
  | mk o s2 =>
    rw [ho] at K
    cases o with
    | inl t2 =>
      obtain ⟨x, rfl⟩ := (ES_sh _ P true _ w1 [] s1 t2 s2 ho).1 rfl
      have K2 : KI_ G d Q E c D b tb A R (.inl x, pbA_ E m 1 (D + 1) P x s2) := K
      intro N u2 hz hu2
      obtain ⟨u2, rfl⟩ : ∃ v, u2 = v + 1 := ⟨u2 - 1, by omega⟩
      obtain ⟨zB, z47, z25⟩ := hz
      have hF := zB.1
      refine Or.inr ⟨D, b + 1, tb, m, n, n, zB.2.2.2.1, hD, by rw [hF.2 23 _ (by unfold pzR_; omega) (by unfold mvR_; omega)]; exact e23, by omega, z25, by rw [hF.2 4 _ (by unfold pzR_; omega) (by unfold mvR_; omega), w4.1, hn], w5, Nat.le_refl _, z47, by omega, zB.2.2.2.2.1, by omega, fun _ => ⟨b, zB.2.2.2.1, z47, by omega, ?_⟩, fun y => by omega⟩
      have hx : N.1 26 b = x := zB.2.1.1
      have zS : ZS_ E c D b tb N0 s2 (sI_ N 0 47 (nI b)) := ZB_S (ZB_I (t := []) (ZB_tl zB) (by omega))
      rw [hx]
      refine ⟨_, prb (d + 1) 1 x s2 _ (by omega) zS, fun N2 h2 => ?_⟩
      obtain ⟨q1, q2, q3⟩ := zpr _ _ _ _ zS h2
      have q4 : N2.1 0 47 = nI b := by rw [q3, gI_sI, if_pos ⟨rfl, rfl⟩]
      have q5 : N2.1 0 51 = nI tb := by rw [q2, gI_sI, if_neg (by omega)]; exact zB.2.2.2.2.1
      obtain ⟨k1, k2⟩ := K2 N2 u2 q1 q4 q5 (by rw [iv_pb]; omega)
      exact ⟨q1.2.1, q4, k1, k2⟩
    | inr q =>
      have K2 : KI_ G d Q E c D b tb A R (.inr q, pbA_ E m 2 (D + 1) P q.2 s2) := K
      intro N a u2 d3 h1 h2 hu2
      refine ⟨fun hq zB => ?_, fun hq zS => ?_⟩
      · have zS := ZB_S zB
        have z51 : N.1 0 51 = nI tb := zB.2.2.2.2.1
        refine ⟨zS.2.1, tb, by omega, z51, fun h0 h29 => ?_, fun _ => ?_⟩
        · exfalso
          rcases eTB with y | ⟨q9, y1, y2⟩
          · omega
          · rw [zS.1.2 29 _ (by unfold pzR_; omega) (by unfold mvR_; omega), y2] at h29
            have := (nI_eq (by omega) (by omega)).mp h29
            omega
        · refine ⟨_, prb d3 2 q.2 s2 N (by omega) zS, fun N2 hp => ?_⟩
          obtain ⟨q1, q2, q3⟩ := zpr _ _ _ _ zS hp
          exact ⟨q1.2.1, (K2 N2 u2 d3 q1 (by rw [iv_pb]; omega)).1 hq (q2.trans z51)⟩
      · refine ⟨zS.2.1, _, prb d3 2 q.2 s2 N (by omega) zS, fun N2 hp => ?_⟩
        obtain ⟨q1, q2, q3⟩ := zpr _ _ _ _ zS hp
        exact ⟨q1.2.1, (K2 N2 u2 d3 q1 (by rw [iv_pb]; omega)).2 hq⟩
end FRR
theorem IRP_all (G : gg_) (hG : gd_ G) (d : Nat) (Q : mm_ → Prop) (E : se_) (c : Nat) : ∀ w D, D + w = 9 → IRP_ G d Q E c D
  | 0, D, h => frame_P hG (by omega) (fun y => by omega)
  | w + 1, D, h => frame_P hG (by omega) (fun _ => IRP_all G hG d Q E c w (D + 1) (by omega))
/-- what a call leaves -/
def PLQ_ (E : se_) (c : Nat) (M : mm_) (o : io2_) (r : Int32) (N : mm_) : Prop := N.2 = M.2 ∧ (∀ a i, ¬ pzR_ a i → ¬ mR_ a i → N.1 a i = M.1 a i) ∧ DR_ o.2 N ∧ JR_ E c o.2 N ∧ WL_ E o.2 ∧ match o.1 with
  | .inl v => r = 0 ∧ N.1 0 41 = v
  | .inr q => (q.1 = 1 ∨ q.1 = 2 → r = 1 ∧ N.1 0 41 = q.2)
theorem c12_playT (G : gg_) (hG : gd_ G) (d : Nat) (M : mm_) (E : se_) (c m q3 : Nat) (P : Nat → Int32) (s : sgA_) (x y w z : Int32) (hS : SR_ E c (sI_ M 0 42 z)) (hm : m < c) (hq3 : q3 ≤ 3) (e3 : M.1 6 m = nI q3) (hz : z = 0 ∨ z = 1) (hP : ∀ i, i < 3 → P i = if i < q3 then (if i = 0 then x else if i = 1 then y else w) else 0) (hiv : iv2_ s = 0) (hD : DR_ s (sI_ M 0 40 0)) (hJ : JR_ E c s M) (hW : WL_ E s) (hq : ∀ q, (inA_ E 10 m P s).1 = .inr q → q.1 = 1 ∨ q.1 = 2) : cm_ G yX12_play cX12_play 6 (some .int) (d + 7) [.ref (G.1 0), .int (nI m), .int x, .int y, .int w, .int z] M (rI_ (PLQ_ E c M (inA_ E 10 m P s))) := by
  have hc := hS.2.1
  obtain ⟨Q, hQ⟩ : ∃ Q : mm_ → Prop, Q = fun N0 => PLQ_ E c M (inA_ E 10 m P s) (if N0.1 0 52 = 0 then 0 else 1) (sI_ N0 0 41 (N0.1 0 53)) := ⟨_, rfl⟩
  obtain ⟨A0, hA0⟩ : ∃ A0, enM_ (plM_ M x y w z) 0 0 m q3 = A0 := ⟨_, rfl⟩
  have a2 : A0.2 = M.2 := by rw [← hA0]; unfold enM_; rw [zpR_2]; rfl
  have ag : ∀ a i, A0.1 a i = if a = 24 ∧ 3 * (0 + 1) + q3 ≤ i ∧ i < 3 * (0 + 1) + q3 + (3 - q3) then 0 else if a = 25 ∧ i = 0 + 1 then 0 else if a = 23 ∧ i = 0 + 1 then nI m else if a = 0 ∧ i = 40 then nI (0 + 1) else if a = 0 ∧ i = 39 then nI (0 + 1) else if a = 24 ∧ i = 5 then w else if a = 24 ∧ i = 4 then y else if a = 24 ∧ i = 3 then x else if a = 0 ∧ i = 51 then 0 else if a = 0 ∧ i = 47 then 0 else if a = 0 ∧ i = 40 then 0 else if a = 0 ∧ i = 39 then 0 else if a = 0 ∧ i = 42 then z else M.1 a i := fun a i => by
    rw [← hA0]; unfold enM_ plM_
    rw [zpR_g, gI_sI, gI_sI, gI_sI, gI_sI, gI_sI, gI_sI, gI_sI, gI_sI, gI_sI, gI_sI, gI_sI, gI_sI]
  have ao : ∀ a i, ¬ (a = 24 ∨ a = 25 ∨ a = 23 ∨ (a = 0 ∧ (i = 39 ∨ i = 40 ∨ i = 42 ∨ i = 47 ∨ i = 51))) → A0.1 a i = M.1 a i := fun a i h => by
    rw [ag, if_neg (by omega), if_neg (by omega), if_neg (by omega), if_neg (by omega), if_neg (by omega), if_neg (by omega), if_neg (by omega), if_neg (by omega), if_neg (by omega), if_neg (by omega), if_neg (by omega), if_neg (by omega), if_neg (by omega)]
  have x42 : A0.1 0 42 = z := by rw [ag, if_neg (by omega), if_neg (by omega), if_neg (by omega), if_neg (by omega), if_neg (by omega), if_neg (by omega), if_neg (by omega), if_neg (by omega), if_neg (by omega), if_neg (by omega), if_neg (by omega), if_neg (by omega), if_pos ⟨rfl, rfl⟩]
  have x39 : A0.1 0 39 = nI (0 + 1) := by rw [ag, if_neg (by omega), if_neg (by omega), if_neg (by omega), if_neg (by omega), if_pos ⟨rfl, rfl⟩]
  have x40 : A0.1 0 40 = nI (0 + 1) := by rw [ag, if_neg (by omega), if_neg (by omega), if_neg (by omega), if_pos ⟨rfl, rfl⟩]
  have x23 : A0.1 23 (0 + 1) = nI m := by rw [ag, if_neg (by omega), if_neg (by omega), if_pos ⟨rfl, rfl⟩]
  have x25 : A0.1 25 (0 + 1) = nI 0 := by rw [ag, if_neg (by omega), if_pos ⟨rfl, rfl⟩]; rfl
  have x47 : A0.1 0 47 = nI 0 := by rw [ag, if_neg (by omega), if_neg (by omega), if_neg (by omega), if_neg (by omega), if_neg (by omega), if_neg (by omega), if_neg (by omega), if_neg (by omega), if_neg (by omega), if_pos ⟨rfl, rfl⟩]; rfl
  have x51 : A0.1 0 51 = nI 0 := by rw [ag, if_neg (by omega), if_neg (by omega), if_neg (by omega), if_neg (by omega), if_neg (by omega), if_neg (by omega), if_neg (by omega), if_neg (by omega), if_pos ⟨rfl, rfl⟩]; rfl
  have x24 : ∀ i, i < 3 → A0.1 24 (3 * (0 + 1) + i) = P i := fun i hi => by
    rw [hP i hi]
    by_cases h : i < q3
    · rw [if_pos h, ag, if_neg (by omega), if_neg (by omega), if_neg (by omega), if_neg (by omega), if_neg (by omega)]
      obtain rfl | rfl | rfl : i = 0 ∨ i = 1 ∨ i = 2 := by omega
      · rw [if_neg (by omega), if_neg (by omega), if_pos ⟨rfl, rfl⟩, if_pos rfl]
      · rw [if_neg (by omega), if_pos ⟨rfl, rfl⟩, if_neg (by decide), if_pos rfl]
      · rw [if_pos ⟨rfl, rfl⟩, if_neg (by decide), if_neg (by decide)]
    · rw [if_neg h, ag, if_pos (by omega)]
  have sA : SR_ E c A0 := by
    obtain ⟨g1, g2, g3, g4, g5, g6⟩ := hS
    have k : ∀ a i, ¬ a = 0 → (sI_ M 0 42 z).1 a i = M.1 a i := fun a i h => by rw [gI_sI, if_neg (by omega)]
    have k2 : (sI_ M 0 42 z).2 = M.2 := rfl
    rw [gI_sI, if_neg (by omega)] at g1
    rw [gI_sI, if_pos ⟨rfl, rfl⟩] at g6
    refine ⟨by rw [ao _ _ (by omega)]; exact g1, g2, g3, fun i hi => by rw [a2, ao _ _ (by omega)]; have := g4 i hi; rw [k _ _ (by decide)] at this; exact this, fun i hi => ?_, by rw [x42]; exact g6⟩
    obtain ⟨b1, b2, b3, b4, b5⟩ := g5 i hi
    refine ⟨b1, b2, b3, ⟨by rw [ao _ _ (by omega)]; have := b4.1; rw [k _ _ (by decide)] at this; exact this, fun j q hj => ?_⟩, b5⟩
    have := b4.2 j q hj
    rw [k _ _ (by decide)] at this
    rw [ao _ _ (by omega), a2]; exact this
  have dA : DR_ (ivA_ s) A0 := by
    obtain ⟨g1, ⟨p1, p2, p3⟩, ⟨q1, q2, q3⟩, g4, g5⟩ := hD
    have k : ∀ a i, ¬ (a = 0 ∧ i = 40) → (sI_ M 0 40 0).1 a i = M.1 a i := fun a i h => by rw [gI_sI, if_neg h]
    refine ⟨fun i hi => ?_, ⟨by rw [ao _ _ (by omega), ← k _ _ (by omega)]; exact p1, p2, fun i hi => by rw [ao _ _ (by omega), ← k _ _ (by omega)]; exact p3 i hi⟩, ⟨by rw [ao _ _ (by omega), ← k _ _ (by omega)]; exact q1, q2, fun i hi => by rw [ao _ _ (by omega), ← k _ _ (by omega)]; exact q3 i hi⟩, ?_, ?_⟩
    · obtain ⟨c1, c2, c3⟩ := g1 i hi
      exact ⟨by rw [ao _ _ (by omega), ← k _ _ (by omega)]; exact c1, fun h => by rw [ao _ _ (by omega), ← k _ _ (by omega)]; exact c2 h, fun h x hx => by rw [ao _ _ (by omega), ← k _ _ (by omega)]; exact c3 h x hx⟩
    · show A0.1 0 40 = nI (iv2_ s + 1)
      rw [hiv]; exact x40
    · show iv2_ s + 1 ≤ 1000
      omega
  have jA : JR_ E c (ivA_ s) A0 := JR_cg a2 (fun a i h => ao a i (by unfold jcR_ at h; omega)) (fun _ _ => Or.inl rfl) hJ
  refine cm_post (c12_playE G hG d M c m q3 (by omega) hq3 e3 x y w z hz Q (WPL_ G d Q c (42 + 50 * 1000 + 1)) ?_ (fun N h => ⟨_, h⟩)) (fun v N h => ?_)
  · rw [hA0]
    refine IRP_all G hG d Q E c 9 0 rfl m 0 0 P s A0 1 _ (d + 2) sA hm x39 x23 x25 x24 x47 x51 (by omega) (by omega) (Or.inl rfl) dA jA hW (by omega) ?_
    show KI_ G d Q E c 0 0 0 A0 1 (inA_ E 10 m P s)
    have fin : ∀ (N : mm_) (v : Int32) (k : Int32), ZS_ E c 0 0 0 A0 (inA_ E 10 m P s).2 N → (match (inA_ E 10 m P s).1 with | .inl x => k = 0 ∧ v = x | .inr q => k = 1 ∧ v = q.2) → Q (sI_ (sI_ (sI_ N 0 39 (nI 0)) 0 52 k) 0 53 v) := fun N v k hz hm => by
      rw [hQ]
      obtain ⟨k1, k2, k3, k4, k5⟩ := hz
      have e52 : (sI_ (sI_ (sI_ N 0 39 (nI 0)) 0 52 k) 0 53 v).1 0 52 = k := by rw [gI_sI, if_neg (by omega), gI_sI, if_pos ⟨rfl, rfl⟩]
      have e53 : (sI_ (sI_ (sI_ N 0 39 (nI 0)) 0 52 k) 0 53 v).1 0 53 = v := by rw [gI_sI, if_pos ⟨rfl, rfl⟩]
      rw [e52, e53]
      refine ⟨k1.1.trans a2, fun a i h1 h2 => ?_, DR_I (by unfold dcR_; omega) (DR_I (by unfold dcR_; omega) (DR_I (by unfold dcR_; omega) (DR_I (by unfold dcR_; omega) k3))), JR_cg (M := N) rfl (fun a i h => by rw [gI_sI, if_neg (by unfold jcR_ at h; omega), gI_sI, if_neg (by unfold jcR_ at h; omega), gI_sI, if_neg (by unfold jcR_ at h; omega), gI_sI, if_neg (by unfold jcR_ at h; omega)]) (KM_rf _) k4, k5, ?_⟩
      · unfold mR_ at h2
        rw [gI_sI, if_neg (by omega), gI_sI, if_neg (by omega), gI_sI, if_neg (by omega), gI_sI, if_neg (by omega), k1.2 a i h1 (by unfold mvR_; omega), ao a i (by omega)]
      · cases ho : (inA_ E 10 m P s).1 with
        | inl x2 =>
          rw [ho] at hm
          exact ⟨by rw [hm.1, if_pos rfl], by rw [gI_sI, if_pos ⟨rfl, rfl⟩]; exact hm.2⟩
        | inr q =>
          rw [ho] at hm
          exact fun _ => ⟨by rw [hm.1, if_neg (by decide)], by rw [gI_sI, if_pos ⟨rfl, rfl⟩]; exact hm.2⟩
    generalize hg : inA_ E 10 m P s = o at fin hq ⊢
    obtain ⟨o, s2⟩ := o
    cases o with
    | inl v =>
      intro N u hz2 h47 h51 hu
      obtain ⟨u, rfl⟩ : ∃ v, u = v + 1 := ⟨u - 1, by omega⟩
      exact ⟨fun _ => Or.inl ⟨by rw [gI_sI, if_neg (by omega), gI_sI, if_neg (by omega), gI_sI, if_pos ⟨rfl, rfl⟩], fin N v 0 hz2 ⟨rfl, rfl⟩⟩, fun h => by omega⟩
    | inr q =>
      intro N u d2 hz2 hu
      obtain ⟨u, rfl⟩ : ∃ v, u = v + 1 := ⟨u - 1, by omega⟩
      have e : WPL_ G d Q c (u + 1) (sI_ (sI_ (sI_ N 0 39 (nI 0)) 0 52 1) 0 53 q.2) := Or.inl ⟨by rw [gI_sI, if_neg (by omega), gI_sI, if_neg (by omega), gI_sI, if_pos ⟨rfl, rfl⟩], fin N q.2 1 hz2 ⟨rfl, rfl⟩⟩
      exact ⟨fun _ _ => ⟨by rw [gI_sI, if_pos ⟨rfl, rfl⟩], e⟩, fun _ => ⟨by rw [gI_sI, if_pos ⟨rfl, rfl⟩], e⟩⟩
  · obtain ⟨r, hr, N0, h1, h2, h3⟩ := h
    refine ⟨r, hr, ?_⟩
    rw [hQ] at h1
    rw [h3, h2]
    exact h1

end
section
/-! the class: start, call, replay, by the abstract state -/
theorem hd_fa {k : Nat} {M N : mm_} {C : List cq2_} (hk : kcX_ k) (h2 : N.2 = M.2) (h : ∀ a i, faX_ a i → N.1 a i = M.1 a i) (g : hd_ k M C) : hd_ k N C := by
  unfold kcX_ at hk
  exact hd_cg (fun a i z1 z2 => h a i (by unfold faX_; omega)) (fun i => by rw [h2]) g
theorem JX_fa {E : se_} {J : Nat → Nat} {c : Nat} {s s2 : sgA_} {M N : mm_} (hJ : ∀ j, j < 8 → J j < 9) (h2 : N.2 = M.2) (h : ∀ a i, faX_ a i → N.1 a i = M.1 a i) (hs : KM_ s s2) (g : JX_ E J c s M) : JX_ E J c s2 N := by
  intro j hj h0
  have hs2 : s2.1 j = s.1 j := (hs j hj).resolve_right h0
  rw [hs2] at h0 ⊢
  have hJj := hJ j hj
  obtain ⟨a1, a2, a3⟩ := g j hj h0
  have e : ∀ i, ¬ i = 0 → ¬ i = 7 → N.1 (135 + 12 * J j) i = M.1 (135 + 12 * J j) i := fun i z1 z2 => h _ i (by unfold faX_; omega)
  have xc : ∀ k e, kcX_ k → XCo_ k e M → XCo_ k e N := fun k e hk g => ⟨g.1, g.2.1, g.2.2.1, hd_fa hk h2 h g.2.2.2.1, g.2.2.2.2⟩
  refine ⟨a1, fun m hm => by rw [e 9 (by omega) (by omega)]; exact a2 m hm, fun h1 => ?_⟩
  obtain ⟨b1, b2, b3, b4, b5⟩ := a3 h1
  refine ⟨by rw [e 1 (by omega) (by omega)]; exact b1, by rw [e 6 (by omega) (by omega)]; exact b2, xc _ _ (kcX_e hJj) b3, fun z => by rw [e 5 (by omega) (by omega)]; exact b4 z, fun e2 z => ?_⟩
  obtain ⟨c1, c2⟩ := b5 e2 z
  exact ⟨by rw [e 5 (by omega) (by omega)]; exact c1, xc _ _ (kcX_c hJj) c2⟩
theorem iv_all {E : se_} {m : Nat} {P : Nat → Int32} {s : sgA_} (h : iv2_ s = 0) : ivT_ E 1 m P s = inA_ E 10 m P s := by
  unfold ivT_
  rw [if_neg (by decide), if_neg (show ¬ 1000 ≤ s.2.2.2.2.2 from by rw [show s.2.2.2.2.2 = 0 from h]; decide)]
/-- what a call leaves in the class -/
def CLQ_ (J : Nat → Nat) (M : mm_) (o : io2_) (q : Int32) (N : mm_) : Prop := N.2 = M.2 ∧ (∀ a i, faX_ a i → N.1 a i = M.1 a i) ∧ zoX_ (N.1 247 10) ∧ DX_ J o.2 N ∧ match o.1 with
  | .inl v => q = 0 ∧ N.1 247 0 = v
  | .inr x => q = 1 ∧ N.1 247 0 = x.2 ∧ (x.1 = 1 ∨ x.1 = 2)
theorem c4_startT (G : gg_) (hG : gd_ G) (e : Nat) (M : mm_) (E : se_) (J : Nat → Nat) (S c m : Nat) (P : Nat → Int32) (s : sgA_) (z : Int32) (hz : zoX_ z) (hS : SX_ E J S c (sI_ M 247 9 z)) (hm : m < c) (hiv : iv2_ s = 0) (hD : DX_ J s (sI_ M 247 1 0)) (hX : JX_ E J c s M) (hP : ∀ i, i < 3 → M.1 250 i = P i) (h10 : zoX_ (M.1 247 10)) : cm_ G yX4_start cX4_start 3 (some .int) (e + 61) [.ref (G.1 247), .int (nI m), .int z] M (rI_ (CLQ_ J M (inA_ E 10 m P s))) := by
  have hJ : ∀ j, j < 8 → J j < 9 := fun j hj => (hS.2.2.2.1.1 j hj).1
  obtain ⟨A, hA⟩ : ∃ A, sI_ (sI_ (sI_ (sI_ M 247 9 z) 247 1 0) 247 12 0) 247 8 0 = A := ⟨_, rfl⟩
  have aF : XF_ 0 0 (sI_ M 247 9 z) A := by rw [← hA]; exact XF_247 (by omega) (by omega) (XF_247 (by omega) (by omega) (XF_247 (by omega) (by omega) XF_rf))
  have ao : ∀ a i, ¬ (a = 247 ∧ (i = 9 ∨ i = 1 ∨ i = 12 ∨ i = 8)) → A.1 a i = M.1 a i := fun a i h => by rw [← hA, gI_sI, if_neg (by omega), gI_sI, if_neg (by omega), gI_sI, if_neg (by omega), gI_sI, if_neg (by omega)]
  have a2 : A.2 = M.2 := by rw [← hA]; rfl
  have sA : SX_ E J S c A := SX_cg aF hS
  have dA : DX_ J s A := DX_cg hJ (fun a i h => by rw [← hA, gI_sI, if_neg (by omega), gI_sI, if_neg (by omega), gI_sI, gI_sI, gI_sI]; by_cases h1 : a = 247 ∧ i = 1; (rw [if_pos h1, if_pos h1]); (rw [if_neg h1, if_neg h1, if_neg (by omega)])) hD
  have xA : JX_ E J c s A := JX_fa hJ a2 (fun a i h => ao a i (by unfold faX_ at h; omega)) (KM_rf s) hX
  have hit := IT_all G hG E J S c 10 1 (by decide) (by decide) e A m 0 P s sA hm (by rw [← hA, gI_sI, if_pos ⟨rfl, rfl⟩]; rfl) (by omega) (by rw [ao _ _ (by omega)]; exact h10) (by rw [← hA, gI_sI, if_neg (by omega), gI_sI, if_pos ⟨rfl, rfl⟩]) dA xA (fun i hi => by rw [ao _ _ (by omega)]; exact hP i hi)
  rw [iv_all hiv] at hit
  refine cm_post (c4_startE G hG (e + 54) M m z hz _ (by rw [hA]; exact hit)) (fun v N h => ?_)
  obtain ⟨q, hv, v0, N0, ⟨i1, i2, i3⟩, hN, hq⟩ := h
  refine ⟨q, hv, ?_⟩
  subst hN
  refine ⟨i1.1.trans a2, fun a i h => ?_, ?_, ?_⟩
  · rw [gI_sI, if_neg (by unfold faX_ at h; omega), i1.2.1 a i h, ao a i (by unfold faX_ at h; omega)]
  · rw [gI_sI, if_neg (by omega)]
    generalize inA_ E 10 m P s = o at i3
    obtain ⟨o, s2⟩ := o
    cases o with
    | inl x => exact Or.inl i3.2.1
    | inr x => exact Or.inr i3.2.1
  · generalize inA_ E 10 m P s = o at i3
    obtain ⟨o, s2⟩ := o
    cases o with
    | inl x => exact ⟨DX_m hJ (by omega) (by omega) i3.2.2.2, by rw [hq, if_pos i3.2.1], by rw [gI_sI, if_pos ⟨rfl, rfl⟩]; exact i3.1⟩
    | inr x => exact ⟨DX_m hJ (by omega) (by omega) i3.2.2.2.1, by rw [hq, if_neg (by rw [i3.2.1]; decide)], by rw [gI_sI, if_pos ⟨rfl, rfl⟩]; exact i3.1, i3.2.2.2.2⟩
set_option maxRecDepth 100000 in
set_option maxHeartbeats 600000 in
theorem c11_callE (G : gg_) (hG : gd_ G) (d : Nat) (M : mm_) (c : Nat) (hc : mt_ M c) (hv : vq_ M) (m x y w : Int32) (QC : Int32 → mm_ → Prop) (hst : ∀ m2, m2 < c → m = nI m2 → cm_ G yX4_start cX4_start 3 (some .int) (d + 62) [.ref (G.1 247), .int (nI m2), .int 1] (sp1_ M (poX_ (kf_ M c (nI m2))) x y w) (rI_ QC)) : cmx_ G yX11_call cX11_call 5 (some .int) (d + 63) [.ref (G.1 34), .int m, .int x, .int y, .int w] M (rI_ (fun r N => (∃ m2, m2 < c ∧ m = nI m2) ∧ QC r N)) (fun E => E = "java/lang/IndexOutOfBoundsException" ∧ mH_ c m = 0) := by
  refine cmx_of hG (by decide) (Nat.le_of_ble_eq_true rfl) (fun C X Z => ?_)
  refine w_aload_n X dX11_call_0 rfl rfl ?_
  refine g11_37 X dX11_call_1 s_34 rfl ?_
  refine w_iload_n X dX11_call_4 rfl rfl ?_
  refine w_v1fI X dX11_call_5 k11_135 rfl s_45 (c5_has G hG _ _ c hc _) (Nat.le_of_ble_eq_true rfl) ?_
  refine w_if_ne (tgt := 19) X dX11_call_8 (by decide) (fun h8 => ?_) (fun h8 => ?_)
  · obtain ⟨m2, hm2, em⟩ := ix_ (n := c) (by have := hc.1; omega) (Int32.not_lt.mpr (mH_1 h8).1) (Int32.not_le.mpr (mH_1 h8).2)
    have hs2 := hst m2 hm2 em
    subst em
    refine w_aload_n X dX11_call_19 rfl rfl ?_
    refine g11_65 X dX11_call_20 s_34 rfl ?_
    refine w_aload_n X dX11_call_23 rfl rfl ?_
    refine g11_37 X dX11_call_24 s_34 rfl ?_
    refine w_iload_n X dX11_call_27 rfl rfl ?_
    refine w_v1fI X dX11_call_28 k11_142 rfl s_45 (c5_parametersOf G hG _ _ c hc _) (Nat.le_of_ble_eq_true rfl) ?_
    refine w_iload_n X dX11_call_31 rfl rfl ?_
    refine w_iload_n X dX11_call_32 rfl rfl ?_
    refine w_iload X dX11_call_33 rfl ?_
    refine w_v4fV X dX11_call_35 k11_145 rfl s_247 (c4_setParameters G hG _ _ hv _ _ _ _) (Nat.le_of_ble_eq_true rfl) ?_
    refine w_aload_n X dX11_call_38 rfl rfl ?_
    refine g11_65 X dX11_call_39 s_34 rfl ?_
    refine w_iload_n X dX11_call_42 rfl rfl ?_
    refine w_iconst (v := 1) X dX11_call_43 (by decide) ?_
    refine w_v2rI X dX11_call_44 k11_149 rfl s_247 (hs2) (Nat.le_of_ble_eq_true rfl) (fun r44 N44 h44 => ?_)
    exact w_irX X Z dX11_call_47 ⟨_, rfl, ⟨m2, hm2, rfl⟩, h44⟩
  · exact w_throwI X Z (by omega) dX11_call_11 dX11_call_14 dX11_call_15 dX11_call_18 (⟨rfl, h8⟩)
set_option maxRecDepth 100000 in
set_option maxHeartbeats 600000 in
theorem c11_replayE (G : gg_) (hG : gd_ G) (d : Nat) (M : mm_) (c : Nat) (hc : mt_ M c) (hv : vq_ M) (z : Nat) (hz : z ≤ 40) (k3 : M.1 245 1 = 7) (k5 : M.1 245 3 = nI z) (i : Int32) (QC : Int32 → mm_ → Prop) (hst : ∀ i2, i2 < z → i = nI i2 → ∃ m2, M.1 246 (7 * i2 + 1) = nI m2 ∧ cm_ G yX4_start cX4_start 3 (some .int) (d + 62) [.ref (G.1 247), .int (nI m2), .int 0] (sp1_ M (poX_ (kf_ M c (nI m2))) (M.1 246 (7 * i2 + 2)) (M.1 246 (7 * i2 + 3)) (M.1 246 (7 * i2 + 4))) (rI_ QC)) : cmx_ G yX11_replay cX11_replay 3 (some .int) (d + 63) [.ref (G.1 34), .int i] M (rI_ (fun r N => (∃ i2, i2 < z ∧ i = nI i2) ∧ QC r N)) (fun E => E = "java/lang/IndexOutOfBoundsException" ∧ rH_ M 245 i = 0) := by
  refine cmx_of hG (by decide) (Nat.le_of_ble_eq_true rfl) (fun C X Z => ?_)
  refine w_aload_n X dX11_replay_0 rfl rfl ?_
  refine g11_57 X dX11_replay_1 s_34 rfl ?_
  refine w_iload_n X dX11_replay_4 rfl rfl ?_
  refine w_v1fI X dX11_replay_5 k11_162 rfl s_245 (c8_has G hG _ _ 245 280 rw_kept _) (Nat.le_of_ble_eq_true rfl) ?_
  refine w_if_ne (tgt := 19) X dX11_replay_8 (by decide) (fun h8 => ?_) (fun h8 => ?_)
  · obtain ⟨i2, hi2, ei⟩ := rH_in k5 (by omega) h8
    obtain ⟨m2, em, hs2⟩ := hst i2 hi2 ei
    have r1 : rC_ M 245 280 (nI i2) 1 = nI m2 := (rC_at (j := 1) k3 (by omega) (by decide)).trans em
    have r2 : rC_ M 245 280 (nI i2) 2 = M.1 246 (7 * i2 + 2) := rC_at (j := 2) k3 (by omega) (by decide)
    have r3 : rC_ M 245 280 (nI i2) 3 = M.1 246 (7 * i2 + 3) := rC_at (j := 3) k3 (by omega) (by decide)
    have r4 : rC_ M 245 280 (nI i2) 4 = M.1 246 (7 * i2 + 4) := rC_at (j := 4) k3 (by omega) (by decide)
    subst ei
    refine w_aload_n X dX11_replay_19 rfl rfl ?_
    refine g11_57 X dX11_replay_20 s_34 rfl ?_
    refine w_iload_n X dX11_replay_23 rfl rfl ?_
    refine w_iconst (v := 1) X dX11_replay_24 (by decide) ?_
    refine w_v2fI X dX11_replay_25 k11_163 rfl s_245 (c8_cell G hG _ _ 245 280 rw_kept _ _) (Nat.le_of_ble_eq_true rfl) ?_
    rw [r1]
    refine w_istore_n X dX11_replay_28 rfl (by decide) ?_
    refine w_aload_n X dX11_replay_29 rfl rfl ?_
    refine g11_65 X dX11_replay_30 s_34 rfl ?_
    refine w_aload_n X dX11_replay_33 rfl rfl ?_
    refine g11_37 X dX11_replay_34 s_34 rfl ?_
    refine w_iload_n X dX11_replay_37 rfl rfl ?_
    refine w_v1fI X dX11_replay_38 k11_142 rfl s_45 (c5_parametersOf G hG _ _ c hc _) (Nat.le_of_ble_eq_true rfl) ?_
    refine w_aload_n X dX11_replay_41 rfl rfl ?_
    refine g11_57 X dX11_replay_42 s_34 rfl ?_
    refine w_iload_n X dX11_replay_45 rfl rfl ?_
    refine w_iconst (v := 2) X dX11_replay_46 (by decide) ?_
    refine w_v2fI X dX11_replay_47 k11_163 rfl s_245 (c8_cell G hG _ _ 245 280 rw_kept _ _) (Nat.le_of_ble_eq_true rfl) ?_
    refine w_aload_n X dX11_replay_50 rfl rfl ?_
    refine g11_57 X dX11_replay_51 s_34 rfl ?_
    refine w_iload_n X dX11_replay_54 rfl rfl ?_
    refine w_iconst (v := 3) X dX11_replay_55 (by decide) ?_
    refine w_v2fI X dX11_replay_56 k11_163 rfl s_245 (c8_cell G hG _ _ 245 280 rw_kept _ _) (Nat.le_of_ble_eq_true rfl) ?_
    refine w_aload_n X dX11_replay_59 rfl rfl ?_
    refine g11_57 X dX11_replay_60 s_34 rfl ?_
    refine w_iload_n X dX11_replay_63 rfl rfl ?_
    refine w_iconst (v := 4) X dX11_replay_64 (by decide) ?_
    refine w_v2fI X dX11_replay_65 k11_163 rfl s_245 (c8_cell G hG _ _ 245 280 rw_kept _ _) (Nat.le_of_ble_eq_true rfl) ?_
    refine w_v4fV X dX11_replay_68 k11_145 rfl s_247 (c4_setParameters G hG _ _ hv _ _ _ _) (Nat.le_of_ble_eq_true rfl) ?_
    rw [r2, r3, r4]
    refine w_aload_n X dX11_replay_71 rfl rfl ?_
    refine g11_65 X dX11_replay_72 s_34 rfl ?_
    refine w_iload_n X dX11_replay_75 rfl rfl ?_
    refine w_iconst (v := 0) X dX11_replay_76 (by decide) ?_
    refine w_v2rI X dX11_replay_77 k11_149 rfl s_247 (hs2) (Nat.le_of_ble_eq_true rfl) (fun r77 N77 h77 => ?_)
    exact w_irX X Z dX11_replay_80 ⟨_, rfl, ⟨i2, hi2, rfl⟩, h77⟩
  · exact w_throwI X Z (by omega) dX11_replay_11 dX11_replay_14 dX11_replay_15 dX11_replay_18 (⟨rfl, h8⟩)

end
section
/-! words of commands: the two programs know the same -/
theorem nc_inj {c e : Int32} (h : io_ c = 1) (g : io_ e = 1) (q : nc_ c = nc_ e) : c = e := by
  have ub : ∀ x : Int32, io_ x = 1 → ¬ x = 46 → ¬ x - 96 = 27 := fun x hx h46 y => by
    have e2 : x = 123 := by
      have := congrArg (fun w : Int32 => w + 96) y
      simp only [Int32.sub_add_cancel] at this
      exact this
    rw [e2] at hx
    exact absurd hx (by decide)
  unfold nc_ at q
  by_cases a : c = 46
  · by_cases b : e = 46
    · rw [a, b]
    · rw [if_pos a, if_neg b] at q
      exact absurd q.symm (ub e g b)
  · by_cases b : e = 46
    · rw [if_neg a, if_pos b] at q
      exact absurd q (ub c h a)
    · rw [if_neg a, if_neg b] at q
      have := congrArg (fun w : Int32 => w + 96) q
      simp only [Int32.sub_add_cancel] at this
      exact this
theorem BE_inj {f g : Nat → Int32} {k l : Nat} : ∀ z, ry_ f k z → ry_ g l z → BE_ f k z = BE_ g l z → ∀ j, j < z → f (k + j) = g (l + j)
  | 0, _, _, _, j, hj => by omega
  | z + 1, h1, h2, e, j, hj => by
    obtain ⟨a1, -, a2, a3⟩ := nc_io (h1 z (by omega))
    obtain ⟨b1, -, b2, b3⟩ := nc_io (h2 z (by omega))
    rw [BE_, BE_] at e
    have ed : dN_ (f (k + z)) = dN_ (g (l + z)) := by omega
    have eb : BE_ f k z = BE_ g l z := by omega
    by_cases hz : j = z
    · subst hz
      exact nc_inj (h1 j (by omega)) (h2 j (by omega)) (by rw [a1, b1, ed])
    · exact BE_inj z (fun x hx => h1 x (by omega)) (fun x hx => h2 x (by omega)) eb j (by omega)
theorem nm_inj {f g : Nat → Int32} {k l z : Nat} (hz : z ≤ 12) (h1 : ry_ f k z) (h2 : ry_ g l z) (e : nm_ f k z = nm_ g l z) : ∀ j, j < z → f (k + j) = g (l + j) := by
  rw [nm_BE z hz h1, nm_BE z hz h2] at e
  have b1 : BE_ f k z < 2 ^ 60 := Nat.lt_of_lt_of_le (BE_lt z h1) (p32_le hz)
  have b2 : BE_ g l z < 2 ^ 60 := Nat.lt_of_lt_of_le (BE_lt z h2) (p32_le hz)
  have e2 := congrArg (fun x : Int64 => x.toBitVec.toNat) e
  rw [tbl_ (by omega), tbl_ (by omega)] at e2
  exact BE_inj z h1 h2 e2
theorem nm_cg {f g : Nat → Int32} {k l : Nat} : ∀ z, (∀ j, j < z → f (k + j) = g (l + j)) → nm_ f k z = nm_ g l z
  | 0, _ => rfl
  | z + 1, h => by rw [nm_, nm_, nm_cg z (fun j hj => h j (by omega)), h z (by omega)]
theorem rn_eq {f : Nat → Int32} : ∀ (L u k : Nat), L ≤ u → ry_ f k L → (L < u → io_ (f (k + L)) = 0) → rn_ f u k = L
  | 0, 0, _, _, _, _ => rfl
  | 0, u + 1, k, _, _, h => by
    have := h (by omega)
    rw [rn_, if_neg (fun y => by rw [Nat.add_zero] at this; rw [this] at y; exact absurd y (by decide))]
  | L + 1, 0, _, hu, _, _ => by omega
  | L + 1, u + 1, k, hu, hr, h => by
    have h0 := hr 0 (by omega)
    rw [Nat.add_zero] at h0
    rw [rn_, if_pos h0, rn_eq L u (k + 1) (by omega) (ry_cons hr) (fun y => by rw [show k + 1 + L = k + (L + 1) by omega]; exact h (by omega))]
theorem sk_T {T : Int32 → Int32} {f : Nat → Int32} {n : Nat} (h : TF_ T f n) : ∀ u2 u1 k, u2 ≤ u1 → k + u2 = n → skP_ T u1 k = sk_ f u2 k
  | 0, 0, k, _, _ => rfl
  | 0, u1 + 1, k, _, e => by
    rw [skP_, sk_, h.2.1 k (by have := h.1; omega), h.2.2.1 k (by omega), if_pos (by decide)]
  | u2 + 1, 0, k, hu, _ => by omega
  | u2 + 1, u1 + 1, k, hu, e => by
    have hn := h.1
    rw [skP_, sk_, h.2.1 k (by omega), sk_T h u2 u1 (k + 1) (by omega) (by omega)]
    have h0 := h.2.2.2 k (by omega)
    by_cases q : f k ≤ 32
    · rw [if_pos q, if_neg (fun y : bl_ (f k) = 0 => by unfold bl_ at y; rw [if_pos ⟨h0, q⟩] at y; exact absurd y (by decide))]
    · rw [if_neg q, if_pos (show bl_ (f k) = 0 by unfold bl_; rw [if_neg (fun y => q y.2)])]
theorem sp_T {T : Int32 → Int32} {M : mm_} {n k : Nat} (h : TF_ T (bf_ M n) n) (hk : k ≤ n) : skP_ T 200 k = sp_ M n k := sk_T h (n - k) 200 k (by have := h.1; omega) (by omega)
theorem tkl_iff {T : Int32 → Int32} {i : Nat} {p : Int32} : ∀ u j, tklT_ T i p u j = true ↔ ∀ x, j ≤ x → x < j + u → T (p + nI x) = sC_ i x
  | 0, j => ⟨fun _ x h1 h2 => by omega, fun _ => rfl⟩
  | u + 1, j => by
    rw [tklT_]
    by_cases q : T (p + nI j) = sC_ i j
    · rw [if_pos q, tkl_iff u (j + 1)]
      refine ⟨fun h x h1 h2 => ?_, fun h x h1 h2 => h x (by omega) (by omega)⟩
      by_cases e : x = j
      · rw [e]; exact q
      · exact h x (by omega) (by omega)
    · rw [if_neg q]
      exact ⟨fun y => absurd y (by decide), fun h => absurd (h j (by omega) (by omega)) q⟩
section WRD
variable {T : Int32 → Int32} {M : mm_} {n : Nat}
theorem io_32 {c : Int32} (h : c ≤ 32) : io_ c = 0 := by
  rcases io_01 c with z | z
  · exact z
  · exfalso
    unfold io_ il_ at z
    by_cases q : (if 97 ≤ c ∧ c ≤ 122 then (1 : Int32) else 0) = 1 ∨ c = 46
    · rcases q with q | q
      · by_cases q2 : 97 ≤ c ∧ c ≤ 122
        · exact absurd (Int32.le_trans q2.1 h) (by decide)
        · rw [if_neg q2] at q; exact absurd q (by decide)
      · rw [q] at h; exact absurd h (by decide)
    · rw [if_neg q] at z; exact absurd z (by decide)
theorem wd_T (h : TF_ T (bf_ M n) n) {i p L : Nat} {W : Int64} (hp : p ≤ n) (hL : sLen_.getD i 0 = L) (hL8 : 1 ≤ L ∧ L ≤ 8) (hry : ry_ (sC_ i) 0 L) (hW : nm_ (sC_ i) 0 L = W) : tkwT_ T i p = true ↔ (rz_ M n p = L ∧ rv_ (bf_ M n) p (rz_ M n p) = W ∧ bf_ M n (p + rz_ M n p) ≤ 32) := by
  have hn := h.1
  have tx : ∀ x, x ≤ 8 → T (nI p + nI x) = bf_ M n (p + x) := fun x hx => by rw [nI_add]; exact h.2.1 _ (by omega)
  have m1 : ∀ k, -1 ≤ bf_ M n k := fun k => by
    rcases Nat.lt_or_ge k n with z | z
    · exact Int32.le_trans (by decide) (h.2.2.2 k z)
    · rw [h.2.2.1 k z]; decide
  unfold tkwT_
  rw [hL, Bool.and_eq_true, tkl_iff, Bool.or_eq_true, decide_eq_true_iff, Bool.not_eq_true', decide_eq_false_iff_not, tx L (by omega)]
  have tail : (bf_ M n (p + L) = -1 ∨ ¬ bl_ (bf_ M n (p + L)) = 0) ↔ bf_ M n (p + L) ≤ 32 := by
    have m := m1 (p + L)
    generalize bf_ M n (p + L) = c at m
    unfold bl_
    by_cases q : 0 ≤ c ∧ c ≤ 32
    · rw [if_pos q]; exact ⟨fun _ => q.2, fun _ => Or.inr (by decide)⟩
    · rw [if_neg q]
      refine ⟨fun y => y.elim (fun y => by rw [y]; decide) (fun y => absurd rfl y), fun y => Or.inl ?_⟩
      have hc : ¬ 0 ≤ c := fun z => q ⟨z, y⟩
      have hc2 : c < 0 := Int32.not_le.mp hc
      apply Int32.toInt_inj.mp
      rw [Int32.lt_iff_toInt_lt] at hc2
      rw [Int32.le_iff_toInt_le] at m
      have e1 : (-1 : Int32).toInt = -1 := by decide
      have e0 : (0 : Int32).toInt = 0 := by decide
      rw [e1] at m ⊢
      rw [e0] at hc2
      omega
  rw [tail]
  constructor
  · rintro ⟨h1, h2⟩
    have hx : ∀ x, x < L → bf_ M n (p + x) = sC_ i x := fun x hx => (tx x (by omega)).symm.trans (h1 x (by omega) (by omega))
    have hr : ry_ (bf_ M n) p L := fun x hx2 => by rw [hx x hx2]; have := hry x hx2; rw [Nat.zero_add] at this; exact this
    have hpn : p + L ≤ n := by
      rcases Nat.lt_or_ge n (p + L) with z | z
      · have := hr (L - 1) (by omega)
        rw [h.2.2.1 (p + (L - 1)) (by omega)] at this
        exact absurd this (by decide)
      · exact z
    have hz : rz_ M n p = L := rn_eq L (n - p) p (by omega) hr (fun _ => io_32 h2)
    rw [hz]
    refine ⟨rfl, ?_, h2⟩
    unfold rv_
    rw [if_neg (by omega), ← hW]
    exact nm_cg L (fun j hj => by rw [hx j hj, Nat.zero_add])
  · rintro ⟨hz, h2, h3⟩
    rw [hz] at h2 h3
    have hr := (srT_rz h hp).2
    rw [hz] at hr
    unfold rv_ at h2
    rw [if_neg (by omega), ← hW] at h2
    have := nm_inj (by omega) hr hry h2
    exact ⟨fun x h4 h5 => by rw [tx x (by omega), this x (by omega), Nat.zero_add], h3⟩
theorem wd1 (h : TF_ T (bf_ M n) n) {p : Nat} (hp : p ≤ n) : tkwT_ T 1 p = true ↔ (rz_ M n p = 5 ∧ rv_ (bf_ M n) p (rz_ M n p) = w2_ 0 23 1 20 10 0 0 3 8 ∧ bf_ M n (p + rz_ M n p) ≤ 32) := wd_T h hp rfl (by decide) (by unfold ry_; decide +kernel) (by decide +kernel)
theorem wd2 (h : TF_ T (bf_ M n) n) {p : Nat} (hp : p ≤ n) : tkwT_ T 2 p = true ↔ (rz_ M n p = 7 ∧ rv_ (bf_ M n) p (rz_ M n p) = w2_ 13 15 14 9 15 0 20 15 18 ∧ bf_ M n (p + rz_ M n p) ≤ 32) := wd_T h hp rfl (by decide) (by unfold ry_; decide +kernel) (by decide +kernel)
theorem wd3 (h : TF_ T (bf_ M n) n) {p : Nat} (hp : p ≤ n) : tkwT_ T 3 p = true ↔ (rz_ M n p = 4 ∧ rv_ (bf_ M n) p (rz_ M n p) = wdR_ 11 5 5 16 ∧ bf_ M n (p + rz_ M n p) ≤ 32) := wd_T h hp rfl (by decide) (by unfold ry_; decide +kernel) (by decide +kernel)
theorem wd4 (h : TF_ T (bf_ M n) n) {p : Nat} (hp : p ≤ n) : tkwT_ T 4 p = true ↔ (rz_ M n p = 4 ∧ rv_ (bf_ M n) p (rz_ M n p) = wdR_ 11 9 12 12 ∧ bf_ M n (p + rz_ M n p) ≤ 32) := wd_T h hp rfl (by decide) (by unfold ry_; decide +kernel) (by decide +kernel)
theorem wd5 (h : TF_ T (bf_ M n) n) {p : Nat} (hp : p ≤ n) : tkwT_ T 5 p = true ↔ (rz_ M n p = 5 ∧ rv_ (bf_ M n) p (rz_ M n p) = w2_ 0 18 5 19 10 0 0 5 20 ∧ bf_ M n (p + rz_ M n p) ≤ 32) := wd_T h hp rfl (by decide) (by unfold ry_; decide +kernel) (by decide +kernel)
theorem wd6 (h : TF_ T (bf_ M n) n) {p : Nat} (hp : p ≤ n) : tkwT_ T 6 p = true ↔ (rz_ M n p = 5 ∧ rv_ (bf_ M n) p (rz_ M n p) = w2_ 0 5 14 20 10 0 0 5 18 ∧ bf_ M n (p + rz_ M n p) ≤ 32) := wd_T h hp rfl (by decide) (by unfold ry_; decide +kernel) (by decide +kernel)
theorem wd7 (h : TF_ T (bf_ M n) n) {p : Nat} (hp : p ≤ n) : tkwT_ T 7 p = true ↔ (rz_ M n p = 6 ∧ rv_ (bf_ M n) p (rz_ M n p) = w2_ 18 5 20 21 10 0 0 18 14 ∧ bf_ M n (p + rz_ M n p) ≤ 32) := wd_T h hp rfl (by decide) (by unfold ry_; decide +kernel) (by decide +kernel)
theorem wd8 (h : TF_ T (bf_ M n) n) {p : Nat} (hp : p ≤ n) : tkwT_ T 8 p = true ↔ (rz_ M n p = 5 ∧ rv_ (bf_ M n) p (rz_ M n p) = w2_ 0 20 8 18 10 0 0 15 23 ∧ bf_ M n (p + rz_ M n p) ≤ 32) := wd_T h hp rfl (by decide) (by unfold ry_; decide +kernel) (by decide +kernel)
/-- the command's word -/
theorem vb_T (h : TF_ T (bf_ M n) n) {p : Nat} (hp : p ≤ n) : ((wc_ (rv_ (bf_ M n) p (rz_ M n p)) (rz_ M n p) = 0 ∨ ¬ bf_ M n (p + rz_ M n p) ≤ 32) ∧ vbT_ T p = (5, none)) ∨ (¬ (wc_ (rv_ (bf_ M n) p (rz_ M n p)) (rz_ M n p) = 0 ∨ ¬ bf_ M n (p + rz_ M n p) ≤ 32) ∧ vbT_ T p = (wc_ (rv_ (bf_ M n) p (rz_ M n p)) (rz_ M n p), some (sp_ M n (p + rz_ M n p)))) := by
  have hz := rz_le M n p
  have e := sp_T h (k := p + rz_ M n p) (by omega)
  have g1 := wd1 h hp
  have g2 := wd2 h hp
  have g3 := wd3 h hp
  have g4 := wd4 h hp
  have g5 := wd5 h hp
  unfold vbT_ wc_ tkp_
  generalize rv_ (bf_ M n) p (rz_ M n p) = v at *
  generalize hzz : rz_ M n p = z at *
  by_cases ht : bf_ M n (p + z) ≤ 32
  · have c : ∀ i L W, (tkwT_ T i p = true ↔ (z = L ∧ v = W ∧ bf_ M n (p + z) ≤ 32)) → (tkwT_ T i p = true ↔ (z = L ∧ v = W)) := fun i L W q => q.trans ⟨fun y => ⟨y.1, y.2.1⟩, fun y => ⟨y.1, y.2, ht⟩⟩
    replace g1 := c _ _ _ g1
    replace g2 := c _ _ _ g2
    replace g3 := c _ _ _ g3
    replace g4 := c _ _ _ g4
    replace g5 := c _ _ _ g5
    by_cases q1 : tkwT_ T 1 p = true
    · refine Or.inr ⟨?_, ?_⟩
      · rw [if_pos (g1.mp q1)]; exact fun y => y.elim (fun y => absurd y (by decide)) (fun y => y ht)
      · rw [if_pos q1, if_pos (g1.mp q1), ← e, (g1.mp q1).1]; rfl
    have n1 := fun y => q1 (g1.mpr y)
    rw [if_neg q1, if_neg n1]
    by_cases q2 : tkwT_ T 2 p = true
    · refine Or.inr ⟨?_, ?_⟩
      · rw [if_pos (g2.mp q2)]; exact fun y => y.elim (fun y => absurd y (by decide)) (fun y => y ht)
      · rw [if_pos q2, if_pos (g2.mp q2), ← e, (g2.mp q2).1]; rfl
    have n2 := fun y => q2 (g2.mpr y)
    rw [if_neg q2, if_neg n2]
    by_cases q3 : tkwT_ T 3 p = true
    · refine Or.inr ⟨?_, ?_⟩
      · rw [if_pos (g3.mp q3)]; exact fun y => y.elim (fun y => absurd y (by decide)) (fun y => y ht)
      · rw [if_pos q3, if_pos (g3.mp q3), ← e, (g3.mp q3).1]; rfl
    have n3 := fun y => q3 (g3.mpr y)
    rw [if_neg q3, if_neg n3]
    by_cases q4 : tkwT_ T 4 p = true
    · refine Or.inr ⟨?_, ?_⟩
      · rw [if_pos (g4.mp q4)]; exact fun y => y.elim (fun y => absurd y (by decide)) (fun y => y ht)
      · rw [if_pos q4, if_pos (g4.mp q4), ← e, (g4.mp q4).1]; rfl
    have n4 := fun y => q4 (g4.mpr y)
    rw [if_neg q4, if_neg n4]
    by_cases q5 : tkwT_ T 5 p = true
    · refine Or.inr ⟨?_, ?_⟩
      · rw [if_pos (g5.mp q5)]; exact fun y => y.elim (fun y => absurd y (by decide)) (fun y => y ht)
      · rw [if_pos q5, if_pos (g5.mp q5), ← e, (g5.mp q5).1]; rfl
    have n5 := fun y => q5 (g5.mpr y)
    rw [if_neg q5, if_neg n5]
    exact Or.inl ⟨Or.inl rfl, rfl⟩
  · have c : ∀ i L W, (tkwT_ T i p = true ↔ (z = L ∧ v = W ∧ bf_ M n (p + z) ≤ 32)) → ¬ tkwT_ T i p = true := fun i L W q y => ht (q.mp y).2.2
    rw [if_neg (c _ _ _ g1), if_neg (c _ _ _ g2), if_neg (c _ _ _ g3), if_neg (c _ _ _ g4), if_neg (c _ _ _ g5)]
    exact Or.inl ⟨Or.inr ht, rfl⟩
/-- the point's -/
theorem po_T (h : TF_ T (bf_ M n) n) {p : Nat} (hp : p ≤ n) : ((pt_ (rv_ (bf_ M n) p (rz_ M n p)) (rz_ M n p) < 0 ∨ ¬ bf_ M n (p + rz_ M n p) ≤ 32) ∧ poT_ T p = (2, none)) ∨ (¬ (pt_ (rv_ (bf_ M n) p (rz_ M n p)) (rz_ M n p) < 0 ∨ ¬ bf_ M n (p + rz_ M n p) ≤ 32) ∧ poT_ T p = (pt_ (rv_ (bf_ M n) p (rz_ M n p)) (rz_ M n p), some (sp_ M n (p + rz_ M n p)))) := by
  have hz := rz_le M n p
  have e := sp_T h (k := p + rz_ M n p) (by omega)
  have g6 := wd6 h hp
  have g7 := wd7 h hp
  have g8 := wd8 h hp
  unfold poT_ pt_ pt1_ pt0_ tkp_
  generalize rv_ (bf_ M n) p (rz_ M n p) = v at *
  generalize hzz : rz_ M n p = z at *
  by_cases ht : bf_ M n (p + z) ≤ 32
  · have c : ∀ i L W, (tkwT_ T i p = true ↔ (z = L ∧ v = W ∧ bf_ M n (p + z) ≤ 32)) → (tkwT_ T i p = true ↔ (z = L ∧ v = W)) := fun i L W q => q.trans ⟨fun y => ⟨y.1, y.2.1⟩, fun y => ⟨y.1, y.2, ht⟩⟩
    replace g6 := c _ _ _ g6
    replace g7 := c _ _ _ g7
    replace g8 := c _ _ _ g8
    have w68 : ¬ (w2_ 0 5 14 20 10 0 0 5 18 = w2_ 0 20 8 18 10 0 0 15 23) := by decide +kernel
    by_cases q6 : tkwT_ T 6 p = true
    · obtain ⟨z6, v6⟩ := g6.mp q6
      have n8 : ¬ (z = 5 ∧ v = w2_ 0 20 8 18 10 0 0 15 23) := fun y => w68 (v6.symm.trans y.2)
      have n7 : ¬ (z = 6 ∧ v = w2_ 18 5 20 21 10 0 0 18 14) := fun y => by omega
      rw [if_neg n8, if_neg n7, if_pos (g6.mp q6), if_pos q6]
      exact Or.inr ⟨fun y => y.elim (fun y => absurd y (by decide)) (fun y => y ht), by rw [← e, z6]; rfl⟩
    have n6 := fun y => q6 (g6.mpr y)
    rw [if_neg q6, if_neg n6]
    by_cases q7 : tkwT_ T 7 p = true
    · obtain ⟨z7, v7⟩ := g7.mp q7
      have n8 : ¬ (z = 5 ∧ v = w2_ 0 20 8 18 10 0 0 15 23) := fun y => by omega
      rw [if_neg n8, if_pos (g7.mp q7), if_pos q7]
      exact Or.inr ⟨fun y => y.elim (fun y => absurd y (by decide)) (fun y => y ht), by rw [← e, z7]; rfl⟩
    have n7 := fun y => q7 (g7.mpr y)
    rw [if_neg q7, if_neg n7]
    by_cases q8 : tkwT_ T 8 p = true
    · rw [if_pos q8, if_pos (g8.mp q8)]
      exact Or.inr ⟨fun y => y.elim (fun y => absurd y (by decide)) (fun y => y ht), by rw [← e, (g8.mp q8).1]; rfl⟩
    have n8 := fun y => q8 (g8.mpr y)
    rw [if_neg q8, if_neg n8]
    exact Or.inl ⟨Or.inl (by decide), rfl⟩
  · have c : ∀ i L W, (tkwT_ T i p = true ↔ (z = L ∧ v = W ∧ bf_ M n (p + z) ≤ 32)) → ¬ tkwT_ T i p = true := fun i L W q y => ht (q.mp y).2.2
    rw [if_neg (c _ _ _ g6), if_neg (c _ _ _ g7), if_neg (c _ _ _ g8)]
    exact Or.inl ⟨Or.inr ht, rfl⟩
end WRD
end
section
/-! numbers and patterns of commands -/
section NUM
variable {T : Int32 → Int32} {M : mm_} {n : Nat}
theorem bl_0 {c : Int32} (h0 : 0 ≤ c) : bl_ c = 0 ↔ ¬ c ≤ 32 := by
  unfold bl_
  by_cases q : 0 ≤ c ∧ c ≤ 32
  · rw [if_pos q]; exact ⟨fun y => absurd y (by decide), fun y => absurd q.2 y⟩
  · rw [if_neg q]; exact ⟨fun _ y => q ⟨h0, y⟩, fun _ => rfl⟩
theorem qw_T (h : TF_ T (bf_ M n) n) {k : Nat} (hk : k ≤ n) : qw_ T (some k) = if bf_ M n k ≤ 32 then some (sp_ M n k) else none := by
  have hn := h.1
  have e := sp_T h hk
  unfold qw_
  simp only
  rw [h.2.1 k (by omega), e]
  rcases Nat.lt_or_ge k n with z | z
  · have h0 := h.2.2.2 k z
    rw [if_neg (fun y => by rw [y] at h0; exact absurd h0 (by decide))]
    by_cases q : bf_ M n k ≤ 32
    · rw [if_neg (fun y => (bl_0 h0).mp y q), if_pos q]
    · rw [if_pos ((bl_0 h0).mpr q), if_neg q]
  · rw [h.2.2.1 k z, if_pos rfl, if_pos (by decide)]
    have : k = n := by omega
    unfold sp_
    rw [this, Nat.sub_self]; rfl
def nd_ (a : Nat) : Nat := if a ≤ 999 then a else 999
theorem dw_T {w e : Nat} (hw : w ≤ 999) (he : e ≤ 9) : dw_ (nI w) (nI (48 + e)) = nI (nd_ (w * 10 + e)) := by
  have e1 : nI w * 10 + nI (48 + e) - 48 = nI (w * 10 + e) := by
    rw [show (10 : Int32) = nI 10 from rfl, show (48 : Int32) = nI 48 from rfl, pk_mul, nI_add, pk_sub (by omega)]
    congr 1
    omega
  unfold dw_ nd_
  rw [e1]
  by_cases q : w * 10 + e ≤ 999
  · rw [if_pos (show nI (w * 10 + e) ≤ (999 : Int32) from nI_le (a := w * 10 + e) (b := 999) q (by decide)), if_pos q]
  · rw [if_neg (show ¬ nI (w * 10 + e) ≤ (999 : Int32) from fun y => q ((nI_leI (a := w * 10 + e) (b := 999) (by omega) (by decide)).mp y)), if_neg q]; rfl
theorem nuP_dv {f : Nat → Int32} (h : TF_ T f n) : ∀ (u2 u1 k a : Nat), u2 ≤ u1 → n ≤ k + u2 → k ≤ 1000 - u2 → u2 ≤ 200 → a ≤ 1099511627776 → ∃ a2, nuP_ T u1 k (lN a) = ((dv_ f u2 k (nI (nd_ a))).1, lN a2) ∧ (dv_ f u2 k (nI (nd_ a))).2 = nI (nd_ a2) ∧ a2 ≤ 1099511627776
  | 0, u1, k, a, hu, hn, hk, h2, ha => by
    refine ⟨a, ?_, rfl, ha⟩
    cases u1 with
    | zero => rfl
    | succ u1 =>
      rw [nuP_, if_pos]
      · rfl
      · rw [h.2.1 k (by omega), h.2.2.1 k (by omega)]; decide
  | u2 + 1, u1, k, a, hu, hn, hk, h2, ha => by
    obtain ⟨u1, rfl⟩ : ∃ v, u1 = v + 1 := ⟨u1 - 1, by omega⟩
    rw [nuP_, dv_, h.2.1 k (by omega), fg_ig]
    rcases ig_01 (f k) with z | z
    · rw [if_pos z, if_neg (by rw [z]; decide)]
      exact ⟨a, rfl, rfl, ha⟩
    · rw [if_neg (by rw [z]; decide), if_pos z]
      obtain ⟨e, he, hc⟩ := ig_dg z
      have hnd : nd_ a ≤ 999 := by unfold nd_; split <;> omega
      rw [hc, dw_T hnd he]
      have e1 : lN a * 10 + (nI (48 + e)).toInt64 - 48 = lN (a * 10 + e) := by
        rw [show (10 : Int64) = lN 10 from rfl, show (48 : Int64) = lN 48 from rfl, lN_mul, nI_l (by omega), lN_add, lN_sub (by omega)]
        congr 1
        omega
      have e2 : mn_ (lN (a * 10 + e)) 1099511627776 = lN (if 1099511627776 < a * 10 + e then 1099511627776 else a * 10 + e) := by
        unfold mn_
        rw [show (1099511627776 : Int64) = lN 1099511627776 from rfl]
        by_cases q : 1099511627776 < a * 10 + e
        · rw [if_pos ((lN_lt2 (by omega) (by omega)).mpr q), if_pos q]
        · rw [if_neg (fun y => q ((lN_lt2 (by omega) (by omega)).mp y)), if_neg q]
      rw [e1, e2]
      have e3 : nd_ (nd_ a * 10 + e) = nd_ (if 1099511627776 < a * 10 + e then 1099511627776 else a * 10 + e) := by
        unfold nd_
        by_cases y1 : a ≤ 999
        · rw [if_pos y1, if_neg (show ¬ 1099511627776 < a * 10 + e by omega)]
        · rw [if_neg y1, if_neg (show ¬ 999 * 10 + e ≤ 999 by omega)]
          split
          · rw [if_neg (by omega)]
          · rw [if_neg (by omega)]
      rw [e3]
      exact nuP_dv h u2 u1 (k + 1) _ (by omega) (by omega) (by omega) (by omega) (by split <;> omega)
theorem lN_99 {a : Nat} (ha : a ≤ 1099511627776) : (lN a ≤ 99 ↔ a ≤ 99) := by
  rw [show (99 : Int64) = lN 99 from rfl]
  exact lN_le2 (by omega) (by omega)
theorem lN_i99 : ∀ a, a ≤ 99 → (lN a).toInt32 = nI a := by decide +kernel
/-- a number, least or more: the value and what stands behind it -/
theorem nu_T (h : TF_ T (bf_ M n) n) {s : Nat} (hs : s ≤ n) : ∃ a k, nuP_ T 200 s 0 = (k, lN a) ∧ a ≤ 1099511627776 ∧ k ≤ n ∧ dv_ (bf_ M n) (n - s) s 0 = (k, nI (nd_ a)) := by
  have hn := h.1
  obtain ⟨a, e1, e2, e3⟩ := nuP_dv h (n - s) 200 s 0 (by omega) (by omega) (by omega) (by omega) (by omega)
  have hd := dv_le (bf_ M n) (n - s) s (nI (nd_ 0))
  refine ⟨a, (dv_ (bf_ M n) (n - s) s (nI (nd_ 0))).1, e1, e3, by omega, ?_⟩
  show dv_ (bf_ M n) (n - s) s (nI (nd_ 0)) = _
  rw [← e2]
theorem lm_T (h : TF_ T (bf_ M n) n) {s : Nat} (hs : s ≤ n) : (∃ q, sm_ M n s 1 = .inr q ∧ qw_ T (lmT_ T (some s)).2 = none) ∨ (∃ l k, sm_ M n s 1 = .inl (nI l, k) ∧ 1 ≤ l ∧ l ≤ 99 ∧ k ≤ n ∧ (lmT_ T (some s)).1 = nI l ∧ qw_ T (lmT_ T (some s)).2 = some (sp_ M n k)) := by
  have hn := h.1
  obtain ⟨a, k, e1, ha, hk, e2⟩ := nu_T h hs
  have l1 : lmT_ T (some s) = if ig_ (bf_ M n s) = 0 then (0, none) else ((lN a).toInt32, if lN a ≤ 99 ∧ ¬ (lN a).toInt32 = 0 then some k else none) := by
    unfold lmT_
    simp only
    rw [h.2.1 s (by omega), fg_ig, e1]
  have l2 : sm_ M n s 1 = if ig_ (bf_ M n s) = 0 then .inr (1, s) else if nI (nd_ a) < 1 ∨ ¬ nI (nd_ a) ≤ 99 then .inr (2, s) else if ¬ bf_ M n k ≤ 32 then .inr (1, k) else .inl (nI (nd_ a), k) := by
    unfold sm_
    rw [e2]
  rw [l1, l2]
  rcases ig_01 (bf_ M n s) with z | z
  · rw [if_pos z, if_pos z]
    exact Or.inl ⟨_, rfl, rfl⟩
  · have z' : ¬ ig_ (bf_ M n s) = 0 := by rw [z]; decide
    rw [if_neg z', if_neg z']
    by_cases q : a ≤ 99
    · have hnd : nd_ a = a := by unfold nd_; rw [if_pos (by omega)]
      rw [hnd, lN_i99 a q]
      by_cases q0 : a = 0
      · subst q0
        rw [if_neg (show ¬ (lN 0 ≤ 99 ∧ ¬ nI 0 = 0) from fun y => y.2 rfl), if_pos (show nI 0 < 1 ∨ ¬ nI 0 ≤ 99 from Or.inl (by decide))]
        exact Or.inl ⟨_, rfl, rfl⟩
      · have z0 : ¬ nI a = 0 := fun y => q0 ((nI_z (by omega)).mp y)
        rw [if_pos (show lN a ≤ 99 ∧ ¬ nI a = 0 from ⟨(lN_99 ha).mpr q, z0⟩), if_neg (show ¬ (nI a < 1 ∨ ¬ nI a ≤ 99) from fun y => y.elim (fun y => absurd ((nI_ltI (a := a) (b := 1) (by omega) (by decide)).mp y) (by omega)) (fun y => y (nI_le (a := a) (b := 99) q (by decide))))]
        simp only
        rw [qw_T h hk]
        by_cases t : bf_ M n k ≤ 32
        · rw [if_pos t, if_neg (fun y => y t)]
          exact Or.inr ⟨a, k, rfl, by omega, q, hk, rfl, rfl⟩
        · rw [if_neg t, if_pos t]
          exact Or.inl ⟨_, rfl, rfl⟩
    · have hnd : 99 < nd_ a ∧ nd_ a ≤ 999 := by unfold nd_; split <;> omega
      rw [if_neg (show ¬ (lN a ≤ 99 ∧ ¬ (lN a).toInt32 = 0) from fun y => q ((lN_99 ha).mp y.1)), if_pos (show nI (nd_ a) < 1 ∨ ¬ nI (nd_ a) ≤ 99 from Or.inr (fun y => absurd ((nI_leI (a := nd_ a) (b := 99) (by omega) (by decide)).mp y) (by omega)))]
      exact Or.inl ⟨_, rfl, rfl⟩
/-- patterns -/
theorem sg_io {c : Int32} : sgX_ c = 0 ↔ (io_ c = 0 ∧ ¬ c = 42 ∧ ¬ c = 63) := by
  rcases io_01 c with z | z
  · constructor
    · intro y
      refine ⟨z, fun q => ?_, fun q => ?_⟩
      · rw [q] at y; exact absurd y (by decide)
      · rw [q] at y; exact absurd y (by decide)
    · rintro ⟨-, h1, h2⟩
      have hl : ¬ (97 ≤ c ∧ c ≤ 122) := fun q => by
        have : io_ c = 1 := by unfold io_ il_; rw [if_pos (Or.inl (if_pos q))]
        rw [z] at this; exact absurd this (by decide)
      have hd : ¬ c = 46 := fun q => by rw [q] at z; exact absurd z (by decide)
      unfold sgX_
      rw [if_neg hl, if_neg hd, if_neg h1, if_neg h2]
  · constructor
    · intro y
      obtain ⟨-, h1, h2, h3⟩ := nc_io z
      rw [h1] at y
      have := (nI_z (by omega)).mp y
      omega
    · rintro ⟨h1, -, -⟩
      rw [z] at h1
      exact absurd h1 (by decide)
/-- the pattern's signs in the class's word -/
def pwT_ (f : Nat → Int32) (s : Nat) : Nat → Int64
  | 0 => 0
  | j + 1 => wi_ (pwT_ f s j) (nI j) (sgX_ (f (s + j)))
theorem paT_T (h : TF_ T (bf_ M n) n) {s : Nat} : ∀ (u u2 j : Nat), u + j = 13 → j ≤ 12 → s + j + u2 = n → (∃ q, pa4_ (bf_ M n) u2 (s + j) j = .inr q ∧ qw_ T (paT_ T u j (pwT_ (bf_ M n) s j) (s + j)).2 = none) ∨ (∃ p, pa4_ (bf_ M n) u2 (s + j) j = .inl (s + p, p) ∧ j ≤ p ∧ p ≤ 12 ∧ s + p ≤ n ∧ bf_ M n (s + p) ≤ 32 ∧ (∀ x, j ≤ x → x < p → ¬ sgX_ (bf_ M n (s + x)) = 0) ∧ (paT_ T u j (pwT_ (bf_ M n) s j) (s + j)).1 = pwT_ (bf_ M n) s p ∧ qw_ T (paT_ T u j (pwT_ (bf_ M n) s j) (s + j)).2 = some (sp_ M n (s + p)))
  | 0, u2, j, hu, hj, hn2 => by omega
  | u + 1, 0, j, hu, hj, hn2 => by
    have hn := h.1
    rw [paT_, pa4_, h.2.1 _ (by omega), h.2.2.1 _ (by omega), if_pos (by decide)]
    have t : bf_ M n (s + j) ≤ 32 := by rw [h.2.2.1 _ (by omega)]; decide
    exact Or.inr ⟨j, rfl, Nat.le_refl _, by omega, by omega, t, fun x h1 h2 => by omega, rfl, by rw [qw_T h (by omega), if_pos t]⟩
  | u + 1, u2 + 1, j, hu, hj, hn2 => by
    have hn := h.1
    rw [paT_, pa4_, h.2.1 _ (by omega)]
    by_cases t : bf_ M n (s + j) ≤ 32
    · have hs0 : sgX_ (bf_ M n (s + j)) = 0 := sg_io.mpr ⟨io_32 t, fun y => by rw [y] at t; exact absurd t (by decide), fun y => by rw [y] at t; exact absurd t (by decide)⟩
      rw [if_pos hs0, if_neg (Int32.not_lt.mpr t)]
      exact Or.inr ⟨j, rfl, Nat.le_refl _, by omega, by omega, t, fun x h1 h2 => by omega, rfl, by rw [qw_T h (by omega), if_pos t]⟩
    · rw [if_pos (Int32.not_le.mp t)]
      by_cases hs0 : sgX_ (bf_ M n (s + j)) = 0
      · rw [if_pos hs0, if_pos (sg_io.mp hs0)]
        exact Or.inl ⟨_, rfl, by rw [qw_T h (by omega), if_neg t]⟩
      · rw [if_neg hs0, if_neg (fun y => hs0 (sg_io.mpr y))]
        by_cases h12 : j = 12
        · rw [if_pos h12, if_pos h12]
          exact Or.inl ⟨_, rfl, rfl⟩
        · rw [if_neg h12, if_neg h12]
          rcases paT_T h (s := s) u u2 (j + 1) (by omega) (by omega) (by omega) with ⟨q, g1, g2⟩ | ⟨p, g1, g2, g3, g4, g5, g6, g7, g8⟩
          · exact Or.inl ⟨q, g1, g2⟩
          · refine Or.inr ⟨p, g1, by omega, g3, g4, g5, fun x h1 h2 => ?_, g7, g8⟩
            by_cases e : x = j
            · rw [e]; exact hs0
            · exact g6 x (by omega) h2
end NUM
end
