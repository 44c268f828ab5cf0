/-! the reference's machine: a frame, and play -/
section FRR
variable {G : gg_} {d : Nat} {Q : mm_ → Prop} {E : se_} {c D : Nat}
theorem frame_P (hG : gd_ G) (hD : D ≤ 9) (hnext : D + 1 ≤ 9 → IRP_ G d Q E c (D + 1)) : IRP_ G d Q E c D := by
  intro m b tb P s A R u d2 hS hm h39 h23 h25 h24 h47 h51 hb htb hTB hDR hJR hWL hu K
  have hc := hS.2.1
  obtain ⟨w, hw⟩ : ∃ w, 10 - D = w + 1 := ⟨9 - D, by omega⟩
  have hw2 : 10 - w = D + 1 := by omega
  have hw3 : w = 9 - D := by omega
  rw [hw, inA_, hw2, hw3] at K
  refine cm_post (c12_probeT hG (by omega) m 0 hm (by omega) (by omega) P 0 h23 h24 hS.2.2.2.2.2 hJR hDR hWL) (fun v N0 hv => ⟨hv.1, ?_⟩)
  obtain ⟨n1, n2, n3, n4⟩ := hv.2
  generalize hs1 : pbA_ E m 0 (D + 1) P 0 (ivA_ s) = s1 at n2 n3 n4 K
  have hiv1 : iv2_ s1 = iv2_ (ivA_ s) := by rw [← hs1]; exact iv_pb
  have fA : FZ_ D b tb A N0 := FZ_fF n1
  have hS0 := SR_cg fA hS
  obtain ⟨w1, w2, w3, w4, w5⟩ := hS0.2.2.2.2.1 m hm
  have e39 : N0.1 0 39 = nI (D + 1) := by rw [n1.2 0 39 (by unfold pzR_; omega)]; exact h39
  have e23 : N0.1 23 (D + 1) = nI m := by rw [n1.2 23 _ (by unfold pzR_; omega)]; exact h23
  have e25 : N0.1 25 (D + 1) = nI 0 := by rw [n1.2 25 _ (by unfold pzR_; omega)]; exact h25
  have e24 : ∀ i, i < 3 → N0.1 24 (3 * (D + 1) + i) = P i := fun i hi => by rw [n1.2 24 _ (by unfold pzR_; omega)]; exact h24 i hi
  have e47 : N0.1 0 47 = nI b := by rw [n1.2 0 47 (by unfold pzR_; omega)]; exact h47
  have e51 : N0.1 0 51 = nI tb := by rw [n1.2 0 51 (by unfold pzR_; omega)]; exact h51
  have eTB : TBq_ D tb N0 := hTB.imp id (fun ⟨q, z1, z2⟩ => ⟨q, z1, by rw [n1.2 29 _ (by unfold pzR_; omega)]; exact z2⟩)
  generalize hn : (tc_ (tm_ (E.2.2.1 m))).length = n at w5
  have hR : RGP_ G d Q E c D b tb m n R N0 (tc_ (tm_ (E.2.2.1 m))) P (nmA_ E (D + 1) (inA_ E (9 - D))) := ⟨e23, by omega, by rw [← hn]; exact w4.1, hn, w5, w4.2, e24, hD, hb, htb, fun N t L s2 K2 j p u2 g1 g2 g3 g4 g5 g6 g7 g8 g9 g10 g11 => inv_H hD hS0 hnext eTB hb htb w5 N t L s2 K2 j p u2 g1 g2 g3 g4 g5 g6 g7 g8 g9 g10 g11⟩
  refine TRP_ hR true (E.2.2.1 m) w1 w2 w3 0 u [] [] s1 N0 (fun i q hq => by rw [Nat.zero_add]; exact hq) (by simp) (by simp) (by rw [hn]; simp) (by rw [hiv1]; omega) ⟨⟨FZ_rf, trivial, trivial, e39, e51, n2, n3, n4⟩, e47, e25⟩ ?_
  rw [hn, Nat.zero_add]
  -- a probe behind the body, at a memory of this frame
  have prb : ∀ (d3 pt : Nat) (v : Int32) (s2 : sgA_) (N : mm_), pt ≤ 2 → ZS_ E c D b tb N0 s2 N → CPR_ G d3 (D + 1) pt v N (PIR_ E c N (pbA_ E m pt (D + 1) P v s2)) := fun d3 pt v s2 N hpt hz => by
    have hSN := SR_cg hz.1 hS0
    exact c12_probeT hG (by omega) m pt hm (by omega) hpt P v (by rw [hz.1.2 23 _ (by unfold pzR_; omega) (by unfold mvR_; omega)]; exact e23) (fun i hi => by rw [hz.1.2 24 _ (by unfold pzR_; omega) (by unfold mvR_; omega)]; exact e24 i hi) hSN.2.2.2.2.2 hz.2.2.2.1 hz.2.2.1 hz.2.2.2.2
  have zpr : ∀ (s2 s3 : sgA_) (N N2 : mm_), ZS_ E c D b tb N0 s2 N → PIR_ E c N s3 N2 → ZS_ E c D b tb A s3 N2 ∧ N2.1 0 51 = N.1 0 51 ∧ N2.1 0 47 = N.1 0 47 := fun s2 s3 N N2 hz hp => by
    obtain ⟨p1, p2, p3, p4⟩ := hp
    exact ⟨⟨FZ_tr fA (FZ_tr hz.1 (FZ_fF p1)), by rw [p1.2 0 39 (by unfold pzR_; omega)]; exact hz.2.1, p2, p3, p4⟩, p1.2 0 51 (by unfold pzR_; omega), p1.2 0 47 (by unfold pzR_; omega)⟩
  cases ho : ES_ (nmA_ E (D + 1) (inA_ E (9 - D))) P (E.2.2.1 m) [] s1 with
  | mk o s2 =>
    rw [ho] at K
    cases o with
    | inl t2 =>
      obtain ⟨x, rfl⟩ := (ES_sh _ P true _ w1 [] s1 t2 s2 ho).1 rfl
      have K2 : KI_ G d Q E c D b tb A R (.inl x, pbA_ E m 1 (D + 1) P x s2) := K
      intro N u2 hz hu2
      obtain ⟨u2, rfl⟩ : ∃ v, u2 = v + 1 := ⟨u2 - 1, by omega⟩
      obtain ⟨zB, z47, z25⟩ := hz
      have hF := zB.1
      refine Or.inr ⟨D, b + 1, tb, m, n, n, zB.2.2.2.1, hD, by rw [hF.2 23 _ (by unfold pzR_; omega) (by unfold mvR_; omega)]; exact e23, by omega, z25, by rw [hF.2 4 _ (by unfold pzR_; omega) (by unfold mvR_; omega), w4.1, hn], w5, Nat.le_refl _, z47, by omega, zB.2.2.2.2.1, by omega, fun _ => ⟨b, zB.2.2.2.1, z47, by omega, ?_⟩, fun y => by omega⟩
      have hx : N.1 26 b = x := zB.2.1.1
      have zS : ZS_ E c D b tb N0 s2 (sI_ N 0 47 (nI b)) := ZB_S (ZB_I (t := []) (ZB_tl zB) (by omega))
      rw [hx]
      refine ⟨_, prb (d + 1) 1 x s2 _ (by omega) zS, fun N2 h2 => ?_⟩
      obtain ⟨q1, q2, q3⟩ := zpr _ _ _ _ zS h2
      have q4 : N2.1 0 47 = nI b := by rw [q3, gI_sI, if_pos ⟨rfl, rfl⟩]
      have q5 : N2.1 0 51 = nI tb := by rw [q2, gI_sI, if_neg (by omega)]; exact zB.2.2.2.2.1
      obtain ⟨k1, k2⟩ := K2 N2 u2 q1 q4 q5 (by rw [iv_pb]; omega)
      exact ⟨q1.2.1, q4, k1, k2⟩
    | inr q =>
      have K2 : KI_ G d Q E c D b tb A R (.inr q, pbA_ E m 2 (D + 1) P q.2 s2) := K
      intro N a u2 d3 h1 h2 hu2
      refine ⟨fun hq zB => ?_, fun hq zS => ?_⟩
      · have zS := ZB_S zB
        have z51 : N.1 0 51 = nI tb := zB.2.2.2.2.1
        refine ⟨zS.2.1, tb, by omega, z51, fun h0 h29 => ?_, fun _ => ?_⟩
        · exfalso
          rcases eTB with y | ⟨q9, y1, y2⟩
          · omega
          · rw [zS.1.2 29 _ (by unfold pzR_; omega) (by unfold mvR_; omega), y2] at h29
            have := (nI_eq (by omega) (by omega)).mp h29
            omega
        · refine ⟨_, prb d3 2 q.2 s2 N (by omega) zS, fun N2 hp => ?_⟩
          obtain ⟨q1, q2, q3⟩ := zpr _ _ _ _ zS hp
          exact ⟨q1.2.1, (K2 N2 u2 d3 q1 (by rw [iv_pb]; omega)).1 hq (q2.trans z51)⟩
      · refine ⟨zS.2.1, _, prb d3 2 q.2 s2 N (by omega) zS, fun N2 hp => ?_⟩
        obtain ⟨q1, q2, q3⟩ := zpr _ _ _ _ zS hp
        exact ⟨q1.2.1, (K2 N2 u2 d3 q1 (by rw [iv_pb]; omega)).2 hq⟩
end FRR
theorem IRP_all (G : gg_) (hG : gd_ G) (d : Nat) (Q : mm_ → Prop) (E : se_) (c : Nat) : ∀ w D, D + w = 9 → IRP_ G d Q E c D
  | 0, D, h => frame_P hG (by omega) (fun y => by omega)
  | w + 1, D, h => frame_P hG (by omega) (fun _ => IRP_all G hG d Q E c w (D + 1) (by omega))
/-- what a call leaves -/
def PLQ_ (E : se_) (c : Nat) (M : mm_) (o : io2_) (r : Int32) (N : mm_) : Prop := N.2 = M.2 ∧ (∀ a i, ¬ pzR_ a i → ¬ mR_ a i → N.1 a i = M.1 a i) ∧ DR_ o.2 N ∧ JR_ E c o.2 N ∧ WL_ E o.2 ∧ match o.1 with
  | .inl v => r = 0 ∧ N.1 0 41 = v
  | .inr q => (q.1 = 1 ∨ q.1 = 2 → r = 1 ∧ N.1 0 41 = q.2)
theorem c12_playT (G : gg_) (hG : gd_ G) (d : Nat) (M : mm_) (E : se_) (c m q3 : Nat) (P : Nat → Int32) (s : sgA_) (x y w z : Int32) (hS : SR_ E c (sI_ M 0 42 z)) (hm : m < c) (hq3 : q3 ≤ 3) (e3 : M.1 6 m = nI q3) (hz : z = 0 ∨ z = 1) (hP : ∀ i, i < 3 → P i = if i < q3 then (if i = 0 then x else if i = 1 then y else w) else 0) (hiv : iv2_ s = 0) (hD : DR_ s (sI_ M 0 40 0)) (hJ : JR_ E c s M) (hW : WL_ E s) (hq : ∀ q, (inA_ E 10 m P s).1 = .inr q → q.1 = 1 ∨ q.1 = 2) : cm_ G yX12_play cX12_play 6 (some .int) (d + 7) [.ref (G.1 0), .int (nI m), .int x, .int y, .int w, .int z] M (rI_ (PLQ_ E c M (inA_ E 10 m P s))) := by
  have hc := hS.2.1
  obtain ⟨Q, hQ⟩ : ∃ Q : mm_ → Prop, Q = fun N0 => PLQ_ E c M (inA_ E 10 m P s) (if N0.1 0 52 = 0 then 0 else 1) (sI_ N0 0 41 (N0.1 0 53)) := ⟨_, rfl⟩
  obtain ⟨A0, hA0⟩ : ∃ A0, enM_ (plM_ M x y w z) 0 0 m q3 = A0 := ⟨_, rfl⟩
  have a2 : A0.2 = M.2 := by rw [← hA0]; unfold enM_; rw [zpR_2]; rfl
  have ag : ∀ a i, A0.1 a i = if a = 24 ∧ 3 * (0 + 1) + q3 ≤ i ∧ i < 3 * (0 + 1) + q3 + (3 - q3) then 0 else if a = 25 ∧ i = 0 + 1 then 0 else if a = 23 ∧ i = 0 + 1 then nI m else if a = 0 ∧ i = 40 then nI (0 + 1) else if a = 0 ∧ i = 39 then nI (0 + 1) else if a = 24 ∧ i = 5 then w else if a = 24 ∧ i = 4 then y else if a = 24 ∧ i = 3 then x else if a = 0 ∧ i = 51 then 0 else if a = 0 ∧ i = 47 then 0 else if a = 0 ∧ i = 40 then 0 else if a = 0 ∧ i = 39 then 0 else if a = 0 ∧ i = 42 then z else M.1 a i := fun a i => by
    rw [← hA0]; unfold enM_ plM_
    rw [zpR_g, gI_sI, gI_sI, gI_sI, gI_sI, gI_sI, gI_sI, gI_sI, gI_sI, gI_sI, gI_sI, gI_sI, gI_sI]
  have ao : ∀ a i, ¬ (a = 24 ∨ a = 25 ∨ a = 23 ∨ (a = 0 ∧ (i = 39 ∨ i = 40 ∨ i = 42 ∨ i = 47 ∨ i = 51))) → A0.1 a i = M.1 a i := fun a i h => by
    rw [ag, if_neg (by omega), if_neg (by omega), if_neg (by omega), if_neg (by omega), if_neg (by omega), if_neg (by omega), if_neg (by omega), if_neg (by omega), if_neg (by omega), if_neg (by omega), if_neg (by omega), if_neg (by omega), if_neg (by omega)]
  have x42 : A0.1 0 42 = z := by rw [ag, if_neg (by omega), if_neg (by omega), if_neg (by omega), if_neg (by omega), if_neg (by omega), if_neg (by omega), if_neg (by omega), if_neg (by omega), if_neg (by omega), if_neg (by omega), if_neg (by omega), if_neg (by omega), if_pos ⟨rfl, rfl⟩]
  have x39 : A0.1 0 39 = nI (0 + 1) := by rw [ag, if_neg (by omega), if_neg (by omega), if_neg (by omega), if_neg (by omega), if_pos ⟨rfl, rfl⟩]
  have x40 : A0.1 0 40 = nI (0 + 1) := by rw [ag, if_neg (by omega), if_neg (by omega), if_neg (by omega), if_pos ⟨rfl, rfl⟩]
  have x23 : A0.1 23 (0 + 1) = nI m := by rw [ag, if_neg (by omega), if_neg (by omega), if_pos ⟨rfl, rfl⟩]
  have x25 : A0.1 25 (0 + 1) = nI 0 := by rw [ag, if_neg (by omega), if_pos ⟨rfl, rfl⟩]; rfl
  have x47 : A0.1 0 47 = nI 0 := by rw [ag, if_neg (by omega), if_neg (by omega), if_neg (by omega), if_neg (by omega), if_neg (by omega), if_neg (by omega), if_neg (by omega), if_neg (by omega), if_neg (by omega), if_pos ⟨rfl, rfl⟩]; rfl
  have x51 : A0.1 0 51 = nI 0 := by rw [ag, if_neg (by omega), if_neg (by omega), if_neg (by omega), if_neg (by omega), if_neg (by omega), if_neg (by omega), if_neg (by omega), if_neg (by omega), if_pos ⟨rfl, rfl⟩]; rfl
  have x24 : ∀ i, i < 3 → A0.1 24 (3 * (0 + 1) + i) = P i := fun i hi => by
    rw [hP i hi]
    by_cases h : i < q3
    · rw [if_pos h, ag, if_neg (by omega), if_neg (by omega), if_neg (by omega), if_neg (by omega), if_neg (by omega)]
      obtain rfl | rfl | rfl : i = 0 ∨ i = 1 ∨ i = 2 := by omega
      · rw [if_neg (by omega), if_neg (by omega), if_pos ⟨rfl, rfl⟩, if_pos rfl]
      · rw [if_neg (by omega), if_pos ⟨rfl, rfl⟩, if_neg (by decide), if_pos rfl]
      · rw [if_pos ⟨rfl, rfl⟩, if_neg (by decide), if_neg (by decide)]
    · rw [if_neg h, ag, if_pos (by omega)]
  have sA : SR_ E c A0 := by
    obtain ⟨g1, g2, g3, g4, g5, g6⟩ := hS
    have k : ∀ a i, ¬ a = 0 → (sI_ M 0 42 z).1 a i = M.1 a i := fun a i h => by rw [gI_sI, if_neg (by omega)]
    have k2 : (sI_ M 0 42 z).2 = M.2 := rfl
    rw [gI_sI, if_neg (by omega)] at g1
    rw [gI_sI, if_pos ⟨rfl, rfl⟩] at g6
    refine ⟨by rw [ao _ _ (by omega)]; exact g1, g2, g3, fun i hi => by rw [a2, ao _ _ (by omega)]; have := g4 i hi; rw [k _ _ (by decide)] at this; exact this, fun i hi => ?_, by rw [x42]; exact g6⟩
    obtain ⟨b1, b2, b3, b4, b5⟩ := g5 i hi
    refine ⟨b1, b2, b3, ⟨by rw [ao _ _ (by omega)]; have := b4.1; rw [k _ _ (by decide)] at this; exact this, fun j q hj => ?_⟩, b5⟩
    have := b4.2 j q hj
    rw [k _ _ (by decide)] at this
    rw [ao _ _ (by omega), a2]; exact this
  have dA : DR_ (ivA_ s) A0 := by
    obtain ⟨g1, ⟨p1, p2, p3⟩, ⟨q1, q2, q3⟩, g4, g5⟩ := hD
    have k : ∀ a i, ¬ (a = 0 ∧ i = 40) → (sI_ M 0 40 0).1 a i = M.1 a i := fun a i h => by rw [gI_sI, if_neg h]
    refine ⟨fun i hi => ?_, ⟨by rw [ao _ _ (by omega), ← k _ _ (by omega)]; exact p1, p2, fun i hi => by rw [ao _ _ (by omega), ← k _ _ (by omega)]; exact p3 i hi⟩, ⟨by rw [ao _ _ (by omega), ← k _ _ (by omega)]; exact q1, q2, fun i hi => by rw [ao _ _ (by omega), ← k _ _ (by omega)]; exact q3 i hi⟩, ?_, ?_⟩
    · obtain ⟨c1, c2, c3⟩ := g1 i hi
      exact ⟨by rw [ao _ _ (by omega), ← k _ _ (by omega)]; exact c1, fun h => by rw [ao _ _ (by omega), ← k _ _ (by omega)]; exact c2 h, fun h x hx => by rw [ao _ _ (by omega), ← k _ _ (by omega)]; exact c3 h x hx⟩
    · show A0.1 0 40 = nI (iv2_ s + 1)
      rw [hiv]; exact x40
    · show iv2_ s + 1 ≤ 1000
      omega
  have jA : JR_ E c (ivA_ s) A0 := JR_cg a2 (fun a i h => ao a i (by unfold jcR_ at h; omega)) (fun _ _ => Or.inl rfl) hJ
  refine cm_post (c12_playE G hG d M c m q3 (by omega) hq3 e3 x y w z hz Q (WPL_ G d Q c (42 + 50 * 1000 + 1)) ?_ (fun N h => ⟨_, h⟩)) (fun v N h => ?_)
  · rw [hA0]
    refine IRP_all G hG d Q E c 9 0 rfl m 0 0 P s A0 1 _ (d + 2) sA hm x39 x23 x25 x24 x47 x51 (by omega) (by omega) (Or.inl rfl) dA jA hW (by omega) ?_
    show KI_ G d Q E c 0 0 0 A0 1 (inA_ E 10 m P s)
    have fin : ∀ (N : mm_) (v : Int32) (k : Int32), ZS_ E c 0 0 0 A0 (inA_ E 10 m P s).2 N → (match (inA_ E 10 m P s).1 with | .inl x => k = 0 ∧ v = x | .inr q => k = 1 ∧ v = q.2) → Q (sI_ (sI_ (sI_ N 0 39 (nI 0)) 0 52 k) 0 53 v) := fun N v k hz hm => by
      rw [hQ]
      obtain ⟨k1, k2, k3, k4, k5⟩ := hz
      have e52 : (sI_ (sI_ (sI_ N 0 39 (nI 0)) 0 52 k) 0 53 v).1 0 52 = k := by rw [gI_sI, if_neg (by omega), gI_sI, if_pos ⟨rfl, rfl⟩]
      have e53 : (sI_ (sI_ (sI_ N 0 39 (nI 0)) 0 52 k) 0 53 v).1 0 53 = v := by rw [gI_sI, if_pos ⟨rfl, rfl⟩]
      rw [e52, e53]
      refine ⟨k1.1.trans a2, fun a i h1 h2 => ?_, DR_I (by unfold dcR_; omega) (DR_I (by unfold dcR_; omega) (DR_I (by unfold dcR_; omega) (DR_I (by unfold dcR_; omega) k3))), JR_cg (M := N) rfl (fun a i h => by rw [gI_sI, if_neg (by unfold jcR_ at h; omega), gI_sI, if_neg (by unfold jcR_ at h; omega), gI_sI, if_neg (by unfold jcR_ at h; omega), gI_sI, if_neg (by unfold jcR_ at h; omega)]) (KM_rf _) k4, k5, ?_⟩
      · unfold mR_ at h2
        rw [gI_sI, if_neg (by omega), gI_sI, if_neg (by omega), gI_sI, if_neg (by omega), gI_sI, if_neg (by omega), k1.2 a i h1 (by unfold mvR_; omega), ao a i (by omega)]
      · cases ho : (inA_ E 10 m P s).1 with
        | inl x2 =>
          rw [ho] at hm
          exact ⟨by rw [hm.1, if_pos rfl], by rw [gI_sI, if_pos ⟨rfl, rfl⟩]; exact hm.2⟩
        | inr q =>
          rw [ho] at hm
          exact fun _ => ⟨by rw [hm.1, if_neg (by decide)], by rw [gI_sI, if_pos ⟨rfl, rfl⟩]; exact hm.2⟩
    generalize hg : inA_ E 10 m P s = o at fin hq ⊢
    obtain ⟨o, s2⟩ := o
    cases o with
    | inl v =>
      intro N u hz2 h47 h51 hu
      obtain ⟨u, rfl⟩ : ∃ v, u = v + 1 := ⟨u - 1, by omega⟩
      exact ⟨fun _ => Or.inl ⟨by rw [gI_sI, if_neg (by omega), gI_sI, if_neg (by omega), gI_sI, if_pos ⟨rfl, rfl⟩], fin N v 0 hz2 ⟨rfl, rfl⟩⟩, fun h => by omega⟩
    | inr q =>
      intro N u d2 hz2 hu
      obtain ⟨u, rfl⟩ : ∃ v, u = v + 1 := ⟨u - 1, by omega⟩
      have e : WPL_ G d Q c (u + 1) (sI_ (sI_ (sI_ N 0 39 (nI 0)) 0 52 1) 0 53 q.2) := Or.inl ⟨by rw [gI_sI, if_neg (by omega), gI_sI, if_neg (by omega), gI_sI, if_pos ⟨rfl, rfl⟩], fin N q.2 1 hz2 ⟨rfl, rfl⟩⟩
      exact ⟨fun _ _ => ⟨by rw [gI_sI, if_pos ⟨rfl, rfl⟩], e⟩, fun _ => ⟨by rw [gI_sI, if_pos ⟨rfl, rfl⟩], e⟩⟩
  · obtain ⟨r, hr, N0, h1, h2, h3⟩ := h
    refine ⟨r, hr, ?_⟩
    rw [hQ] at h1
    rw [h3, h2]
    exact h1
