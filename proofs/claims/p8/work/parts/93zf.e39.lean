/-! the reference's machine: invocations, by the abstract state -/
def SR_ (E : se_) (c : Nat) (N : mm_) : Prop := N.1 0 9 = nI c ∧ c ≤ 16 ∧ E.1 = c ∧ (∀ m, m < c → NK_ (E.2.1 m) (N.2.1 5 m) (N.1 6 m)) ∧ (∀ m, m < c → wfX_ true (E.2.2.1 m) ∧ ixn_ 3 (E.2.2.1 m) ∧ KK_ (E.2.2.1 m) ∧ sd_ N m (tm_ (E.2.2.1 m)) ∧ (tc_ (tm_ (E.2.2.1 m))).length ≤ 40) ∧ (N.1 0 42 = 0 ↔ E.2.2.2.2.2.2.2.2 = true)
theorem SR_cg {E : se_} {c D b tb : Nat} {M N : mm_} (h : FZ_ D b tb M N) (g : SR_ E c M) : SR_ E c N := by
  obtain ⟨g1, g2, g3, g4, g5, g6⟩ := g
  refine ⟨by rw [h.2 0 9 (by unfold pzR_; omega) (by unfold mvR_; omega)]; exact g1, g2, g3, fun m hm => by rw [h.1, h.2 6 m (by unfold pzR_; omega) (by unfold mvR_; omega)]; exact g4 m hm, fun m hm => ?_, by rw [h.2 0 42 (by unfold pzR_; omega) (by unfold mvR_; omega)]; exact g6⟩
  obtain ⟨a1, a2, a3, a4, a5⟩ := g5 m hm
  exact ⟨a1, a2, a3, ⟨by rw [h.2 4 m (by unfold pzR_; omega) (by unfold mvR_; omega)]; exact a4.1, fun i x hx => by rw [h.1, h.2 2 _ (by unfold pzR_; omega) (by unfold mvR_; omega)]; exact a4.2 i x hx⟩, a5⟩
theorem fn_fm {E : se_} {c : Nat} {K a : Int64} {p : Int32} {N : mm_} (h : ∀ m, m < c → NK_ (E.2.1 m) (N.2.1 5 m) (N.1 6 m)) (hK : NK_ K a p) : ∀ u i, i + u ≤ c → fm_ N a p u i = match fnA_ E K u i with | none => -1 | some m => nI m
  | 0, _, _ => rfl
  | u + 1, i, hi => by
    rw [fm_, fnA_, fn_fm h hK u (i + 1) (by omega)]
    have e := NK_eq (h i (by omega)) hK
    by_cases q : E.2.1 i = K
    · rw [if_pos q, if_pos (e.mp q)]
    · rw [if_neg q, if_neg (fun y => q (e.mpr y))]
theorem fn_key (E : se_) (K : Int64) : ∀ (u i m : Nat), fnA_ E K u i = some m → E.2.1 m = K
  | 0, _, _, h => by cases h
  | u + 1, i, m, h => by
    rw [fnA_] at h
    split at h
    · rename_i y; cases h; exact y
    · exact fn_key E K u (i + 1) m h
/-- probes do not invoke -/
theorem iv_rc {E : se_} {j m d : Nat} {x e : Int32} {s : sgA_} : iv2_ (rcA_ E j m d x e s) = iv2_ s := by
  unfold rcA_
  split
  · rw [sR5_M]; unfold sR5_; split <;> rfl
  · rw [sR5_K, sR5_M]; unfold sR5_; split <;> rfl
theorem iv_wg {E : se_} {j m d : Nat} {V : Nat → Int32} {s : sgA_} : iv2_ (wgA_ E j m d V s) = iv2_ s := by
  unfold wgA_
  split <;> exact iv_rc
theorem iv_pj {E : se_} (m p d : Nat) (P : Nat → Int32) (v : Int32) (j : Nat) (s : sgA_) : iv2_ (pjA_ E m p d P v j s) = iv2_ s := by
  unfold pjA_
  split
  · rfl
  split
  · rfl
  split
  · unfold kpA_ sE7_
    split
    · rfl
    · split <;> rfl
  split
  · unfold wtA_
    split
    · exact iv_wg
    · split
      · split
        · rfl
        · exact iv_wg
      · exact iv_rc
  · rfl
theorem iv_pb {E : se_} {m p d : Nat} {P : Nat → Int32} {v : Int32} {s : sgA_} : iv2_ (pbA_ E m p d P v s) = iv2_ s := pb_R (R := fun s s2 => iv2_ s2 = iv2_ s) (fun _ => rfl) (fun _ _ _ h g => g.trans h) (fun m p d P v j s => iv_pj m p d P v j s) m p d P v s
/-- what comes behind an invocation at depth D + 1 -/
def KI_ (G : gg_) (d : Nat) (Q : mm_ → Prop) (E : se_) (c D b tb : Nat) (A : mm_) (R : Nat) (o : io2_) : Prop := match o with
  | (.inl v, s2) => ∀ (N : mm_) (u : Nat), ZS_ E c D b tb A s2 N → N.1 0 47 = nI b → N.1 0 51 = nI tb → 50 * (1000 - iv2_ s2) + R ≤ u → (D = 0 → WPL_ G d Q c u (sI_ (sI_ (sI_ N 0 39 (nI D)) 0 52 0) 0 53 v)) ∧ (0 < D → WPL_ G d Q c u (ps_ (sI_ N 0 39 (nI D)) b v))
  | (.inr q, s2) => ∀ (N : mm_) (u d2 : Nat), ZS_ E c D b tb A s2 N → 50 * (1000 - iv2_ s2) + R ≤ u → (q.1 = 1 → N.1 0 51 = nI tb → TUW_ G d2 q.2 (WPL_ G d Q c u) D (sI_ N 0 39 (nI D))) ∧ (q.1 = 2 → TAW_ G d2 q.2 (WPL_ G d Q c u) D (sI_ N 0 39 (nI D)))
def TBq_ (D tb : Nat) (A : mm_) : Prop := tb = 0 ∨ ∃ q, q ≤ D ∧ A.1 29 (tb - 1) = nI q
def IRP_ (G : gg_) (d : Nat) (Q : mm_ → Prop) (E : se_) (c D : Nat) : Prop := ∀ (m b tb : Nat) (P : Nat → Int32) (s : sgA_) (A : mm_) (R u d2 : Nat), SR_ E c A → m < c → A.1 0 39 = nI (D + 1) → A.1 23 (D + 1) = nI m → A.1 25 (D + 1) = nI 0 → (∀ i, i < 3 → A.1 24 (3 * (D + 1) + i) = P i) → A.1 0 47 = nI b → A.1 0 51 = nI tb → b ≤ 40 * D → tb ≤ 20 * D → TBq_ D tb A → DR_ (ivA_ s) A → JR_ E c (ivA_ s) A → WL_ E (ivA_ s) → 42 + 50 * (1000 - iv2_ (ivA_ s)) + R ≤ u → KI_ G d Q E c D b tb A R (inA_ E (10 - D) m P s) → CPR_ G d2 (D + 1) 0 0 A (WPL_ G d Q c u)
theorem nI_n0 : ∀ m, m < 16 → ¬ nI m < 0 := by decide
theorem sxP_ap {b : Nat} {N : mm_} : ∀ (x t : List Int32), sxP_ b (x ++ t) N → sxP_ b t N
  | [], _, h => h
  | _ :: x, t, h => sxP_ap x t h.2
theorem sxP_at {b : Nat} {N : mm_} : ∀ {t : List Int32} (i : Nat), sxP_ b t N → i < t.length → N.1 26 (b + (t.length - 1 - i)) = t.getD i 0
  | [], i, _, h => by simp at h
  | x :: t, 0, h, _ => by rw [List.length_cons, Nat.add_sub_cancel, Nat.sub_zero]; exact h.1
  | x :: t, i + 1, h, hi => by
    rw [List.length_cons] at hi
    rw [List.length_cons, show t.length + 1 - 1 - (i + 1) = t.length - 1 - i by omega, sxP_at i h.2 (by omega)]
    simp
theorem zpR_g {D : Nat} : ∀ (u q : Nat) (A : mm_) (a i : Nat), (zpR_ D u q A).1 a i = if a = 24 ∧ 3 * (D + 1) + q ≤ i ∧ i < 3 * (D + 1) + q + u then 0 else A.1 a i
  | 0, q, A, a, i => by rw [if_neg (by omega)]; rfl
  | u + 1, q, A, a, i => by
    rw [zpR_, zpR_g u (q + 1), gI_sI]
    by_cases h : a = 24 ∧ 3 * (D + 1) + q ≤ i ∧ i < 3 * (D + 1) + q + (u + 1)
    · rw [if_pos h]
      by_cases h2 : i = 3 * (D + 1) + q
      · rw [if_neg (by omega), if_pos ⟨h.1, h2⟩]
      · rw [if_pos (by omega)]
    · rw [if_neg h, if_neg (by omega), if_neg (by omega)]
theorem zpR_2 {D : Nat} : ∀ (u q : Nat) (A : mm_), (zpR_ D u q A).2 = A.2
  | 0, _, _ => rfl
  | u + 1, q, A => zpR_2 u (q + 1) _
theorem cpR_g {D h : Nat} : ∀ (u q : Nat) (A : mm_) (a i : Nat), (cpR_ D h u q A).1 a i = if a = 24 ∧ 3 * D + 3 + q ≤ i ∧ i < 3 * D + 3 + q + u then A.1 26 (h + (i - (3 * D + 3))) else A.1 a i
  | 0, q, A, a, i => by rw [if_neg (by omega)]; rfl
  | u + 1, q, A, a, i => by
    rw [cpR_, cpR_g u (q + 1), gI_sI, gI_sI]
    by_cases h2 : a = 24 ∧ 3 * D + 3 + q ≤ i ∧ i < 3 * D + 3 + q + (u + 1)
    · rw [if_pos h2]
      by_cases h3 : i = 3 * D + 3 + q
      · rw [if_neg (by omega), if_pos ⟨h2.1, h3⟩, h3, Nat.add_sub_cancel_left]
      · rw [if_pos (by omega), if_neg (by omega)]
    · rw [if_neg h2, if_neg (by omega), if_neg (by omega)]
/-- as an invocation begins -/
theorem enM_g {D k m j h : Nat} {N : mm_} (a i : Nat) : (enM_ (cpR_ D h j 0 N) D k m j).1 a i = if a = 24 ∧ 3 * (D + 1) + j ≤ i ∧ i < 3 * (D + 1) + j + (3 - j) then 0 else if a = 25 ∧ i = D + 1 then 0 else if a = 23 ∧ i = D + 1 then nI m else if a = 0 ∧ i = 40 then nI (k + 1) else if a = 0 ∧ i = 39 then nI (D + 1) else if a = 24 ∧ 3 * D + 3 + 0 ≤ i ∧ i < 3 * D + 3 + 0 + j then N.1 26 (h + (i - (3 * D + 3))) else N.1 a i := by
  unfold enM_
  rw [zpR_g, gI_sI, gI_sI, gI_sI, gI_sI, cpR_g]
theorem enM_o {D k m j h : Nat} {N : mm_} {a i : Nat} (hj : j ≤ 3) (z : ¬ ((a = 24 ∧ 3 * D + 3 ≤ i) ∨ (a = 25 ∧ i = D + 1) ∨ (a = 23 ∧ i = D + 1) ∨ (a = 0 ∧ (i = 39 ∨ i = 40)))) : (enM_ (cpR_ D h j 0 N) D k m j).1 a i = N.1 a i := by
  rw [enM_g, if_neg (by omega), if_neg (by omega), if_neg (by omega), if_neg (by omega), if_neg (by omega), if_neg (by omega)]
theorem enM_2 {D k m j h : Nat} {N : mm_} : (enM_ (cpR_ D h j 0 N) D k m j).2 = N.2 := by
  unfold enM_
  rw [zpR_2]
  exact cpR_2 j 0 N
section INVR
variable {G : gg_} {d : Nat} {Q : mm_ → Prop} {E : se_} {c D b tb m n R : Nat} {A : mm_}
theorem FZ_up {h2 tb2 : Nat} {M N : mm_} (hb : b ≤ h2) (ht : tb ≤ tb2) (h : FZ_ (D + 1) h2 tb2 M N) : FZ_ D b tb M N := ⟨h.1, fun a i z1 z2 => h.2 a i z1 (fun y => z2 (by unfold mvR_ at y ⊢; omega))⟩
/-- what an invocation by name does -/
theorem inv_H (hD : D ≤ 9) (hS : SR_ E c A) (hnext : D + 1 ≤ 9 → IRP_ G d Q E c (D + 1)) (hTB : TBq_ D tb A) (hb : b ≤ 40 * D) (htb : tb ≤ 20 * D) (hn : n ≤ 40) (N : mm_) (t : List Int32) (L : List (Nat × Nat)) (s : sgA_) (K : Int64) (j p u : Nat) (hZ : ZB_ E c D b tb A t L s N) (h47 : N.1 0 47 = nI (b + (t.drop j).length)) (hNK : NK_ K (de_ K) (nI j)) (hj3 : j ≤ 3) (hjt : j ≤ t.length) (htp : t.length ≤ p) (hL20 : L.length ≤ 20) (hpn : p < n) (hfu : (n - p) + 50 * (1000 - iv2_ s) + R ≤ u) (h25 : N.1 25 (D + 1) = nI (p + 1)) (K1 : KP_ G d Q E c D b tb A n R L p (p + 1) (t.drop j) (oi_ (t.drop j) (nmA_ E (D + 1) (inA_ E (9 - D)) K (t.take j) s))) : IVW_ G d (WPL_ G d Q c u) c (D + 1) (b + (t.drop j).length) (iv2_ s) j (de_ K) N := by
  have hSN := SR_cg hZ.1 hS
  obtain ⟨f1, f2, f3, f4, f5, f6, f7, f8⟩ := id hZ
  have hdl : (t.drop j).length = t.length - j := List.length_drop
  have hc := hSN.2.1
  have hiv : iv2_ s ≤ 1000 := f6.2.2.2.2
  have hfm := fn_fm (N := N) hSN.2.2.2.1 hNK c 0 (by omega)
  have ap : t = t.take j ++ t.drop j := (List.take_append_drop j t).symm
  have fd : sxP_ b (t.drop j) N := by rw [ap] at f2; exact sxP_ap _ _ f2
  have zd : ZB_ E c D b tb A (t.drop j) L s N := ⟨f1, fd, f3, f4, f5, f6, f7, f8⟩
  unfold nmA_ at K1
  rw [hSN.2.2.1] at K1
  refine ⟨hSN.1, hc, f4, h47, f6.2.2.2.1, hiv, by omega, fun hneg => ?_, fun m2 hm2 hf2 => ?_⟩
  · cases hfn : fnA_ E K c 0 with
    | some m2 =>
      rw [hfn] at hfm
      have := fn_lt E K c 0 m2 hfn
      rw [hfm] at hneg
      exact absurd hneg (nI_n0 m2 (by omega))
    | none =>
      rw [hfn] at K1
      exact (K1 N p u d (Nat.le_refl _) (by omega) hfu).1 rfl zd
  · cases hfn : fnA_ E K c 0 with
    | none =>
      rw [hfn] at hfm
      exact absurd (hf2.symm.trans hfm) (nI_ne1 m2 (by omega))
    | some m3 =>
      rw [hfn] at hfm K1
      have := fn_lt E K c 0 m3 hfn
      obtain rfl : m2 = m3 := (nI_eq (by omega) (by omega)).mp (hf2.symm.trans hfm)
      simp only at K1
      refine ⟨fun hD10 => ?_, fun hD9 hk => ?_, fun hD9 hk => ?_⟩
      · rw [if_pos (by omega)] at K1
        exact (K1 N p u d (Nat.le_refl _) (by omega) hfu).1 rfl zd
      · rw [if_neg (by omega), if_pos (show 1000 ≤ s.2.2.2.2.2 from Nat.le_of_eq hk.symm)] at K1
        exact (K1 N p u d (Nat.le_refl _) (by omega) hfu).2 rfl (ZB_S zd)
      · rw [if_neg (by omega), if_neg (show ¬ 1000 ≤ s.2.2.2.2.2 from Nat.not_le.mpr hk)] at K1
        have h6 : N.1 6 m2 = nI j := ((NK_eq (hSN.2.2.2.1 m2 (by omega)) hNK).mp (fn_key E K c 0 m2 hfn)).2
        refine ⟨j, hj3, by rw [cpR_o _ _ _ _ _ (by decide)]; exact h6, ?_⟩
        obtain ⟨A2, hA2⟩ : ∃ A2, enM_ (cpR_ (D + 1) (b + (t.drop j).length) j 0 N) (D + 1) (iv2_ s) m2 j = A2 := ⟨_, rfl⟩
        have ao : ∀ a i, ¬ ((a = 24 ∧ 3 * (D + 1) + 3 ≤ i) ∨ (a = 25 ∧ i = D + 1 + 1) ∨ (a = 23 ∧ i = D + 1 + 1) ∨ (a = 0 ∧ (i = 39 ∨ i = 40))) → A2.1 a i = N.1 a i := fun a i z => by rw [← hA2]; exact enM_o hj3 z
        have a2 : A2.2 = N.2 := by rw [← hA2]; exact enM_2
        have fA2 : FZ_ D b tb N A2 := ⟨a2, fun a i z1 z2 => ao a i (fun y => z2 (by unfold mvR_; omega))⟩
        have x39 : A2.1 0 39 = nI (D + 1 + 1) := by rw [← hA2, enM_g, if_neg (by omega), if_neg (by omega), if_neg (by omega), if_neg (by omega), if_pos ⟨rfl, rfl⟩]
        have x40 : A2.1 0 40 = nI (iv2_ s + 1) := by rw [← hA2, enM_g, if_neg (by omega), if_neg (by omega), if_neg (by omega), if_pos ⟨rfl, rfl⟩]
        have x23 : A2.1 23 (D + 1 + 1) = nI m2 := by rw [← hA2, enM_g, if_neg (by omega), if_neg (by omega), if_pos ⟨rfl, rfl⟩]
        have x25 : A2.1 25 (D + 1 + 1) = nI 0 := by rw [← hA2, enM_g, if_neg (by omega), if_pos ⟨rfl, rfl⟩]; rfl
        have x24 : ∀ i, i < 3 → A2.1 24 (3 * (D + 1 + 1) + i) = (t.take j).reverse.getD i 0 := fun i hi => by
          by_cases hij : i < j
          · rw [← hA2, enM_g, if_neg (by omega), if_neg (by omega), if_neg (by omega), if_neg (by omega), if_neg (by omega), if_pos (by omega), getD_rt t j i hjt hij, ← sxP_at (j - 1 - i) f2 (by omega)]
            rw [show b + (t.drop j).length + (3 * (D + 1 + 1) + i - (3 * (D + 1) + 3)) = b + (t.length - 1 - (j - 1 - i)) by omega]
          · rw [← hA2, enM_g, if_pos (by omega)]
            have : ((t.take j).reverse).length ≤ i := by rw [List.length_reverse, List.length_take]; omega
            rw [List.getD_eq_getElem?_getD, List.getElem?_eq_none this]; rfl
        have dA : DR_ (ivA_ s) A2 := by
          obtain ⟨g1, ⟨p1, p2, p3⟩, ⟨q1, q2, q3⟩, g4, g5⟩ := f6
          refine ⟨fun i hi => ?_, ⟨by rw [ao _ _ (by omega)]; exact p1, p2, fun i hi => by rw [ao _ _ (by omega)]; exact p3 i hi⟩, ⟨by rw [ao _ _ (by omega)]; exact q1, q2, fun i hi => by rw [ao _ _ (by omega)]; exact q3 i hi⟩, x40, hk⟩
          obtain ⟨c1, c2, c3⟩ := g1 i hi
          exact ⟨by rw [ao _ _ (by omega)]; exact c1, fun z => by rw [ao _ _ (by omega)]; exact c2 z, fun z x hx => by rw [ao _ _ (by omega)]; exact c3 z x hx⟩
        have jA : JR_ E c (ivA_ s) A2 := JR_cg a2 (fun a i z => ao a i (by unfold jcR_ at z; omega)) (fun _ _ => Or.inl rfl) f7
        have tbA : TBq_ (D + 1) (tb + L.length) A2 := by
          cases L with
          | nil =>
            rcases hTB with z | ⟨q, z1, z2⟩
            · exact Or.inl z
            · by_cases z0 : tb = 0
              · exact Or.inl z0
              · refine Or.inr ⟨q, by omega, ?_⟩
                show A2.1 29 (tb - 1) = nI q
                rw [ao _ _ (by omega), f1.2 29 _ (by unfold pzR_; omega) (by unfold mvR_; omega)]
                exact z2
          | cons y L =>
            refine Or.inr ⟨D + 1, Nat.le_refl _, ?_⟩
            rw [List.length_cons, show tb + (L.length + 1) - 1 = tb + L.length by omega, ao _ _ (by omega)]
            exact f3.2.2.1
        rw [hA2]
        -- back in this frame
        have back : ∀ (s2 : sgA_) (N3 : mm_), ZS_ E c (D + 1) (b + (t.drop j).length) (tb + L.length) A2 s2 N3 → ZS_ E c D b tb A s2 (sI_ N3 0 39 (nI (D + 1))) ∧ (N3.1 0 51 = nI (tb + L.length) → ZB_ E c D b tb A (t.drop j) L s2 (sI_ N3 0 39 (nI (D + 1)))) ∧ (sI_ N3 0 39 (nI (D + 1))).1 25 (D + 1) = nI (p + 1) := fun s2 N3 hz => by
          obtain ⟨k1, k2, k3, k4, k5⟩ := hz
          have g1 : FZ_ D b tb A (sI_ N3 0 39 (nI (D + 1))) := FZ_I (FZ_tr f1 (FZ_tr fA2 (FZ_up (by omega) (by omega) k1))) (Or.inr (by unfold mvR_; omega))
          have g3 : DR_ s2 (sI_ N3 0 39 (nI (D + 1))) := DR_I (by unfold dcR_; omega) k3
          have g4 : JR_ E c s2 (sI_ N3 0 39 (nI (D + 1))) := JR_cg (M := N3) rfl (fun x y z => by rw [gI_sI, if_neg (by unfold jcR_ at z; omega)]) (KM_rf s2) k4
          refine ⟨⟨g1, by rw [gI_sI, if_pos ⟨rfl, rfl⟩], g3, g4, k5⟩, fun h51 => ⟨g1, ?_, ?_, by rw [gI_sI, if_pos ⟨rfl, rfl⟩], by rw [gI_sI, if_neg (by omega)]; exact h51, g3, g4, k5⟩, ?_⟩
          · exact sxP_cg (M := N) (fun i hi => by rw [gI_sI, if_neg (by omega), k1.2 26 i (by unfold pzR_; omega) (by unfold mvR_; omega), ao _ _ (by omega)]) fd
          · exact trP_cg (M := N) (fun i hi => ⟨by rw [gI_sI, if_neg (by omega), k1.2 27 i (by unfold pzR_; omega) (by unfold mvR_; omega), ao _ _ (by omega)], by rw [gI_sI, if_neg (by omega), k1.2 28 i (by unfold pzR_; omega) (by unfold mvR_; omega), ao _ _ (by omega)], by rw [gI_sI, if_neg (by omega), k1.2 29 i (by unfold pzR_; omega) (by unfold mvR_; omega), ao _ _ (by omega)]⟩) f3
          · rw [gI_sI, if_neg (by omega), k1.2 25 _ (by unfold pzR_; omega) (by unfold mvR_; omega), ao _ _ (by omega)]; exact h25
        refine hnext hD9 m2 (b + (t.drop j).length) (tb + L.length) (fun i => (t.take j).reverse.getD i 0) s A2 ((n - p) + R) u d (SR_cg fA2 hSN) (by omega) x39 x23 x25 x24 (by rw [ao _ _ (by omega)]; exact h47) (by rw [ao _ _ (by omega)]; exact f5) (by omega) (by omega) tbA dA jA f8 ?_ ?_
        · show 42 + 50 * (1000 - (iv2_ s + 1)) + ((n - p) + R) ≤ u
          omega
        · rw [show 10 - (D + 1) = 9 - D by omega]
          generalize inA_ E (9 - D) m2 (fun i => (t.take j).reverse.getD i 0) s = o at K1 ⊢
          obtain ⟨o, s2⟩ := o
          cases o with
          | inl v =>
            intro N3 u3 hz h47b h51b hu3
            obtain ⟨k1, k2, k3⟩ := back s2 N3 hz
            refine ⟨fun y => by omega, fun _ => K1 _ u3 (ZP_push v (k2 h51b) k3) (by omega)⟩
          | inr q =>
            intro N3 u3 d3 hz hu3
            obtain ⟨k1, k2, k3⟩ := back s2 N3 hz
            have := K1 (sI_ N3 0 39 (nI (D + 1))) p u3 d3 (Nat.le_refl _) (by omega) (by omega)
            exact ⟨fun y h51b => this.1 y (k2 h51b), fun y => this.2 y k1⟩
end INVR
