/-! the reference's machine: a tree's code does what ES_ says -/
def mvR_ (D b tb a i : Nat) : Prop := (a = 0 ∧ (i = 39 ∨ i = 40 ∨ i = 47 ∨ i = 51 ∨ i = 52 ∨ i = 53)) ∨ (a = 23 ∧ D + 1 < i) ∨ (a = 24 ∧ 3 * D + 6 ≤ i) ∨ (a = 25 ∧ D < i) ∨ (a = 26 ∧ b ≤ i) ∨ ((a = 27 ∨ a = 28 ∨ a = 29) ∧ tb ≤ i)
/-- what the frame at depth D + 1, and those above, leave alone -/
def FZ_ (D b tb : Nat) (A N : mm_) : Prop := N.2 = A.2 ∧ ∀ a i, ¬ pzR_ a i → ¬ mvR_ D b tb a i → N.1 a i = A.1 a i
theorem FZ_rf {D b tb : Nat} {A : mm_} : FZ_ D b tb A A := ⟨rfl, fun _ _ _ _ => rfl⟩
theorem FZ_tr {D b tb : Nat} {A B N : mm_} (h : FZ_ D b tb A B) (g : FZ_ D b tb B N) : FZ_ D b tb A N := ⟨g.1.trans h.1, fun a i z1 z2 => (g.2 a i z1 z2).trans (h.2 a i z1 z2)⟩
theorem FZ_I {D b tb a i : Nat} {A N : mm_} {v : Int32} (h : FZ_ D b tb A N) (ha : pzR_ a i ∨ mvR_ D b tb a i) : FZ_ D b tb A (sI_ N a i v) := ⟨h.1, fun x j z1 z2 => by rw [gI_sI, if_neg (fun y => by rw [y.1, y.2] at z1 z2; exact ha.elim z1 z2)]; exact h.2 x j z1 z2⟩
theorem FZ_fF {D b tb : Nat} {A N : mm_} (h : fF_ A N) : FZ_ D b tb A N := ⟨h.1, fun a i z1 _ => h.2 a i z1⟩
def sxP_ (b : Nat) : List Int32 → mm_ → Prop
  | [], _ => True
  | x :: t, N => N.1 26 (b + t.length) = x ∧ sxP_ b t N
theorem sxP_cg {b : Nat} : ∀ {t : List Int32} {M N : mm_}, (∀ i, i < b + t.length → N.1 26 i = M.1 26 i) → sxP_ b t M → sxP_ b t N
  | [], _, _, _, _ => trivial
  | x :: t, M, N, h, g => ⟨by rw [h _ (by rw [List.length_cons]; omega)]; exact g.1, sxP_cg (fun i hi => h i (by rw [List.length_cons]; omega)) g.2⟩
def trP_ (D b tb : Nat) : List (Nat × Nat) → mm_ → Prop
  | [], _ => True
  | x :: L, N => N.1 27 (tb + L.length) = nI x.1 ∧ N.1 28 (tb + L.length) = nI (b + x.2) ∧ N.1 29 (tb + L.length) = nI (D + 1) ∧ trP_ D b tb L N
theorem trP_cg {D b tb : Nat} : ∀ {L : List (Nat × Nat)} {M N : mm_}, (∀ i, i < tb + L.length → N.1 27 i = M.1 27 i ∧ N.1 28 i = M.1 28 i ∧ N.1 29 i = M.1 29 i) → trP_ D b tb L M → trP_ D b tb L N
  | [], _, _, _, _ => trivial
  | x :: L, M, N, h, g => by
    obtain ⟨h1, h2, h3⟩ := h (tb + L.length) (by rw [List.length_cons]; omega)
    exact ⟨by rw [h1]; exact g.1, by rw [h2]; exact g.2.1, by rw [h3]; exact g.2.2.1, trP_cg (fun i hi => h i (by rw [List.length_cons]; omega)) g.2.2.2⟩
/-- how many invocations -/
def iv2_ (s : sgA_) : Nat := s.2.2.2.2.2
/-- a frame at work, but for its height and place -/
def ZB_ (E : se_) (c D b tb : Nat) (A : mm_) (t : List Int32) (L : List (Nat × Nat)) (s : sgA_) (N : mm_) : Prop := FZ_ D b tb A N ∧ sxP_ b t N ∧ trP_ D b tb L N ∧ N.1 0 39 = nI (D + 1) ∧ N.1 0 51 = nI (tb + L.length) ∧ DR_ s N ∧ JR_ E c s N ∧ WL_ E s
def ZP_ (E : se_) (c D b tb : Nat) (A : mm_) (t : List Int32) (L : List (Nat × Nat)) (s : sgA_) (p : Nat) (N : mm_) : Prop := ZB_ E c D b tb A t L s N ∧ N.1 0 47 = nI (b + t.length) ∧ N.1 25 (D + 1) = nI p
/-- where all stops -/
def ZS_ (E : se_) (c D b tb : Nat) (A : mm_) (s : sgA_) (N : mm_) : Prop := FZ_ D b tb A N ∧ N.1 0 39 = nI (D + 1) ∧ DR_ s N ∧ JR_ E c s N ∧ WL_ E s
theorem ZB_S {E : se_} {c D b tb : Nat} {A : mm_} {t : List Int32} {L : List (Nat × Nat)} {s : sgA_} {N : mm_} (h : ZB_ E c D b tb A t L s N) : ZS_ E c D b tb A s N := ⟨h.1, h.2.2.2.1, h.2.2.2.2.2⟩
/-- one place of the machine's own changes -/
theorem ZB_I {E : se_} {c D b tb : Nat} {A : mm_} {t : List Int32} {L : List (Nat × Nat)} {s : sgA_} {N : mm_} {a i : Nat} {v : Int32} (h : ZB_ E c D b tb A t L s N) (ha : (a = 0 ∧ (i = 47 ∨ i = 52 ∨ i = 53)) ∨ (a = 25 ∧ D < i) ∨ (a = 26 ∧ b + t.length ≤ i) ∨ ((a = 27 ∨ a = 28 ∨ a = 29) ∧ tb + L.length ≤ i)) : ZB_ E c D b tb A t L s (sI_ N a i v) := by
  obtain ⟨h1, h2, h3, h4, h5, h6, h7, h8⟩ := h
  refine ⟨FZ_I h1 (Or.inr (by unfold mvR_; omega)), sxP_cg (fun x hx => by rw [gI_sI, if_neg (by omega)]) h2, trP_cg (fun x hx => ⟨by rw [gI_sI, if_neg (by omega)], by rw [gI_sI, if_neg (by omega)], by rw [gI_sI, if_neg (by omega)]⟩) h3, by rw [gI_sI, if_neg (by omega)]; exact h4, by rw [gI_sI, if_neg (by omega)]; exact h5, DR_I (by unfold dcR_; omega) h6, JR_cg (M := N) rfl (fun x y z => by rw [gI_sI, if_neg (by unfold jcR_ at z; omega)]) (KM_rf s) h7, h8⟩
section TRP
variable {G : gg_} {d : Nat} {Q : mm_ → Prop} {E : se_} {c D b tb m n R : Nat} {A : mm_} {C0 : List sv_} {V : Nat → Int32} {I : Int64 → List Int32 → sgA_ → io2_}
/-- what comes behind -/
def KP_ (G : gg_) (d : Nat) (Q : mm_ → Prop) (E : se_) (c D b tb : Nat) (A : mm_) (n R : Nat) (L : List (Nat × Nat)) (lo hi : Nat) (t : List Int32) (o : eo_) : Prop := match o with
  | (.inl t2, s2) => ∀ (N : mm_) (u : Nat), ZP_ E c D b tb A t2 L s2 hi N → (n - hi) + 1 + 50 * (1000 - iv2_ s2) + R ≤ u → WPL_ G d Q c u N
  | (.inr q, s2) => ∀ (N : mm_) (a u d2 : Nat), lo ≤ a → a < hi → (n - a) + 50 * (1000 - iv2_ s2) + R ≤ u → (q.1 = 1 → ZB_ E c D b tb A t L s2 N → TUW_ G d2 q.2 (WPL_ G d Q c u) (D + 1) N) ∧ (q.1 = 2 → ZS_ E c D b tb A s2 N → TAW_ G d2 q.2 (WPL_ G d Q c u) (D + 1) N)
/-- a frame's program, its parameters, and what its invocations do -/
def RGP_ (G : gg_) (d : Nat) (Q : mm_ → Prop) (E : se_) (c D b tb m n R : Nat) (A : mm_) (C0 : List sv_) (V : Nat → Int32) (I : Int64 → List Int32 → sgA_ → io2_) : Prop := A.1 23 (D + 1) = nI m ∧ m < 16 ∧ A.1 4 m = nI n ∧ C0.length = n ∧ n ≤ 40 ∧ (∀ (i : Nat) (x : sv_), C0[i]? = some x → A.1 2 (64 * m + i) = x.1 ∧ A.2.1 3 (64 * m + i) = x.2) ∧ (∀ i, i < 3 → A.1 24 (3 * (D + 1) + i) = V i) ∧ D ≤ 9 ∧ b ≤ 40 * D ∧ tb ≤ 20 * D ∧
  (∀ (N : mm_) (t : List Int32) (L : List (Nat × Nat)) (s : sgA_) (K : Int64) (j p u : Nat), ZB_ E c D b tb A t L s N → N.1 0 47 = nI (b + (t.drop j).length) → NK_ K (de_ K) (nI j) → j ≤ 3 → j ≤ t.length → t.length ≤ p → L.length ≤ 20 → p < n → (n - p) + 50 * (1000 - iv2_ s) + R ≤ u → N.1 25 (D + 1) = nI (p + 1) → KP_ G d Q E c D b tb A n R L p (p + 1) (t.drop j) (oi_ (t.drop j) (I K (t.take j) s)) → IVW_ G d (WPL_ G d Q c u) c (D + 1) (b + (t.drop j).length) (iv2_ s) j (de_ K) N)
/-- a step at p -/
theorem WPL_st (hR : RGP_ G d Q E c D b tb m n R A C0 V I) {t : List Int32} {L : List (Nat × Nat)} {s : sgA_} {N : mm_} {p u : Nat} {x : sv_} (hZ : ZP_ E c D b tb A t L s p N) (hx : C0[p]? = some x) (ht : t.length ≤ p) (hL : L.length ≤ 20) (hu : 1 ≤ u) (hc : ∀ u2 B, u = u2 + 1 → ZB_ E c D b tb A t L s B → B.1 0 47 = nI (b + t.length) → B.1 25 (D + 1) = nI (p + 1) → (∀ (y : Int32) (v : Int64), y = x.1 → v = x.2 →
    (y = 0 → WPL_ G d Q c u2 (ps_ B (b + t.length) v.toInt32)) ∧
    (y = 1 → ∃ j, j < 3 ∧ v.toInt32 = nI j ∧ WPL_ G d Q c u2 (ps_ B (b + t.length) (B.1 24 (3 * (D + 1) + j)))) ∧
    (y = 3 → 1 ≤ b + t.length ∧ WPL_ G d Q c u2 (sI_ B 26 (b + t.length - 1) (-(B.1 26 (b + t.length - 1))))) ∧
    (y = 4 → 1 ≤ b + t.length ∧ TUW_ G (d + 1) (B.1 26 (b + t.length - 1)) (WPL_ G d Q c u2) (D + 1) (sI_ B 0 47 (nI (b + t.length - 1)))) ∧
    (y = 5 → 1 ≤ b + t.length ∧ ∃ w, v.toInt32 = nI w ∧ (B.1 26 (b + t.length - 1) = 0 → WPL_ G d Q c u2 (sI_ (sI_ B 0 47 (nI (b + t.length - 1))) 25 (D + 1) (nI (p + 1 + w)))) ∧ (¬ B.1 26 (b + t.length - 1) = 0 → WPL_ G d Q c u2 (sI_ (sI_ B 0 47 (nI (b + t.length - 1))) 25 (D + 1) (nI (p + 1))))) ∧
    (y = 6 → ∃ w, v.toInt32 = nI w ∧ WPL_ G d Q c u2 (sI_ B 25 (D + 1) (nI (p + 1 + w)))) ∧
    (y = 7 → ∃ w, v.toInt32 = nI w ∧ WPL_ G d Q c u2 (sI_ (sI_ (sI_ (sI_ B 27 (tb + L.length) (nI (p + 1 + w))) 28 (tb + L.length) (nI (b + t.length))) 29 (tb + L.length) (nI (D + 1))) 0 51 (nI (tb + L.length + 1)))) ∧
    (y = 8 → 1 ≤ tb + L.length ∧ ∃ w, v.toInt32 = nI w ∧ WPL_ G d Q c u2 (sI_ (sI_ B 0 51 (nI (tb + L.length - 1))) 25 (D + 1) (nI (p + 1 + w)))) ∧
    (y = 9 → ∃ j k h2, j ≤ 3 ∧ (v &&& 3).toInt32 = nI j ∧ b + t.length = h2 + j ∧ IVW_ G d (WPL_ G d Q c u2) c (D + 1) h2 k j (v >>> ((2 : Int32).toInt64 &&& 63)) (sI_ B 0 47 (nI h2))) ∧
    (y = 2 → 2 ≤ b + t.length ∧ (OV_ v.toInt32 (B.1 26 (b + t.length - 1)) → TUW_ G (d + 1) (-1) (WPL_ G d Q c u2) (D + 1) (sI_ B 0 47 (nI (b + t.length - 2)))) ∧ (¬ OV_ v.toInt32 (B.1 26 (b + t.length - 1)) → WPL_ G d Q c u2 (sI_ (sI_ B 0 47 (nI (b + t.length - 1))) 26 (b + t.length - 1 - 1) (rs_ v.toInt32 (B.1 26 (b + t.length - 1 - 1)) (B.1 26 (b + t.length - 1)))))) ∧
    (y = 0 ∨ y = 1 ∨ y = 2 ∨ y = 3 ∨ y = 4 ∨ y = 5 ∨ y = 6 ∨ y = 7 ∨ y = 8 ∨ y = 9))) : WPL_ G d Q c u N := by
  obtain ⟨r1, r2, r3, r4, r5, r6, r7, r8, r9, r10, r11⟩ := hR
  obtain ⟨hZB, h47, h25⟩ := hZ
  have hF := hZB.1
  have hp : p < n := by rw [← r4]; exact (List.getElem?_eq_some_iff.mp hx).1
  obtain ⟨u, rfl⟩ : ∃ v, u = v + 1 := ⟨u - 1, by omega⟩
  have f : ∀ a i, (a = 2 ∨ a = 4) → N.1 a i = A.1 a i := fun a i z => hF.2 a i (by unfold pzR_; omega) (by unfold mvR_; omega)
  refine Or.inr ⟨D, b + t.length, tb + L.length, m, p, n, hZB.2.2.2.1, r8, by rw [hF.2 23 (D + 1) (by unfold pzR_; omega) (by unfold mvR_; omega)]; exact r1, r2, h25, by rw [f 4 m (by omega)]; exact r3, r5, by omega, h47, by omega, hZB.2.2.2.2.1, by omega, fun y => by omega, fun _ y v e1 e2 B hB => ?_⟩
  obtain ⟨c1, c2⟩ := r6 p x hx
  rw [f 2 _ (by omega), c1] at e1
  rw [hF.1, c2] at e2
  have zB : ZB_ E c D b tb A t L s B := by rw [hB]; exact ZB_I hZB (by omega)
  exact hc u B rfl zB (by rw [hB, gI_sI, if_neg (by omega)]; exact h47) (by rw [hB, gI_sI, if_pos ⟨rfl, rfl⟩]) y v e1.symm e2.symm
theorem ZP_push {t : List Int32} {L : List (Nat × Nat)} {s : sgA_} {p : Nat} {B : mm_} (v : Int32) (h : ZB_ E c D b tb A t L s B) (h25 : B.1 25 (D + 1) = nI p) : ZP_ E c D b tb A (v :: t) L s p (ps_ B (b + t.length) v) := by
  unfold ps_
  have z1 : ZB_ E c D b tb A t L s (sI_ B 26 (b + t.length) v) := ZB_I h (by omega)
  have z2 := ZB_I (a := 0) (i := 47) (v := nI (b + t.length + 1)) z1 (by omega)
  refine ⟨⟨z2.1, ⟨by rw [gI_sI, if_neg (by omega), gI_sI, if_pos ⟨rfl, rfl⟩], z2.2.1⟩, z2.2.2⟩, by rw [gI_sI, if_pos ⟨rfl, rfl⟩]; rfl, by rw [gI_sI, if_neg (by omega), gI_sI, if_neg (by omega)]; exact h25⟩
theorem ZB_tl {t : List Int32} {x : Int32} {L : List (Nat × Nat)} {s : sgA_} {N : mm_} (h : ZB_ E c D b tb A (x :: t) L s N) : ZB_ E c D b tb A t L s N := ⟨h.1, h.2.1.2, h.2.2⟩
theorem l1p {x : Int32} {t : List Int32} : b + (x :: t).length - 1 = b + t.length := by rw [List.length_cons]; omega
end TRP
