section
/-! the reference's machine: a tree's code does what ES_ says -/
def mvR_ (D b tb a i : Nat) : Prop := (a = 0 ∧ (i = 39 ∨ i = 40 ∨ i = 47 ∨ i = 51 ∨ i = 52 ∨ i = 53)) ∨ (a = 23 ∧ D + 1 < i) ∨ (a = 24 ∧ 3 * D + 6 ≤ i) ∨ (a = 25 ∧ D < i) ∨ (a = 26 ∧ b ≤ i) ∨ ((a = 27 ∨ a = 28 ∨ a = 29) ∧ tb ≤ i)
/-- what the frame at depth D + 1, and those above, leave alone -/
def FZ_ (D b tb : Nat) (A N : mm_) : Prop := N.2 = A.2 ∧ ∀ a i, ¬ pzR_ a i → ¬ mvR_ D b tb a i → N.1 a i = A.1 a i
theorem FZ_rf {D b tb : Nat} {A : mm_} : FZ_ D b tb A A := ⟨rfl, fun _ _ _ _ => rfl⟩
theorem FZ_tr {D b tb : Nat} {A B N : mm_} (h : FZ_ D b tb A B) (g : FZ_ D b tb B N) : FZ_ D b tb A N := ⟨g.1.trans h.1, fun a i z1 z2 => (g.2 a i z1 z2).trans (h.2 a i z1 z2)⟩
theorem FZ_I {D b tb a i : Nat} {A N : mm_} {v : Int32} (h : FZ_ D b tb A N) (ha : pzR_ a i ∨ mvR_ D b tb a i) : FZ_ D b tb A (sI_ N a i v) := ⟨h.1, fun x j z1 z2 => by rw [gI_sI, if_neg (fun y => by rw [y.1, y.2] at z1 z2; exact ha.elim z1 z2)]; exact h.2 x j z1 z2⟩
theorem FZ_fF {D b tb : Nat} {A N : mm_} (h : fF_ A N) : FZ_ D b tb A N := ⟨h.1, fun a i z1 _ => h.2 a i z1⟩
def sxP_ (b : Nat) : List Int32 → mm_ → Prop
  | [], _ => True
  | x :: t, N => N.1 26 (b + t.length) = x ∧ sxP_ b t N
theorem sxP_cg {b : Nat} : ∀ {t : List Int32} {M N : mm_}, (∀ i, i < b + t.length → N.1 26 i = M.1 26 i) → sxP_ b t M → sxP_ b t N
  | [], _, _, _, _ => trivial
  | x :: t, M, N, h, g => ⟨by rw [h _ (by rw [List.length_cons]; omega)]; exact g.1, sxP_cg (fun i hi => h i (by rw [List.length_cons]; omega)) g.2⟩
def trP_ (D b tb : Nat) : List (Nat × Nat) → mm_ → Prop
  | [], _ => True
  | x :: L, N => N.1 27 (tb + L.length) = nI x.1 ∧ N.1 28 (tb + L.length) = nI (b + x.2) ∧ N.1 29 (tb + L.length) = nI (D + 1) ∧ trP_ D b tb L N
theorem trP_cg {D b tb : Nat} : ∀ {L : List (Nat × Nat)} {M N : mm_}, (∀ i, i < tb + L.length → N.1 27 i = M.1 27 i ∧ N.1 28 i = M.1 28 i ∧ N.1 29 i = M.1 29 i) → trP_ D b tb L M → trP_ D b tb L N
  | [], _, _, _, _ => trivial
  | x :: L, M, N, h, g => by
    obtain ⟨h1, h2, h3⟩ := h (tb + L.length) (by rw [List.length_cons]; omega)
    exact ⟨by rw [h1]; exact g.1, by rw [h2]; exact g.2.1, by rw [h3]; exact g.2.2.1, trP_cg (fun i hi => h i (by rw [List.length_cons]; omega)) g.2.2.2⟩
/-- how many invocations -/
def iv2_ (s : sgA_) : Nat := s.2.2.2.2.2
/-- a frame at work, but for its height and place -/
def ZB_ (E : se_) (c D b tb : Nat) (A : mm_) (t : List Int32) (L : List (Nat × Nat)) (s : sgA_) (N : mm_) : Prop := FZ_ D b tb A N ∧ sxP_ b t N ∧ trP_ D b tb L N ∧ N.1 0 39 = nI (D + 1) ∧ N.1 0 51 = nI (tb + L.length) ∧ DR_ s N ∧ JR_ E c s N ∧ WL_ E s
def ZP_ (E : se_) (c D b tb : Nat) (A : mm_) (t : List Int32) (L : List (Nat × Nat)) (s : sgA_) (p : Nat) (N : mm_) : Prop := ZB_ E c D b tb A t L s N ∧ N.1 0 47 = nI (b + t.length) ∧ N.1 25 (D + 1) = nI p
/-- where all stops -/
def ZS_ (E : se_) (c D b tb : Nat) (A : mm_) (s : sgA_) (N : mm_) : Prop := FZ_ D b tb A N ∧ N.1 0 39 = nI (D + 1) ∧ DR_ s N ∧ JR_ E c s N ∧ WL_ E s
theorem ZB_S {E : se_} {c D b tb : Nat} {A : mm_} {t : List Int32} {L : List (Nat × Nat)} {s : sgA_} {N : mm_} (h : ZB_ E c D b tb A t L s N) : ZS_ E c D b tb A s N := ⟨h.1, h.2.2.2.1, h.2.2.2.2.2⟩
/-- one place of the machine's own changes -/
theorem ZB_I {E : se_} {c D b tb : Nat} {A : mm_} {t : List Int32} {L : List (Nat × Nat)} {s : sgA_} {N : mm_} {a i : Nat} {v : Int32} (h : ZB_ E c D b tb A t L s N) (ha : (a = 0 ∧ (i = 47 ∨ i = 52 ∨ i = 53)) ∨ (a = 25 ∧ D < i) ∨ (a = 26 ∧ b + t.length ≤ i) ∨ ((a = 27 ∨ a = 28 ∨ a = 29) ∧ tb + L.length ≤ i)) : ZB_ E c D b tb A t L s (sI_ N a i v) := by
  obtain ⟨h1, h2, h3, h4, h5, h6, h7, h8⟩ := h
  refine ⟨FZ_I h1 (Or.inr (by unfold mvR_; omega)), sxP_cg (fun x hx => by rw [gI_sI, if_neg (by omega)]) h2, trP_cg (fun x hx => ⟨by rw [gI_sI, if_neg (by omega)], by rw [gI_sI, if_neg (by omega)], by rw [gI_sI, if_neg (by omega)]⟩) h3, by rw [gI_sI, if_neg (by omega)]; exact h4, by rw [gI_sI, if_neg (by omega)]; exact h5, DR_I (by unfold dcR_; omega) h6, JR_cg (M := N) rfl (fun x y z => by rw [gI_sI, if_neg (by unfold jcR_ at z; omega)]) (KM_rf s) h7, h8⟩
section TRP
variable {G : gg_} {d : Nat} {Q : mm_ → Prop} {E : se_} {c D b tb m n R : Nat} {A : mm_} {C0 : List sv_} {V : Nat → Int32} {I : Int64 → List Int32 → sgA_ → io2_}
/-- what comes behind -/
def KP_ (G : gg_) (d : Nat) (Q : mm_ → Prop) (E : se_) (c D b tb : Nat) (A : mm_) (n R : Nat) (L : List (Nat × Nat)) (lo hi : Nat) (t : List Int32) (o : eo_) : Prop := match o with
  | (.inl t2, s2) => ∀ (N : mm_) (u : Nat), ZP_ E c D b tb A t2 L s2 hi N → (n - hi) + 1 + 50 * (1000 - iv2_ s2) + R ≤ u → WPL_ G d Q c u N
  | (.inr q, s2) => ∀ (N : mm_) (a u d2 : Nat), lo ≤ a → a < hi → (n - a) + 50 * (1000 - iv2_ s2) + R ≤ u → (q.1 = 1 → ZB_ E c D b tb A t L s2 N → TUW_ G d2 q.2 (WPL_ G d Q c u) (D + 1) N) ∧ (q.1 = 2 → ZS_ E c D b tb A s2 N → TAW_ G d2 q.2 (WPL_ G d Q c u) (D + 1) N)
/-- a frame's program, its parameters, and what its invocations do -/
def RGP_ (G : gg_) (d : Nat) (Q : mm_ → Prop) (E : se_) (c D b tb m n R : Nat) (A : mm_) (C0 : List sv_) (V : Nat → Int32) (I : Int64 → List Int32 → sgA_ → io2_) : Prop := A.1 23 (D + 1) = nI m ∧ m < 16 ∧ A.1 4 m = nI n ∧ C0.length = n ∧ n ≤ 40 ∧ (∀ (i : Nat) (x : sv_), C0[i]? = some x → A.1 2 (64 * m + i) = x.1 ∧ A.2.1 3 (64 * m + i) = x.2) ∧ (∀ i, i < 3 → A.1 24 (3 * (D + 1) + i) = V i) ∧ D ≤ 9 ∧ b ≤ 40 * D ∧ tb ≤ 20 * D ∧
  (∀ (N : mm_) (t : List Int32) (L : List (Nat × Nat)) (s : sgA_) (K : Int64) (j p u : Nat), ZB_ E c D b tb A t L s N → N.1 0 47 = nI (b + (t.drop j).length) → NK_ K (de_ K) (nI j) → j ≤ 3 → j ≤ t.length → t.length ≤ p → L.length ≤ 20 → p < n → (n - p) + 50 * (1000 - iv2_ s) + R ≤ u → N.1 25 (D + 1) = nI (p + 1) → KP_ G d Q E c D b tb A n R L p (p + 1) (t.drop j) (oi_ (t.drop j) (I K (t.take j) s)) → IVW_ G d (WPL_ G d Q c u) c (D + 1) (b + (t.drop j).length) (iv2_ s) j (de_ K) N)
/-- a step at p -/
theorem WPL_st (hR : RGP_ G d Q E c D b tb m n R A C0 V I) {t : List Int32} {L : List (Nat × Nat)} {s : sgA_} {N : mm_} {p u : Nat} {x : sv_} (hZ : ZP_ E c D b tb A t L s p N) (hx : C0[p]? = some x) (ht : t.length ≤ p) (hL : L.length ≤ 20) (hu : 1 ≤ u) (hc : ∀ u2 B, u = u2 + 1 → ZB_ E c D b tb A t L s B → B.1 0 47 = nI (b + t.length) → B.1 25 (D + 1) = nI (p + 1) → (∀ (y : Int32) (v : Int64), y = x.1 → v = x.2 →
    (y = 0 → WPL_ G d Q c u2 (ps_ B (b + t.length) v.toInt32)) ∧
    (y = 1 → ∃ j, j < 3 ∧ v.toInt32 = nI j ∧ WPL_ G d Q c u2 (ps_ B (b + t.length) (B.1 24 (3 * (D + 1) + j)))) ∧
    (y = 3 → 1 ≤ b + t.length ∧ WPL_ G d Q c u2 (sI_ B 26 (b + t.length - 1) (-(B.1 26 (b + t.length - 1))))) ∧
    (y = 4 → 1 ≤ b + t.length ∧ TUW_ G (d + 1) (B.1 26 (b + t.length - 1)) (WPL_ G d Q c u2) (D + 1) (sI_ B 0 47 (nI (b + t.length - 1)))) ∧
    (y = 5 → 1 ≤ b + t.length ∧ ∃ w, v.toInt32 = nI w ∧ (B.1 26 (b + t.length - 1) = 0 → WPL_ G d Q c u2 (sI_ (sI_ B 0 47 (nI (b + t.length - 1))) 25 (D + 1) (nI (p + 1 + w)))) ∧ (¬ B.1 26 (b + t.length - 1) = 0 → WPL_ G d Q c u2 (sI_ (sI_ B 0 47 (nI (b + t.length - 1))) 25 (D + 1) (nI (p + 1))))) ∧
    (y = 6 → ∃ w, v.toInt32 = nI w ∧ WPL_ G d Q c u2 (sI_ B 25 (D + 1) (nI (p + 1 + w)))) ∧
    (y = 7 → ∃ w, v.toInt32 = nI w ∧ WPL_ G d Q c u2 (sI_ (sI_ (sI_ (sI_ B 27 (tb + L.length) (nI (p + 1 + w))) 28 (tb + L.length) (nI (b + t.length))) 29 (tb + L.length) (nI (D + 1))) 0 51 (nI (tb + L.length + 1)))) ∧
    (y = 8 → 1 ≤ tb + L.length ∧ ∃ w, v.toInt32 = nI w ∧ WPL_ G d Q c u2 (sI_ (sI_ B 0 51 (nI (tb + L.length - 1))) 25 (D + 1) (nI (p + 1 + w)))) ∧
    (y = 9 → ∃ j k h2, j ≤ 3 ∧ (v &&& 3).toInt32 = nI j ∧ b + t.length = h2 + j ∧ IVW_ G d (WPL_ G d Q c u2) c (D + 1) h2 k j (v >>> ((2 : Int32).toInt64 &&& 63)) (sI_ B 0 47 (nI h2))) ∧
    (y = 2 → 2 ≤ b + t.length ∧ (OV_ v.toInt32 (B.1 26 (b + t.length - 1)) → TUW_ G (d + 1) (-1) (WPL_ G d Q c u2) (D + 1) (sI_ B 0 47 (nI (b + t.length - 2)))) ∧ (¬ OV_ v.toInt32 (B.1 26 (b + t.length - 1)) → WPL_ G d Q c u2 (sI_ (sI_ B 0 47 (nI (b + t.length - 1))) 26 (b + t.length - 1 - 1) (rs_ v.toInt32 (B.1 26 (b + t.length - 1 - 1)) (B.1 26 (b + t.length - 1)))))) ∧
    (y = 0 ∨ y = 1 ∨ y = 2 ∨ y = 3 ∨ y = 4 ∨ y = 5 ∨ y = 6 ∨ y = 7 ∨ y = 8 ∨ y = 9))) : WPL_ G d Q c u N := by
  obtain ⟨r1, r2, r3, r4, r5, r6, r7, r8, r9, r10, r11⟩ := hR
  obtain ⟨hZB, h47, h25⟩ := hZ
  have hF := hZB.1
  have hp : p < n := by rw [← r4]; exact (List.getElem?_eq_some_iff.mp hx).1
  obtain ⟨u, rfl⟩ : ∃ v, u = v + 1 := ⟨u - 1, by omega⟩
  have f : ∀ a i, (a = 2 ∨ a = 4) → N.1 a i = A.1 a i := fun a i z => hF.2 a i (by unfold pzR_; omega) (by unfold mvR_; omega)
  refine Or.inr ⟨D, b + t.length, tb + L.length, m, p, n, hZB.2.2.2.1, r8, by rw [hF.2 23 (D + 1) (by unfold pzR_; omega) (by unfold mvR_; omega)]; exact r1, r2, h25, by rw [f 4 m (by omega)]; exact r3, r5, by omega, h47, by omega, hZB.2.2.2.2.1, by omega, fun y => by omega, fun _ y v e1 e2 B hB => ?_⟩
  obtain ⟨c1, c2⟩ := r6 p x hx
  rw [f 2 _ (by omega), c1] at e1
  rw [hF.1, c2] at e2
  have zB : ZB_ E c D b tb A t L s B := by rw [hB]; exact ZB_I hZB (by omega)
  exact hc u B rfl zB (by rw [hB, gI_sI, if_neg (by omega)]; exact h47) (by rw [hB, gI_sI, if_pos ⟨rfl, rfl⟩]) y v e1.symm e2.symm
theorem ZP_push {t : List Int32} {L : List (Nat × Nat)} {s : sgA_} {p : Nat} {B : mm_} (v : Int32) (h : ZB_ E c D b tb A t L s B) (h25 : B.1 25 (D + 1) = nI p) : ZP_ E c D b tb A (v :: t) L s p (ps_ B (b + t.length) v) := by
  unfold ps_
  have z1 : ZB_ E c D b tb A t L s (sI_ B 26 (b + t.length) v) := ZB_I h (by omega)
  have z2 := ZB_I (a := 0) (i := 47) (v := nI (b + t.length + 1)) z1 (by omega)
  refine ⟨⟨z2.1, ⟨by rw [gI_sI, if_neg (by omega), gI_sI, if_pos ⟨rfl, rfl⟩], z2.2.1⟩, z2.2.2⟩, by rw [gI_sI, if_pos ⟨rfl, rfl⟩]; rfl, by rw [gI_sI, if_neg (by omega), gI_sI, if_neg (by omega)]; exact h25⟩
theorem ZB_tl {t : List Int32} {x : Int32} {L : List (Nat × Nat)} {s : sgA_} {N : mm_} (h : ZB_ E c D b tb A (x :: t) L s N) : ZB_ E c D b tb A t L s N := ⟨h.1, h.2.1.2, h.2.2⟩
theorem l1p {x : Int32} {t : List Int32} : b + (x :: t).length - 1 = b + t.length := by rw [List.length_cons]; omega
end TRP
end
section
/-! the reference's machine: trees -/
theorem ac_tm : ∀ x : Term, wfX_ false x → ac_ (tm_ x) = an_ x
  | .null, _ => rfl
  | .add a r, w => by rw [tm_, ac_, an_, ac_tm r w.2]
theorem an_tc : ∀ x : Term, wfX_ false x → an_ x ≤ (tc_ (tm_ x)).length
  | .null, _ => Nat.zero_le _
  | .add a r, w => by
    have h1 := tc_pos a w.1
    have h2 := an_tc r w.2
    rw [tm_, tc_, an_, List.length_append]
    omega
theorem sh2_ {a j : Nat} (ha : a < 2 ^ 60) (hj : j < 4) : ((lN a <<< ((2 : Int32).toInt64 &&& 63)) ||| (nI j).toInt64) >>> ((2 : Int32).toInt64 &&& 63) = lN a := by
  have hjn : ∀ j, j < 4 → (nI j).toInt64.toBitVec.toNat = j := by decide +kernel
  have e2 : ((2 : Int32).toInt64 &&& 63) = (2 : Int64) := by decide +kernel
  rw [e2]
  apply Int64.toBitVec_inj.mp
  apply BitVec.eq_of_toNat_eq
  have s2 : ((2 : Int64).toBitVec.smod 64) = 2#64 := by decide +kernel
  have h1 : ((lN a <<< (2 : Int64)) ||| (nI j).toInt64).toBitVec.toNat = a * 4 + j := by
    rw [Int64.toBitVec_or, BitVec.toNat_or, hjn j hj, Int64.toBitVec_shiftLeft, s2, BitVec.shiftLeft_eq', BitVec.toNat_shiftLeft, tbl_ (by omega), show (2#64).toNat = 2 from rfl, Nat.shiftLeft_eq, Nat.mod_eq_of_lt (by omega), Nat.mul_comm a, show (2 : Nat) ^ 2 * a = 2 ^ 2 * a from rfl, ← Nat.two_pow_add_eq_or_of_lt (by omega : j < 2 ^ 2)]
  rw [Int64.toBitVec_shiftRight, s2, BitVec.sshiftRight_eq', show (2#64).toNat = 2 from rfl, BitVec.toNat_sshiftRight_of_msb_false, h1, tbl_ (by omega), Nat.shiftRight_eq_div_pow]
  · omega
  · rw [BitVec.msb_eq_decide, h1]
    simp
    omega
theorem NK_de {K a : Int64} {p : Int32} (h : NK_ K a p) : ∃ x, x < 2 ^ 60 ∧ a = lN x := by
  obtain ⟨f, k, z, j, h1, h2, -, -, h3, -⟩ := h
  exact ⟨BE_ f k z, Nat.lt_of_lt_of_le (BE_lt z h1) (p32_le h2), by rw [h3, nm_BE z h2 h1]⟩
section TRP2
variable {G : gg_} {d : Nat} {Q : mm_ → Prop} {E : se_} {c D b tb m n R : Nat} {A : mm_} {C0 : List sv_} {V : Nat → Int32} {I : Int64 → List Int32 → sgA_ → io2_}
theorem ZP_set {t : List Int32} {x : Int32} {L : List (Nat × Nat)} {s : sgA_} {p : Nat} {B : mm_} (y : Int32) (h : ZB_ E c D b tb A (x :: t) L s B) (h47 : B.1 0 47 = nI (b + (x :: t).length)) (h25 : B.1 25 (D + 1) = nI p) : ZP_ E c D b tb A (y :: t) L s p (sI_ B 26 (b + t.length) y) := by
  have z1 : ZB_ E c D b tb A t L s (sI_ B 26 (b + t.length) y) := ZB_I (ZB_tl h) (by omega)
  exact ⟨⟨z1.1, ⟨by rw [gI_sI, if_pos ⟨rfl, rfl⟩], z1.2.1⟩, z1.2.2⟩, by rw [gI_sI, if_neg (by omega)]; exact h47, by rw [gI_sI, if_neg (by omega)]; exact h25⟩
theorem ZB_pop {t : List Int32} {y : Nat × Nat} {L : List (Nat × Nat)} {s : sgA_} {B : mm_} (h : ZB_ E c D b tb A t (y :: L) s B) : ZB_ E c D b tb A t L s (sI_ B 0 51 (nI (tb + L.length))) := by
  obtain ⟨h1, h2, h3, h4, h5, h6, h7, h8⟩ := h
  refine ⟨FZ_I h1 (Or.inr (by unfold mvR_; omega)), sxP_cg (fun x hx => by rw [gI_sI, if_neg (by omega)]) h2, trP_cg (fun x hx => ⟨by rw [gI_sI, if_neg (by omega)], by rw [gI_sI, if_neg (by omega)], by rw [gI_sI, if_neg (by omega)]⟩) h3.2.2.2, by rw [gI_sI, if_neg (by omega)]; exact h4, by rw [gI_sI, if_pos ⟨rfl, rfl⟩], DR_I (by unfold dcR_; omega) h6, JR_cg (M := B) rfl (fun x y z => by rw [gI_sI, if_neg (by unfold jcR_ at z; omega)]) (KM_rf s) h7, h8⟩
theorem ZB_try {t : List Int32} {L : List (Nat × Nat)} {s : sgA_} {B : mm_} (w : Nat) (h : ZB_ E c D b tb A t L s B) : ZB_ E c D b tb A t ((w, t.length) :: L) s (sI_ (sI_ (sI_ (sI_ B 27 (tb + L.length) (nI w)) 28 (tb + L.length) (nI (b + t.length))) 29 (tb + L.length) (nI (D + 1))) 0 51 (nI (tb + L.length + 1))) := by
  have z3 : ZB_ E c D b tb A t L s (sI_ (sI_ (sI_ B 27 (tb + L.length) (nI w)) 28 (tb + L.length) (nI (b + t.length))) 29 (tb + L.length) (nI (D + 1))) := ZB_I (ZB_I (ZB_I h (by omega)) (by omega)) (by omega)
  obtain ⟨h1, h2, h3, h4, h5, h6, h7, h8⟩ := z3
  refine ⟨FZ_I h1 (Or.inr (by unfold mvR_; omega)), sxP_cg (fun x hx => by rw [gI_sI, if_neg (by omega)]) h2, ⟨?_, ?_, ?_, trP_cg (fun x hx => ⟨by rw [gI_sI, if_neg (by omega)], by rw [gI_sI, if_neg (by omega)], by rw [gI_sI, if_neg (by omega)]⟩) h3⟩, by rw [gI_sI, if_neg (by omega)]; exact h4, by rw [gI_sI, if_pos ⟨rfl, rfl⟩]; rfl, DR_I (by unfold dcR_; omega) h6, JR_cg (M := sI_ (sI_ (sI_ B 27 (tb + L.length) (nI w)) 28 (tb + L.length) (nI (b + t.length))) 29 (tb + L.length) (nI (D + 1))) rfl (fun x y z => by rw [gI_sI, if_neg (by unfold jcR_ at z; omega)]) (KM_rf s) h7, h8⟩
  · rw [gI_sI, if_neg (by omega), gI_sI, if_neg (by omega), gI_sI, if_neg (by omega), gI_sI, if_pos ⟨rfl, rfl⟩]
  · rw [gI_sI, if_neg (by omega), gI_sI, if_neg (by omega), gI_sI, if_pos ⟨rfl, rfl⟩]
  · rw [gI_sI, if_neg (by omega), gI_sI, if_pos ⟨rfl, rfl⟩]
theorem KP_w {L : List (Nat × Nat)} {lo lo2 hi : Nat} {t : List Int32} {o : eo_} (hl : lo ≤ lo2) (h : KP_ G d Q E c D b tb A n R L lo hi t o) : KP_ G d Q E c D b tb A n R L lo2 hi t o := by
  obtain ⟨o, s2⟩ := o
  cases o with
  | inl t2 => exact h
  | inr q => exact fun N a u d2 h1 h2 h3 => h N a u d2 (by omega) h2 h3
theorem TRP_ (hR : RGP_ G d Q E c D b tb m n R A C0 V I) : ∀ (g : Bool) (e : Term), wfX_ g e → ixn_ 3 e → KK_ e → ∀ (p u : Nat) (t : List Int32) (L : List (Nat × Nat)) (s : sgA_) (N : mm_), SG2_ C0 (tc_ (tm_ e)) p → t.length ≤ p → L.length ≤ p → p + (tc_ (tm_ e)).length + L.length ≤ n → (n - p) + 1 + 50 * (1000 - iv2_ s) + R ≤ u → ZP_ E c D b tb A t L s p N → KP_ G d Q E c D b tb A n R L p (p + (tc_ (tm_ e)).length) t (ES_ I V e t s) → WPL_ G d Q c u N
  | true, .int v, w, hi, hk, p, u, t, L, s, N, hS, ht, hL, hp, hu, hZ, K => by
    have hS : SG2_ C0 [(0, v.toInt64)] p := hS
    have hn40 := hR.2.2.2.2.1
    have hp : p + 1 + L.length ≤ n := hp
    rw [ES_] at K
    refine WPL_st hR hZ (SG2_h hS) ht (by omega) (by omega) (fun u3 B eu zB b47 b25 y v2 e1 e2 => ?_)
    subst e1 e2
    refine ⟨fun _ => ?_, fun y => absurd y (by simp only; decide), fun y => absurd y (by simp only; decide), fun y => absurd y (by simp only; decide), fun y => absurd y (by simp only; decide), fun y => absurd y (by simp only; decide), fun y => absurd y (by simp only; decide), fun y => absurd y (by simp only; decide), fun y => absurd y (by simp only; decide), fun y => absurd y (by simp only; decide), Or.inl rfl⟩
    show WPL_ G d Q c u3 (ps_ B (b + t.length) v.toInt64.toInt32)
    rw [n_i]
    exact K _ u3 (ZP_push v zB b25) (by show n - (p + 1) + 1 + _ + R ≤ u3; omega)
  | true, .index i, w, hi, hk, p, u, t, L, s, N, hS, ht, hL, hp, hu, hZ, K => by
    have hS : SG2_ C0 [(1, (nI i).toInt64)] p := hS
    have hn40 := hR.2.2.2.2.1
    have hp : p + 1 + L.length ≤ n := hp
    have hi3 : i < 3 := hi
    rw [ES_] at K
    refine WPL_st hR hZ (SG2_h hS) ht (by omega) (by omega) (fun u3 B eu zB b47 b25 y v2 e1 e2 => ?_)
    subst e1 e2
    refine ⟨fun y => absurd y (by simp only; decide), fun _ => ⟨i, hi3, n_i, ?_⟩, fun y => absurd y (by simp only; decide), fun y => absurd y (by simp only; decide), fun y => absurd y (by simp only; decide), fun y => absurd y (by simp only; decide), fun y => absurd y (by simp only; decide), fun y => absurd y (by simp only; decide), fun y => absurd y (by simp only; decide), fun y => absurd y (by simp only; decide), Or.inr (Or.inl rfl)⟩
    rw [zB.1.2 24 _ (by unfold pzR_; omega) (by unfold mvR_; omega), hR.2.2.2.2.2.2.1 i hi3]
    exact K _ u3 (ZP_push (V i) zB b25) (by show n - (p + 1) + 1 + _ + R ≤ u3; omega)
  | true, .length e, w, hi, hk, p, u, t, L, s, N, hS, ht, hL, hp, hu, hZ, K => by
    have hS : SG2_ C0 (tc_ (tm_ e) ++ [(3, 0)]) p := hS
    have el : (tc_ (tm_ (.length e))).length = (tc_ (tm_ e)).length + 1 := by simp [tm_, tc_]
    rw [el] at hp K
    rw [ES_] at K
    have hn40 := hR.2.2.2.2.1
    have pe := tc_pos e w
    refine TRP_ hR true e w hi hk p u t L s N (SG2_l hS) ht hL (by omega) hu hZ ?_
    cases ho : ES_ I V e t s with
    | mk o s2 =>
      rw [ho] at K
      cases o with
      | inr q => exact fun N2 a u2 d2 h1 h2 h3 => K N2 a u2 d2 h1 (by omega) h3
      | inl t2 =>
        obtain ⟨x, rfl⟩ := (ES_sh I V true e w t s t2 s2 ho).1 rfl
        intro N2 u2 hz2 hu2
        refine WPL_st hR hz2 (SG2_h (SG2_r hS)) (by rw [List.length_cons]; omega) (by omega) (by omega) (fun u3 B eu zB b47 b25 y v2 e1 e2 => ?_)
        subst e1 e2
        have hx : B.1 26 (b + (x :: t).length - 1) = x := by rw [l1p]; exact zB.2.1.1
        refine ⟨fun y => absurd y (by simp only; decide), fun y => absurd y (by simp only; decide), fun _ => ⟨by rw [List.length_cons]; omega, ?_⟩, fun y => absurd y (by simp only; decide), fun y => absurd y (by simp only; decide), fun y => absurd y (by simp only; decide), fun y => absurd y (by simp only; decide), fun y => absurd y (by simp only; decide), fun y => absurd y (by simp only; decide), fun y => absurd y (by simp only; decide), Or.inr (Or.inr (Or.inr (Or.inl rfl)))⟩
        rw [hx, l1p]
        exact K _ u3 (ZP_set (-x) zB b47 b25) (by omega)
  | true, .sum e, w, hi, hk, p, u, t, L, s, N, hS, ht, hL, hp, hu, hZ, K => by
    have hS : SG2_ C0 (tc_ (tm_ e) ++ [(4, 0)]) p := hS
    have el : (tc_ (tm_ (.sum e))).length = (tc_ (tm_ e)).length + 1 := by simp [tm_, tc_]
    rw [el] at hp K
    rw [ES_] at K
    have hn40 := hR.2.2.2.2.1
    have pe := tc_pos e w
    refine TRP_ hR true e w hi hk p u t L s N (SG2_l hS) ht hL (by omega) hu hZ ?_
    cases ho : ES_ I V e t s with
    | mk o s2 =>
      rw [ho] at K
      cases o with
      | inr q => exact fun N2 a u2 d2 h1 h2 h3 => K N2 a u2 d2 h1 (by omega) h3
      | inl t2 =>
        obtain ⟨x, rfl⟩ := (ES_sh I V true e w t s t2 s2 ho).1 rfl
        intro N2 u2 hz2 hu2
        refine WPL_st hR hz2 (SG2_h (SG2_r hS)) (by rw [List.length_cons]; omega) (by omega) (by omega) (fun u3 B eu zB b47 b25 y v2 e1 e2 => ?_)
        subst e1 e2
        have hx : B.1 26 (b + (x :: t).length - 1) = x := by rw [l1p]; exact zB.2.1.1
        refine ⟨fun y => absurd y (by simp only; decide), fun y => absurd y (by simp only; decide), fun y => absurd y (by simp only; decide), fun _ => ⟨by rw [List.length_cons]; omega, ?_⟩, fun y => absurd y (by simp only; decide), fun y => absurd y (by simp only; decide), fun y => absurd y (by simp only; decide), fun y => absurd y (by simp only; decide), fun y => absurd y (by simp only; decide), fun y => absurd y (by simp only; decide), Or.inr (Or.inr (Or.inr (Or.inr (Or.inl rfl))))⟩
        rw [hx, l1p]
        exact (K _ (p + (tc_ (tm_ e)).length) u3 (d + 1) (by omega) (by omega) (by omega)).1 rfl (ZB_I (ZB_tl zB) (by omega))
  | true, .elem k (.add x1 x2), w, hi, hk, p, u, t, L, s, N, hS, ht, hL, hp, hu, hZ, K => by
    have hS : SG2_ C0 ((tc_ (tm_ x1) ++ tc_ (tm_ x2)) ++ [(2, (sg_ k).toInt64)]) p := hS
    have el : (tc_ (tm_ (.elem k (.add x1 x2)))).length = (tc_ (tm_ x1)).length + (tc_ (tm_ x2)).length + 1 := by simp [tm_, tc_]; omega
    rw [el] at hp K
    rw [ES_, ES_] at K
    have hn40 := hR.2.2.2.2.1
    have pa := tc_pos x1 w.2.1
    have pb := tc_pos x2 w.2.2
    have hx := SG2_h (SG2_r hS)
    rw [List.length_append, ← Nat.add_assoc] at hx
    rw [show p + ((tc_ (tm_ x1)).length + (tc_ (tm_ x2)).length + 1) = p + (tc_ (tm_ x1)).length + (tc_ (tm_ x2)).length + 1 by omega] at K
    refine TRP_ hR true x1 w.2.1 hi.1 hk.1 p u t L s N (SG2_l (SG2_l hS)) ht hL (by omega) hu hZ ?_
    cases ho : ES_ I V x1 t s with
    | mk o s2 =>
      rw [ho] at K
      cases o with
      | inr q => exact fun N2 a2 u2 d2 h1 h2 h3 => K N2 a2 u2 d2 h1 (by omega) h3
      | inl t2 =>
        obtain ⟨x, rfl⟩ := (ES_sh I V true x1 w.2.1 t s t2 s2 ho).1 rfl
        simp only at K
        intro N2 u2 hz2 hu2
        refine TRP_ hR true x2 w.2.2 hi.2 hk.2 _ u2 (x :: t) L s2 N2 (SG2_r (SG2_l hS)) (by rw [List.length_cons]; omega) (by omega) (by omega) hu2 hz2 ?_
        cases hb : ES_ I V x2 (x :: t) s2 with
        | mk o2 s3 =>
          rw [hb] at K
          cases o2 with
          | inr q => exact fun N3 a3 u3 d3 h1 h2 h3 => ⟨fun y1 y2 => (K N3 a3 u3 d3 (by omega) (by omega) h3).1 y1 (ZB_tl y2), fun y1 y2 => (K N3 a3 u3 d3 (by omega) (by omega) h3).2 y1 y2⟩
          | inl t3 =>
            obtain ⟨y1, rfl⟩ := (ES_sh I V true x2 w.2.2 (x :: t) s2 t3 s3 hb).1 rfl
            intro N3 u3' hz3 hu3
            unfold o2_ at K
            simp only at K
            refine WPL_st hR hz3 hx (by rw [List.length_cons, List.length_cons]; omega) (by omega) (by omega) (fun u3 B eu zB b47 b25 y v2 e1 e2 => ?_)
            subst e1 e2
            have hy : B.1 26 (b + (y1 :: x :: t).length - 1) = y1 := by rw [l1p]; exact zB.2.1.1
            have l2 : b + (y1 :: x :: t).length - 1 - 1 = b + t.length := by rw [l1p, l1p]
            have hx1 : B.1 26 (b + (y1 :: x :: t).length - 1 - 1) = x := by rw [l2]; exact zB.2.1.2.1
            have z0 : ZB_ E c D b tb A (x :: t) L s3 B := ZB_tl zB
            refine ⟨fun y => absurd y (by simp only; decide), fun y => absurd y (by simp only; decide), fun y => absurd y (by simp only; decide), fun y => absurd y (by simp only; decide), fun y => absurd y (by simp only; decide), fun y => absurd y (by simp only; decide), fun y => absurd y (by simp only; decide), fun y => absurd y (by simp only; decide), fun y => absurd y (by simp only; decide), fun _ => ⟨by rw [List.length_cons, List.length_cons]; omega, ?_⟩, Or.inr (Or.inr (Or.inl rfl))⟩
            rw [hy, hx1, n_i, sg_sg]
            refine ⟨fun hd => ?_, fun hd => ?_⟩
            · rw [if_pos ⟨hd.2, hd.1⟩] at K
              exact (K _ (p + (tc_ (tm_ x1)).length + (tc_ (tm_ x2)).length) u3 (d + 1) (by omega) (by omega) (by omega)).1 rfl (ZB_I (ZB_tl z0) (by omega))
            · rw [if_neg (fun y => hd ⟨y.2, y.1⟩)] at K
              rw [rs_jn w.1, l2, l1p]
              have z1 : ZB_ E c D b tb A (x :: t) L s3 (sI_ B 0 47 (nI (b + (x :: t).length))) := ZB_I z0 (by omega)
              exact K _ u3 (ZP_set _ z1 (by rw [gI_sI, if_pos ⟨rfl, rfl⟩]) (by rw [gI_sI, if_neg (by omega)]; exact b25)) (by omega)
  | true, .mul x1 (.div x2 x3), w, hi, hk, p, u, t, L, s, N, hS, ht, hL, hp, hu, hZ, K => by
    have hS : SG2_ C0 (tc_ (tm_ x1) ++ (5, lN ((tc_ (tm_ x2)).length + 1)) :: (tc_ (tm_ x2) ++ (6, lN (tc_ (tm_ x3)).length) :: tc_ (tm_ x3))) p := hS
    have el : (tc_ (tm_ (.mul x1 (.div x2 x3)))).length = (tc_ (tm_ x1)).length + 1 + (tc_ (tm_ x2)).length + 1 + (tc_ (tm_ x3)).length := by simp [tm_, tc_]; omega
    rw [el] at hp K
    rw [ES_] at K
    have hn40 := hR.2.2.2.2.1
    have pa := tc_pos x1 w.1
    have pb := tc_pos x2 w.2.1
    have pc := tc_pos x3 w.2.2
    have hS2 := SG2_r hS
    have hx := SG2_h hS2
    have hS3 := SG2_t hS2
    have hSb := SG2_l hS3
    have hS4 := SG2_r hS3
    have hx2 := SG2_h hS4
    have hSc := SG2_t hS4
    rw [show p + ((tc_ (tm_ x1)).length + 1 + (tc_ (tm_ x2)).length + 1 + (tc_ (tm_ x3)).length) = p + (tc_ (tm_ x1)).length + 1 + (tc_ (tm_ x2)).length + 1 + (tc_ (tm_ x3)).length by omega] at K
    refine TRP_ hR true x1 w.1 hi.1 hk.1 p u t L s N (SG2_l hS) ht hL (by omega) hu hZ ?_
    cases ho : ES_ I V x1 t s with
    | mk o s2 =>
      rw [ho] at K
      cases o with
      | inr q => exact fun N2 a2 u2 d2 h1 h2 h3 => K N2 a2 u2 d2 h1 (by omega) h3
      | inl t2 =>
        obtain ⟨x, rfl⟩ := (ES_sh I V true x1 w.1 t s t2 s2 ho).1 rfl
        unfold o1_ at K
        simp only at K
        intro N2 u2 hz2 hu2
        refine WPL_st hR hz2 hx (by rw [List.length_cons]; omega) (by omega) (by omega) (fun u3 B eu zB b47 b25 y v2 e1 e2 => ?_)
        subst e1 e2
        have hx1 : B.1 26 (b + (x :: t).length - 1) = x := by rw [l1p]; exact zB.2.1.1
        have z0 : ZB_ E c D b tb A t L s2 B := ZB_tl zB
        refine ⟨fun y => absurd y (by simp only; decide), fun y => absurd y (by simp only; decide), fun y => absurd y (by simp only; decide), fun y => absurd y (by simp only; decide), fun _ => ⟨by rw [List.length_cons]; omega, (tc_ (tm_ x2)).length + 1, lN_i _, ?_⟩, fun y => absurd y (by simp only; decide), fun y => absurd y (by simp only; decide), fun y => absurd y (by simp only; decide), fun y => absurd y (by simp only; decide), fun y => absurd y (by simp only; decide), Or.inr (Or.inr (Or.inr (Or.inr (Or.inr (Or.inl rfl)))))⟩
        rw [hx1, l1p]
        have zq : ∀ q, ZP_ E c D b tb A t L s2 q (sI_ (sI_ B 0 47 (nI (b + t.length))) 25 (D + 1) (nI q)) := fun q => ⟨ZB_I (ZB_I z0 (by omega)) (by omega), by rw [gI_sI, if_neg (by omega), gI_sI, if_pos ⟨rfl, rfl⟩], by rw [gI_sI, if_pos ⟨rfl, rfl⟩]⟩
        refine ⟨fun hz => ?_, fun hz => ?_⟩
        · rw [if_pos hz] at K
          rw [show p + (tc_ (tm_ x1)).length + 1 + ((tc_ (tm_ x2)).length + 1) = p + (tc_ (tm_ x1)).length + 1 + (tc_ (tm_ x2)).length + 1 by omega]
          refine TRP_ hR true x3 w.2.2 hi.2.2 hk.2.2 _ u3 t L s2 _ hSc (by omega) (by omega) (by omega) (by omega) (zq _) ?_
          cases hc : ES_ I V x3 t s2 with
          | mk o3 s3 =>
            rw [hc] at K
            cases o3 with
            | inr q => exact fun N3 a3 u4 d4 h1 h2 h3 => K N3 a3 u4 d4 (by omega) h2 h3
            | inl t3 => exact K
        · rw [if_neg hz] at K
          refine TRP_ hR true x2 w.2.1 hi.2.1 hk.2.1 _ u3 t L s2 _ hSb (by omega) (by omega) (by omega) (by omega) (zq _) ?_
          cases hc : ES_ I V x2 t s2 with
          | mk o3 s3 =>
            rw [hc] at K
            cases o3 with
            | inr q => exact fun N3 a3 u4 d4 h1 h2 h3 => K N3 a3 u4 d4 (by omega) (by omega) h3
            | inl t3 =>
              obtain ⟨y1, rfl⟩ := (ES_sh I V true x2 w.2.1 t s2 t3 s3 hc).1 rfl
              intro N3 u4 hz3 hu4
              refine WPL_st hR hz3 hx2 (by rw [List.length_cons]; omega) (by omega) (by omega) (fun u5 B2 eu2 zB2 b472 b252 y v2 e1 e2 => ?_)
              subst e1 e2
              refine ⟨fun y => absurd y (by simp only; decide), fun y => absurd y (by simp only; decide), fun y => absurd y (by simp only; decide), fun y => absurd y (by simp only; decide), fun y => absurd y (by simp only; decide), fun _ => ⟨(tc_ (tm_ x3)).length, lN_i _, ?_⟩, fun y => absurd y (by simp only; decide), fun y => absurd y (by simp only; decide), fun y => absurd y (by simp only; decide), fun y => absurd y (by simp only; decide), Or.inr (Or.inr (Or.inr (Or.inr (Or.inr (Or.inr (Or.inl rfl))))))⟩
              exact K _ u5 ⟨ZB_I zB2 (by omega), by rw [gI_sI, if_neg (by omega)]; exact b472, by rw [gI_sI, if_pos ⟨rfl, rfl⟩]⟩ (by omega)
  | true, .rem x1 x2, w, hi, hk, p, u, t, L, s, N, hS, ht, hL, hp, hu, hZ, K => by
    have hS : SG2_ C0 ((7, lN ((tc_ (tm_ x1)).length + 1)) :: (tc_ (tm_ x1) ++ (8, lN (tc_ (tm_ x2)).length) :: tc_ (tm_ x2))) p := hS
    have el : (tc_ (tm_ (.rem x1 x2))).length = 1 + (tc_ (tm_ x1)).length + 1 + (tc_ (tm_ x2)).length := by simp [tm_, tc_]; omega
    rw [el] at hp K
    rw [ES_] at K
    have hn40 := hR.2.2.2.2.1
    have pa := tc_pos x1 w.1
    have pb := tc_pos x2 w.2
    have hx := SG2_h hS
    have hS2 := SG2_t hS
    have hSa := SG2_l hS2
    have hS3 := SG2_r hS2
    have hx2 := SG2_h hS3
    have hSb := SG2_t hS3
    rw [show p + (1 + (tc_ (tm_ x1)).length + 1 + (tc_ (tm_ x2)).length) = p + 1 + (tc_ (tm_ x1)).length + 1 + (tc_ (tm_ x2)).length by omega] at K
    refine WPL_st hR hZ hx ht (by omega) (by omega) (fun u3 B eu zB b47 b25 y v2 e1 e2 => ?_)
    subst e1 e2
    refine ⟨fun y => absurd y (by simp only; decide), fun y => absurd y (by simp only; decide), fun y => absurd y (by simp only; decide), fun y => absurd y (by simp only; decide), fun y => absurd y (by simp only; decide), fun y => absurd y (by simp only; decide), fun _ => ⟨(tc_ (tm_ x1)).length + 1, lN_i _, ?_⟩, fun y => absurd y (by simp only; decide), fun y => absurd y (by simp only; decide), fun y => absurd y (by simp only; decide), Or.inr (Or.inr (Or.inr (Or.inr (Or.inr (Or.inr (Or.inr (Or.inl rfl)))))))⟩
    have zL := ZB_try (p + 1 + ((tc_ (tm_ x1)).length + 1)) zB
    refine TRP_ hR true x1 w.1 hi.1 hk.1 (p + 1) u3 t _ s _ hSa (by omega) (by rw [List.length_cons]; omega) (by rw [List.length_cons]; omega) (by omega) ⟨zL, by rw [gI_sI, if_neg (by omega), gI_sI, if_neg (by omega), gI_sI, if_neg (by omega), gI_sI, if_neg (by omega)]; exact b47, by rw [gI_sI, if_neg (by omega), gI_sI, if_neg (by omega), gI_sI, if_neg (by omega), gI_sI, if_neg (by omega)]; exact b25⟩ ?_
    have hLb : tb ≤ 180 := by have := hR.2.2.2.2.2.2.2.2.2.1; have := hR.2.2.2.2.2.2.2.1; omega
    cases ho : ES_ I V x1 t s with
    | mk o s2 =>
      rw [ho] at K
      cases o with
      | inl t2 =>
        obtain ⟨x, rfl⟩ := (ES_sh I V true x1 w.1 t s t2 s2 ho).1 rfl
        simp only at K
        intro N2 u4 hz2 hu4
        refine WPL_st hR hz2 hx2 (by rw [List.length_cons]; omega) (by rw [List.length_cons]; omega) (by omega) (fun u5 B2 eu2 zB2 b472 b252 y v2 e1 e2 => ?_)
        subst e1 e2
        refine ⟨fun y => absurd y (by simp only; decide), fun y => absurd y (by simp only; decide), fun y => absurd y (by simp only; decide), fun y => absurd y (by simp only; decide), fun y => absurd y (by simp only; decide), fun y => absurd y (by simp only; decide), fun y => absurd y (by simp only; decide), fun _ => ⟨by rw [List.length_cons]; omega, (tc_ (tm_ x2)).length, lN_i _, ?_⟩, fun y => absurd y (by simp only; decide), fun y => absurd y (by simp only; decide), Or.inr (Or.inr (Or.inr (Or.inr (Or.inr (Or.inr (Or.inr (Or.inr (Or.inl rfl))))))))⟩
        have z0 := ZB_pop zB2
        rw [List.length_cons, show tb + (L.length + 1) - 1 = tb + L.length by omega]
        exact K _ u5 ⟨ZB_I z0 (by omega), by rw [gI_sI, if_neg (by omega), gI_sI, if_neg (by omega)]; exact b472, by rw [gI_sI, if_pos ⟨rfl, rfl⟩]⟩ (by omega)
      | inr q =>
        obtain ⟨q1, q2⟩ := q
        by_cases hq : q1 = 1
        · subst hq
          simp only at K
          intro N2 a2 u4 d4 h3 h4 h5
          refine ⟨fun _ hz2 => ?_, fun y => absurd y (by simp only; decide)⟩
          refine ⟨hz2.2.2.2.1, tb + L.length + 1, by omega, hz2.2.2.2.2.1, fun _ _ => ?_, fun y => ?_⟩
          · rw [Nat.add_sub_cancel, hz2.2.2.1.1, hz2.2.2.1.2.1, show p + 1 + ((tc_ (tm_ x1)).length + 1) = p + 1 + (tc_ (tm_ x1)).length + 1 by omega]
            have z0 := ZB_pop hz2
            refine TRP_ hR true x2 w.2 hi.2 hk.2 _ u4 t L s2 _ hSb (by omega) (by omega) (by omega) (by omega) ⟨ZB_I (ZB_I z0 (by omega)) (by omega), by rw [gI_sI, if_neg (by omega), gI_sI, if_pos ⟨rfl, rfl⟩], by rw [gI_sI, if_pos ⟨rfl, rfl⟩]⟩ ?_
            cases hc : ES_ I V x2 t s2 with
            | mk o3 s3 =>
              rw [hc] at K
              cases o3 with
              | inr q => exact fun N3 a3 u5 d5 g1 g2 g3 => K N3 a3 u5 d5 (by omega) g2 g3
              | inl t3 => exact K
          · exact y.elim (fun y => by omega) (fun y => absurd (by rw [Nat.add_sub_cancel]; exact hz2.2.2.1.2.2.1) y)
        · have e : (match ((.inr (q1, q2), s2) : eo_) with | (.inr (1, _), s) => ES_ I V x2 t s | r => r) = (.inr (q1, q2), s2) := by
            split
            · rename_i y; cases y; exact absurd rfl hq
            · rfl
          have K2 : KP_ G d Q E c D b tb A n R L p (p + 1 + (tc_ (tm_ x1)).length + 1 + (tc_ (tm_ x2)).length) t (.inr (q1, q2), s2) := by rw [← e]; exact K
          exact fun N2 a2 u4 d4 h3 h4 h5 => ⟨fun y => absurd y hq, (K2 N2 a2 u4 d4 (by omega) (by omega) h5).2⟩
  | true, .sub k x1, w, hi, hk, p, u, t, L, s, N, hS, ht, hL, hp, hu, hZ, K => by
    have hS : SG2_ C0 (tc_ (tm_ x1) ++ [(9, (de_ (kv2_ k) <<< ((2 : Int32).toInt64 &&& 63)) ||| (nI (ac_ (tm_ x1))).toInt64)]) p := hS
    have el : (tc_ (tm_ (.sub k x1))).length = (tc_ (tm_ x1)).length + 1 := by simp [tm_, tc_]
    rw [el] at hp K
    rw [ES_] at K
    rw [ac_tm x1 w.1] at hS
    have hn40 := hR.2.2.2.2.1
    have han := an_tc x1 w.1
    have ha3 := w.2.1
    refine TRP_ hR false x1 w.1 hi hk.2 p u t L s N (SG2_l hS) ht hL (by omega) hu hZ ?_
    cases ho : ES_ I V x1 t s with
    | mk o s2 =>
      rw [ho] at K
      cases o with
      | inr q => exact fun N2 a u2 d2 h1 h2 h3 => K N2 a u2 d2 h1 (by omega) h3
      | inl t2 =>
        obtain ⟨y0, rfl, hy0⟩ := (ES_sh I V false x1 w.1 t s t2 s2 ho).2 rfl
        simp only at K
        intro N2 u2 hz2 hu2
        have lt2 : (y0 ++ t).length = an_ x1 + t.length := by rw [List.length_append, hy0]
        refine WPL_st hR hz2 (SG2_h (SG2_r hS)) (by rw [lt2]; omega) (by omega) (by omega) (fun u3 B eu zB b47 b25 y v2 e1 e2 => ?_)
        subst e1 e2
        refine ⟨fun y => absurd y (by simp only; decide), fun y => absurd y (by simp only; decide), fun y => absurd y (by simp only; decide), fun y => absurd y (by simp only; decide), fun y => absurd y (by simp only; decide), fun y => absurd y (by simp only; decide), fun y => absurd y (by simp only; decide), fun y => absurd y (by simp only; decide), fun _ => ⟨an_ x1, iv2_ s2, b + t.length, ha3, mny_ (by omega), by rw [lt2]; omega, ?_⟩, fun y => absurd y (by simp only; decide), Or.inr (Or.inr (Or.inr (Or.inr (Or.inr (Or.inr (Or.inr (Or.inr (Or.inr rfl))))))))⟩
        · obtain ⟨a, ha, ea⟩ := NK_de hk.1
          simp only
          rw [ea, sh2_ ha (by omega), ← ea]
          have dr : (y0 ++ t).drop (an_ x1) = t := by rw [← hy0]; simp
          have z1 : ZB_ E c D b tb A (y0 ++ t) L s2 (sI_ B 0 47 (nI (b + ((y0 ++ t).drop (an_ x1)).length))) := ZB_I zB (by omega)
          have := hR.2.2.2.2.2.2.2.2.2.2 _ (y0 ++ t) L s2 (kv2_ k) (an_ x1) (p + (tc_ (tm_ x1)).length) u3 z1 (by rw [gI_sI, if_pos ⟨rfl, rfl⟩]) hk.1 ha3 (by omega) (by omega) (by omega) (by omega) (by omega) (by rw [gI_sI, if_neg (by omega)]; exact b25) (by rw [dr] at K ⊢; exact KP_w (by omega) K)
          rw [dr] at this
          exact this
  | false, .null, w, hi, hk, p, u, t, L, s, N, hS, ht, hL, hp, hu, hZ, K => K N u hZ hu
  | false, .add x1 r, w, hi, hk, p, u, t, L, s, N, hS, ht, hL, hp, hu, hZ, K => by
    have hS : SG2_ C0 (tc_ (tm_ x1) ++ tc_ (tm_ r)) p := hS
    have el : (tc_ (tm_ (.add x1 r))).length = (tc_ (tm_ x1)).length + (tc_ (tm_ r)).length := by simp [tm_, tc_]
    rw [el, ← Nat.add_assoc] at hp K
    rw [ES_] at K
    have pa := tc_pos x1 w.1
    refine TRP_ hR true x1 w.1 hi.1 hk.1 p u t L s N (SG2_l hS) ht hL (by omega) hu hZ ?_
    cases ho : ES_ I V x1 t s with
    | mk o s2 =>
      rw [ho] at K
      cases o with
      | inr q => exact fun N2 a2 u2 d2 h1 h2 h3 => K N2 a2 u2 d2 h1 (by omega) h3
      | inl t2 =>
        obtain ⟨x, rfl⟩ := (ES_sh I V true x1 w.1 t s t2 s2 ho).1 rfl
        simp only at K
        intro N2 u2 hz2 hu2
        refine TRP_ hR false r w.2 hi.2 hk.2 _ u2 (x :: t) L s2 N2 (SG2_r hS) (by rw [List.length_cons]; omega) (by omega) (by omega) hu2 hz2 ?_
        cases hb : ES_ I V r (x :: t) s2 with
        | mk o2 s3 =>
          rw [hb] at K
          cases o2 with
          | inr q => exact fun N3 a3 u3 d3 h1 h2 h3 => ⟨fun y1 y2 => (K N3 a3 u3 d3 (by omega) (by omega) h3).1 y1 (ZB_tl y2), fun y1 y2 => (K N3 a3 u3 d3 (by omega) (by omega) h3).2 y1 y2⟩
          | inl t3 => exact K
end TRP2
end
section
/-! the reference's machine: invocations, by the abstract state -/
def SR_ (E : se_) (c : Nat) (N : mm_) : Prop := N.1 0 9 = nI c ∧ c ≤ 16 ∧ E.1 = c ∧ (∀ m, m < c → NK_ (E.2.1 m) (N.2.1 5 m) (N.1 6 m)) ∧ (∀ m, m < c → wfX_ true (E.2.2.1 m) ∧ ixn_ 3 (E.2.2.1 m) ∧ KK_ (E.2.2.1 m) ∧ sd_ N m (tm_ (E.2.2.1 m)) ∧ (tc_ (tm_ (E.2.2.1 m))).length ≤ 40) ∧ (N.1 0 42 = 0 ↔ E.2.2.2.2.2.2.2.2 = true)
theorem SR_cg {E : se_} {c D b tb : Nat} {M N : mm_} (h : FZ_ D b tb M N) (g : SR_ E c M) : SR_ E c N := by
  obtain ⟨g1, g2, g3, g4, g5, g6⟩ := g
  refine ⟨by rw [h.2 0 9 (by unfold pzR_; omega) (by unfold mvR_; omega)]; exact g1, g2, g3, fun m hm => by rw [h.1, h.2 6 m (by unfold pzR_; omega) (by unfold mvR_; omega)]; exact g4 m hm, fun m hm => ?_, by rw [h.2 0 42 (by unfold pzR_; omega) (by unfold mvR_; omega)]; exact g6⟩
  obtain ⟨a1, a2, a3, a4, a5⟩ := g5 m hm
  exact ⟨a1, a2, a3, ⟨by rw [h.2 4 m (by unfold pzR_; omega) (by unfold mvR_; omega)]; exact a4.1, fun i x hx => by rw [h.1, h.2 2 _ (by unfold pzR_; omega) (by unfold mvR_; omega)]; exact a4.2 i x hx⟩, a5⟩
theorem fn_fm {E : se_} {c : Nat} {K a : Int64} {p : Int32} {N : mm_} (h : ∀ m, m < c → NK_ (E.2.1 m) (N.2.1 5 m) (N.1 6 m)) (hK : NK_ K a p) : ∀ u i, i + u ≤ c → fm_ N a p u i = match fnA_ E K u i with | none => -1 | some m => nI m
  | 0, _, _ => rfl
  | u + 1, i, hi => by
    rw [fm_, fnA_, fn_fm h hK u (i + 1) (by omega)]
    have e := NK_eq (h i (by omega)) hK
    by_cases q : E.2.1 i = K
    · rw [if_pos q, if_pos (e.mp q)]
    · rw [if_neg q, if_neg (fun y => q (e.mpr y))]
theorem fn_key (E : se_) (K : Int64) : ∀ (u i m : Nat), fnA_ E K u i = some m → E.2.1 m = K
  | 0, _, _, h => by cases h
  | u + 1, i, m, h => by
    rw [fnA_] at h
    split at h
    · rename_i y; cases h; exact y
    · exact fn_key E K u (i + 1) m h
/-- probes do not invoke -/
theorem iv_rc {E : se_} {j m d : Nat} {x e : Int32} {s : sgA_} : iv2_ (rcA_ E j m d x e s) = iv2_ s := by
  unfold rcA_
  split
  · rw [sR5_M]; unfold sR5_; split <;> rfl
  · rw [sR5_K, sR5_M]; unfold sR5_; split <;> rfl
theorem iv_wg {E : se_} {j m d : Nat} {V : Nat → Int32} {s : sgA_} : iv2_ (wgA_ E j m d V s) = iv2_ s := by
  unfold wgA_
  split <;> exact iv_rc
theorem iv_pj {E : se_} (m p d : Nat) (P : Nat → Int32) (v : Int32) (j : Nat) (s : sgA_) : iv2_ (pjA_ E m p d P v j s) = iv2_ s := by
  unfold pjA_
  split
  · rfl
  split
  · rfl
  split
  · unfold kpA_ sE7_
    split
    · rfl
    · split <;> rfl
  split
  · unfold wtA_
    split
    · exact iv_wg
    · split
      · split
        · rfl
        · exact iv_wg
      · exact iv_rc
  · rfl
theorem iv_pb {E : se_} {m p d : Nat} {P : Nat → Int32} {v : Int32} {s : sgA_} : iv2_ (pbA_ E m p d P v s) = iv2_ s := pb_R (R := fun s s2 => iv2_ s2 = iv2_ s) (fun _ => rfl) (fun _ _ _ h g => g.trans h) (fun m p d P v j s => iv_pj m p d P v j s) m p d P v s
/-- what comes behind an invocation at depth D + 1 -/
def KI_ (G : gg_) (d : Nat) (Q : mm_ → Prop) (E : se_) (c D b tb : Nat) (A : mm_) (R : Nat) (o : io2_) : Prop := match o with
  | (.inl v, s2) => ∀ (N : mm_) (u : Nat), ZS_ E c D b tb A s2 N → N.1 0 47 = nI b → N.1 0 51 = nI tb → 50 * (1000 - iv2_ s2) + R ≤ u → (D = 0 → WPL_ G d Q c u (sI_ (sI_ (sI_ N 0 39 (nI D)) 0 52 0) 0 53 v)) ∧ (0 < D → WPL_ G d Q c u (ps_ (sI_ N 0 39 (nI D)) b v))
  | (.inr q, s2) => ∀ (N : mm_) (u d2 : Nat), ZS_ E c D b tb A s2 N → 50 * (1000 - iv2_ s2) + R ≤ u → (q.1 = 1 → N.1 0 51 = nI tb → TUW_ G d2 q.2 (WPL_ G d Q c u) D (sI_ N 0 39 (nI D))) ∧ (q.1 = 2 → TAW_ G d2 q.2 (WPL_ G d Q c u) D (sI_ N 0 39 (nI D)))
def TBq_ (D tb : Nat) (A : mm_) : Prop := tb = 0 ∨ ∃ q, q ≤ D ∧ A.1 29 (tb - 1) = nI q
def IRP_ (G : gg_) (d : Nat) (Q : mm_ → Prop) (E : se_) (c D : Nat) : Prop := ∀ (m b tb : Nat) (P : Nat → Int32) (s : sgA_) (A : mm_) (R u d2 : Nat), SR_ E c A → m < c → A.1 0 39 = nI (D + 1) → A.1 23 (D + 1) = nI m → A.1 25 (D + 1) = nI 0 → (∀ i, i < 3 → A.1 24 (3 * (D + 1) + i) = P i) → A.1 0 47 = nI b → A.1 0 51 = nI tb → b ≤ 40 * D → tb ≤ 20 * D → TBq_ D tb A → DR_ (ivA_ s) A → JR_ E c (ivA_ s) A → WL_ E (ivA_ s) → 42 + 50 * (1000 - iv2_ (ivA_ s)) + R ≤ u → KI_ G d Q E c D b tb A R (inA_ E (10 - D) m P s) → CPR_ G d2 (D + 1) 0 0 A (WPL_ G d Q c u)
theorem nI_n0 : ∀ m, m < 16 → ¬ nI m < 0 := by decide
theorem sxP_ap {b : Nat} {N : mm_} : ∀ (x t : List Int32), sxP_ b (x ++ t) N → sxP_ b t N
  | [], _, h => h
  | _ :: x, t, h => sxP_ap x t h.2
theorem sxP_at {b : Nat} {N : mm_} : ∀ {t : List Int32} (i : Nat), sxP_ b t N → i < t.length → N.1 26 (b + (t.length - 1 - i)) = t.getD i 0
  | [], i, _, h => by simp at h
  | x :: t, 0, h, _ => by rw [List.length_cons, Nat.add_sub_cancel, Nat.sub_zero]; exact h.1
  | x :: t, i + 1, h, hi => by
    rw [List.length_cons] at hi
    rw [List.length_cons, show t.length + 1 - 1 - (i + 1) = t.length - 1 - i by omega, sxP_at i h.2 (by omega)]
    simp
theorem zpR_g {D : Nat} : ∀ (u q : Nat) (A : mm_) (a i : Nat), (zpR_ D u q A).1 a i = if a = 24 ∧ 3 * (D + 1) + q ≤ i ∧ i < 3 * (D + 1) + q + u then 0 else A.1 a i
  | 0, q, A, a, i => by rw [if_neg (by omega)]; rfl
  | u + 1, q, A, a, i => by
    rw [zpR_, zpR_g u (q + 1), gI_sI]
    by_cases h : a = 24 ∧ 3 * (D + 1) + q ≤ i ∧ i < 3 * (D + 1) + q + (u + 1)
    · rw [if_pos h]
      by_cases h2 : i = 3 * (D + 1) + q
      · rw [if_neg (by omega), if_pos ⟨h.1, h2⟩]
      · rw [if_pos (by omega)]
    · rw [if_neg h, if_neg (by omega), if_neg (by omega)]
theorem zpR_2 {D : Nat} : ∀ (u q : Nat) (A : mm_), (zpR_ D u q A).2 = A.2
  | 0, _, _ => rfl
  | u + 1, q, A => zpR_2 u (q + 1) _
theorem cpR_g {D h : Nat} : ∀ (u q : Nat) (A : mm_) (a i : Nat), (cpR_ D h u q A).1 a i = if a = 24 ∧ 3 * D + 3 + q ≤ i ∧ i < 3 * D + 3 + q + u then A.1 26 (h + (i - (3 * D + 3))) else A.1 a i
  | 0, q, A, a, i => by rw [if_neg (by omega)]; rfl
  | u + 1, q, A, a, i => by
    rw [cpR_, cpR_g u (q + 1), gI_sI, gI_sI]
    by_cases h2 : a = 24 ∧ 3 * D + 3 + q ≤ i ∧ i < 3 * D + 3 + q + (u + 1)
    · rw [if_pos h2]
      by_cases h3 : i = 3 * D + 3 + q
      · rw [if_neg (by omega), if_pos ⟨h2.1, h3⟩, h3, Nat.add_sub_cancel_left]
      · rw [if_pos (by omega), if_neg (by omega)]
    · rw [if_neg h2, if_neg (by omega), if_neg (by omega)]
/-- as an invocation begins -/
theorem enM_g {D k m j h : Nat} {N : mm_} (a i : Nat) : (enM_ (cpR_ D h j 0 N) D k m j).1 a i = if a = 24 ∧ 3 * (D + 1) + j ≤ i ∧ i < 3 * (D + 1) + j + (3 - j) then 0 else if a = 25 ∧ i = D + 1 then 0 else if a = 23 ∧ i = D + 1 then nI m else if a = 0 ∧ i = 40 then nI (k + 1) else if a = 0 ∧ i = 39 then nI (D + 1) else if a = 24 ∧ 3 * D + 3 + 0 ≤ i ∧ i < 3 * D + 3 + 0 + j then N.1 26 (h + (i - (3 * D + 3))) else N.1 a i := by
  unfold enM_
  rw [zpR_g, gI_sI, gI_sI, gI_sI, gI_sI, cpR_g]
theorem enM_o {D k m j h : Nat} {N : mm_} {a i : Nat} (hj : j ≤ 3) (z : ¬ ((a = 24 ∧ 3 * D + 3 ≤ i) ∨ (a = 25 ∧ i = D + 1) ∨ (a = 23 ∧ i = D + 1) ∨ (a = 0 ∧ (i = 39 ∨ i = 40)))) : (enM_ (cpR_ D h j 0 N) D k m j).1 a i = N.1 a i := by
  rw [enM_g, if_neg (by omega), if_neg (by omega), if_neg (by omega), if_neg (by omega), if_neg (by omega), if_neg (by omega)]
theorem enM_2 {D k m j h : Nat} {N : mm_} : (enM_ (cpR_ D h j 0 N) D k m j).2 = N.2 := by
  unfold enM_
  rw [zpR_2]
  exact cpR_2 j 0 N
section INVR
variable {G : gg_} {d : Nat} {Q : mm_ → Prop} {E : se_} {c D b tb m n R : Nat} {A : mm_}
theorem FZ_up {h2 tb2 : Nat} {M N : mm_} (hb : b ≤ h2) (ht : tb ≤ tb2) (h : FZ_ (D + 1) h2 tb2 M N) : FZ_ D b tb M N := ⟨h.1, fun a i z1 z2 => h.2 a i z1 (fun y => z2 (by unfold mvR_ at y ⊢; omega))⟩
/-- what an invocation by name does -/
theorem inv_H (hD : D ≤ 9) (hS : SR_ E c A) (hnext : D + 1 ≤ 9 → IRP_ G d Q E c (D + 1)) (hTB : TBq_ D tb A) (hb : b ≤ 40 * D) (htb : tb ≤ 20 * D) (hn : n ≤ 40) (N : mm_) (t : List Int32) (L : List (Nat × Nat)) (s : sgA_) (K : Int64) (j p u : Nat) (hZ : ZB_ E c D b tb A t L s N) (h47 : N.1 0 47 = nI (b + (t.drop j).length)) (hNK : NK_ K (de_ K) (nI j)) (hj3 : j ≤ 3) (hjt : j ≤ t.length) (htp : t.length ≤ p) (hL20 : L.length ≤ 20) (hpn : p < n) (hfu : (n - p) + 50 * (1000 - iv2_ s) + R ≤ u) (h25 : N.1 25 (D + 1) = nI (p + 1)) (K1 : KP_ G d Q E c D b tb A n R L p (p + 1) (t.drop j) (oi_ (t.drop j) (nmA_ E (D + 1) (inA_ E (9 - D)) K (t.take j) s))) : IVW_ G d (WPL_ G d Q c u) c (D + 1) (b + (t.drop j).length) (iv2_ s) j (de_ K) N := by
  have hSN := SR_cg hZ.1 hS
  obtain ⟨f1, f2, f3, f4, f5, f6, f7, f8⟩ := id hZ
  have hdl : (t.drop j).length = t.length - j := List.length_drop
  have hc := hSN.2.1
  have hiv : iv2_ s ≤ 1000 := f6.2.2.2.2
  have hfm := fn_fm (N := N) hSN.2.2.2.1 hNK c 0 (by omega)
  have ap : t = t.take j ++ t.drop j := (List.take_append_drop j t).symm
  have fd : sxP_ b (t.drop j) N := by rw [ap] at f2; exact sxP_ap _ _ f2
  have zd : ZB_ E c D b tb A (t.drop j) L s N := ⟨f1, fd, f3, f4, f5, f6, f7, f8⟩
  unfold nmA_ at K1
  rw [hSN.2.2.1] at K1
  refine ⟨hSN.1, hc, f4, h47, f6.2.2.2.1, hiv, by omega, fun hneg => ?_, fun m2 hm2 hf2 => ?_⟩
  · cases hfn : fnA_ E K c 0 with
    | some m2 =>
      rw [hfn] at hfm
      have := fn_lt E K c 0 m2 hfn
      rw [hfm] at hneg
      exact absurd hneg (nI_n0 m2 (by omega))
    | none =>
      rw [hfn] at K1
      exact (K1 N p u d (Nat.le_refl _) (by omega) hfu).1 rfl zd
  · cases hfn : fnA_ E K c 0 with
    | none =>
      rw [hfn] at hfm
      exact absurd (hf2.symm.trans hfm) (nI_ne1 m2 (by omega))
    | some m3 =>
      rw [hfn] at hfm K1
      have := fn_lt E K c 0 m3 hfn
      obtain rfl : m2 = m3 := (nI_eq (by omega) (by omega)).mp (hf2.symm.trans hfm)
      simp only at K1
      refine ⟨fun hD10 => ?_, fun hD9 hk => ?_, fun hD9 hk => ?_⟩
      · rw [if_pos (by omega)] at K1
        exact (K1 N p u d (Nat.le_refl _) (by omega) hfu).1 rfl zd
      · rw [if_neg (by omega), if_pos (show 1000 ≤ s.2.2.2.2.2 from Nat.le_of_eq hk.symm)] at K1
        exact (K1 N p u d (Nat.le_refl _) (by omega) hfu).2 rfl (ZB_S zd)
      · rw [if_neg (by omega), if_neg (show ¬ 1000 ≤ s.2.2.2.2.2 from Nat.not_le.mpr hk)] at K1
        have h6 : N.1 6 m2 = nI j := ((NK_eq (hSN.2.2.2.1 m2 (by omega)) hNK).mp (fn_key E K c 0 m2 hfn)).2
        refine ⟨j, hj3, by rw [cpR_o _ _ _ _ _ (by decide)]; exact h6, ?_⟩
        obtain ⟨A2, hA2⟩ : ∃ A2, enM_ (cpR_ (D + 1) (b + (t.drop j).length) j 0 N) (D + 1) (iv2_ s) m2 j = A2 := ⟨_, rfl⟩
        have ao : ∀ a i, ¬ ((a = 24 ∧ 3 * (D + 1) + 3 ≤ i) ∨ (a = 25 ∧ i = D + 1 + 1) ∨ (a = 23 ∧ i = D + 1 + 1) ∨ (a = 0 ∧ (i = 39 ∨ i = 40))) → A2.1 a i = N.1 a i := fun a i z => by rw [← hA2]; exact enM_o hj3 z
        have a2 : A2.2 = N.2 := by rw [← hA2]; exact enM_2
        have fA2 : FZ_ D b tb N A2 := ⟨a2, fun a i z1 z2 => ao a i (fun y => z2 (by unfold mvR_; omega))⟩
        have x39 : A2.1 0 39 = nI (D + 1 + 1) := by rw [← hA2, enM_g, if_neg (by omega), if_neg (by omega), if_neg (by omega), if_neg (by omega), if_pos ⟨rfl, rfl⟩]
        have x40 : A2.1 0 40 = nI (iv2_ s + 1) := by rw [← hA2, enM_g, if_neg (by omega), if_neg (by omega), if_neg (by omega), if_pos ⟨rfl, rfl⟩]
        have x23 : A2.1 23 (D + 1 + 1) = nI m2 := by rw [← hA2, enM_g, if_neg (by omega), if_neg (by omega), if_pos ⟨rfl, rfl⟩]
        have x25 : A2.1 25 (D + 1 + 1) = nI 0 := by rw [← hA2, enM_g, if_neg (by omega), if_pos ⟨rfl, rfl⟩]; rfl
        have x24 : ∀ i, i < 3 → A2.1 24 (3 * (D + 1 + 1) + i) = (t.take j).reverse.getD i 0 := fun i hi => by
          by_cases hij : i < j
          · rw [← hA2, enM_g, if_neg (by omega), if_neg (by omega), if_neg (by omega), if_neg (by omega), if_neg (by omega), if_pos (by omega), getD_rt t j i hjt hij, ← sxP_at (j - 1 - i) f2 (by omega)]
            rw [show b + (t.drop j).length + (3 * (D + 1 + 1) + i - (3 * (D + 1) + 3)) = b + (t.length - 1 - (j - 1 - i)) by omega]
          · rw [← hA2, enM_g, if_pos (by omega)]
            have : ((t.take j).reverse).length ≤ i := by rw [List.length_reverse, List.length_take]; omega
            rw [List.getD_eq_getElem?_getD, List.getElem?_eq_none this]; rfl
        have dA : DR_ (ivA_ s) A2 := by
          obtain ⟨g1, ⟨p1, p2, p3⟩, ⟨q1, q2, q3⟩, g4, g5⟩ := f6
          refine ⟨fun i hi => ?_, ⟨by rw [ao _ _ (by omega)]; exact p1, p2, fun i hi => by rw [ao _ _ (by omega)]; exact p3 i hi⟩, ⟨by rw [ao _ _ (by omega)]; exact q1, q2, fun i hi => by rw [ao _ _ (by omega)]; exact q3 i hi⟩, x40, hk⟩
          obtain ⟨c1, c2, c3⟩ := g1 i hi
          exact ⟨by rw [ao _ _ (by omega)]; exact c1, fun z => by rw [ao _ _ (by omega)]; exact c2 z, fun z x hx => by rw [ao _ _ (by omega)]; exact c3 z x hx⟩
        have jA : JR_ E c (ivA_ s) A2 := JR_cg a2 (fun a i z => ao a i (by unfold jcR_ at z; omega)) (fun _ _ => Or.inl rfl) f7
        have tbA : TBq_ (D + 1) (tb + L.length) A2 := by
          cases L with
          | nil =>
            rcases hTB with z | ⟨q, z1, z2⟩
            · exact Or.inl z
            · by_cases z0 : tb = 0
              · exact Or.inl z0
              · refine Or.inr ⟨q, by omega, ?_⟩
                show A2.1 29 (tb - 1) = nI q
                rw [ao _ _ (by omega), f1.2 29 _ (by unfold pzR_; omega) (by unfold mvR_; omega)]
                exact z2
          | cons y L =>
            refine Or.inr ⟨D + 1, Nat.le_refl _, ?_⟩
            rw [List.length_cons, show tb + (L.length + 1) - 1 = tb + L.length by omega, ao _ _ (by omega)]
            exact f3.2.2.1
        rw [hA2]
        -- back in this frame
        have back : ∀ (s2 : sgA_) (N3 : mm_), ZS_ E c (D + 1) (b + (t.drop j).length) (tb + L.length) A2 s2 N3 → ZS_ E c D b tb A s2 (sI_ N3 0 39 (nI (D + 1))) ∧ (N3.1 0 51 = nI (tb + L.length) → ZB_ E c D b tb A (t.drop j) L s2 (sI_ N3 0 39 (nI (D + 1)))) ∧ (sI_ N3 0 39 (nI (D + 1))).1 25 (D + 1) = nI (p + 1) := fun s2 N3 hz => by
          obtain ⟨k1, k2, k3, k4, k5⟩ := hz
          have g1 : FZ_ D b tb A (sI_ N3 0 39 (nI (D + 1))) := FZ_I (FZ_tr f1 (FZ_tr fA2 (FZ_up (by omega) (by omega) k1))) (Or.inr (by unfold mvR_; omega))
          have g3 : DR_ s2 (sI_ N3 0 39 (nI (D + 1))) := DR_I (by unfold dcR_; omega) k3
          have g4 : JR_ E c s2 (sI_ N3 0 39 (nI (D + 1))) := JR_cg (M := N3) rfl (fun x y z => by rw [gI_sI, if_neg (by unfold jcR_ at z; omega)]) (KM_rf s2) k4
          refine ⟨⟨g1, by rw [gI_sI, if_pos ⟨rfl, rfl⟩], g3, g4, k5⟩, fun h51 => ⟨g1, ?_, ?_, by rw [gI_sI, if_pos ⟨rfl, rfl⟩], by rw [gI_sI, if_neg (by omega)]; exact h51, g3, g4, k5⟩, ?_⟩
          · exact sxP_cg (M := N) (fun i hi => by rw [gI_sI, if_neg (by omega), k1.2 26 i (by unfold pzR_; omega) (by unfold mvR_; omega), ao _ _ (by omega)]) fd
          · exact trP_cg (M := N) (fun i hi => ⟨by rw [gI_sI, if_neg (by omega), k1.2 27 i (by unfold pzR_; omega) (by unfold mvR_; omega), ao _ _ (by omega)], by rw [gI_sI, if_neg (by omega), k1.2 28 i (by unfold pzR_; omega) (by unfold mvR_; omega), ao _ _ (by omega)], by rw [gI_sI, if_neg (by omega), k1.2 29 i (by unfold pzR_; omega) (by unfold mvR_; omega), ao _ _ (by omega)]⟩) f3
          · rw [gI_sI, if_neg (by omega), k1.2 25 _ (by unfold pzR_; omega) (by unfold mvR_; omega), ao _ _ (by omega)]; exact h25
        refine hnext hD9 m2 (b + (t.drop j).length) (tb + L.length) (fun i => (t.take j).reverse.getD i 0) s A2 ((n - p) + R) u d (SR_cg fA2 hSN) (by omega) x39 x23 x25 x24 (by rw [ao _ _ (by omega)]; exact h47) (by rw [ao _ _ (by omega)]; exact f5) (by omega) (by omega) tbA dA jA f8 ?_ ?_
        · show 42 + 50 * (1000 - (iv2_ s + 1)) + ((n - p) + R) ≤ u
          omega
        · rw [show 10 - (D + 1) = 9 - D by omega]
          generalize inA_ E (9 - D) m2 (fun i => (t.take j).reverse.getD i 0) s = o at K1 ⊢
          obtain ⟨o, s2⟩ := o
          cases o with
          | inl v =>
            intro N3 u3 hz h47b h51b hu3
            obtain ⟨k1, k2, k3⟩ := back s2 N3 hz
            refine ⟨fun y => by omega, fun _ => K1 _ u3 (ZP_push v (k2 h51b) k3) (by omega)⟩
          | inr q =>
            intro N3 u3 d3 hz hu3
            obtain ⟨k1, k2, k3⟩ := back s2 N3 hz
            have := K1 (sI_ N3 0 39 (nI (D + 1))) p u3 d3 (Nat.le_refl _) (by omega) (by omega)
            exact ⟨fun y h51b => this.1 y (k2 h51b), fun y => this.2 y k1⟩
end INVR
end
