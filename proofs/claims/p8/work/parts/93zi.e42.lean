/-! words of commands: the two programs know the same -/
theorem nc_inj {c e : Int32} (h : io_ c = 1) (g : io_ e = 1) (q : nc_ c = nc_ e) : c = e := by
  have ub : ∀ x : Int32, io_ x = 1 → ¬ x = 46 → ¬ x - 96 = 27 := fun x hx h46 y => by
    have e2 : x = 123 := by
      have := congrArg (fun w : Int32 => w + 96) y
      simp only [Int32.sub_add_cancel] at this
      exact this
    rw [e2] at hx
    exact absurd hx (by decide)
  unfold nc_ at q
  by_cases a : c = 46
  · by_cases b : e = 46
    · rw [a, b]
    · rw [if_pos a, if_neg b] at q
      exact absurd q.symm (ub e g b)
  · by_cases b : e = 46
    · rw [if_neg a, if_pos b] at q
      exact absurd q (ub c h a)
    · rw [if_neg a, if_neg b] at q
      have := congrArg (fun w : Int32 => w + 96) q
      simp only [Int32.sub_add_cancel] at this
      exact this
theorem BE_inj {f g : Nat → Int32} {k l : Nat} : ∀ z, ry_ f k z → ry_ g l z → BE_ f k z = BE_ g l z → ∀ j, j < z → f (k + j) = g (l + j)
  | 0, _, _, _, j, hj => by omega
  | z + 1, h1, h2, e, j, hj => by
    obtain ⟨a1, -, a2, a3⟩ := nc_io (h1 z (by omega))
    obtain ⟨b1, -, b2, b3⟩ := nc_io (h2 z (by omega))
    rw [BE_, BE_] at e
    have ed : dN_ (f (k + z)) = dN_ (g (l + z)) := by omega
    have eb : BE_ f k z = BE_ g l z := by omega
    by_cases hz : j = z
    · subst hz
      exact nc_inj (h1 j (by omega)) (h2 j (by omega)) (by rw [a1, b1, ed])
    · exact BE_inj z (fun x hx => h1 x (by omega)) (fun x hx => h2 x (by omega)) eb j (by omega)
theorem nm_inj {f g : Nat → Int32} {k l z : Nat} (hz : z ≤ 12) (h1 : ry_ f k z) (h2 : ry_ g l z) (e : nm_ f k z = nm_ g l z) : ∀ j, j < z → f (k + j) = g (l + j) := by
  rw [nm_BE z hz h1, nm_BE z hz h2] at e
  have b1 : BE_ f k z < 2 ^ 60 := Nat.lt_of_lt_of_le (BE_lt z h1) (p32_le hz)
  have b2 : BE_ g l z < 2 ^ 60 := Nat.lt_of_lt_of_le (BE_lt z h2) (p32_le hz)
  have e2 := congrArg (fun x : Int64 => x.toBitVec.toNat) e
  rw [tbl_ (by omega), tbl_ (by omega)] at e2
  exact BE_inj z h1 h2 e2
theorem nm_cg {f g : Nat → Int32} {k l : Nat} : ∀ z, (∀ j, j < z → f (k + j) = g (l + j)) → nm_ f k z = nm_ g l z
  | 0, _ => rfl
  | z + 1, h => by rw [nm_, nm_, nm_cg z (fun j hj => h j (by omega)), h z (by omega)]
theorem rn_eq {f : Nat → Int32} : ∀ (L u k : Nat), L ≤ u → ry_ f k L → (L < u → io_ (f (k + L)) = 0) → rn_ f u k = L
  | 0, 0, _, _, _, _ => rfl
  | 0, u + 1, k, _, _, h => by
    have := h (by omega)
    rw [rn_, if_neg (fun y => by rw [Nat.add_zero] at this; rw [this] at y; exact absurd y (by decide))]
  | L + 1, 0, _, hu, _, _ => by omega
  | L + 1, u + 1, k, hu, hr, h => by
    have h0 := hr 0 (by omega)
    rw [Nat.add_zero] at h0
    rw [rn_, if_pos h0, rn_eq L u (k + 1) (by omega) (ry_cons hr) (fun y => by rw [show k + 1 + L = k + (L + 1) by omega]; exact h (by omega))]
theorem sk_T {T : Int32 → Int32} {f : Nat → Int32} {n : Nat} (h : TF_ T f n) : ∀ u2 u1 k, u2 ≤ u1 → k + u2 = n → skP_ T u1 k = sk_ f u2 k
  | 0, 0, k, _, _ => rfl
  | 0, u1 + 1, k, _, e => by
    rw [skP_, sk_, h.2.1 k (by have := h.1; omega), h.2.2.1 k (by omega), if_pos (by decide)]
  | u2 + 1, 0, k, hu, _ => by omega
  | u2 + 1, u1 + 1, k, hu, e => by
    have hn := h.1
    rw [skP_, sk_, h.2.1 k (by omega), sk_T h u2 u1 (k + 1) (by omega) (by omega)]
    have h0 := h.2.2.2 k (by omega)
    by_cases q : f k ≤ 32
    · rw [if_pos q, if_neg (fun y : bl_ (f k) = 0 => by unfold bl_ at y; rw [if_pos ⟨h0, q⟩] at y; exact absurd y (by decide))]
    · rw [if_neg q, if_pos (show bl_ (f k) = 0 by unfold bl_; rw [if_neg (fun y => q y.2)])]
theorem sp_T {T : Int32 → Int32} {M : mm_} {n k : Nat} (h : TF_ T (bf_ M n) n) (hk : k ≤ n) : skP_ T 200 k = sp_ M n k := sk_T h (n - k) 200 k (by have := h.1; omega) (by omega)
theorem tkl_iff {T : Int32 → Int32} {i : Nat} {p : Int32} : ∀ u j, tklT_ T i p u j = true ↔ ∀ x, j ≤ x → x < j + u → T (p + nI x) = sC_ i x
  | 0, j => ⟨fun _ x h1 h2 => by omega, fun _ => rfl⟩
  | u + 1, j => by
    rw [tklT_]
    by_cases q : T (p + nI j) = sC_ i j
    · rw [if_pos q, tkl_iff u (j + 1)]
      refine ⟨fun h x h1 h2 => ?_, fun h x h1 h2 => h x (by omega) (by omega)⟩
      by_cases e : x = j
      · rw [e]; exact q
      · exact h x (by omega) (by omega)
    · rw [if_neg q]
      exact ⟨fun y => absurd y (by decide), fun h => absurd (h j (by omega) (by omega)) q⟩
section WRD
variable {T : Int32 → Int32} {M : mm_} {n : Nat}
theorem io_32 {c : Int32} (h : c ≤ 32) : io_ c = 0 := by
  rcases io_01 c with z | z
  · exact z
  · exfalso
    unfold io_ il_ at z
    by_cases q : (if 97 ≤ c ∧ c ≤ 122 then (1 : Int32) else 0) = 1 ∨ c = 46
    · rcases q with q | q
      · by_cases q2 : 97 ≤ c ∧ c ≤ 122
        · exact absurd (Int32.le_trans q2.1 h) (by decide)
        · rw [if_neg q2] at q; exact absurd q (by decide)
      · rw [q] at h; exact absurd h (by decide)
    · rw [if_neg q] at z; exact absurd z (by decide)
theorem wd_T (h : TF_ T (bf_ M n) n) {i p L : Nat} {W : Int64} (hp : p ≤ n) (hL : sLen_.getD i 0 = L) (hL8 : 1 ≤ L ∧ L ≤ 8) (hry : ry_ (sC_ i) 0 L) (hW : nm_ (sC_ i) 0 L = W) : tkwT_ T i p = true ↔ (rz_ M n p = L ∧ rv_ (bf_ M n) p (rz_ M n p) = W ∧ bf_ M n (p + rz_ M n p) ≤ 32) := by
  have hn := h.1
  have tx : ∀ x, x ≤ 8 → T (nI p + nI x) = bf_ M n (p + x) := fun x hx => by rw [nI_add]; exact h.2.1 _ (by omega)
  have m1 : ∀ k, -1 ≤ bf_ M n k := fun k => by
    rcases Nat.lt_or_ge k n with z | z
    · exact Int32.le_trans (by decide) (h.2.2.2 k z)
    · rw [h.2.2.1 k z]; decide
  unfold tkwT_
  rw [hL, Bool.and_eq_true, tkl_iff, Bool.or_eq_true, decide_eq_true_iff, Bool.not_eq_true', decide_eq_false_iff_not, tx L (by omega)]
  have tail : (bf_ M n (p + L) = -1 ∨ ¬ bl_ (bf_ M n (p + L)) = 0) ↔ bf_ M n (p + L) ≤ 32 := by
    have m := m1 (p + L)
    generalize bf_ M n (p + L) = c at m
    unfold bl_
    by_cases q : 0 ≤ c ∧ c ≤ 32
    · rw [if_pos q]; exact ⟨fun _ => q.2, fun _ => Or.inr (by decide)⟩
    · rw [if_neg q]
      refine ⟨fun y => y.elim (fun y => by rw [y]; decide) (fun y => absurd rfl y), fun y => Or.inl ?_⟩
      have hc : ¬ 0 ≤ c := fun z => q ⟨z, y⟩
      have hc2 : c < 0 := Int32.not_le.mp hc
      apply Int32.toInt_inj.mp
      rw [Int32.lt_iff_toInt_lt] at hc2
      rw [Int32.le_iff_toInt_le] at m
      have e1 : (-1 : Int32).toInt = -1 := by decide
      have e0 : (0 : Int32).toInt = 0 := by decide
      rw [e1] at m ⊢
      rw [e0] at hc2
      omega
  rw [tail]
  constructor
  · rintro ⟨h1, h2⟩
    have hx : ∀ x, x < L → bf_ M n (p + x) = sC_ i x := fun x hx => (tx x (by omega)).symm.trans (h1 x (by omega) (by omega))
    have hr : ry_ (bf_ M n) p L := fun x hx2 => by rw [hx x hx2]; have := hry x hx2; rw [Nat.zero_add] at this; exact this
    have hpn : p + L ≤ n := by
      rcases Nat.lt_or_ge n (p + L) with z | z
      · have := hr (L - 1) (by omega)
        rw [h.2.2.1 (p + (L - 1)) (by omega)] at this
        exact absurd this (by decide)
      · exact z
    have hz : rz_ M n p = L := rn_eq L (n - p) p (by omega) hr (fun _ => io_32 h2)
    rw [hz]
    refine ⟨rfl, ?_, h2⟩
    unfold rv_
    rw [if_neg (by omega), ← hW]
    exact nm_cg L (fun j hj => by rw [hx j hj, Nat.zero_add])
  · rintro ⟨hz, h2, h3⟩
    rw [hz] at h2 h3
    have hr := (srT_rz h hp).2
    rw [hz] at hr
    unfold rv_ at h2
    rw [if_neg (by omega), ← hW] at h2
    have := nm_inj (by omega) hr hry h2
    exact ⟨fun x h4 h5 => by rw [tx x (by omega), this x (by omega), Nat.zero_add], h3⟩
theorem wd1 (h : TF_ T (bf_ M n) n) {p : Nat} (hp : p ≤ n) : tkwT_ T 1 p = true ↔ (rz_ M n p = 5 ∧ rv_ (bf_ M n) p (rz_ M n p) = w2_ 0 23 1 20 10 0 0 3 8 ∧ bf_ M n (p + rz_ M n p) ≤ 32) := wd_T h hp rfl (by decide) (by unfold ry_; decide +kernel) (by decide +kernel)
theorem wd2 (h : TF_ T (bf_ M n) n) {p : Nat} (hp : p ≤ n) : tkwT_ T 2 p = true ↔ (rz_ M n p = 7 ∧ rv_ (bf_ M n) p (rz_ M n p) = w2_ 13 15 14 9 15 0 20 15 18 ∧ bf_ M n (p + rz_ M n p) ≤ 32) := wd_T h hp rfl (by decide) (by unfold ry_; decide +kernel) (by decide +kernel)
theorem wd3 (h : TF_ T (bf_ M n) n) {p : Nat} (hp : p ≤ n) : tkwT_ T 3 p = true ↔ (rz_ M n p = 4 ∧ rv_ (bf_ M n) p (rz_ M n p) = wdR_ 11 5 5 16 ∧ bf_ M n (p + rz_ M n p) ≤ 32) := wd_T h hp rfl (by decide) (by unfold ry_; decide +kernel) (by decide +kernel)
theorem wd4 (h : TF_ T (bf_ M n) n) {p : Nat} (hp : p ≤ n) : tkwT_ T 4 p = true ↔ (rz_ M n p = 4 ∧ rv_ (bf_ M n) p (rz_ M n p) = wdR_ 11 9 12 12 ∧ bf_ M n (p + rz_ M n p) ≤ 32) := wd_T h hp rfl (by decide) (by unfold ry_; decide +kernel) (by decide +kernel)
theorem wd5 (h : TF_ T (bf_ M n) n) {p : Nat} (hp : p ≤ n) : tkwT_ T 5 p = true ↔ (rz_ M n p = 5 ∧ rv_ (bf_ M n) p (rz_ M n p) = w2_ 0 18 5 19 10 0 0 5 20 ∧ bf_ M n (p + rz_ M n p) ≤ 32) := wd_T h hp rfl (by decide) (by unfold ry_; decide +kernel) (by decide +kernel)
theorem wd6 (h : TF_ T (bf_ M n) n) {p : Nat} (hp : p ≤ n) : tkwT_ T 6 p = true ↔ (rz_ M n p = 5 ∧ rv_ (bf_ M n) p (rz_ M n p) = w2_ 0 5 14 20 10 0 0 5 18 ∧ bf_ M n (p + rz_ M n p) ≤ 32) := wd_T h hp rfl (by decide) (by unfold ry_; decide +kernel) (by decide +kernel)
theorem wd7 (h : TF_ T (bf_ M n) n) {p : Nat} (hp : p ≤ n) : tkwT_ T 7 p = true ↔ (rz_ M n p = 6 ∧ rv_ (bf_ M n) p (rz_ M n p) = w2_ 18 5 20 21 10 0 0 18 14 ∧ bf_ M n (p + rz_ M n p) ≤ 32) := wd_T h hp rfl (by decide) (by unfold ry_; decide +kernel) (by decide +kernel)
theorem wd8 (h : TF_ T (bf_ M n) n) {p : Nat} (hp : p ≤ n) : tkwT_ T 8 p = true ↔ (rz_ M n p = 5 ∧ rv_ (bf_ M n) p (rz_ M n p) = w2_ 0 20 8 18 10 0 0 15 23 ∧ bf_ M n (p + rz_ M n p) ≤ 32) := wd_T h hp rfl (by decide) (by unfold ry_; decide +kernel) (by decide +kernel)
/-- the command's word -/
theorem vb_T (h : TF_ T (bf_ M n) n) {p : Nat} (hp : p ≤ n) : ((wc_ (rv_ (bf_ M n) p (rz_ M n p)) (rz_ M n p) = 0 ∨ ¬ bf_ M n (p + rz_ M n p) ≤ 32) ∧ vbT_ T p = (5, none)) ∨ (¬ (wc_ (rv_ (bf_ M n) p (rz_ M n p)) (rz_ M n p) = 0 ∨ ¬ bf_ M n (p + rz_ M n p) ≤ 32) ∧ vbT_ T p = (wc_ (rv_ (bf_ M n) p (rz_ M n p)) (rz_ M n p), some (sp_ M n (p + rz_ M n p)))) := by
  have hz := rz_le M n p
  have e := sp_T h (k := p + rz_ M n p) (by omega)
  have g1 := wd1 h hp
  have g2 := wd2 h hp
  have g3 := wd3 h hp
  have g4 := wd4 h hp
  have g5 := wd5 h hp
  unfold vbT_ wc_ tkp_
  generalize rv_ (bf_ M n) p (rz_ M n p) = v at *
  generalize hzz : rz_ M n p = z at *
  by_cases ht : bf_ M n (p + z) ≤ 32
  · have c : ∀ i L W, (tkwT_ T i p = true ↔ (z = L ∧ v = W ∧ bf_ M n (p + z) ≤ 32)) → (tkwT_ T i p = true ↔ (z = L ∧ v = W)) := fun i L W q => q.trans ⟨fun y => ⟨y.1, y.2.1⟩, fun y => ⟨y.1, y.2, ht⟩⟩
    replace g1 := c _ _ _ g1
    replace g2 := c _ _ _ g2
    replace g3 := c _ _ _ g3
    replace g4 := c _ _ _ g4
    replace g5 := c _ _ _ g5
    by_cases q1 : tkwT_ T 1 p = true
    · refine Or.inr ⟨?_, ?_⟩
      · rw [if_pos (g1.mp q1)]; exact fun y => y.elim (fun y => absurd y (by decide)) (fun y => y ht)
      · rw [if_pos q1, if_pos (g1.mp q1), ← e, (g1.mp q1).1]; rfl
    have n1 := fun y => q1 (g1.mpr y)
    rw [if_neg q1, if_neg n1]
    by_cases q2 : tkwT_ T 2 p = true
    · refine Or.inr ⟨?_, ?_⟩
      · rw [if_pos (g2.mp q2)]; exact fun y => y.elim (fun y => absurd y (by decide)) (fun y => y ht)
      · rw [if_pos q2, if_pos (g2.mp q2), ← e, (g2.mp q2).1]; rfl
    have n2 := fun y => q2 (g2.mpr y)
    rw [if_neg q2, if_neg n2]
    by_cases q3 : tkwT_ T 3 p = true
    · refine Or.inr ⟨?_, ?_⟩
      · rw [if_pos (g3.mp q3)]; exact fun y => y.elim (fun y => absurd y (by decide)) (fun y => y ht)
      · rw [if_pos q3, if_pos (g3.mp q3), ← e, (g3.mp q3).1]; rfl
    have n3 := fun y => q3 (g3.mpr y)
    rw [if_neg q3, if_neg n3]
    by_cases q4 : tkwT_ T 4 p = true
    · refine Or.inr ⟨?_, ?_⟩
      · rw [if_pos (g4.mp q4)]; exact fun y => y.elim (fun y => absurd y (by decide)) (fun y => y ht)
      · rw [if_pos q4, if_pos (g4.mp q4), ← e, (g4.mp q4).1]; rfl
    have n4 := fun y => q4 (g4.mpr y)
    rw [if_neg q4, if_neg n4]
    by_cases q5 : tkwT_ T 5 p = true
    · refine Or.inr ⟨?_, ?_⟩
      · rw [if_pos (g5.mp q5)]; exact fun y => y.elim (fun y => absurd y (by decide)) (fun y => y ht)
      · rw [if_pos q5, if_pos (g5.mp q5), ← e, (g5.mp q5).1]; rfl
    have n5 := fun y => q5 (g5.mpr y)
    rw [if_neg q5, if_neg n5]
    exact Or.inl ⟨Or.inl rfl, rfl⟩
  · have c : ∀ i L W, (tkwT_ T i p = true ↔ (z = L ∧ v = W ∧ bf_ M n (p + z) ≤ 32)) → ¬ tkwT_ T i p = true := fun i L W q y => ht (q.mp y).2.2
    rw [if_neg (c _ _ _ g1), if_neg (c _ _ _ g2), if_neg (c _ _ _ g3), if_neg (c _ _ _ g4), if_neg (c _ _ _ g5)]
    exact Or.inl ⟨Or.inr ht, rfl⟩
/-- the point's -/
theorem po_T (h : TF_ T (bf_ M n) n) {p : Nat} (hp : p ≤ n) : ((pt_ (rv_ (bf_ M n) p (rz_ M n p)) (rz_ M n p) < 0 ∨ ¬ bf_ M n (p + rz_ M n p) ≤ 32) ∧ poT_ T p = (2, none)) ∨ (¬ (pt_ (rv_ (bf_ M n) p (rz_ M n p)) (rz_ M n p) < 0 ∨ ¬ bf_ M n (p + rz_ M n p) ≤ 32) ∧ poT_ T p = (pt_ (rv_ (bf_ M n) p (rz_ M n p)) (rz_ M n p), some (sp_ M n (p + rz_ M n p)))) := by
  have hz := rz_le M n p
  have e := sp_T h (k := p + rz_ M n p) (by omega)
  have g6 := wd6 h hp
  have g7 := wd7 h hp
  have g8 := wd8 h hp
  unfold poT_ pt_ pt1_ pt0_ tkp_
  generalize rv_ (bf_ M n) p (rz_ M n p) = v at *
  generalize hzz : rz_ M n p = z at *
  by_cases ht : bf_ M n (p + z) ≤ 32
  · have c : ∀ i L W, (tkwT_ T i p = true ↔ (z = L ∧ v = W ∧ bf_ M n (p + z) ≤ 32)) → (tkwT_ T i p = true ↔ (z = L ∧ v = W)) := fun i L W q => q.trans ⟨fun y => ⟨y.1, y.2.1⟩, fun y => ⟨y.1, y.2, ht⟩⟩
    replace g6 := c _ _ _ g6
    replace g7 := c _ _ _ g7
    replace g8 := c _ _ _ g8
    have w68 : ¬ (w2_ 0 5 14 20 10 0 0 5 18 = w2_ 0 20 8 18 10 0 0 15 23) := by decide +kernel
    by_cases q6 : tkwT_ T 6 p = true
    · obtain ⟨z6, v6⟩ := g6.mp q6
      have n8 : ¬ (z = 5 ∧ v = w2_ 0 20 8 18 10 0 0 15 23) := fun y => w68 (v6.symm.trans y.2)
      have n7 : ¬ (z = 6 ∧ v = w2_ 18 5 20 21 10 0 0 18 14) := fun y => by omega
      rw [if_neg n8, if_neg n7, if_pos (g6.mp q6), if_pos q6]
      exact Or.inr ⟨fun y => y.elim (fun y => absurd y (by decide)) (fun y => y ht), by rw [← e, z6]; rfl⟩
    have n6 := fun y => q6 (g6.mpr y)
    rw [if_neg q6, if_neg n6]
    by_cases q7 : tkwT_ T 7 p = true
    · obtain ⟨z7, v7⟩ := g7.mp q7
      have n8 : ¬ (z = 5 ∧ v = w2_ 0 20 8 18 10 0 0 15 23) := fun y => by omega
      rw [if_neg n8, if_pos (g7.mp q7), if_pos q7]
      exact Or.inr ⟨fun y => y.elim (fun y => absurd y (by decide)) (fun y => y ht), by rw [← e, z7]; rfl⟩
    have n7 := fun y => q7 (g7.mpr y)
    rw [if_neg q7, if_neg n7]
    by_cases q8 : tkwT_ T 8 p = true
    · rw [if_pos q8, if_pos (g8.mp q8)]
      exact Or.inr ⟨fun y => y.elim (fun y => absurd y (by decide)) (fun y => y ht), by rw [← e, (g8.mp q8).1]; rfl⟩
    have n8 := fun y => q8 (g8.mpr y)
    rw [if_neg q8, if_neg n8]
    exact Or.inl ⟨Or.inl (by decide), rfl⟩
  · have c : ∀ i L W, (tkwT_ T i p = true ↔ (z = L ∧ v = W ∧ bf_ M n (p + z) ≤ 32)) → ¬ tkwT_ T i p = true := fun i L W q y => ht (q.mp y).2.2
    rw [if_neg (c _ _ _ g6), if_neg (c _ _ _ g7), if_neg (c _ _ _ g8)]
    exact Or.inl ⟨Or.inr ht, rfl⟩
end WRD
