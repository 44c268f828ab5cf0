/-! the tables of jobs: what keeps them tied -/
theorem bt_l (x : Int32) {p : Nat} (hp : p < 16) : btX_ x (nI p) = 1 ↔ x.toBitVec.getLsbD p = true := by
  have e1 : ∀ p, p < 16 → ((nI p).toUInt32 &&& Int32.toUInt32 31).toBitVec.toNat % 32 = p := by decide +kernel
  have a1 : (btX_ x (nI p)).toBitVec = (x.toBitVec >>> p) &&& 1#32 := by
    unfold btX_
    rw [Int32.toBitVec_and]
    have a2 : (x.toUInt32 >>> ((nI p).toUInt32 &&& Int32.toUInt32 31)).toInt32.toBitVec = x.toBitVec >>> p := by
      show (x.toUInt32 >>> ((nI p).toUInt32 &&& Int32.toUInt32 31)).toBitVec = x.toBitVec >>> p
      rw [UInt32.toBitVec_shiftRight, BitVec.ushiftRight_eq']
      congr 1
      rw [BitVec.toNat_umod]
      exact e1 p hp
    rw [a2]
    rfl
  rw [← Int32.toBitVec_inj, a1]
  show (x.toBitVec >>> p) &&& 1#32 = 1#32 ↔ _
  constructor
  · intro h
    have := congrArg (fun v => v.getLsbD 0) h
    simpa using this
  · intro h
    apply BitVec.eq_of_getLsbD_eq
    intro i hi
    simp only [BitVec.getLsbD_and, BitVec.getLsbD_ushiftRight, BitVec.getLsbD_one]
    by_cases q : i = 0
    · subst q; simp [h]
    · simp [q]
theorem bt_or (x : Int32) {m k : Nat} (hm : m < 16) (hk : k < 16) : btX_ (x ||| (1 <<< (nI m &&& 31))) (nI k) = 1 ↔ (btX_ x (nI k) = 1 ∨ m = k) := by
  have e : ∀ m, m < 16 → ∀ k, k < 16 → ((1 : Int32) <<< (nI m &&& 31)).toBitVec.getLsbD k = decide (m = k) := by decide +kernel
  rw [bt_l _ hk, bt_l _ hk, Int32.toBitVec_or, BitVec.getLsbD_or, e m hm k hk]
  simp
theorem bt_z {m : Nat} (hm : m < 16) : ¬ btX_ 0 (nI m) = 1 := by
  rw [bt_l _ hm]; simp
theorem me_bits {c k m : Nat} (hm : m < 16) : ∀ (u i : Nat) (M : mm_), i + u ≤ 16 → (btX_ ((me1_ c k u i M).1 k 9) (nI m) = 1 ↔ (btX_ (M.1 k 9) (nI m) = 1 ∨ (i ≤ m ∧ m < i + u ∧ ¬ ftX_ (M.2.1 k 2) (kf_ M c (nI m)) = 0)))
  | 0, i, M, _ => ⟨fun h => Or.inl h, fun h => h.elim id (fun y => by omega)⟩
  | u + 1, i, M, hi => by
    rw [me1_, me_bits hm u (i + 1) _ (by omega), mee_L]
    have hkf : kf_ (mee_ M k (nI i) (kf_ M c (nI i))) c (nI m) = kf_ M c (nI m) := by unfold kf_; rw [mee_L]
    rw [hkf]
    unfold mee_
    by_cases q : ftX_ (M.2.1 k 2) (kf_ M c (nI i)) = 0
    · rw [if_pos q]
      constructor
      · rintro (h | ⟨h1, h2, h3⟩)
        · exact Or.inl h
        · exact Or.inr ⟨by omega, by omega, h3⟩
      · rintro (h | ⟨h1, h2, h3⟩)
        · exact Or.inl h
        · refine Or.inr ⟨?_, by omega, h3⟩
          by_cases e : i = m
          · subst e; exact absurd q h3
          · omega
    · rw [if_neg q, gI_sI, if_pos ⟨rfl, rfl⟩, bt_or _ (by omega) hm]
      constructor
      · rintro ((h | h) | ⟨h1, h2, h3⟩)
        · exact Or.inl h
        · subst h; exact Or.inr ⟨by omega, by omega, q⟩
        · exact Or.inr ⟨by omega, by omega, h3⟩
      · rintro (h | ⟨h1, h2, h3⟩)
        · exact Or.inl (Or.inl h)
        · by_cases e : i = m
          · exact Or.inl (Or.inr e)
          · exact Or.inr ⟨by omega, by omega, h3⟩
theorem pw_cg {f g : Nat → Int32} {s t : Nat} : ∀ z, (∀ x, x < z → f (s + x) = g (t + x)) → pwT_ f s z = pwT_ g t z
  | 0, _ => rfl
  | z + 1, h => by rw [pwT_, pwT_, pw_cg z (fun x hx => h x (by omega)), h z (by omega)]
/-- a pattern and a name fit as the class's word and key do -/
theorem ft_key {f : Nat → Int32} {z : Nat} {K a : Int64} {p : Int32} (hz : z ≤ 12) (hne : ∀ x, x < z → ¬ sgX_ (f x) = 0) (h : NK_ K a p) : ft_ f z a = ftX_ (pwT_ f 0 z) K := by
  obtain ⟨g, k, L, j, h1, h2, h3, rfl, rfl, -⟩ := h
  rw [fit_T hz h2 h1 h3 (fun x hx => by rw [Nat.zero_add]; exact hne x hx)]
  congr 1
  funext x
  rw [Nat.zero_add]
/-- bits of methods that are not yet there are off -/
def HB_ (J : Nat → Nat) (c : Nat) (M : mm_) : Prop := ∀ j, j < 8 → ¬ M.1 12 j = 0 → ∀ m, c ≤ m → m < 16 → ¬ btX_ (M.1 (135 + 12 * J j) 9) (nI m) = 1
/-- the reference's cells of job j -/
def jcQ_ (j a i : Nat) : Prop := ((a = 12 ∨ a = 13 ∨ a = 14 ∨ a = 15 ∨ a = 16 ∨ a = 18) ∧ i = j) ∨ (a = 17 ∧ 12 * j ≤ i ∧ i < 12 * j + 12) ∨ (a = 20 ∧ 48 * j ≤ i ∧ i < 48 * j + 48) ∨ (a = 4 ∧ (i = 16 + 2 * j ∨ i = 17 + 2 * j)) ∨ (a = 2 ∧ 1024 + 128 * j ≤ i ∧ i < 1152 + 128 * j)
def jKr_ (j : Nat) (M N : mm_) : Prop := (∀ a i, jcQ_ j a i → N.1 a i = M.1 a i) ∧ ∀ i, 1024 + 128 * j ≤ i → i < 1152 + 128 * j → N.2.1 3 i = M.2.1 3 i
def jKx_ (k : Nat) (M N : mm_) : Prop := (∀ a i, k ≤ a → a ≤ k + 11 → ¬ (a = k ∧ i = 9) → N.1 a i = M.1 a i) ∧ ∀ a i, k ≤ a → a ≤ k + 11 → N.2.1 a i = M.2.1 a i
theorem jKr_tr {j : Nat} {M N O : mm_} (h1 : jKr_ j M N) (h2 : jKr_ j N O) : jKr_ j M O := ⟨fun a i z => (h2.1 a i z).trans (h1.1 a i z), fun i z1 z2 => (h2.2 i z1 z2).trans (h1.2 i z1 z2)⟩
theorem jKx_tr {k : Nat} {M N O : mm_} (h1 : jKx_ k M N) (h2 : jKx_ k N O) : jKx_ k M O := ⟨fun a i z1 z2 z3 => (h2.1 a i z1 z2 z3).trans (h1.1 a i z1 z2 z3), fun a i z1 z2 => (h2.2 a i z1 z2).trans (h1.2 a i z1 z2)⟩
theorem jKx_hR {k : Nat} {M N : mm_} (hk : 34 ≤ k) (h : hR_ M N) : jKx_ k M N := ⟨fun a i z1 z2 _ => h.2.2.1 a i (by omega), fun a i z1 z2 => h.2.2.2 a i (by omega)⟩
theorem jKr_hX {j : Nat} {M N : mm_} (h : hX_ M N) : jKr_ j M N := ⟨fun a i z => h.1 a i (by unfold jcQ_ at z; omega), fun i z1 z2 => h.2 3 i (by omega)⟩
/-- the bits by the class's word and keys -/
theorem JT1_bits {J : Nat → Nat} {c j m : Nat} {M : mm_} {K : Int64} {p : Int32} (h : JT1_ J c M j) (hm : m < c) (hK : NK_ K (M.2.1 5 m) p) : btX_ (M.1 (135 + 12 * J j) 9) (nI m) = 1 ↔ ¬ ftX_ (M.2.1 (135 + 12 * J j) 2) K = 0 := by
  obtain ⟨z, h1, h2, h3, h4, h5, -⟩ := h
  rw [h5 m hm, h3, ft_key h1 h4 hK]
theorem JT1_cg {J J2 : Nat → Nat} {c c2 j : Nat} {M N : mm_} (hj : j < 8) (hJ : J2 j = J j) (hX : jKx_ (135 + 12 * J j) M N) (hR : jKr_ j M N) (K : Nat → Int64) (hK : ∀ m, m < c2 → ∃ p, NK_ (K m) (N.2.1 5 m) p) (h9 : ∀ m, m < c2 → (btX_ (N.1 (135 + 12 * J j) 9) (nI m) = 1 ↔ ¬ ftX_ (M.2.1 (135 + 12 * J j) 2) (K m) = 0)) (h : JT1_ J c M j) : JT1_ J2 c2 N j := by
  obtain ⟨z, g1, g2, g3, g4, g5, g6, g7⟩ := h
  have x1 : ∀ i, ¬ i = 9 → N.1 (135 + 12 * J j) i = M.1 (135 + 12 * J j) i := fun i hi => hX.1 _ i (by omega) (by omega) (by omega)
  have r1 : ∀ a, (a = 12 ∨ a = 13 ∨ a = 14 ∨ a = 15 ∨ a = 16 ∨ a = 18) → N.1 a j = M.1 a j := fun a ha => hR.1 a j (by unfold jcQ_; omega)
  have pq : ∀ x, x < z → pa_ N j x = pa_ M j x := fun x hx => hR.1 17 _ (by unfold jcQ_; omega)
  have pw : pwT_ (pa_ N j) 0 z = pwT_ (pa_ M j) 0 z := pw_cg z (fun x hx => by rw [Nat.zero_add]; exact pq x hx)
  have ne : ∀ p, p < z → ¬ sgX_ (pa_ N j p) = 0 := fun p hp => by rw [pq p hp]; exact g4 p hp
  have xc : ∀ e q, (q = 1 ∨ q = 6) → XCo_ (135 + 12 * J j + q) e M → XCo_ (135 + 12 * J j + q) e N := fun e q hq g => ⟨g.1, g.2.1, g.2.2.1, hd_cg (fun a i z1 z2 => hX.1 a i (by omega) (by omega) (by omega)) (fun i => hX.2 _ i (by omega) (by omega)) g.2.2.2.1, g.2.2.2.2⟩
  have rc : ∀ e q, (q = 16 ∨ q = 17) → RCo_ (q + 2 * j) e M → RCo_ (q + 2 * j) e N := fun e q hq g => ⟨g.1, g.2.1, g.2.2.1, sd_cg g.2.2.2.1 (by have := g.2.2.2.2; omega) (hR.1 4 _ (by unfold jcQ_; omega)) (fun i hi => hR.1 2 _ (by unfold jcQ_; omega)) (fun i hi => hR.2 _ (by omega) (by omega)), g.2.2.2.2⟩
  unfold JT1_
  rw [hJ]
  refine ⟨z, g1, (r1 18 (by omega)).trans g2, by rw [hX.2 _ 2 (by omega) (by omega), pw]; exact g3, ne, fun m hm => ?_, fun h1 => ?_, fun h2 i hi => ?_⟩
  · obtain ⟨p, hp⟩ := hK m hm
    rw [h9 m hm, ft_key g1 ne hp, pw, g3]
  · rw [r1 12 (by omega)] at h1
    obtain ⟨k1, k2, k3, k4, ⟨e, k5, k6⟩, k7⟩ := g6 h1
    rw [x1 1 (by omega), x1 6 (by omega), x1 7 (by omega), x1 5 (by omega), r1 13 (by omega), r1 14 (by omega), r1 15 (by omega), r1 16 (by omega)]
    refine ⟨k1, k2, k3, k4, ⟨e, xc e 1 (by omega) k5, rc e 16 (by omega) k6⟩, ?_⟩
    rcases k7 with k7 | ⟨k8, k9, e2, k10, k11⟩
    · exact Or.inl k7
    · exact Or.inr ⟨k8, k9, e2, xc e2 6 (by omega) k10, rc e2 17 (by omega) k11⟩
  · rw [r1 12 (by omega)] at h2
    rw [hX.1 _ i (by omega) (by omega) (by omega), hR.1 20 _ (by unfold jcQ_; omega)]
    exact g7 h2 i hi
/-- each job has ended, or is what it was, or is new -/
theorem JT_sub {J J2 : Nat → Nat} {c : Nat} {M N : mm_} (hT : JT_ J c M) (hB : HB_ J c M) (hK : ∀ m, m < c → ∃ K p, NK_ K (M.2.1 5 m) p) (h5 : ∀ m, m < c → N.2.1 5 m = M.2.1 5 m) (h : ∀ j, j < 8 → (N.1 (135 + 12 * J2 j) 0 = 0 ∧ N.1 12 j = 0) ∨ (¬ M.1 12 j = 0 ∧ J2 j = J j ∧ jKx_ (135 + 12 * J j) M N ∧ N.1 (135 + 12 * J j) 9 = M.1 (135 + 12 * J j) 9 ∧ jKr_ j M N) ∨ (N.1 (135 + 12 * J2 j) 0 = N.1 12 j ∧ (N.1 12 j = 1 ∨ N.1 12 j = 2 ∨ N.1 12 j = 3) ∧ JT1_ J2 c N j ∧ ∀ m, c ≤ m → m < 16 → ¬ btX_ (N.1 (135 + 12 * J2 j) 9) (nI m) = 1)) : JT_ J2 c N ∧ HB_ J2 c N := by
  classical
  have hK2 : ∃ K : Nat → Int64, ∀ m, m < c → ∃ p, NK_ (K m) (M.2.1 5 m) p := ⟨fun m => if y : m < c then Classical.choose (hK m y) else 0, fun m hm => by
    have := Classical.choose_spec (hK m hm)
    simp only [dif_pos hm]
    exact this⟩
  obtain ⟨K, hK⟩ := hK2
  refine ⟨⟨fun j hj => ?_, fun j hj h0 => ?_⟩, fun j hj h0 => ?_⟩
  · rcases h j hj with ⟨h1, h2⟩ | ⟨h1, h2, h3, h4, h5⟩ | ⟨h1, h2, -⟩
    · rw [h1, h2]; exact ⟨rfl, Or.inl rfl⟩
    · rw [h2, h3.1 _ 0 (by omega) (by omega) (by omega), h5.1 12 j (by unfold jcQ_; omega)]
      exact hT.1 j hj
    · exact ⟨h1, Or.inr h2⟩
  · rcases h j hj with ⟨h1, h2⟩ | ⟨h1, h2, h3, h4, hr⟩ | ⟨h1, h2, h3, -⟩
    · exact absurd h2 h0
    · have g := hT.2 j hj h1
      exact JT1_cg hj h2 h3 hr K (fun m hm => by rw [h5 m hm]; exact hK m hm) (fun m hm => by
        obtain ⟨p, hp⟩ := hK m hm
        rw [h4]; exact JT1_bits g hm hp) g
    · exact h3
  · rcases h j hj with ⟨h1, h2⟩ | ⟨h1, h2, h3, h4, hr⟩ | ⟨h1, h2, h3, h4⟩
    · exact absurd h2 h0
    · rw [h2, h4]; exact hB j hj h1
    · exact h4
