/-! fitting: the class's way and the reference's are one -/
theorem bv_sh (v : BitVec 32) (p : Nat) (hp : p < 32) : (v >>> p) &&& 1#32 = (v.sshiftRight p) &&& 1#32 := by
  apply BitVec.eq_of_getLsbD_eq
  intro i hi
  simp only [BitVec.getLsbD_and, BitVec.getLsbD_ushiftRight, BitVec.getLsbD_sshiftRight, BitVec.getLsbD_one]
  by_cases h : i = 0
  · subst h
    simp [hp]
  · simp [h]
theorem bt_sh (x : Int32) : ∀ p, p ≤ 12 → btX_ x (nI p) = (x >>> (nI p &&& 31)) &&& 1 := by
  intro p hp
  have e1 : ∀ p, p ≤ 12 → ((nI p).toUInt32 &&& Int32.toUInt32 31).toBitVec.toNat % 32 = p := by decide +kernel
  have e2 : ∀ p, p ≤ 12 → ((nI p &&& 31).toBitVec.smod 32#32).toNat = p := by decide +kernel
  unfold btX_
  apply Int32.toBitVec_inj.mp
  rw [Int32.toBitVec_and, Int32.toBitVec_and, Int32.toBitVec_shiftRight, BitVec.sshiftRight_eq']
  have a1 : (x.toUInt32 >>> ((nI p).toUInt32 &&& Int32.toUInt32 31)).toInt32.toBitVec = x.toBitVec >>> p := by
    show (x.toUInt32 >>> ((nI p).toUInt32 &&& Int32.toUInt32 31)).toBitVec = x.toBitVec >>> p
    rw [UInt32.toBitVec_shiftRight, BitVec.ushiftRight_eq']
    congr 1
    rw [BitVec.toNat_umod]
    exact e1 p hp
  have a2 : ((nI p &&& 31).toBitVec.smod 32).toNat = p := e2 p hp
  rw [a1, a2]
  exact bv_sh x.toBitVec p (by omega)
theorem s1_2 : ∀ p, p ≤ 12 → (1 : Int32) <<< (nI (p + 1) &&& 31) = (2 : Int32) <<< (nI p &&& 31) := by decide +kernel
theorem sg_of {c : Int32} : (io_ c = 1 ∧ ∃ d, 1 ≤ d ∧ d ≤ 27 ∧ sgX_ c = nI d) ∨ (io_ c = 0 ∧ ((c = 42 ∧ sgX_ c = 28) ∨ (c = 63 ∧ sgX_ c = 29) ∨ (¬ c = 42 ∧ ¬ c = 63 ∧ sgX_ c = 0))) := by
  rcases io_01 c with z | z
  · refine Or.inr ⟨z, ?_⟩
    by_cases h1 : c = 42
    · exact Or.inl ⟨h1, by rw [h1]; decide⟩
    · by_cases h2 : c = 63
      · exact Or.inr (Or.inl ⟨h2, by rw [h2]; decide⟩)
      · exact Or.inr (Or.inr ⟨h1, h2, sg_io.mpr ⟨z, h1, h2⟩⟩)
  · obtain ⟨-, h1, h2, h3⟩ := nc_io z
    exact Or.inl ⟨z, dN_ c, h2, h3, h1⟩
theorem sg_28 {c : Int32} : sgX_ c = 28 ↔ c = 42 := by
  constructor
  · intro y
    rcases sg_of (c := c) with ⟨-, d, h1, h2, h3⟩ | ⟨-, h | h | h⟩
    · have := (nI_eq (a := d) (b := 28) (by omega) (by decide)).mp (h3.symm.trans y); omega
    · exact h.1
    · exact absurd (h.2.symm.trans y) (by decide)
    · exact absurd (h.2.2.symm.trans y) (by decide)
  · intro y; rw [y]; decide
theorem sg_29 {c : Int32} : sgX_ c = 29 ↔ c = 63 := by
  constructor
  · intro y
    rcases sg_of (c := c) with ⟨-, d, h1, h2, h3⟩ | ⟨-, h | h | h⟩
    · have := (nI_eq (a := d) (b := 29) (by omega) (by decide)).mp (h3.symm.trans y); omega
    · exact absurd (h.2.symm.trans y) (by decide)
    · exact h.1
    · exact absurd (h.2.2.symm.trans y) (by decide)
  · intro y; rw [y]; decide
theorem sg_inj {c e : Int32} (he : io_ e = 1) : sgX_ c = sgX_ e ↔ c = e := by
  constructor
  · intro y
    obtain ⟨a1, a2, a3, a4⟩ := nc_io he
    rw [a2] at y
    rcases io_01 c with z | z
    · exfalso
      rcases sg_of (c := c) with ⟨h, -⟩ | ⟨-, h | h | h⟩
      · rw [z] at h; exact absurd h (by decide)
      · have := (nI_eq (a := 28) (b := dN_ e) (by decide) (by omega)).mp (h.2.symm.trans y); omega
      · have := (nI_eq (a := 29) (b := dN_ e) (by decide) (by omega)).mp (h.2.symm.trans y); omega
      · have := (nI_eq (a := 0) (b := dN_ e) (by decide) (by omega)).mp (h.2.2.symm.trans y); omega
    · obtain ⟨b1, b2, b3, b4⟩ := nc_io z
      rw [b2] at y
      exact nc_inj z he (by rw [a1, b1, y])
  · intro y; rw [y]
section FIT
variable {t k : Int64} {f g : Nat → Int32} {z L : Nat}
def tSg_ (t : Int64) (f : Nat → Int32) (z : Nat) : Prop := z ≤ 12 ∧ ∀ p, p < 12 → saX_ t (nI p) = if p < z then sgX_ (f p) else 0
theorem ps1_0 (h : tSg_ t f z) : ∀ (u p : Nat) (x : Int32), u + p = 12 → z ≤ p → ps1_ t u p x = x
  | 0, _, _, _, _ => rfl
  | u + 1, p, x, e, hz => by
    rw [ps1_, h.2 p (by omega), if_neg (show ¬ p < z by omega), if_neg (fun y => absurd y.2 (by decide))]
    exact ps1_0 h u (p + 1) x (by omega) (by omega)
theorem ps_T (h : tSg_ t f z) : ∀ (u v p : Nat) (x : Int32), u + p = 12 → v + p = z → ps1_ t u p x = sr_ f v p x
  | u, 0, p, x, e1, e2 => by rw [ps1_0 h u p x e1 (by omega)]; rfl
  | 0, v + 1, p, x, e1, e2 => by have := h.1; omega
  | u + 1, v + 1, p, x, e1, e2 => by
    rw [ps1_, sr_, h.2 p (by omega), if_pos (show p < z by omega), bt_sh x p (by omega), s1_2 p (by omega), ps_T h u v (p + 1) _ (by omega) (by omega)]
    congr 1
    by_cases b : (x >>> (nI p &&& 31)) &&& 1 = 1 ∧ f p = 42
    · rw [if_pos b, if_pos ⟨b.1, sg_28.mpr b.2⟩]
    · rw [if_neg b, if_neg (fun q => b ⟨q.1, sg_28.mp q.2⟩)]
theorem pg1_0 (h : tSg_ t f z) {x c : Int32} (hc : ¬ c = 0) : ∀ (u p : Nat) (y : Int32), u + p = 12 → z ≤ p → pg1_ t x c u p y = y
  | 0, _, _, _, _ => rfl
  | u + 1, p, y, e, hz => by
    rw [pg1_, h.2 p (by omega), if_neg (show ¬ p < z by omega), if_neg (fun q => absurd q.2 (by decide)), if_neg (fun q => q.2.elim (fun q => absurd q (by decide)) (fun q => hc q.symm))]
    exact pg1_0 h hc u (p + 1) y (by omega) (by omega)
theorem pg_T (h : tSg_ t f z) {x e : Int32} (he : io_ e = 1) : ∀ (u v p : Nat) (y : Int32), u + p = 12 → v + p = z → pg1_ t x (sgX_ e) u p y = fi_ f x e v p y
  | u, 0, p, y, e1, e2 => by
    have hc : ¬ sgX_ e = 0 := fun q => by
      have := (sg_io.mp q).1
      rw [he] at this
      exact absurd this (by decide)
    rw [pg1_0 h hc u p y e1 (by omega)]; rfl
  | 0, v + 1, p, y, e1, e2 => by have := h.1; omega
  | u + 1, v + 1, p, y, e1, e2 => by
    rw [pg1_, fi_, h.2 p (by omega), if_pos (show p < z by omega), bt_sh x p (by omega), s1_2 p (by omega), pg_T h he u v (p + 1) _ (by omega) (by omega)]
    congr 1
    by_cases b1 : (x >>> (nI p &&& 31)) &&& 1 = 1
    · rw [if_pos b1]
      by_cases b2 : f p = 42
      · rw [if_pos ⟨b1, sg_28.mpr b2⟩, if_pos b2]
      · rw [if_neg (fun q => b2 (sg_28.mp q.2)), if_neg b2]
        by_cases b3 : f p = 63 ∨ f p = e
        · rw [if_pos ⟨b1, b3.imp sg_29.mpr (sg_inj he).mpr⟩, if_pos b3]
        · rw [if_neg (fun q => b3 (q.2.imp sg_29.mp (sg_inj he).mp)), if_neg b3]
    · rw [if_neg b1, if_neg (fun q => b1 q.1), if_neg (fun q => b1 q.1)]
theorem ft_2 (h : tSg_ t f z) (hne : ∀ p, p < z → ¬ sgX_ (f p) = 0) : ∀ (u i : Nat) (x e : Int32), u + i = 12 → e = nI (min i z) → (ft1_ t k u i x e).2 = nI z
  | 0, i, x, e, e1, e2 => by
    have := h.1
    rw [ft1_, e2, show min i z = z by omega]
  | u + 1, i, x, e, e1, e2 => by
    rw [ft1_]
    refine ft_2 h hne u (i + 1) _ _ (by omega) ?_
    rw [h.2 i (by omega)]
    by_cases q : i < z
    · rw [if_pos q, if_neg (hne i q), show min (i + 1) z = i + 1 by omega]
    · rw [if_neg q, if_pos rfl, e2, show min i z = z by omega, show min (i + 1) z = z by omega]
theorem ft_1 (h : tSg_ t f z) (hk : tSg_ k g L) (hg : ∀ i, i < L → io_ (g i) = 1) : ∀ (u v i : Nat) (x e : Int32), u + i = 12 → v + i = L → (ft1_ t k u i x e).1 = fo_ f z g v i x
  | 0, 0, _, _, _, _, _ => rfl
  | u + 1, 0, i, x, e, e1, e2 => by
    rw [ft1_, hk.2 i (by omega), if_neg (show ¬ i < L by omega), if_pos rfl]
    have : ∀ (u i : Nat) (e : Int32), u + i = 12 → L ≤ i → (ft1_ t k u i x e).1 = x := by
      intro u
      induction u with
      | zero => intro i e _ _; rfl
      | succ u ih =>
        intro i e e1 e2
        rw [ft1_, hk.2 i (by omega), if_neg (show ¬ i < L by omega), if_pos rfl]
        exact ih (i + 1) _ (by omega) (by omega)
    rw [this u (i + 1) _ (by omega) (by omega)]; rfl
  | 0, v + 1, i, x, e, e1, e2 => by have := hk.1; omega
  | u + 1, v + 1, i, x, e, e1, e2 => by
    have hi := hg i (by omega)
    have hc : ¬ sgX_ (g i) = 0 := fun q => by
      have := (sg_io.mp q).1
      rw [hi] at this
      exact absurd this (by decide)
    have hz := h.1
    rw [ft1_, fo_, hk.2 i (by omega), if_pos (show i < L by omega), if_neg hc, ft_1 h hk hg u v (i + 1) _ _ (by omega) (by omega)]
    congr 1
    unfold psX_ pgn_
    rw [ps_T h 12 z 0 _ (by omega) (by omega), pg_T h hi 12 z 0 0 (by omega) (by omega)]
theorem ft_T (h : tSg_ t f z) (hk : tSg_ k g L) (hne : ∀ p, p < z → ¬ sgX_ (f p) = 0) (hg : ∀ i, i < L → io_ (g i) = 1) : ftX_ t k = if (fo_ f z g L 0 (sr_ f z 0 1) >>> (nI z &&& 31)) &&& 1 = 1 then 1 else 0 := by
  have hz := h.1
  unfold ftX_
  rw [ft_2 h hne 12 0 _ 0 (by omega) (by rw [Nat.zero_min]; rfl), ft_1 h hk hg 12 L 0 _ 0 (by omega) (by omega), bt_sh _ z hz]
  unfold psX_
  rw [ps_T h 12 z 0 1 (by omega) (by omega)]
end FIT
