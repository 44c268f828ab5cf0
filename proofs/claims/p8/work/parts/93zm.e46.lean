/-! names and patterns as digits -/
def gN_ (D : Nat → Nat) : Nat → Nat
  | 0 => 0
  | z + 1 => gN_ D z + D z * 32 ^ z
theorem gN_lt {D : Nat → Nat} : ∀ z, (∀ j, j < z → D j < 32) → gN_ D z < 32 ^ z
  | 0, _ => by simp [gN_]
  | z + 1, h => by
    have i := gN_lt z (fun j hj => h j (by omega))
    have d := h z (by omega)
    rw [gN_, Nat.pow_succ]
    have : D z * 32 ^ z ≤ 31 * 32 ^ z := Nat.mul_le_mul_right _ (by omega)
    omega
theorem gN_dig {D : Nat → Nat} : ∀ z i, (∀ j, j < z → D j < 32) → gN_ D z / 32 ^ i % 32 = if i < z then D i else 0
  | 0, i, _ => by simp [gN_]
  | z + 1, i, h => by
    have hz := gN_lt z (fun j hj => h j (by omega))
    have ih := gN_dig z i (fun j hj => h j (by omega))
    have d := h z (by omega)
    have pp : 0 < (32 : Nat) ^ i := Nat.pow_pos (by decide)
    rw [gN_]
    by_cases h1 : i < z
    · rw [if_pos (show i < z + 1 by omega)]
      rw [if_pos h1] at ih
      obtain ⟨e, rfl⟩ : ∃ e, z = i + (e + 1) := ⟨z - i - 1, by omega⟩
      rw [show D (i + (e + 1)) * 32 ^ (i + (e + 1)) = 32 ^ i * (32 * (D (i + (e + 1)) * 32 ^ e)) by rw [Nat.pow_add, Nat.pow_succ]; simp [Nat.mul_comm, Nat.mul_left_comm]]
      rw [Nat.add_mul_div_left _ _ pp, Nat.add_mul_mod_self_left]
      exact ih
    · by_cases h2 : i = z
      · subst h2
        rw [if_pos (show i < i + 1 by omega), Nat.add_mul_div_right _ _ pp, Nat.div_eq_of_lt hz, Nat.zero_add, Nat.mod_eq_of_lt d]
      · rw [if_neg (show ¬ i < z + 1 by omega)]
        have hl := gN_lt (z + 1) h
        rw [gN_] at hl
        have hp : (32 : Nat) ^ (z + 1) ≤ 32 ^ i := Nat.pow_le_pow_right (by decide) (by omega)
        rw [Nat.div_eq_of_lt (by omega)]
theorem sa_N (x : Int64) {i : Nat} (hi : i < 12) : saX_ x (nI i) = nI (x.toBitVec.toNat / 32 ^ i % 32) := by
  have e1 : ∀ i, i < 12 → ((5 * nI i).toInt64.toUInt64 &&& Int64.toUInt64 63).toBitVec.toNat % 64 = 5 * i := by decide +kernel
  have e3 : ∀ m, m < 32 → (nI m).toBitVec.toNat = m := by decide +kernel
  unfold saX_
  apply Int32.toBitVec_inj.mp
  apply BitVec.eq_of_toNat_eq
  rw [Int32.toBitVec_and, BitVec.toNat_and, e3 _ (Nat.mod_lt _ (by decide))]
  have a1 : (x.toUInt64 >>> ((5 * nI i).toInt64.toUInt64 &&& Int64.toUInt64 63)).toBitVec.toNat = x.toBitVec.toNat / 32 ^ i := by
    rw [UInt64.toBitVec_shiftRight, BitVec.ushiftRight_eq', BitVec.toNat_ushiftRight, BitVec.toNat_umod, show (64 : BitVec 64).toNat = 64 from rfl, e1 i hi, Nat.shiftRight_eq_div_pow, Nat.pow_mul]
    rfl
  have a2 : ∀ y : Int64, y.toInt32.toBitVec.toNat = y.toBitVec.toNat % 2 ^ 32 := fun y => by
    rw [Int64.toBitVec_toInt32, BitVec.signExtend_eq_setWidth_of_le _ (by decide), BitVec.toNat_setWidth]
  rw [a2]
  show (x.toUInt64 >>> ((5 * nI i).toInt64.toUInt64 &&& Int64.toUInt64 63)).toBitVec.toNat % 2 ^ 32 &&& 31 = _
  rw [a1, show (31 : Nat) = 2 ^ 5 - 1 from rfl, Nat.and_two_pow_sub_one_eq_mod]
  omega
def sN_ (c : Int32) : Nat := (sgX_ c).toNatClampNeg
theorem sN_e (c : Int32) : sgX_ c = nI (sN_ c) ∧ sN_ c ≤ 29 := by
  have k : ∀ d, d ≤ 29 → sgX_ c = nI d → sgX_ c = nI (sN_ c) ∧ sN_ c ≤ 29 := fun d hd e => by
    have : sN_ c = d := by unfold sN_; rw [e]; exact nI_clamp (by omega)
    rw [this]; exact ⟨e, hd⟩
  rcases sg_of (c := c) with ⟨-, d, h1, h2, h3⟩ | ⟨-, h | h | h⟩
  · exact k d (by omega) h3
  · exact k 28 (by omega) h.2
  · exact k 29 (by omega) h.2
  · exact k 0 (by omega) h.2.2
theorem pwT_N {f : Nat → Int32} {s : Nat} : ∀ z, z ≤ 12 → pwT_ f s z = lN (gN_ (fun j => sN_ (f (s + j))) z)
  | 0, _ => rfl
  | z + 1, hz => by
    have hl := gN_lt (D := fun j => sN_ (f (s + j))) z (fun j _ => by have := (sN_e (f (s + j))).2; omega)
    rw [pwT_, pwT_N z (by omega), (sN_e (f (s + z))).1, wi_st (by omega) hl (by have := (sN_e (f (s + z))).2; omega)]
    rfl
theorem pw_tS {f : Nat → Int32} {s z : Nat} (hz : z ≤ 12) : tSg_ (pwT_ f s z) (fun p => f (s + p)) z := by
  refine ⟨hz, fun p hp => ?_⟩
  have hl := gN_lt (D := fun j => sN_ (f (s + j))) z (fun j _ => by have := (sN_e (f (s + j))).2; omega)
  have p60 := p32_le hz
  rw [pwT_N z hz, sa_N _ hp, tbl_ (by omega), gN_dig z p (fun j _ => by have := (sN_e (f (s + j))).2; omega)]
  by_cases q : p < z
  · rw [if_pos q, if_pos q]; exact (sN_e _).1.symm
  · rw [if_neg q, if_neg q]; rfl
theorem LE_gN {g : Nat → Int32} {k : Nat} : ∀ z, LE_ g k z = gN_ (fun j => dN_ (g (k + j))) z
  | 0 => rfl
  | z + 1 => by rw [LE_, gN_, LE_gN z]
theorem ky_tS {g : Nat → Int32} {k L j : Nat} (hL : L ≤ 12) (h : ry_ g k L) (hj : j < 4) : tSg_ (ky_ (lN (LE_ g k L)) (nI j)) (fun i => g (k + i)) L := by
  refine ⟨hL, fun p hp => ?_⟩
  have h1 : LE_ g k L < 2 ^ 60 := Nat.lt_of_lt_of_le (LE_lt L h) (p32_le hL)
  have hd : ∀ i, i < L → dN_ (g (k + i)) < 32 := fun i hi => by have := (nc_io (h i hi)).2.2.2; omega
  rw [sa_N _ hp, ky_N h1 hj]
  have e : (LE_ g k L + j * 2 ^ 60) / 32 ^ p % 32 = LE_ g k L / 32 ^ p % 32 := by
    obtain ⟨e, he⟩ : ∃ e, 12 = p + (e + 1) := ⟨11 - p, by omega⟩
    have : j * 2 ^ 60 = 32 ^ p * (32 * (j * 32 ^ e)) := by
      rw [← p32_, he, Nat.pow_add, Nat.pow_succ]; simp [Nat.mul_comm, Nat.mul_left_comm]
    rw [this, Nat.add_mul_div_left _ _ (Nat.pow_pos (by decide)), Nat.add_mul_mod_self_left]
  rw [e, LE_gN, gN_dig L p hd]
  by_cases q : p < L
  · rw [if_pos q, if_pos q]; exact (nc_io (h p q)).2.1.symm
  · rw [if_neg q, if_neg q]; rfl
theorem BE_dig {g : Nat → Int32} {k : Nat} : ∀ L i, ry_ g k L → i < L → BE_ g k L / 32 ^ (L - 1 - i) % 32 = dN_ (g (k + i))
  | 0, _, _, h => by omega
  | L + 1, i, h, hi => by
    have d := (nc_io (h L (by omega))).2.2.2
    rw [BE_]
    by_cases q : i = L
    · subst q
      rw [show i + 1 - 1 - i = 0 by omega, Nat.pow_zero, Nat.div_one]
      omega
    · have ih := BE_dig L i (fun j hj => h j (by omega)) (by omega)
      rw [show L + 1 - 1 - i = (L - 1 - i) + 1 by omega, Nat.pow_succ, Nat.mul_comm (32 ^ (L - 1 - i)), ← Nat.div_div_eq_div_mul, show (BE_ g k L * 32 + dN_ (g (k + L))) / 32 = BE_ g k L by omega]
      exact ih
theorem BE_ge {g : Nat → Int32} {k : Nat} : ∀ L, ry_ g k (L + 1) → 32 ^ L ≤ BE_ g k (L + 1)
  | 0, h => by
    have d := (nc_io (h 0 (by omega))).2.2.1
    rw [BE_, Nat.pow_zero]
    omega
  | L + 1, h => by
    have ih := BE_ge L (fun j hj => h j (by omega))
    rw [BE_, Nat.pow_succ]
    omega
theorem sr5_ {a i : Nat} (ha : a < 2 ^ 60) (hi : i < 12) : lN a >>> (((5 : Int32) * nI i).toInt64 &&& 63) = lN (a / 32 ^ i) := by
  have e1 : ∀ i, i < 12 → ((((5 : Int32) * nI i).toInt64 &&& 63).toBitVec.smod 64).toNat = 5 * i := by decide +kernel
  have hd : a / 32 ^ i ≤ a := Nat.div_le_self _ _
  apply Int64.toBitVec_inj.mp
  apply BitVec.eq_of_toNat_eq
  rw [Int64.toBitVec_shiftRight, BitVec.sshiftRight_eq', e1 i hi, BitVec.toNat_sshiftRight_of_msb_false, tbl_ (by omega), tbl_ (by omega), Nat.shiftRight_eq_div_pow, Nat.pow_mul]
  rw [BitVec.msb_eq_decide, tbl_ (by omega)]
  simp
  omega
theorem lN_z {a : Nat} (ha : a < 2 ^ 60) : lN a = 0 ↔ a = 0 := by
  constructor
  · intro y
    have := congrArg (fun x : Int64 => x.toBitVec.toNat) y
    rw [tbl_ (by omega)] at this
    exact this
  · intro y; rw [y]; rfl
theorem ns_L {g : Nat → Int32} {k L : Nat} (hL : L ≤ 12) (h : ry_ g k L) : ns_ (nm_ g k L) 12 0 = L := by
  have hb : BE_ g k L < 32 ^ L := BE_lt L h
  have p60 := p32_le hL
  rw [nm_BE L hL h]
  have lp : ∀ u m, m + u = 12 → m ≤ L → ns_ (lN (BE_ g k L)) u m = L := by
    intro u
    induction u with
    | zero => intro m h1 h2; rw [ns_]; omega
    | succ u ih =>
      intro m h1 h2
      rw [ns_, sr5_ (by omega) (by omega)]
      have hd : BE_ g k L / 32 ^ m ≤ BE_ g k L := Nat.div_le_self _ _
      by_cases q : m = L
      · subst q
        rw [Nat.div_eq_of_lt hb, if_pos (show lN 0 = 0 from rfl)]
      · obtain ⟨e, rfl⟩ : ∃ e, L = e + 1 := ⟨L - 1, by omega⟩
        have hg := BE_ge e h
        have hp : (32 : Nat) ^ m ≤ 32 ^ e := Nat.pow_le_pow_right (by decide) (by omega)
        have hpos : 0 < BE_ g k (e + 1) / 32 ^ m := Nat.div_pos (by omega) (Nat.pow_pos (by decide))
        rw [if_neg (fun y => by have := (lN_z (by omega)).mp y; omega)]
        exact ih (m + 1) (by omega) (by omega)
  exact lp 12 0 (by omega) (by omega)
theorem la_31 {a : Nat} (ha : a < 2 ^ 60) : (lN a &&& 31).toInt32 = nI (a % 32) := by
  have e : lN a &&& 31 = lN (a % 32) := by
    apply Int64.toBitVec_inj.mp
    apply BitVec.eq_of_toNat_eq
    rw [Int64.toBitVec_and, BitVec.toNat_and, tbl_ (by omega), tbl_ (by omega)]
    show a &&& 31 = _
    rw [show (31 : Nat) = 2 ^ 5 - 1 from rfl, Nat.and_two_pow_sub_one_eq_mod]
  have e3 : ∀ m, m < 32 → (lN m).toInt32 = nI m := by decide +kernel
  rw [e]
  exact e3 _ (Nat.mod_lt _ (by decide))
theorem nb_L {g : Nat → Int32} {k L i : Nat} (hL : L ≤ 12) (h : ry_ g k L) (hi : i < L) : nb_ (nm_ g k L) (nI i) (nI L) = g (k + i) := by
  have hb : BE_ g k L < 32 ^ L := BE_lt L h
  have p60 := p32_le hL
  have hd : BE_ g k L / 32 ^ (L - 1 - i) ≤ BE_ g k L := Nat.div_le_self _ _
  have e1 : nI L - 1 - nI i = nI (L - 1 - i) := by rw [show (1 : Int32) = nI 1 from rfl, pk_sub (by omega), pk_sub (by omega)]
  have io := h i hi
  unfold nb_
  rw [e1, nm_BE L hL h, sr5_ (by omega) (by omega), la_31 (by omega), BE_dig L i h hi, ← (nc_io io).1]
  unfold nc_
  by_cases q : g (k + i) = 46
  · rw [if_pos q, if_pos rfl, q]
  · rw [if_neg q, if_neg (fun y => by
      have e2 : g (k + i) = 123 := by
        have := congrArg (fun w : Int32 => w + 96) y
        simp only [Int32.sub_add_cancel] at this
        exact this
      rw [e2] at io
      exact absurd io (by decide))]
    rw [Int32.add_comm, Int32.sub_add_cancel]
theorem fo_cg {f : Nat → Int32} {z : Nat} {c e : Nat → Int32} : ∀ u k x, (∀ i, k ≤ i → i < k + u → c i = e i) → fo_ f z c u k x = fo_ f z e u k x
  | 0, _, _, _ => rfl
  | u + 1, k, x, h => by rw [fo_, fo_, h k (by omega) (by omega)]; exact fo_cg u (k + 1) _ (fun i h1 h2 => h i (by omega) (by omega))
/-- the class's fitting of a pattern and a key is the reference's of the pattern's bytes and the name -/
theorem fit_T {f g : Nat → Int32} {s z k L j : Nat} (hz : z ≤ 12) (hL : L ≤ 12) (h : ry_ g k L) (hj : j < 4) (hne : ∀ p, p < z → ¬ sgX_ (f (s + p)) = 0) : ftX_ (pwT_ f s z) (ky_ (lN (LE_ g k L)) (nI j)) = ft_ (fun p => f (s + p)) z (nm_ g k L) := by
  rw [ft_T (pw_tS hz) (ky_tS hL h hj) hne (fun i hi => h i hi)]
  unfold ft_
  rw [ns_L hL h, fo_cg L 0 _ (fun i _ h2 => nb_L hL h (by omega))]
