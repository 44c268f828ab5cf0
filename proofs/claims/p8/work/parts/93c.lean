/-! numbers, rows, names and variables: the class's and the reference's ways of reading them -/
def TF_ (T : Int32 → Int32) (f : Nat → Int32) (n : Nat) : Prop := n ≤ 200 ∧ (∀ k, k < 1073741824 → T (nI k) = f k) ∧ (∀ k, n ≤ k → f k = -1) ∧ ∀ k, k < n → 0 ≤ f k
def nr_ (a w : Nat) : Prop := a ≤ 1099511627776 ∧ w ≤ 9999999999 ∧ ((a = w ∧ w ≤ 9999999999) ∨ (9999999999 ≤ a ∧ w = 9999999999))
theorem tbl_ {a : Nat} (h : a < 2 ^ 64) : (lN a).toBitVec.toNat = a := by
  show (BitVec.ofNat 64 a).toNat = a
  rw [BitVec.toNat_ofNat, Nat.mod_eq_of_lt h]
theorem lN_toInt2 {n : Nat} (h : n < 2 ^ 63) : (lN n).toInt = (n : Int) := lg_ofNat_toInt h
theorem lN_lt2 {a b : Nat} (ha : a < 2 ^ 63) (hb : b < 2 ^ 63) : lN a < lN b ↔ a < b := by
  rw [Int64.lt_iff_toInt_lt, lN_toInt2 ha, lN_toInt2 hb]; omega
theorem lN_le2 {a b : Nat} (ha : a < 2 ^ 63) (hb : b < 2 ^ 63) : lN a ≤ lN b ↔ a ≤ b := by
  rw [Int64.le_iff_toInt_le, lN_toInt2 ha, lN_toInt2 hb]; omega
theorem fg_ig (c : Int32) : fg_ c = ig_ c := rfl
theorem ig_dg {c : Int32} (h : ig_ c = 1) : ∃ e, e ≤ 9 ∧ c = nI (48 + e) := by
  unfold ig_ at h
  split at h
  · rename_i z
    obtain ⟨j, hj, rfl⟩ := ix_ (x := c) (n := 58) (by decide) (fun y => absurd (Int32.le_trans z.1 (Int32.le_of_lt y)) (by decide)) (fun y => absurd (Int32.le_trans y z.2) (by decide))
    have h48 : 48 ≤ j := by
      rcases Nat.lt_or_ge j 48 with q | q
      · exact absurd (Int32.lt_of_lt_of_le (nI_lt q (by decide)) z.1) Int32.lt_irrefl
      · exact q
    exact ⟨j - 48, by omega, by congr 1; omega⟩
  · exact absurd h (by decide)
theorem nuP_nv {T : Int32 → Int32} {f : Nat → Int32} {n : Nat} (h : TF_ T f n) : ∀ (u2 u1 k a w : Nat), u2 ≤ u1 → n ≤ k + u2 → k ≤ 1000 - u2 → u2 ≤ 200 → nr_ a w → ∃ a2, (nuP_ T u1 k (lN a)) = ((nv_ f u2 k w).1, lN a2) ∧ nr_ a2 (nv_ f u2 k w).2
  | 0, u1, k, a, w, hu, hn, hk, h2, hr => by
    refine ⟨a, ?_, hr⟩
    cases u1 with
    | zero => rfl
    | succ u1 =>
      rw [nuP_, if_pos]
      · rfl
      · rw [h.2.1 k (by omega), h.2.2.1 k (by omega)]; decide
  | u2 + 1, u1, k, a, w, hu, hn, hk, h2, hr => by
    obtain ⟨u1, rfl⟩ : ∃ v, u1 = v + 1 := ⟨u1 - 1, by omega⟩
    rw [nuP_, nv_, h.2.1 k (by omega), fg_ig]
    rcases ig_01 (f k) with z | z
    · rw [if_pos z, if_neg (by rw [z]; decide)]
      exact ⟨a, rfl, hr⟩
    · rw [if_neg (by rw [z]; decide), if_pos z]
      obtain ⟨e, he, hc⟩ := ig_dg z
      rw [hc, dg_nI he]
      have e1 : lN a * 10 + (nI (48 + e)).toInt64 - 48 = lN (a * 10 + e) := by
        rw [show (10 : Int64) = lN 10 from rfl, show (48 : Int64) = lN 48 from rfl, lN_mul, nI_l (by omega), lN_add, lN_sub (by omega)]
        congr 1
        omega
      obtain ⟨r1, r2, r3⟩ := hr
      have e2 : mn_ (lN (a * 10 + e)) 1099511627776 = lN (if 1099511627776 < a * 10 + e then 1099511627776 else a * 10 + e) := by
        unfold mn_
        rw [show (1099511627776 : Int64) = lN 1099511627776 from rfl]
        by_cases q : 1099511627776 < a * 10 + e
        · rw [if_pos ((lN_lt2 (by omega) (by omega)).mpr q), if_pos q]
        · rw [if_neg (fun y => q ((lN_lt2 (by omega) (by omega)).mp y)), if_neg q]
      rw [e1, e2]
      refine nuP_nv h u2 u1 (k + 1) _ _ (by omega) (by omega) (by omega) (by omega) ⟨by split <;> omega, dn_le _ _, ?_⟩
      unfold dn_
      split <;> split <;> omega
/-! rows -/
theorem rb_io (c : Int32) : rb_ c = io_ c := by
  unfold rb_ io_ il_
  by_cases h : 97 ≤ c ∧ c ≤ 122
  · simp [h]
  · simp [h]
def dN_ (c : Int32) : Nat := (nc_ c).toNatClampNeg
theorem il_j {c : Int32} (h : il_ c = 1) : ∃ j, 97 ≤ j ∧ j ≤ 122 ∧ c = nI j := by
  unfold il_ at h
  split at h
  · rename_i z
    obtain ⟨j, hj, rfl⟩ := ix_ (x := c) (n := 123) (by decide) (fun y => absurd (Int32.le_trans z.1 (Int32.le_of_lt y)) (by decide)) (fun y => absurd (Int32.le_trans y z.2) (by decide))
    have h48 : 97 ≤ j := by
      rcases Nat.lt_or_ge j 97 with q | q
      · exact absurd (Int32.lt_of_lt_of_le (nI_lt q (by decide)) z.1) Int32.lt_irrefl
      · exact q
    exact ⟨j, h48, by omega, rfl⟩
  · exact absurd h (by decide)
theorem nc_j : ∀ j, j < 123 → 97 ≤ j → nc_ (nI j) = nI (j - 96) ∧ sgX_ (nI j) = nI (j - 96) := by decide +kernel
theorem nc_io {c : Int32} (h : io_ c = 1) : nc_ c = nI (dN_ c) ∧ sgX_ c = nI (dN_ c) ∧ 1 ≤ dN_ c ∧ dN_ c ≤ 27 := by
  unfold io_ at h
  split at h
  · rename_i z
    rcases z with z | rfl
    · obtain ⟨j, h1, h2, rfl⟩ := il_j z
      obtain ⟨e1, e2⟩ := nc_j j (by omega) h1
      have e3 : dN_ (nI j) = j - 96 := by unfold dN_; rw [e1]; exact pk_cl (j - 96) rfl (by omega)
      rw [e3]
      exact ⟨e1, e2, by omega, by omega⟩
    · decide
  · exact absurd h (by decide)
def BE_ (f : Nat → Int32) (k : Nat) : Nat → Nat
  | 0 => 0
  | j + 1 => BE_ f k j * 32 + dN_ (f (k + j))
def LE_ (f : Nat → Int32) (k : Nat) : Nat → Nat
  | 0 => 0
  | j + 1 => LE_ f k j + dN_ (f (k + j)) * 32 ^ j
def ry_ (f : Nat → Int32) (k z : Nat) : Prop := ∀ j, j < z → io_ (f (k + j)) = 1
theorem BE_lt {f : Nat → Int32} {k : Nat} : ∀ z, ry_ f k z → BE_ f k z < 32 ^ z
  | 0, _ => by simp [BE_]
  | z + 1, h => by
    have i := BE_lt z (fun j hj => h j (by omega))
    have d := (nc_io (h z (by omega))).2.2.2
    rw [BE_, Nat.pow_succ]
    omega
theorem LE_lt {f : Nat → Int32} {k : Nat} : ∀ z, ry_ f k z → LE_ f k z < 32 ^ z
  | 0, _ => by simp [LE_]
  | z + 1, h => by
    have i := LE_lt z (fun j hj => h j (by omega))
    have d := (nc_io (h z (by omega))).2.2.2
    rw [LE_, Nat.pow_succ]
    have : dN_ (f (k + z)) * 32 ^ z ≤ 27 * 32 ^ z := Nat.mul_le_mul_right _ d
    omega
theorem p32_ : (32 : Nat) ^ 12 = 2 ^ 60 := by decide
theorem p32_le {z : Nat} (h : z ≤ 12) : (32 : Nat) ^ z ≤ 2 ^ 60 := by rw [← p32_]; exact Nat.pow_le_pow_right (by decide) h
theorem sh5_ : (((5 : Int32).toInt64 &&& 63).toBitVec.smod 64).toNat = 5 := by decide +kernel
theorem nm_st {a d : Nat} (ha : a < 2 ^ 58) (hd : d < 32) : (lN a <<< ((5 : Int32).toInt64 &&& 63)) ||| (nI d).toInt64 = lN (a * 32 + d) := by
  apply Int64.toBitVec_inj.mp
  apply BitVec.eq_of_toNat_eq
  rw [Int64.toBitVec_or, BitVec.toNat_or, nI_l (by omega), tbl_ (by omega), tbl_ (by omega)]
  show ((lN a).toBitVec <<< (((5 : Int32).toInt64 &&& 63).toBitVec.smod 64).toNat).toNat ||| d = _
  rw [sh5_, BitVec.toNat_shiftLeft, Nat.shiftLeft_eq, tbl_ (by omega), Nat.mod_eq_of_lt (by omega), Nat.mul_comm a (2 ^ 5), ← Nat.two_pow_add_eq_or_of_lt (show d < 2 ^ 5 by omega)]
theorem nm_BE {f : Nat → Int32} {k : Nat} : ∀ z, z ≤ 12 → ry_ f k z → nm_ f k z = lN (BE_ f k z)
  | 0, _, _ => rfl
  | z + 1, hz, h => by
    have i := BE_lt z (fun j hj => h j (by omega))
    have p : (32 : Nat) ^ z ≤ 32 ^ 11 := Nat.pow_le_pow_right (by decide) (by omega)
    have p2 : (32 : Nat) ^ 11 = 2 ^ 55 := by decide
    obtain ⟨e1, -, e2, e3⟩ := nc_io (h z (by omega))
    rw [nm_, nm_BE z (by omega) (fun j hj => h j (by omega)), e1, nm_st (by omega) (by omega)]
    rfl
theorem wi_s2 : ∀ j, j < 12 → ∀ c, c < 32 → ((nI c).toInt64 <<< ((5 * nI j).toInt64 &&& 63)).toBitVec.toNat = c * 32 ^ j := by decide +kernel
theorem wi_st {a d j : Nat} (hj : j < 12) (ha : a < 32 ^ j) (hd : d < 32) : wi_ (lN a) (nI j) (nI d) = lN (a + d * 32 ^ j) := by
  have p := p32_le (show j ≤ 12 by omega)
  have e : (32 : Nat) ^ j = 2 ^ (5 * j) := by rw [Nat.pow_mul]
  have p2 : d * 32 ^ j < 2 ^ 64 := by
    have : d * 32 ^ j ≤ 15 * 2 ^ 60 ∨ d * 32 ^ j ≤ 31 * 32 ^ 11 := Or.inr (Nat.mul_le_mul (by omega) (Nat.pow_le_pow_right (by decide) (by omega)))
    have p3 : (31 : Nat) * 32 ^ 11 < 2 ^ 61 := by decide
    omega
  have p4 : d * 32 ^ j ≤ 31 * 32 ^ 11 := Nat.mul_le_mul (by omega) (Nat.pow_le_pow_right (by decide) (by omega))
  have p3 : (31 : Nat) * 32 ^ 11 < 2 ^ 60 := by decide
  unfold wi_
  apply Int64.toBitVec_inj.mp
  apply BitVec.eq_of_toNat_eq
  rw [Int64.toBitVec_or, BitVec.toNat_or, wi_s2 j hj d hd, tbl_ (by omega), tbl_ (by omega), Nat.or_comm, e, Nat.mul_comm d, ← Nat.two_pow_add_eq_or_of_lt (by rw [← e]; exact ha)]
  omega
/-- the row that stands at k, as the class scans it -/
theorem srT_rn {T : Int32 → Int32} {f : Nat → Int32} {n k : Nat} (h : TF_ T f n) (hk : k ≤ 300) : ∀ (u2 u1 j : Nat), u2 ≤ u1 → n ≤ k + j + u2 → j + u2 ≤ 300 → ry_ f k j → srT_ T (nI k) u1 j (nI (dt_ f k j)) (lN (LE_ f k (min j 12))) = (j + rn_ f u2 (k + j), nI (dt_ f k (j + rn_ f u2 (k + j))), lN (LE_ f k (min (j + rn_ f u2 (k + j)) 12))) ∧ ry_ f k (j + rn_ f u2 (k + j))
  | 0, u1, j, hu, hn, h3, hr => by
    rw [rn_, Nat.add_zero]
    refine ⟨?_, hr⟩
    cases u1 with
    | zero => rfl
    | succ u1 =>
      rw [srT_, if_pos]
      rw [nI_add, h.2.1 (k + j) (by omega), h.2.2.1 (k + j) (by omega)]; decide
  | u2 + 1, u1, j, hu, hn, h3, hr => by
    obtain ⟨u1, rfl⟩ : ∃ v, u1 = v + 1 := ⟨u1 - 1, by omega⟩
    rw [srT_, rn_, nI_add, h.2.1 (k + j) (by omega), rb_io]
    rcases io_01 (f (k + j)) with z | z
    · rw [if_pos z, if_neg (by rw [z]; decide), Nat.add_zero]
      exact ⟨rfl, hr⟩
    · rw [if_neg (by rw [z]; decide), if_pos z]
      obtain ⟨e1, e2, e3, e4⟩ := nc_io z
      have r2 : ry_ f k (j + 1) := fun i hi => by
        rcases Nat.lt_or_ge i j with q | q
        · exact hr i q
        · rw [show i = j by omega]; exact z
      have d1 : nI (dt_ f k j) + (if f (k + j) = 46 then 1 else 0) = nI (dt_ f k (j + 1)) := by
        rw [dt_]
        split
        · rw [show (1 : Int32) = nI 1 from rfl, nI_add]
        · rw [show (0 : Int32) = nI 0 from rfl, nI_add]; rfl
      have w1 : (if j < 12 then wi_ (lN (LE_ f k (min j 12))) (nI j) (sgX_ (f (k + j))) else lN (LE_ f k (min j 12))) = lN (LE_ f k (min (j + 1) 12)) := by
        by_cases q : j < 12
        · rw [if_pos q, e2, Nat.min_eq_left (by omega), Nat.min_eq_left (by omega), wi_st q (LE_lt j hr) (by omega)]
          rfl
        · rw [if_neg q, Nat.min_eq_right (by omega), Nat.min_eq_right (by omega)]
      rw [d1, w1]
      have i := srT_rn h hk u2 u1 (j + 1) (by omega) (by omega) (by omega) r2
      rw [show k + (j + 1) = k + j + 1 by omega] at i
      rw [show j + (rn_ f u2 (k + j + 1) + 1) = j + 1 + rn_ f u2 (k + j + 1) by omega]
      exact i
theorem srT_rz {T : Int32 → Int32} {M : mm_} {n k : Nat} (h : TF_ T (bf_ M n) n) (hk : k ≤ n) : srT_ T (nI k) 200 0 0 0 = (rz_ M n k, nI (dt_ (bf_ M n) k (rz_ M n k)), lN (LE_ (bf_ M n) k (min (rz_ M n k) 12))) ∧ ry_ (bf_ M n) k (rz_ M n k) := by
  have hn := h.1
  have i := srT_rn h (show k ≤ 300 by omega) (n - k) 200 0 (by omega) (by omega) (by omega) (fun j hj => by omega)
  rw [Nat.zero_add, Nat.add_zero] at i
  exact i
theorem dt_1 {f : Nat → Int32} {k : Nat} : dt_ f k 1 = if f k = 46 then 1 else 0 := by
  rw [dt_, dt_, Nat.add_zero]
/-- a row is a name -/
theorem isn_ne {T : Int32 → Int32} {f : Nat → Int32} {n k z : Nat} (h : TF_ T f n) (hk : k ≤ n) (hz : 1 ≤ z) (hz2 : k + z ≤ n) : (nI (dt_ f k z) = 1 ∧ ¬ T (nI k) = 46 ∧ ¬ T (nI k + nI z - 1) = 46) ↔ ne_ f k z := by
  have hn := h.1
  have e1 : nI k + nI z - 1 = nI (k + z - 1) := by rw [nI_add, nI_p _ (by omega)]
  rw [e1, h.2.1 k (by omega), h.2.1 (k + z - 1) (by omega)]
  have hd := dt_le f k z
  have e2 : nI (dt_ f k z) = 1 ↔ dt_ f k z = 1 := by
    rw [show (1 : Int32) = nI 1 from rfl]
    exact nI_eq (by omega) (by decide)
  rw [e2]
  constructor
  · rintro ⟨a, b, c⟩
    refine ⟨?_, a, b, c⟩
    rcases Nat.lt_or_ge 2 z with q | q
    · exact q
    · exfalso
      rcases (show z = 1 ∨ z = 2 by omega) with rfl | rfl
      · rw [dt_1, if_neg b] at a; omega
      · rw [dt_, dt_1, if_neg b] at a
        rw [show k + 2 - 1 = k + 1 by omega] at c
        rw [if_neg c] at a
        omega
  · rintro ⟨-, a, b, c⟩
    exact ⟨a, b, c⟩
/-! variables -/
def xx_ (j : Nat) : Int32 := ixo_ 0 (((nI j).toUInt32 % 65536).toInt32)
theorem vr_k1 : ∀ j, j < 26 → ∀ v, v < 4 → (decide (¬ xx_ (97 + j) < 0 ∧ xx_ (97 + j) < nI v) = decide (¬ ow_ (nI (97 + j)) = 0 ∧ vv_ (nI (97 + j)) < nI v)) := by decide +kernel
theorem vr_k2 : ∀ j, j < 26 → ∀ v, v < 4 → (decide (¬ ow_ (nI (97 + j)) = 0 ∧ vv_ (nI (97 + j)) < nI v) = false ∨ (xx_ (97 + j) = vv_ (nI (97 + j)) ∧ ¬ vv_ (nI (97 + j)) < 0)) := by decide +kernel
theorem vr_k : ∀ j, j < 123 → 97 ≤ j → ∀ v, v < 4 → ((¬ xx_ j < 0 ∧ xx_ j < nI v) ↔ (¬ ow_ (nI j) = 0 ∧ vv_ (nI j) < nI v)) ∧ ((¬ ow_ (nI j) = 0 ∧ vv_ (nI j) < nI v) → xx_ j = vv_ (nI j) ∧ ¬ vv_ (nI j) < 0) := by
  intro j h1 h2 v hv
  obtain ⟨i, rfl⟩ : ∃ i, j = 97 + i := ⟨j - 97, by omega⟩
  have a := vr_k1 i (by omega) v hv
  have b := vr_k2 i (by omega) v hv
  refine ⟨by rw [decide_eq_decide] at a; exact a, fun c => b.resolve_left (fun q => ?_)⟩
  rw [decide_eq_false_iff_not] at q
  exact q c
def cv_ (c : Int32) : Prop := ¬ ow_ c = 0 ∨ (¬ vv_ c < 3 ∧ ¬ 6 < vv_ c ∧ ¬ c = 100 ∧ ¬ c = 101 ∧ ¬ c = 102 ∧ ¬ c = 103)
def cb2_ (c : Int32) : Bool := !decide (ow_ c = 0) || (!decide (vv_ c < 3) && !decide (6 < vv_ c) && !decide (c = 100) && !decide (c = 101) && !decide (c = 102) && !decide (c = 103))
theorem cv_b (c : Int32) : cv_ c ↔ cb2_ c = true := by
  unfold cv_ cb2_
  simp [and_assoc]
theorem vr_c1 : ∀ j, j < 26 → (decide (¬ xx_ (97 + j) < 0 ∧ xx_ (97 + j) < 7) = cb2_ (nI (97 + j))) ∧ (cb2_ (nI (97 + j)) = false ∨ (xx_ (97 + j) = vv_ (nI (97 + j)) ∧ ¬ vv_ (nI (97 + j)) < 0)) := by decide +kernel
theorem vr_c : ∀ j, j < 123 → 97 ≤ j → ((¬ xx_ j < 0 ∧ xx_ j < 7) ↔ cv_ (nI j)) ∧ (cv_ (nI j) → xx_ j = vv_ (nI j) ∧ ¬ vv_ (nI j) < 0) := by
  intro j h1 h2
  obtain ⟨i, rfl⟩ : ∃ i, j = 97 + i := ⟨j - 97, by omega⟩
  obtain ⟨a, b⟩ := vr_c1 i (by omega)
  rw [cv_b]
  refine ⟨by rw [← a, decide_eq_true_iff], fun c => b.resolve_left (fun q => ?_)⟩
  rw [c] at q; exact absurd q (by decide)
/-- what the two readers know alike: in a method v parameters and names, in a command seven variables -/
def KN_ (M : mm_) (v : Int32) (nm : Bool) : Prop := (nm = true ∧ M.1 0 14 = 0 ∧ ∃ j, j < 4 ∧ v = nI j ∧ M.1 0 15 = v) ∨ (nm = false ∧ ¬ M.1 0 14 = 0 ∧ v = 7 ∧ M.1 0 15 = 3)
theorem vx_vo {T : Int32 → Int32} {M : mm_} {n k : Nat} {v : Int32} {nm : Bool} (h : TF_ T (bf_ M n) n) (hk : k ≤ n) (hK : KN_ M v nm) (hl : il_ (bf_ M n k) = 1) : ((¬ vx2_ T k < 0 ∧ vx2_ T k < v) ↔ ¬ vo_ M (bf_ M n k) < 0) ∧ (¬ vo_ M (bf_ M n k) < 0 → vx2_ T k = vo_ M (bf_ M n k)) := by
  have hn := h.1
  unfold vx2_
  rw [h.2.1 k (by omega)]
  obtain ⟨j, h1, h2, e⟩ := il_j hl
  rw [e]
  show ((¬ xx_ j < 0 ∧ xx_ j < v) ↔ ¬ vo_ M (nI j) < 0) ∧ (¬ vo_ M (nI j) < 0 → xx_ j = vo_ M (nI j))
  rcases hK with ⟨-, k1, q, hq, rfl, k3⟩ | ⟨-, k1, rfl, k3⟩
  · obtain ⟨a1, a2⟩ := vr_k j (by omega) h1 q hq
    unfold vo_
    rw [k1, k3]
    by_cases c : ¬ ow_ (nI j) = 0 ∧ vv_ (nI j) < nI q
    · rw [if_pos (Or.inl c)]
      obtain ⟨b1, b2⟩ := a2 c
      exact ⟨⟨fun _ => b2, fun _ => a1.mpr c⟩, fun _ => b1⟩
    · rw [if_neg (fun z => by rcases z with z | z; exact c z; exact z.1 rfl)]
      exact ⟨⟨fun z => absurd (a1.mp z) c, fun z => absurd (by decide) z⟩, fun z => absurd (by decide) z⟩
  · obtain ⟨a1, a2⟩ := vr_c j (by omega) h1
    unfold vo_
    by_cases c : cv_ (nI j)
    · rw [if_pos (Or.inr ⟨k1, c⟩)]
      obtain ⟨b1, b2⟩ := a2 c
      exact ⟨⟨fun _ => b2, fun _ => a1.mpr c⟩, fun _ => b1⟩
    · rw [if_neg (fun z => by rcases z with z | z; exact c (Or.inl z.1); exact c z.2)]
      exact ⟨⟨fun z => absurd (a1.mp z) c, fun z => absurd (by decide) z⟩, fun z => absurd (by decide) z⟩
