/-! numbers and rows without a fault; a key's count of parameters -/
theorem sI_selfX {M : mm_} {a i : Nat} {v : Int32} (h : M.1 a i = v) : sI_ M a i v = M := by
  unfold sI_
  have e : (fun x j => if x = a ∧ j = i then v else M.1 x j) = M.1 := by
    funext x j
    by_cases z : x = a ∧ j = i
    · rw [if_pos z, z.1, z.2, h]
    · rw [if_neg z]
  rw [e]
theorem sI_sIX (M : mm_) (a i : Nat) (v w : Int32) : sI_ (sI_ M a i v) a i w = sI_ M a i w := by
  unfold sI_
  congr
  funext x j
  by_cases h : x = a ∧ j = i
  · simp [h]
  · simp [h]
theorem nu1_G {M : mm_} (hf : M.1 37 2 = 0) : ∀ (u p : Nat) (v : Int64), nu1_ u (sI_ M 37 1 (nI p)) v = (sI_ M 37 1 (nI (nuP_ (tb_ M) u p v).1), (nuP_ (tb_ M) u p v).2)
  | 0, _, _ => rfl
  | u + 1, p, v => by
    have hp : pe_ (sI_ M 37 1 (nI p)) = tb_ M (nI p) := by
      unfold pe_
      rw [if_pos (by rw [gI_sI, if_neg (by omega)]; exact hf), gI_sI, if_pos (by simp), tb_37]
    rw [nu1_, nuP_, hp]
    by_cases h : fg_ (tb_ M (nI p)) = 0
    · rw [if_pos h, if_pos h]
    · rw [if_neg h, if_neg h, gI_sI, if_pos (by simp), nI_1, sI_sIX]
      exact nu1_G hf u (p + 1) _
theorem nuP_le {T : Int32 → Int32} {n : Nat} (hT : ∀ k, n ≤ k → k ≤ n → fg_ (T (nI k)) = 0) : ∀ (u p : Nat) (v : Int64), p ≤ n → p ≤ (nuP_ T u p v).1 ∧ (nuP_ T u p v).1 ≤ n
  | 0, p, _, hp => ⟨Nat.le_refl _, hp⟩
  | u + 1, p, v, hp => by
    rw [nuP_]
    by_cases h : fg_ (T (nI p)) = 0
    · rw [if_pos h]; exact ⟨Nat.le_refl _, hp⟩
    · rw [if_neg h]
      have hlt : p < n := Nat.lt_of_not_le (fun q => h (hT p q hp))
      have := nuP_le hT u (p + 1) (mn_ (v * 10 + (T (nI p)).toInt64 - 48) 1099511627776) hlt
      exact ⟨by omega, this.2⟩
theorem srT_le {T : Int32 → Int32} {n p : Nat} (hT : rb_ (T (nI n)) = 0) : ∀ (u j : Nat) (q : Int32) (w : Int64), p + j ≤ n → j ≤ (srT_ T (nI p) u j q w).1 ∧ p + (srT_ T (nI p) u j q w).1 ≤ n
  | 0, j, _, _, hp => ⟨Nat.le_refl _, hp⟩
  | u + 1, j, q, w, hp => by
    rw [srT_]
    by_cases h : rb_ (T (nI p + nI j)) = 0
    · rw [if_pos h]; exact ⟨Nat.le_refl _, hp⟩
    · rw [if_neg h]
      have hlt : p + j < n := by
        rcases Nat.lt_or_ge (p + j) n with z | z
        · exact z
        · exact absurd (by rw [nI_add, show p + j = n by omega]; exact hT) h
      have := srT_le (p := p) hT u (j + 1) (q + (if T (nI p + nI j) = 46 then 1 else 0)) (if j < 12 then wi_ w (nI j) (sgX_ (T (nI p + nI j))) else w) (by omega)
      exact ⟨by omega, this.2⟩
theorem tb_n {M : mm_} {n : Nat} (ht : tpX_ M n) : tb_ M (nI n) = -1 := by
  unfold tb_
  rw [ht.2, if_neg (fun w => absurd w.2 (nI_nlt (Nat.le_refl _) (by have := ht.1; omega)))]
theorem sg_lt (c : Int32) : ∃ j : Nat, j < 30 ∧ sgX_ c = nI j := by
  unfold sgX_
  by_cases h : 97 ≤ c ∧ c ≤ 122
  · rw [if_pos h]
    obtain ⟨j, hj, rfl⟩ := nI_of2 (M := 122) (n := 122) (by decide) (by intro z; exact absurd (Int32.lt_of_lt_of_le z (by decide : (0 : Int32) ≤ 97)) (Int32.not_lt.mpr h.1)) h.2
    have hj2 : 97 ≤ j := Nat.le_of_not_lt (fun z => absurd h.1 (nI_ge (a := j) (b := 97) z (by decide)))
    refine ⟨j - 97 + 1, by omega, ?_⟩
    rw [show (97 : Int32) = nI 97 from rfl, pk_sub hj2, nI_1]
  · rw [if_neg h]
    by_cases h1 : c = 46
    · rw [if_pos h1]; exact ⟨27, by decide, rfl⟩
    · rw [if_neg h1]
      by_cases h2 : c = 42
      · rw [if_pos h2]; exact ⟨28, by decide, rfl⟩
      · rw [if_neg h2]
        by_cases h3 : c = 63
        · rw [if_pos h3]; exact ⟨29, by decide, rfl⟩
        · rw [if_neg h3]; exact ⟨0, by decide, rfl⟩
theorem wi_sh : ∀ j, j < 12 → ∀ c, c < 30 → ((nI c).toInt64 <<< ((5 * nI j).toInt64 &&& 63)).toBitVec.toNat < 2 ^ 60 := by decide +kernel
theorem wi_lt {w : Int64} {j : Nat} {c : Int32} (hj : j < 12) (hw : w.toBitVec.toNat < 2 ^ 60) : (wi_ w (nI j) (sgX_ c)).toBitVec.toNat < 2 ^ 60 := by
  obtain ⟨q, hq, e⟩ := sg_lt c
  unfold wi_
  rw [e, Int64.toBitVec_or, BitVec.toNat_or]
  exact Nat.or_lt_two_pow hw (wi_sh j hj q hq)
theorem srT_w {T : Int32 → Int32} {p : Int32} : ∀ (u j : Nat) (q : Int32) (w : Int64), w.toBitVec.toNat < 2 ^ 60 → (srT_ T p u j q w).2.2.toBitVec.toNat < 2 ^ 60
  | 0, _, _, _, h => h
  | u + 1, j, q, w, h => by
    rw [srT_]
    by_cases z : rb_ (T (p + nI j)) = 0
    · rw [if_pos z]; exact h
    · rw [if_neg z]
      refine srT_w u (j + 1) _ _ ?_
      by_cases hj : j < 12
      · rw [if_pos hj]; exact wi_lt hj h
      · rw [if_neg hj]; exact h
theorem po_sh : ∀ j, j < 4 → ((nI j).toInt64 <<< ((60 : Int32).toInt64 &&& 63)).toBitVec.toNat = 2 ^ 60 * j := by decide +kernel
theorem po_bk : ∀ j, j < 4 → (UInt64.ofNat j).toInt64.toInt32 = nI j := by decide +kernel
theorem po_ky {w : Int64} {j : Nat} (hj : j < 4) (hw : w.toBitVec.toNat < 2 ^ 60) : poX_ (ky_ w (nI j)) = nI j := by
  have e2 : (ky_ w (nI j)).toUInt64.toNat = 2 ^ 60 * j + w.toBitVec.toNat := by
    unfold ky_
    show (w ||| _).toBitVec.toNat = _
    rw [Int64.toBitVec_or, BitVec.toNat_or, po_sh j hj, Nat.or_comm, ← Nat.two_pow_add_eq_or_of_lt hw]
  have e3 : (ky_ w (nI j)).toUInt64 >>> ((60 : Int32).toInt64.toUInt64 &&& Int64.toUInt64 63) = UInt64.ofNat j := by
    apply UInt64.toNat_inj.mp
    rw [UInt64.toNat_shiftRight, e2, show ((60 : Int32).toInt64.toUInt64 &&& Int64.toUInt64 63).toNat % 64 = 60 by decide +kernel, Nat.shiftRight_eq_div_pow, UInt64.toNat_ofNat_of_lt' (by rw [show UInt64.size = 2 ^ 64 from rfl]; omega), Nat.mul_add_div (by decide), Nat.div_eq_of_lt hw, Nat.add_zero]
  unfold poX_
  rw [e3, po_bk j hj]
theorem g37x {k i p m o : Nat} {M : mm_} {C : List cq2_} {H v : Int32} (hk : kb_ k) (h : ST_ k M p m o C H) (h1 : ¬ i = 1) (h2 : ¬ i = 2) : ST_ k (sI_ M 37 i v) p m o C H := by
  obtain ⟨a1, a2, a3, a4, a5, ⟨a6, a7⟩, a8⟩ := h
  unfold kb_ at hk
  have e : ∀ a j, ¬ (a = 37 ∧ j = i) → (sI_ M 37 i v).1 a j = M.1 a j := fun a j z => by rw [gI_sI, if_neg z]
  refine ⟨by rw [e _ _ (by omega)]; exact a1, by rw [e _ _ (by omega)]; exact a2, by rw [e _ _ (by omega)]; exact a3, by rw [e _ _ (by omega)]; exact a4, by rw [e _ _ (by omega)]; exact a5, ⟨by rw [e _ _ (by omega)]; exact a6, fun j q hq => ?_⟩, by rw [e _ _ (by omega)]; exact a8⟩
  obtain ⟨g1, g2, g3, g4⟩ := a7 j q hq
  exact ⟨by rw [e _ _ (by omega)]; exact g1, g2, fun z => by rw [e _ _ (by omega)]; exact g3 z, by rw [e _ _ (by omega)]; exact g4⟩
theorem gL37 {k p m o : Nat} {M : mm_} {C : List cq2_} {H : Int32} {v : Int64} (hk : kb_ k) (h : ST_ k M p m o C H) : ST_ k (sL_ M 37 6 v) p m o C H := by
  obtain ⟨a1, a2, a3, a4, a5, ⟨a6, a7⟩, a8⟩ := h
  unfold kb_ at hk
  refine ⟨a1, a2, a3, a4, a5, ⟨a6, fun j q hq => ?_⟩, a8⟩
  obtain ⟨g1, g2, g3, g4⟩ := a7 j q hq
  exact ⟨g1, by rw [gL_sL, if_neg (by omega)]; exact g2, g3, g4⟩
theorem gsr {k p m o : Nat} {M : mm_} {C : List cq2_} {H : Int32} {r : Nat × Int32 × Int64} (hk : kb_ k) (h : ST_ k M p m o C H) : ST_ k (srO_ M r) p m o C H := g37x hk (g37x hk (gL37 hk h) (by decide) (by decide)) (by decide) (by decide)
theorem cf_sr {k : Nat} {M : mm_} {r : Nat × Int32 × Int64} (hk : kb_ k) : cf_ k M (srO_ M r) := cf_tr (cf_tr cf_L37 (cf_37 hk)) (cf_37 hk)
theorem gtA {k p m o : Nat} {M : mm_} {C : List cq2_} {H : Int32} (h : ST_ k M p m o C H) (h1 : tb_ M (nI p) = 40) (h2 : o < 12) : tA_ M = M := by
  unfold tA_
  rw [gpe h, if_pos h1, if_pos ⟨by rw [h.2.2.2.1]; exact nI_lt (a := o) (b := 12) h2 (by decide), h.2.2.2.2.1⟩]
theorem gtA0 {k p m o : Nat} {M : mm_} {C : List cq2_} {H : Int32} (hk : kb_ k) (h : ST_ k M p m o C H) (hl : C.length ≤ 26) (ho : o ≤ 12) (h1 : ¬ (tb_ M (nI p) = 40 ∧ o < 12)) : FT_ k (tA_ M) := by
  unfold tA_
  rw [gpe h]
  by_cases z : tb_ M (nI p) = 40
  · rw [if_pos z, if_neg (fun w => absurd w.1 (by rw [h.2.2.2.1]; exact nI_nlt (a := o) (b := 12) (Nat.le_of_not_lt (fun q => h1 ⟨z, q⟩)) (by omega)))]
    exact gfi hk h (by decide) hl
  · rw [if_neg z]
    exact gfi hk h (by decide) hl
theorem gtO {k p m o : Nat} {M : mm_} {C : List cq2_} {H : Int32} (hk : kb_ k) (h : ST_ k M p m o C H) (h1 : tb_ M (nI p) = 40) (h2 : o < 12) : ST_ k (tO_ M) (p + 1) m (o + 1) C H := by
  unfold tO_
  rw [gtA h h1 h2, h.2.1, h.2.2.2.1, nI_1, nI_1]
  exact g395 hk (g37 hk h)
theorem cf_tA {k : Nat} {M : mm_} (hk : kb_ k) : cf_ k M (tA_ M) := by
  unfold tA_; split
  · split
    · exact cf_rf
    · exact cf_fi hk
  · exact cf_fi hk
theorem cf_tO {k : Nat} {M : mm_} (hk : kb_ k) : cf_ k M (tO_ M) := cf_tr (cf_tr (cf_tA hk) (cf_37 hk)) (cf_39 (by omega))
theorem rFtO {k : Nat} {M : mm_} (hk : kb_ k) (h : FT_ k (tA_ M)) : FT_ k (tO_ M) := rF39 hk (rF37 hk h (by decide))

