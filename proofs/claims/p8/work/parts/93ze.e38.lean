/-! the reference's machine: trees -/
theorem ac_tm : ∀ x : Term, wfX_ false x → ac_ (tm_ x) = an_ x
  | .null, _ => rfl
  | .add a r, w => by rw [tm_, ac_, an_, ac_tm r w.2]
theorem an_tc : ∀ x : Term, wfX_ false x → an_ x ≤ (tc_ (tm_ x)).length
  | .null, _ => Nat.zero_le _
  | .add a r, w => by
    have h1 := tc_pos a w.1
    have h2 := an_tc r w.2
    rw [tm_, tc_, an_, List.length_append]
    omega
theorem sh2_ {a j : Nat} (ha : a < 2 ^ 60) (hj : j < 4) : ((lN a <<< ((2 : Int32).toInt64 &&& 63)) ||| (nI j).toInt64) >>> ((2 : Int32).toInt64 &&& 63) = lN a := by
  have hjn : ∀ j, j < 4 → (nI j).toInt64.toBitVec.toNat = j := by decide +kernel
  have e2 : ((2 : Int32).toInt64 &&& 63) = (2 : Int64) := by decide +kernel
  rw [e2]
  apply Int64.toBitVec_inj.mp
  apply BitVec.eq_of_toNat_eq
  have s2 : ((2 : Int64).toBitVec.smod 64) = 2#64 := by decide +kernel
  have h1 : ((lN a <<< (2 : Int64)) ||| (nI j).toInt64).toBitVec.toNat = a * 4 + j := by
    rw [Int64.toBitVec_or, BitVec.toNat_or, hjn j hj, Int64.toBitVec_shiftLeft, s2, BitVec.shiftLeft_eq', BitVec.toNat_shiftLeft, tbl_ (by omega), show (2#64).toNat = 2 from rfl, Nat.shiftLeft_eq, Nat.mod_eq_of_lt (by omega), Nat.mul_comm a, show (2 : Nat) ^ 2 * a = 2 ^ 2 * a from rfl, ← Nat.two_pow_add_eq_or_of_lt (by omega : j < 2 ^ 2)]
  rw [Int64.toBitVec_shiftRight, s2, BitVec.sshiftRight_eq', show (2#64).toNat = 2 from rfl, BitVec.toNat_sshiftRight_of_msb_false, h1, tbl_ (by omega), Nat.shiftRight_eq_div_pow]
  · omega
  · rw [BitVec.msb_eq_decide, h1]
    simp
    omega
theorem NK_de {K a : Int64} {p : Int32} (h : NK_ K a p) : ∃ x, x < 2 ^ 60 ∧ a = lN x := by
  obtain ⟨f, k, z, j, h1, h2, -, -, h3, -⟩ := h
  exact ⟨BE_ f k z, Nat.lt_of_lt_of_le (BE_lt z h1) (p32_le h2), by rw [h3, nm_BE z h2 h1]⟩
section TRP2
variable {G : gg_} {d : Nat} {Q : mm_ → Prop} {E : se_} {c D b tb m n R : Nat} {A : mm_} {C0 : List sv_} {V : Nat → Int32} {I : Int64 → List Int32 → sgA_ → io2_}
theorem ZP_set {t : List Int32} {x : Int32} {L : List (Nat × Nat)} {s : sgA_} {p : Nat} {B : mm_} (y : Int32) (h : ZB_ E c D b tb A (x :: t) L s B) (h47 : B.1 0 47 = nI (b + (x :: t).length)) (h25 : B.1 25 (D + 1) = nI p) : ZP_ E c D b tb A (y :: t) L s p (sI_ B 26 (b + t.length) y) := by
  have z1 : ZB_ E c D b tb A t L s (sI_ B 26 (b + t.length) y) := ZB_I (ZB_tl h) (by omega)
  exact ⟨⟨z1.1, ⟨by rw [gI_sI, if_pos ⟨rfl, rfl⟩], z1.2.1⟩, z1.2.2⟩, by rw [gI_sI, if_neg (by omega)]; exact h47, by rw [gI_sI, if_neg (by omega)]; exact h25⟩
theorem ZB_pop {t : List Int32} {y : Nat × Nat} {L : List (Nat × Nat)} {s : sgA_} {B : mm_} (h : ZB_ E c D b tb A t (y :: L) s B) : ZB_ E c D b tb A t L s (sI_ B 0 51 (nI (tb + L.length))) := by
  obtain ⟨h1, h2, h3, h4, h5, h6, h7, h8⟩ := h
  refine ⟨FZ_I h1 (Or.inr (by unfold mvR_; omega)), sxP_cg (fun x hx => by rw [gI_sI, if_neg (by omega)]) h2, trP_cg (fun x hx => ⟨by rw [gI_sI, if_neg (by omega)], by rw [gI_sI, if_neg (by omega)], by rw [gI_sI, if_neg (by omega)]⟩) h3.2.2.2, by rw [gI_sI, if_neg (by omega)]; exact h4, by rw [gI_sI, if_pos ⟨rfl, rfl⟩], DR_I (by unfold dcR_; omega) h6, JR_cg (M := B) rfl (fun x y z => by rw [gI_sI, if_neg (by unfold jcR_ at z; omega)]) (KM_rf s) h7, h8⟩
theorem ZB_try {t : List Int32} {L : List (Nat × Nat)} {s : sgA_} {B : mm_} (w : Nat) (h : ZB_ E c D b tb A t L s B) : ZB_ E c D b tb A t ((w, t.length) :: L) s (sI_ (sI_ (sI_ (sI_ B 27 (tb + L.length) (nI w)) 28 (tb + L.length) (nI (b + t.length))) 29 (tb + L.length) (nI (D + 1))) 0 51 (nI (tb + L.length + 1))) := by
  have z3 : ZB_ E c D b tb A t L s (sI_ (sI_ (sI_ B 27 (tb + L.length) (nI w)) 28 (tb + L.length) (nI (b + t.length))) 29 (tb + L.length) (nI (D + 1))) := ZB_I (ZB_I (ZB_I h (by omega)) (by omega)) (by omega)
  obtain ⟨h1, h2, h3, h4, h5, h6, h7, h8⟩ := z3
  refine ⟨FZ_I h1 (Or.inr (by unfold mvR_; omega)), sxP_cg (fun x hx => by rw [gI_sI, if_neg (by omega)]) h2, ⟨?_, ?_, ?_, trP_cg (fun x hx => ⟨by rw [gI_sI, if_neg (by omega)], by rw [gI_sI, if_neg (by omega)], by rw [gI_sI, if_neg (by omega)]⟩) h3⟩, by rw [gI_sI, if_neg (by omega)]; exact h4, by rw [gI_sI, if_pos ⟨rfl, rfl⟩]; rfl, DR_I (by unfold dcR_; omega) h6, JR_cg (M := sI_ (sI_ (sI_ B 27 (tb + L.length) (nI w)) 28 (tb + L.length) (nI (b + t.length))) 29 (tb + L.length) (nI (D + 1))) rfl (fun x y z => by rw [gI_sI, if_neg (by unfold jcR_ at z; omega)]) (KM_rf s) h7, h8⟩
  · rw [gI_sI, if_neg (by omega), gI_sI, if_neg (by omega), gI_sI, if_neg (by omega), gI_sI, if_pos ⟨rfl, rfl⟩]
  · rw [gI_sI, if_neg (by omega), gI_sI, if_neg (by omega), gI_sI, if_pos ⟨rfl, rfl⟩]
  · rw [gI_sI, if_neg (by omega), gI_sI, if_pos ⟨rfl, rfl⟩]
theorem KP_w {L : List (Nat × Nat)} {lo lo2 hi : Nat} {t : List Int32} {o : eo_} (hl : lo ≤ lo2) (h : KP_ G d Q E c D b tb A n R L lo hi t o) : KP_ G d Q E c D b tb A n R L lo2 hi t o := by
  obtain ⟨o, s2⟩ := o
  cases o with
  | inl t2 => exact h
  | inr q => exact fun N a u d2 h1 h2 h3 => h N a u d2 (by omega) h2 h3
theorem TRP_ (hR : RGP_ G d Q E c D b tb m n R A C0 V I) : ∀ (g : Bool) (e : Term), wfX_ g e → ixn_ 3 e → KK_ e → ∀ (p u : Nat) (t : List Int32) (L : List (Nat × Nat)) (s : sgA_) (N : mm_), SG2_ C0 (tc_ (tm_ e)) p → t.length ≤ p → L.length ≤ p → p + (tc_ (tm_ e)).length + L.length ≤ n → (n - p) + 1 + 50 * (1000 - iv2_ s) + R ≤ u → ZP_ E c D b tb A t L s p N → KP_ G d Q E c D b tb A n R L p (p + (tc_ (tm_ e)).length) t (ES_ I V e t s) → WPL_ G d Q c u N
  | true, .int v, w, hi, hk, p, u, t, L, s, N, hS, ht, hL, hp, hu, hZ, K => by
    have hS : SG2_ C0 [(0, v.toInt64)] p := hS
    have hn40 := hR.2.2.2.2.1
    have hp : p + 1 + L.length ≤ n := hp
    rw [ES_] at K
    refine WPL_st hR hZ (SG2_h hS) ht (by omega) (by omega) (fun u3 B eu zB b47 b25 y v2 e1 e2 => ?_)
    subst e1 e2
    refine ⟨fun _ => ?_, fun y => absurd y (by simp only; decide), fun y => absurd y (by simp only; decide), fun y => absurd y (by simp only; decide), fun y => absurd y (by simp only; decide), fun y => absurd y (by simp only; decide), fun y => absurd y (by simp only; decide), fun y => absurd y (by simp only; decide), fun y => absurd y (by simp only; decide), fun y => absurd y (by simp only; decide), Or.inl rfl⟩
    show WPL_ G d Q c u3 (ps_ B (b + t.length) v.toInt64.toInt32)
    rw [n_i]
    exact K _ u3 (ZP_push v zB b25) (by show n - (p + 1) + 1 + _ + R ≤ u3; omega)
  | true, .index i, w, hi, hk, p, u, t, L, s, N, hS, ht, hL, hp, hu, hZ, K => by
    have hS : SG2_ C0 [(1, (nI i).toInt64)] p := hS
    have hn40 := hR.2.2.2.2.1
    have hp : p + 1 + L.length ≤ n := hp
    have hi3 : i < 3 := hi
    rw [ES_] at K
    refine WPL_st hR hZ (SG2_h hS) ht (by omega) (by omega) (fun u3 B eu zB b47 b25 y v2 e1 e2 => ?_)
    subst e1 e2
    refine ⟨fun y => absurd y (by simp only; decide), fun _ => ⟨i, hi3, n_i, ?_⟩, fun y => absurd y (by simp only; decide), fun y => absurd y (by simp only; decide), fun y => absurd y (by simp only; decide), fun y => absurd y (by simp only; decide), fun y => absurd y (by simp only; decide), fun y => absurd y (by simp only; decide), fun y => absurd y (by simp only; decide), fun y => absurd y (by simp only; decide), Or.inr (Or.inl rfl)⟩
    rw [zB.1.2 24 _ (by unfold pzR_; omega) (by unfold mvR_; omega), hR.2.2.2.2.2.2.1 i hi3]
    exact K _ u3 (ZP_push (V i) zB b25) (by show n - (p + 1) + 1 + _ + R ≤ u3; omega)
  | true, .length e, w, hi, hk, p, u, t, L, s, N, hS, ht, hL, hp, hu, hZ, K => by
    have hS : SG2_ C0 (tc_ (tm_ e) ++ [(3, 0)]) p := hS
    have el : (tc_ (tm_ (.length e))).length = (tc_ (tm_ e)).length + 1 := by simp [tm_, tc_]
    rw [el] at hp K
    rw [ES_] at K
    have hn40 := hR.2.2.2.2.1
    have pe := tc_pos e w
    refine TRP_ hR true e w hi hk p u t L s N (SG2_l hS) ht hL (by omega) hu hZ ?_
    cases ho : ES_ I V e t s with
    | mk o s2 =>
      rw [ho] at K
      cases o with
      | inr q => exact fun N2 a u2 d2 h1 h2 h3 => K N2 a u2 d2 h1 (by omega) h3
      | inl t2 =>
        obtain ⟨x, rfl⟩ := (ES_sh I V true e w t s t2 s2 ho).1 rfl
        intro N2 u2 hz2 hu2
        refine WPL_st hR hz2 (SG2_h (SG2_r hS)) (by rw [List.length_cons]; omega) (by omega) (by omega) (fun u3 B eu zB b47 b25 y v2 e1 e2 => ?_)
        subst e1 e2
        have hx : B.1 26 (b + (x :: t).length - 1) = x := by rw [l1p]; exact zB.2.1.1
        refine ⟨fun y => absurd y (by simp only; decide), fun y => absurd y (by simp only; decide), fun _ => ⟨by rw [List.length_cons]; omega, ?_⟩, fun y => absurd y (by simp only; decide), fun y => absurd y (by simp only; decide), fun y => absurd y (by simp only; decide), fun y => absurd y (by simp only; decide), fun y => absurd y (by simp only; decide), fun y => absurd y (by simp only; decide), fun y => absurd y (by simp only; decide), Or.inr (Or.inr (Or.inr (Or.inl rfl)))⟩
        rw [hx, l1p]
        exact K _ u3 (ZP_set (-x) zB b47 b25) (by omega)
  | true, .sum e, w, hi, hk, p, u, t, L, s, N, hS, ht, hL, hp, hu, hZ, K => by
    have hS : SG2_ C0 (tc_ (tm_ e) ++ [(4, 0)]) p := hS
    have el : (tc_ (tm_ (.sum e))).length = (tc_ (tm_ e)).length + 1 := by simp [tm_, tc_]
    rw [el] at hp K
    rw [ES_] at K
    have hn40 := hR.2.2.2.2.1
    have pe := tc_pos e w
    refine TRP_ hR true e w hi hk p u t L s N (SG2_l hS) ht hL (by omega) hu hZ ?_
    cases ho : ES_ I V e t s with
    | mk o s2 =>
      rw [ho] at K
      cases o with
      | inr q => exact fun N2 a u2 d2 h1 h2 h3 => K N2 a u2 d2 h1 (by omega) h3
      | inl t2 =>
        obtain ⟨x, rfl⟩ := (ES_sh I V true e w t s t2 s2 ho).1 rfl
        intro N2 u2 hz2 hu2
        refine WPL_st hR hz2 (SG2_h (SG2_r hS)) (by rw [List.length_cons]; omega) (by omega) (by omega) (fun u3 B eu zB b47 b25 y v2 e1 e2 => ?_)
        subst e1 e2
        have hx : B.1 26 (b + (x :: t).length - 1) = x := by rw [l1p]; exact zB.2.1.1
        refine ⟨fun y => absurd y (by simp only; decide), fun y => absurd y (by simp only; decide), fun y => absurd y (by simp only; decide), fun _ => ⟨by rw [List.length_cons]; omega, ?_⟩, fun y => absurd y (by simp only; decide), fun y => absurd y (by simp only; decide), fun y => absurd y (by simp only; decide), fun y => absurd y (by simp only; decide), fun y => absurd y (by simp only; decide), fun y => absurd y (by simp only; decide), Or.inr (Or.inr (Or.inr (Or.inr (Or.inl rfl))))⟩
        rw [hx, l1p]
        exact (K _ (p + (tc_ (tm_ e)).length) u3 (d + 1) (by omega) (by omega) (by omega)).1 rfl (ZB_I (ZB_tl zB) (by omega))
  | true, .elem k (.add x1 x2), w, hi, hk, p, u, t, L, s, N, hS, ht, hL, hp, hu, hZ, K => by
    have hS : SG2_ C0 ((tc_ (tm_ x1) ++ tc_ (tm_ x2)) ++ [(2, (sg_ k).toInt64)]) p := hS
    have el : (tc_ (tm_ (.elem k (.add x1 x2)))).length = (tc_ (tm_ x1)).length + (tc_ (tm_ x2)).length + 1 := by simp [tm_, tc_]; omega
    rw [el] at hp K
    rw [ES_, ES_] at K
    have hn40 := hR.2.2.2.2.1
    have pa := tc_pos x1 w.2.1
    have pb := tc_pos x2 w.2.2
    have hx := SG2_h (SG2_r hS)
    rw [List.length_append, ← Nat.add_assoc] at hx
    rw [show p + ((tc_ (tm_ x1)).length + (tc_ (tm_ x2)).length + 1) = p + (tc_ (tm_ x1)).length + (tc_ (tm_ x2)).length + 1 by omega] at K
    refine TRP_ hR true x1 w.2.1 hi.1 hk.1 p u t L s N (SG2_l (SG2_l hS)) ht hL (by omega) hu hZ ?_
    cases ho : ES_ I V x1 t s with
    | mk o s2 =>
      rw [ho] at K
      cases o with
      | inr q => exact fun N2 a2 u2 d2 h1 h2 h3 => K N2 a2 u2 d2 h1 (by omega) h3
      | inl t2 =>
        obtain ⟨x, rfl⟩ := (ES_sh I V true x1 w.2.1 t s t2 s2 ho).1 rfl
        simp only at K
        intro N2 u2 hz2 hu2
        refine TRP_ hR true x2 w.2.2 hi.2 hk.2 _ u2 (x :: t) L s2 N2 (SG2_r (SG2_l hS)) (by rw [List.length_cons]; omega) (by omega) (by omega) hu2 hz2 ?_
        cases hb : ES_ I V x2 (x :: t) s2 with
        | mk o2 s3 =>
          rw [hb] at K
          cases o2 with
          | inr q => exact fun N3 a3 u3 d3 h1 h2 h3 => ⟨fun y1 y2 => (K N3 a3 u3 d3 (by omega) (by omega) h3).1 y1 (ZB_tl y2), fun y1 y2 => (K N3 a3 u3 d3 (by omega) (by omega) h3).2 y1 y2⟩
          | inl t3 =>
            obtain ⟨y1, rfl⟩ := (ES_sh I V true x2 w.2.2 (x :: t) s2 t3 s3 hb).1 rfl
            intro N3 u3' hz3 hu3
            unfold o2_ at K
            simp only at K
            refine WPL_st hR hz3 hx (by rw [List.length_cons, List.length_cons]; omega) (by omega) (by omega) (fun u3 B eu zB b47 b25 y v2 e1 e2 => ?_)
            subst e1 e2
            have hy : B.1 26 (b + (y1 :: x :: t).length - 1) = y1 := by rw [l1p]; exact zB.2.1.1
            have l2 : b + (y1 :: x :: t).length - 1 - 1 = b + t.length := by rw [l1p, l1p]
            have hx1 : B.1 26 (b + (y1 :: x :: t).length - 1 - 1) = x := by rw [l2]; exact zB.2.1.2.1
            have z0 : ZB_ E c D b tb A (x :: t) L s3 B := ZB_tl zB
            refine ⟨fun y => absurd y (by simp only; decide), fun y => absurd y (by simp only; decide), fun y => absurd y (by simp only; decide), fun y => absurd y (by simp only; decide), fun y => absurd y (by simp only; decide), fun y => absurd y (by simp only; decide), fun y => absurd y (by simp only; decide), fun y => absurd y (by simp only; decide), fun y => absurd y (by simp only; decide), fun _ => ⟨by rw [List.length_cons, List.length_cons]; omega, ?_⟩, Or.inr (Or.inr (Or.inl rfl))⟩
            rw [hy, hx1, n_i, sg_sg]
            refine ⟨fun hd => ?_, fun hd => ?_⟩
            · rw [if_pos ⟨hd.2, hd.1⟩] at K
              exact (K _ (p + (tc_ (tm_ x1)).length + (tc_ (tm_ x2)).length) u3 (d + 1) (by omega) (by omega) (by omega)).1 rfl (ZB_I (ZB_tl z0) (by omega))
            · rw [if_neg (fun y => hd ⟨y.2, y.1⟩)] at K
              rw [rs_jn w.1, l2, l1p]
              have z1 : ZB_ E c D b tb A (x :: t) L s3 (sI_ B 0 47 (nI (b + (x :: t).length))) := ZB_I z0 (by omega)
              exact K _ u3 (ZP_set _ z1 (by rw [gI_sI, if_pos ⟨rfl, rfl⟩]) (by rw [gI_sI, if_neg (by omega)]; exact b25)) (by omega)
  | true, .mul x1 (.div x2 x3), w, hi, hk, p, u, t, L, s, N, hS, ht, hL, hp, hu, hZ, K => by
    have hS : SG2_ C0 (tc_ (tm_ x1) ++ (5, lN ((tc_ (tm_ x2)).length + 1)) :: (tc_ (tm_ x2) ++ (6, lN (tc_ (tm_ x3)).length) :: tc_ (tm_ x3))) p := hS
    have el : (tc_ (tm_ (.mul x1 (.div x2 x3)))).length = (tc_ (tm_ x1)).length + 1 + (tc_ (tm_ x2)).length + 1 + (tc_ (tm_ x3)).length := by simp [tm_, tc_]; omega
    rw [el] at hp K
    rw [ES_] at K
    have hn40 := hR.2.2.2.2.1
    have pa := tc_pos x1 w.1
    have pb := tc_pos x2 w.2.1
    have pc := tc_pos x3 w.2.2
    have hS2 := SG2_r hS
    have hx := SG2_h hS2
    have hS3 := SG2_t hS2
    have hSb := SG2_l hS3
    have hS4 := SG2_r hS3
    have hx2 := SG2_h hS4
    have hSc := SG2_t hS4
    rw [show p + ((tc_ (tm_ x1)).length + 1 + (tc_ (tm_ x2)).length + 1 + (tc_ (tm_ x3)).length) = p + (tc_ (tm_ x1)).length + 1 + (tc_ (tm_ x2)).length + 1 + (tc_ (tm_ x3)).length by omega] at K
    refine TRP_ hR true x1 w.1 hi.1 hk.1 p u t L s N (SG2_l hS) ht hL (by omega) hu hZ ?_
    cases ho : ES_ I V x1 t s with
    | mk o s2 =>
      rw [ho] at K
      cases o with
      | inr q => exact fun N2 a2 u2 d2 h1 h2 h3 => K N2 a2 u2 d2 h1 (by omega) h3
      | inl t2 =>
        obtain ⟨x, rfl⟩ := (ES_sh I V true x1 w.1 t s t2 s2 ho).1 rfl
        unfold o1_ at K
        simp only at K
        intro N2 u2 hz2 hu2
        refine WPL_st hR hz2 hx (by rw [List.length_cons]; omega) (by omega) (by omega) (fun u3 B eu zB b47 b25 y v2 e1 e2 => ?_)
        subst e1 e2
        have hx1 : B.1 26 (b + (x :: t).length - 1) = x := by rw [l1p]; exact zB.2.1.1
        have z0 : ZB_ E c D b tb A t L s2 B := ZB_tl zB
        refine ⟨fun y => absurd y (by simp only; decide), fun y => absurd y (by simp only; decide), fun y => absurd y (by simp only; decide), fun y => absurd y (by simp only; decide), fun _ => ⟨by rw [List.length_cons]; omega, (tc_ (tm_ x2)).length + 1, lN_i _, ?_⟩, fun y => absurd y (by simp only; decide), fun y => absurd y (by simp only; decide), fun y => absurd y (by simp only; decide), fun y => absurd y (by simp only; decide), fun y => absurd y (by simp only; decide), Or.inr (Or.inr (Or.inr (Or.inr (Or.inr (Or.inl rfl)))))⟩
        rw [hx1, l1p]
        have zq : ∀ q, ZP_ E c D b tb A t L s2 q (sI_ (sI_ B 0 47 (nI (b + t.length))) 25 (D + 1) (nI q)) := fun q => ⟨ZB_I (ZB_I z0 (by omega)) (by omega), by rw [gI_sI, if_neg (by omega), gI_sI, if_pos ⟨rfl, rfl⟩], by rw [gI_sI, if_pos ⟨rfl, rfl⟩]⟩
        refine ⟨fun hz => ?_, fun hz => ?_⟩
        · rw [if_pos hz] at K
          rw [show p + (tc_ (tm_ x1)).length + 1 + ((tc_ (tm_ x2)).length + 1) = p + (tc_ (tm_ x1)).length + 1 + (tc_ (tm_ x2)).length + 1 by omega]
          refine TRP_ hR true x3 w.2.2 hi.2.2 hk.2.2 _ u3 t L s2 _ hSc (by omega) (by omega) (by omega) (by omega) (zq _) ?_
          cases hc : ES_ I V x3 t s2 with
          | mk o3 s3 =>
            rw [hc] at K
            cases o3 with
            | inr q => exact fun N3 a3 u4 d4 h1 h2 h3 => K N3 a3 u4 d4 (by omega) h2 h3
            | inl t3 => exact K
        · rw [if_neg hz] at K
          refine TRP_ hR true x2 w.2.1 hi.2.1 hk.2.1 _ u3 t L s2 _ hSb (by omega) (by omega) (by omega) (by omega) (zq _) ?_
          cases hc : ES_ I V x2 t s2 with
          | mk o3 s3 =>
            rw [hc] at K
            cases o3 with
            | inr q => exact fun N3 a3 u4 d4 h1 h2 h3 => K N3 a3 u4 d4 (by omega) (by omega) h3
            | inl t3 =>
              obtain ⟨y1, rfl⟩ := (ES_sh I V true x2 w.2.1 t s2 t3 s3 hc).1 rfl
              intro N3 u4 hz3 hu4
              refine WPL_st hR hz3 hx2 (by rw [List.length_cons]; omega) (by omega) (by omega) (fun u5 B2 eu2 zB2 b472 b252 y v2 e1 e2 => ?_)
              subst e1 e2
              refine ⟨fun y => absurd y (by simp only; decide), fun y => absurd y (by simp only; decide), fun y => absurd y (by simp only; decide), fun y => absurd y (by simp only; decide), fun y => absurd y (by simp only; decide), fun _ => ⟨(tc_ (tm_ x3)).length, lN_i _, ?_⟩, fun y => absurd y (by simp only; decide), fun y => absurd y (by simp only; decide), fun y => absurd y (by simp only; decide), fun y => absurd y (by simp only; decide), Or.inr (Or.inr (Or.inr (Or.inr (Or.inr (Or.inr (Or.inl rfl))))))⟩
              exact K _ u5 ⟨ZB_I zB2 (by omega), by rw [gI_sI, if_neg (by omega)]; exact b472, by rw [gI_sI, if_pos ⟨rfl, rfl⟩]⟩ (by omega)
  | true, .rem x1 x2, w, hi, hk, p, u, t, L, s, N, hS, ht, hL, hp, hu, hZ, K => by
    have hS : SG2_ C0 ((7, lN ((tc_ (tm_ x1)).length + 1)) :: (tc_ (tm_ x1) ++ (8, lN (tc_ (tm_ x2)).length) :: tc_ (tm_ x2))) p := hS
    have el : (tc_ (tm_ (.rem x1 x2))).length = 1 + (tc_ (tm_ x1)).length + 1 + (tc_ (tm_ x2)).length := by simp [tm_, tc_]; omega
    rw [el] at hp K
    rw [ES_] at K
    have hn40 := hR.2.2.2.2.1
    have pa := tc_pos x1 w.1
    have pb := tc_pos x2 w.2
    have hx := SG2_h hS
    have hS2 := SG2_t hS
    have hSa := SG2_l hS2
    have hS3 := SG2_r hS2
    have hx2 := SG2_h hS3
    have hSb := SG2_t hS3
    rw [show p + (1 + (tc_ (tm_ x1)).length + 1 + (tc_ (tm_ x2)).length) = p + 1 + (tc_ (tm_ x1)).length + 1 + (tc_ (tm_ x2)).length by omega] at K
    refine WPL_st hR hZ hx ht (by omega) (by omega) (fun u3 B eu zB b47 b25 y v2 e1 e2 => ?_)
    subst e1 e2
    refine ⟨fun y => absurd y (by simp only; decide), fun y => absurd y (by simp only; decide), fun y => absurd y (by simp only; decide), fun y => absurd y (by simp only; decide), fun y => absurd y (by simp only; decide), fun y => absurd y (by simp only; decide), fun _ => ⟨(tc_ (tm_ x1)).length + 1, lN_i _, ?_⟩, fun y => absurd y (by simp only; decide), fun y => absurd y (by simp only; decide), fun y => absurd y (by simp only; decide), Or.inr (Or.inr (Or.inr (Or.inr (Or.inr (Or.inr (Or.inr (Or.inl rfl)))))))⟩
    have zL := ZB_try (p + 1 + ((tc_ (tm_ x1)).length + 1)) zB
    refine TRP_ hR true x1 w.1 hi.1 hk.1 (p + 1) u3 t _ s _ hSa (by omega) (by rw [List.length_cons]; omega) (by rw [List.length_cons]; omega) (by omega) ⟨zL, by rw [gI_sI, if_neg (by omega), gI_sI, if_neg (by omega), gI_sI, if_neg (by omega), gI_sI, if_neg (by omega)]; exact b47, by rw [gI_sI, if_neg (by omega), gI_sI, if_neg (by omega), gI_sI, if_neg (by omega), gI_sI, if_neg (by omega)]; exact b25⟩ ?_
    have hLb : tb ≤ 180 := by have := hR.2.2.2.2.2.2.2.2.2.1; have := hR.2.2.2.2.2.2.2.1; omega
    cases ho : ES_ I V x1 t s with
    | mk o s2 =>
      rw [ho] at K
      cases o with
      | inl t2 =>
        obtain ⟨x, rfl⟩ := (ES_sh I V true x1 w.1 t s t2 s2 ho).1 rfl
        simp only at K
        intro N2 u4 hz2 hu4
        refine WPL_st hR hz2 hx2 (by rw [List.length_cons]; omega) (by rw [List.length_cons]; omega) (by omega) (fun u5 B2 eu2 zB2 b472 b252 y v2 e1 e2 => ?_)
        subst e1 e2
        refine ⟨fun y => absurd y (by simp only; decide), fun y => absurd y (by simp only; decide), fun y => absurd y (by simp only; decide), fun y => absurd y (by simp only; decide), fun y => absurd y (by simp only; decide), fun y => absurd y (by simp only; decide), fun y => absurd y (by simp only; decide), fun _ => ⟨by rw [List.length_cons]; omega, (tc_ (tm_ x2)).length, lN_i _, ?_⟩, fun y => absurd y (by simp only; decide), fun y => absurd y (by simp only; decide), Or.inr (Or.inr (Or.inr (Or.inr (Or.inr (Or.inr (Or.inr (Or.inr (Or.inl rfl))))))))⟩
        have z0 := ZB_pop zB2
        rw [List.length_cons, show tb + (L.length + 1) - 1 = tb + L.length by omega]
        exact K _ u5 ⟨ZB_I z0 (by omega), by rw [gI_sI, if_neg (by omega), gI_sI, if_neg (by omega)]; exact b472, by rw [gI_sI, if_pos ⟨rfl, rfl⟩]⟩ (by omega)
      | inr q =>
        obtain ⟨q1, q2⟩ := q
        by_cases hq : q1 = 1
        · subst hq
          simp only at K
          intro N2 a2 u4 d4 h3 h4 h5
          refine ⟨fun _ hz2 => ?_, fun y => absurd y (by simp only; decide)⟩
          refine ⟨hz2.2.2.2.1, tb + L.length + 1, by omega, hz2.2.2.2.2.1, fun _ _ => ?_, fun y => ?_⟩
          · rw [Nat.add_sub_cancel, hz2.2.2.1.1, hz2.2.2.1.2.1, show p + 1 + ((tc_ (tm_ x1)).length + 1) = p + 1 + (tc_ (tm_ x1)).length + 1 by omega]
            have z0 := ZB_pop hz2
            refine TRP_ hR true x2 w.2 hi.2 hk.2 _ u4 t L s2 _ hSb (by omega) (by omega) (by omega) (by omega) ⟨ZB_I (ZB_I z0 (by omega)) (by omega), by rw [gI_sI, if_neg (by omega), gI_sI, if_pos ⟨rfl, rfl⟩], by rw [gI_sI, if_pos ⟨rfl, rfl⟩]⟩ ?_
            cases hc : ES_ I V x2 t s2 with
            | mk o3 s3 =>
              rw [hc] at K
              cases o3 with
              | inr q => exact fun N3 a3 u5 d5 g1 g2 g3 => K N3 a3 u5 d5 (by omega) g2 g3
              | inl t3 => exact K
          · exact y.elim (fun y => by omega) (fun y => absurd (by rw [Nat.add_sub_cancel]; exact hz2.2.2.1.2.2.1) y)
        · have e : (match ((.inr (q1, q2), s2) : eo_) with | (.inr (1, _), s) => ES_ I V x2 t s | r => r) = (.inr (q1, q2), s2) := by
            split
            · rename_i y; cases y; exact absurd rfl hq
            · rfl
          have K2 : KP_ G d Q E c D b tb A n R L p (p + 1 + (tc_ (tm_ x1)).length + 1 + (tc_ (tm_ x2)).length) t (.inr (q1, q2), s2) := by rw [← e]; exact K
          exact fun N2 a2 u4 d4 h3 h4 h5 => ⟨fun y => absurd y hq, (K2 N2 a2 u4 d4 (by omega) (by omega) h5).2⟩
  | true, .sub k x1, w, hi, hk, p, u, t, L, s, N, hS, ht, hL, hp, hu, hZ, K => by
    have hS : SG2_ C0 (tc_ (tm_ x1) ++ [(9, (de_ (kv2_ k) <<< ((2 : Int32).toInt64 &&& 63)) ||| (nI (ac_ (tm_ x1))).toInt64)]) p := hS
    have el : (tc_ (tm_ (.sub k x1))).length = (tc_ (tm_ x1)).length + 1 := by simp [tm_, tc_]
    rw [el] at hp K
    rw [ES_] at K
    rw [ac_tm x1 w.1] at hS
    have hn40 := hR.2.2.2.2.1
    have han := an_tc x1 w.1
    have ha3 := w.2.1
    refine TRP_ hR false x1 w.1 hi hk.2 p u t L s N (SG2_l hS) ht hL (by omega) hu hZ ?_
    cases ho : ES_ I V x1 t s with
    | mk o s2 =>
      rw [ho] at K
      cases o with
      | inr q => exact fun N2 a u2 d2 h1 h2 h3 => K N2 a u2 d2 h1 (by omega) h3
      | inl t2 =>
        obtain ⟨y0, rfl, hy0⟩ := (ES_sh I V false x1 w.1 t s t2 s2 ho).2 rfl
        simp only at K
        intro N2 u2 hz2 hu2
        have lt2 : (y0 ++ t).length = an_ x1 + t.length := by rw [List.length_append, hy0]
        refine WPL_st hR hz2 (SG2_h (SG2_r hS)) (by rw [lt2]; omega) (by omega) (by omega) (fun u3 B eu zB b47 b25 y v2 e1 e2 => ?_)
        subst e1 e2
        refine ⟨fun y => absurd y (by simp only; decide), fun y => absurd y (by simp only; decide), fun y => absurd y (by simp only; decide), fun y => absurd y (by simp only; decide), fun y => absurd y (by simp only; decide), fun y => absurd y (by simp only; decide), fun y => absurd y (by simp only; decide), fun y => absurd y (by simp only; decide), fun _ => ⟨an_ x1, iv2_ s2, b + t.length, ha3, mny_ (by omega), by rw [lt2]; omega, ?_⟩, fun y => absurd y (by simp only; decide), Or.inr (Or.inr (Or.inr (Or.inr (Or.inr (Or.inr (Or.inr (Or.inr (Or.inr rfl))))))))⟩
        · obtain ⟨a, ha, ea⟩ := NK_de hk.1
          simp only
          rw [ea, sh2_ ha (by omega), ← ea]
          have dr : (y0 ++ t).drop (an_ x1) = t := by rw [← hy0]; simp
          have z1 : ZB_ E c D b tb A (y0 ++ t) L s2 (sI_ B 0 47 (nI (b + ((y0 ++ t).drop (an_ x1)).length))) := ZB_I zB (by omega)
          have := hR.2.2.2.2.2.2.2.2.2.2 _ (y0 ++ t) L s2 (kv2_ k) (an_ x1) (p + (tc_ (tm_ x1)).length) u3 z1 (by rw [gI_sI, if_pos ⟨rfl, rfl⟩]) hk.1 ha3 (by omega) (by omega) (by omega) (by omega) (by omega) (by rw [gI_sI, if_neg (by omega)]; exact b25) (by rw [dr] at K ⊢; exact KP_w (by omega) K)
          rw [dr] at this
          exact this
  | false, .null, w, hi, hk, p, u, t, L, s, N, hS, ht, hL, hp, hu, hZ, K => K N u hZ hu
  | false, .add x1 r, w, hi, hk, p, u, t, L, s, N, hS, ht, hL, hp, hu, hZ, K => by
    have hS : SG2_ C0 (tc_ (tm_ x1) ++ tc_ (tm_ r)) p := hS
    have el : (tc_ (tm_ (.add x1 r))).length = (tc_ (tm_ x1)).length + (tc_ (tm_ r)).length := by simp [tm_, tc_]
    rw [el, ← Nat.add_assoc] at hp K
    rw [ES_] at K
    have pa := tc_pos x1 w.1
    refine TRP_ hR true x1 w.1 hi.1 hk.1 p u t L s N (SG2_l hS) ht hL (by omega) hu hZ ?_
    cases ho : ES_ I V x1 t s with
    | mk o s2 =>
      rw [ho] at K
      cases o with
      | inr q => exact fun N2 a2 u2 d2 h1 h2 h3 => K N2 a2 u2 d2 h1 (by omega) h3
      | inl t2 =>
        obtain ⟨x, rfl⟩ := (ES_sh I V true x1 w.1 t s t2 s2 ho).1 rfl
        simp only at K
        intro N2 u2 hz2 hu2
        refine TRP_ hR false r w.2 hi.2 hk.2 _ u2 (x :: t) L s2 N2 (SG2_r hS) (by rw [List.length_cons]; omega) (by omega) (by omega) hu2 hz2 ?_
        cases hb : ES_ I V r (x :: t) s2 with
        | mk o2 s3 =>
          rw [hb] at K
          cases o2 with
          | inr q => exact fun N3 a3 u3 d3 h1 h2 h3 => ⟨fun y1 y2 => (K N3 a3 u3 d3 (by omega) (by omega) h3).1 y1 (ZB_tl y2), fun y1 y2 => (K N3 a3 u3 d3 (by omega) (by omega) h3).2 y1 y2⟩
          | inl t3 => exact K
end TRP2
