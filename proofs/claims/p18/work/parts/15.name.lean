section
theorem nI_p1 (n : Nat) (k : Nat) (h : 0 < k + n) : nI (k + n) - 1 = nI (k + n - 1) := nI_p _ h
set_option maxRecDepth 100000 in
set_option maxHeartbeats 4000000 in
theorem c12_isName (G : gg_) (hG : gd_ G) (d : Nat) (M : mm_) (n k j : Nat) (ht : tz_ M n) (hk : k + j < 1073741824) : cm_ G yX12_isName cX12_isName 6 (some .boolean) (d + 1) [.ref (G.1 0), .int (nI k), .int (nI j)] M (fI_ (if ne_ (bf_ M n) k j then 1 else 0) (sL_ M 0 24 (nm_ (bf_ M n) k j))) := by
  refine cm_of hG (by decide) (Nat.le_of_ble_eq_true rfl) (fun C X => ?_)
  have lp : ∀ (u i : Nat) (w5 : Option Value), i + u = j → wq_ C G (qe_ C G (fI_ (if ne_ (bf_ M n) k j then 1 else 0) (sL_ M 0 24 (nm_ (bf_ M n) k j)))) 10 [some (.ref (G.1 0)), some (.int (nI k)), some (.int (nI j)), some (.int (nI (dt_ (bf_ M n) k i))), some (.int (nI i)), w5] [] (sL_ M 0 24 (nm_ (bf_ M n) k i)) := by
    intro u
    induction u with
    | zero =>
      intro i w5 hu
      refine w_iload X dX12_isName_10 rfl ?_
      refine w_iload_n X dX12_isName_12 rfl rfl ?_
      refine w_icmp_ge (tgt := 76) X dX12_isName_13 (by decide) (fun h13 => ?_) (fun h13 => absurd (by rw [show i = j by omega]; exact Int32.le_refl _) h13)
      obtain rfl : i = j := by omega
      refine w_iload_n X dX12_isName_76 rfl rfl ?_
      refine w_iconst (v := 2) X dX12_isName_77 (by decide) ?_
      refine w_icmp_le (tgt := 114) X dX12_isName_78 (by decide) (fun h78 => ?_) (fun h78 => ?_)
      · have e78 : ¬ 2 < i := fun q => Int32.not_le.mpr (nI_lt (a := 2) q (by omega)) h78
        refine w_iconst (v := 0) X dX12_isName_114 (by decide) ?_
        refine w_zrF X dX12_isName_115 (by first | exact Or.inl rfl | exact Or.inr rfl) ?_ rfl
        simp only [ne_]
        simp [hu, e78]
      · have e78 : 2 < i := (nI_ltI (a := 2) (by omega) (by omega)).mp (Int32.not_le.mp h78)
        refine w_iload_n X dX12_isName_81 rfl rfl ?_
        refine w_iconst (v := 1) X dX12_isName_82 (by decide) ?_
        refine w_icmp_ne (tgt := 114) X dX12_isName_83 (by decide) (fun h83 => ?_) (fun h83 => ?_)
        · have e83 : ¬ dt_ (bf_ M n) k i = 1 := fun q => h83 (by rw [q]; rfl)
          refine w_iconst (v := 0) X dX12_isName_114 (by decide) ?_
          refine w_zrF X dX12_isName_115 (by first | exact Or.inl rfl | exact Or.inr rfl) ?_ rfl
          simp only [ne_]
          simp [hu, e78, e83]
        · have e83 : dt_ (bf_ M n) k i = 1 := by
            have hd9 := dt_le (bf_ M n) k i
            exact (nI_eq (b := 1) (by omega) (by omega)).mp h83
          refine w_aload_n X dX12_isName_86 rfl rfl ?_
          refine w_iload_n X dX12_isName_87 rfl rfl ?_
          refine w_v1fI X dX12_isName_88 k12_byteAt rfl rfl (c12_byteAt G hG _ _ (nI k) (fun q => tz_in (tz_sL ht) (by omega) q)) (Nat.le_of_ble_eq_true rfl) ?_
          rw [ba_sL, ba_bf ht (by omega)]
          refine w_bipush (v := 46) X dX12_isName_91 (by decide) ?_
          refine w_icmp_eq (tgt := 114) X dX12_isName_93 (by decide) (fun h93 => ?_) (fun h93 => ?_)
          · refine w_iconst (v := 0) X dX12_isName_114 (by decide) ?_
            refine w_zrF X dX12_isName_115 (by first | exact Or.inl rfl | exact Or.inr rfl) ?_ rfl
            simp only [ne_]
            simp [hu, e78, e83, h93]
          · refine w_aload_n X dX12_isName_96 rfl rfl ?_
            refine w_iload_n X dX12_isName_97 rfl rfl ?_
            refine w_iload_n X dX12_isName_98 rfl rfl ?_
            refine w_iadd X dX12_isName_99 ?_
            refine w_iconst (v := 1) X dX12_isName_100 (by decide) ?_
            refine w_isub X dX12_isName_101 ?_
            rw [nI_add k i, nI_p1 i k (by omega)]
            refine w_v1fI X dX12_isName_102 k12_byteAt rfl rfl (c12_byteAt G hG _ _ (nI (k + i - 1)) (fun q => tz_in (tz_sL ht) (by omega) q)) (Nat.le_of_ble_eq_true rfl) ?_
            rw [ba_sL, ba_bf ht (by omega)]
            refine w_bipush (v := 46) X dX12_isName_105 (by decide) ?_
            refine w_icmp_eq (tgt := 114) X dX12_isName_107 (by decide) (fun h107 => ?_) (fun h107 => ?_)
            · refine w_iconst (v := 0) X dX12_isName_114 (by decide) ?_
              refine w_zrF X dX12_isName_115 (by first | exact Or.inl rfl | exact Or.inr rfl) ?_ rfl
              simp only [ne_]
              simp [hu, e78, e83, h93, h107]
            · refine w_iconst (v := 1) X dX12_isName_110 (by decide) ?_
              refine w_goto (tgt := 115) X dX12_isName_111 (by decide) ?_
              refine w_zrF X dX12_isName_115 (by first | exact Or.inl rfl | exact Or.inr rfl) ?_ rfl
              simp only [ne_]
              simp [hu, e78, e83, h93, h107]
    | succ u ih =>
      intro i w5 hu
      refine w_iload X dX12_isName_10 rfl ?_
      refine w_iload_n X dX12_isName_12 rfl rfl ?_
      refine w_icmp_ge (tgt := 76) X dX12_isName_13 (by decide) (fun h13 => absurd h13 (nI_ge (by omega) (by omega))) (fun h13 => ?_)
      refine w_aload_n X dX12_isName_16 rfl rfl ?_
      refine w_iload_n X dX12_isName_17 rfl rfl ?_
      refine w_iload X dX12_isName_18 rfl ?_
      refine w_iadd X dX12_isName_20 ?_
      rw [nI_add k i]
      refine w_v1fI X dX12_isName_21 k12_byteAt rfl rfl (c12_byteAt G hG _ _ (nI (k + i)) (fun q => tz_in (tz_sL ht) (by omega) q)) (Nat.le_of_ble_eq_true rfl) ?_
      rw [ba_sL, ba_bf ht (by omega)]
      refine w_istore X dX12_isName_24 (by decide) ?_
      refine w_iload X dX12_isName_26 rfl ?_
      refine w_bipush (v := 46) X dX12_isName_28 (by decide) ?_
      refine w_icmp_ne (tgt := 39) X dX12_isName_30 (by decide) (fun h30 => ?_) (fun h30 => ?_)
      · refine w_iload_n X dX12_isName_39 rfl rfl ?_
        refine w_istore_n X dX12_isName_40 rfl (by decide) ?_
        refine w_aload_n X dX12_isName_41 rfl rfl ?_
        refine w_aload_n X dX12_isName_42 rfl rfl ?_
        refine g12_rowName X dX12_isName_43 ?_
        try simp only [gI_sI, gI_sL, gL_sI, gL_sL, false_and, and_false, and_self, if_false, if_true, reduceIte, Nat.reduceEqDiff]
        refine w_iconst (v := 5) X dX12_isName_46 (by decide) ?_
        refine w_lshl X dX12_isName_47 ?_
        refine w_iload X dX12_isName_48 rfl ?_
        refine w_bipush (v := 46) X dX12_isName_50 (by decide) ?_
        refine w_icmp_ne (tgt := 60) X dX12_isName_52 (by decide) (fun h52 => ?_) (fun h52 => absurd h52 h30)
        refine w_iload X dX12_isName_60 rfl ?_
        refine w_bipush (v := 96) X dX12_isName_62 (by decide) ?_
        refine w_isub X dX12_isName_64 ?_
        refine w_i2l X dX12_isName_65 ?_
        refine w_lor X dX12_isName_66 ?_
        refine p12_rowName X dX12_isName_67 ?_
        refine w_iinc (v := 1) X dX12_isName_70 rfl (by decide) (by decide) ?_
        refine w_goto (tgt := 10) X dX12_isName_73 (by decide) ?_
        have e := ih (i + 1) (some (.int (bf_ M n (k + i)))) (by omega)
        simp only [dt_, nm_, nc_] at e
        first | rw [if_neg h30, if_neg h30] at e | rw [if_pos h30, if_pos h30] at e
        try rw [nI_1 (dt_ (bf_ M n) k i)]
        rw [sL_sL, nI_1 i]
        exact e
      · refine w_iload_n X dX12_isName_33 rfl rfl ?_
        refine w_iconst (v := 1) X dX12_isName_34 (by decide) ?_
        refine w_iadd X dX12_isName_35 ?_
        refine w_goto (tgt := 40) X dX12_isName_36 (by decide) ?_
        refine w_istore_n X dX12_isName_40 rfl (by decide) ?_
        refine w_aload_n X dX12_isName_41 rfl rfl ?_
        refine w_aload_n X dX12_isName_42 rfl rfl ?_
        refine g12_rowName X dX12_isName_43 ?_
        try simp only [gI_sI, gI_sL, gL_sI, gL_sL, false_and, and_false, and_self, if_false, if_true, reduceIte, Nat.reduceEqDiff]
        refine w_iconst (v := 5) X dX12_isName_46 (by decide) ?_
        refine w_lshl X dX12_isName_47 ?_
        refine w_iload X dX12_isName_48 rfl ?_
        refine w_bipush (v := 46) X dX12_isName_50 (by decide) ?_
        refine w_icmp_ne (tgt := 60) X dX12_isName_52 (by decide) (fun h52 => absurd h30 h52) (fun h52 => ?_)
        refine w_bipush (v := 27) X dX12_isName_55 (by decide) ?_
        refine w_goto (tgt := 65) X dX12_isName_57 (by decide) ?_
        refine w_i2l X dX12_isName_65 ?_
        refine w_lor X dX12_isName_66 ?_
        refine p12_rowName X dX12_isName_67 ?_
        refine w_iinc (v := 1) X dX12_isName_70 rfl (by decide) (by decide) ?_
        refine w_goto (tgt := 10) X dX12_isName_73 (by decide) ?_
        have e := ih (i + 1) (some (.int (bf_ M n (k + i)))) (by omega)
        simp only [dt_, nm_, nc_] at e
        first | rw [if_neg h30, if_neg h30] at e | rw [if_pos h30, if_pos h30] at e
        try rw [nI_1 (dt_ (bf_ M n) k i)]
        rw [sL_sL, nI_1 i]
        exact e
  refine w_iconst (v := 0) X dX12_isName_0 (by decide) ?_
  refine w_istore_n X dX12_isName_1 rfl (by decide) ?_
  refine w_aload_n X dX12_isName_2 rfl rfl ?_
  refine w_lconst (v := 0) X dX12_isName_3 (by decide) ?_
  refine p12_rowName X dX12_isName_4 ?_
  refine w_iconst (v := 0) X dX12_isName_7 (by decide) ?_
  refine w_istore X dX12_isName_8 (by decide) ?_
  exact lp j 0 none (by omega)
set_option maxRecDepth 100000 in
set_option maxHeartbeats 4000000 in
theorem c12_rowAt (G : gg_) (hG : gd_ G) (d : Nat) (M : mm_) (n k : Nat) (ht : tz_ M n) (hk : k < 536870912) : cm_ G yX12_rowAt cX12_rowAt 4 (some .long) (d + 3) [.ref (G.1 0), .int (nI k)] M (fL_ (if 8 < rz_ M n k then 0 else nm_ (bf_ M n) k (rz_ M n k)) (sL_ M 0 24 (nm_ (bf_ M n) k (min (rz_ M n k) 12)))) := by
  refine cm_of hG (by decide) (Nat.le_of_ble_eq_true rfl) (fun C X => ?_)
  refine w_aload_n X dX12_rowAt_0 rfl rfl ?_
  refine w_iload_n X dX12_rowAt_1 rfl rfl ?_
  refine w_v1fI X dX12_rowAt_2 k12_rowSize rfl rfl (c12_rowSize G hG _ _ n k ht (by omega)) (Nat.le_of_ble_eq_true rfl) ?_
  refine w_istore_n X dX12_rowAt_5 rfl (by decide) ?_
  have hz := rz_le M n k
  have hn := ht.2
  refine w_aload_n X dX12_rowAt_6 rfl rfl ?_
  refine w_iload_n X dX12_rowAt_7 rfl rfl ?_
  refine w_iload_n X dX12_rowAt_8 rfl rfl ?_
  refine w_bipush (v := 12) X dX12_rowAt_9 (by decide) ?_
  refine w_icmp_le (tgt := 19) X dX12_rowAt_11 (by decide) (fun h11 => ?_) (fun h11 => ?_)
  · have e11 : rz_ M n k ≤ 12 := (nI_leI (b := 12) (by omega) (by omega)).mp h11
    refine w_iload_n X dX12_rowAt_19 rfl rfl ?_
    refine w_v2fI X dX12_rowAt_20 k12_isName rfl rfl (c12_isName G hG _ _ n k (rz_ M n k) ht (by omega)) (Nat.le_of_ble_eq_true rfl) ?_
    refine w_istore_n X dX12_rowAt_23 rfl (by decide) ?_
    refine w_iload_n X dX12_rowAt_24 rfl rfl ?_
    refine w_bipush (v := 8) X dX12_rowAt_25 (by decide) ?_
    refine w_icmp_le (tgt := 34) X dX12_rowAt_27 (by decide) (fun h27 => ?_) (fun h27 => ?_)
    · have e27 : rz_ M n k ≤ 8 := (nI_leI (b := 8) (by omega) (by omega)).mp h27
      refine w_iload_n X dX12_rowAt_34 rfl rfl ?_
      refine w_if_eq (tgt := 45) X dX12_rowAt_35 (by decide) (fun h35 => ?_) (fun h35 => ?_)
      · refine w_aload_n X dX12_rowAt_45 rfl rfl ?_
        refine g12_rowName X dX12_rowAt_46 ?_
        try simp only [gI_sI, gI_sL, gL_sI, gL_sL, false_and, and_false, and_self, if_false, if_true, reduceIte, Nat.reduceEqDiff]
        refine w_lrF X dX12_rowAt_49 ?_ ?_
        · first | exact (if_neg (by omega)).symm | exact (if_pos (by omega)).symm
        · first | rw [show min (rz_ M n k) 12 = rz_ M n k by omega] | rw [show min (rz_ M n k) 12 = 12 by omega]
      · refine w_aload_n X dX12_rowAt_38 rfl rfl ?_
        refine g12_rowName X dX12_rowAt_39 ?_
        try simp only [gI_sI, gI_sL, gL_sI, gL_sL, false_and, and_false, and_self, if_false, if_true, reduceIte, Nat.reduceEqDiff]
        refine w_goto (tgt := 49) X dX12_rowAt_42 (by decide) ?_
        refine w_lrF X dX12_rowAt_49 ?_ ?_
        · first | exact (if_neg (by omega)).symm | exact (if_pos (by omega)).symm
        · first | rw [show min (rz_ M n k) 12 = rz_ M n k by omega] | rw [show min (rz_ M n k) 12 = 12 by omega]
    · have e27 : 8 < rz_ M n k := Nat.not_le.mp (fun q => h27 (nI_le (b := 8) q (by omega)))
      refine w_lconst (v := 0) X dX12_rowAt_30 (by decide) ?_
      refine w_goto (tgt := 49) X dX12_rowAt_31 (by decide) ?_
      refine w_lrF X dX12_rowAt_49 ?_ ?_
      · first | exact (if_neg (by omega)).symm | exact (if_pos (by omega)).symm
      · first | rw [show min (rz_ M n k) 12 = rz_ M n k by omega] | rw [show min (rz_ M n k) 12 = 12 by omega]
  · have e11 : 12 < rz_ M n k := Nat.not_le.mp (fun q => h11 (nI_le (b := 12) q (by omega)))
    refine w_bipush (v := 12) X dX12_rowAt_14 (by decide) ?_
    refine w_goto (tgt := 20) X dX12_rowAt_16 (by decide) ?_
    refine w_v2fI X dX12_rowAt_20 k12_isName rfl rfl (c12_isName G hG _ _ n k 12 ht (by omega)) (Nat.le_of_ble_eq_true rfl) ?_
    refine w_istore_n X dX12_rowAt_23 rfl (by decide) ?_
    refine w_iload_n X dX12_rowAt_24 rfl rfl ?_
    refine w_bipush (v := 8) X dX12_rowAt_25 (by decide) ?_
    refine w_icmp_le (tgt := 34) X dX12_rowAt_27 (by decide) (fun h27 => absurd h27 (fun q => by have := (nI_leI (b := 8) (by omega) (by omega)).mp q; omega)) (fun h27 => ?_)
    refine w_lconst (v := 0) X dX12_rowAt_30 (by decide) ?_
    refine w_goto (tgt := 49) X dX12_rowAt_31 (by decide) ?_
    refine w_lrF X dX12_rowAt_49 ?_ ?_
    · first | exact (if_neg (by omega)).symm | exact (if_pos (by omega)).symm
    · first | rw [show min (rz_ M n k) 12 = rz_ M n k by omega] | rw [show min (rz_ M n k) 12 = 12 by omega]

end
section
/-! names and patterns -/
theorem nI_12 (b p : Nat) : (12 : Int32) * nI b + nI p = nI (12 * b + p) := by rw [show (12 : Int32) = nI 12 from rfl, pk_mul, nI_add]
def ns_ (x : Int64) : Nat → Nat → Nat
  | 0, n => n
  | u + 1, n => if x >>> (((5 : Int32) * nI n).toInt64 &&& 63) = 0 then n else ns_ x u (n + 1)
theorem ns_le (x : Int64) : ∀ u n, ns_ x u n ≤ n + u
  | 0, n => Nat.le_refl _
  | u + 1, n => by
    have := ns_le x u (n + 1)
    unfold ns_
    split <;> omega
def nb_ (x : Int64) (k n : Int32) : Int32 := if ((x >>> (((5 : Int32) * (n - 1 - k)).toInt64 &&& 63)) &&& 31).toInt32 = 27 then 46 else 96 + ((x >>> (((5 : Int32) * (n - 1 - k)).toInt64 &&& 63)) &&& 31).toInt32
def sr_ (f : Nat → Int32) : Nat → Nat → Int32 → Int32
  | 0, _, x => x
  | u + 1, p, x => sr_ f u (p + 1) (if (x >>> (nI p &&& 31)) &&& 1 = 1 ∧ f p = 42 then x ||| ((2 : Int32) <<< (nI p &&& 31)) else x)
def fi_ (f : Nat → Int32) (dn c : Int32) : Nat → Nat → Int32 → Int32
  | 0, _, x => x
  | u + 1, p, x => fi_ f dn c u (p + 1) (if (dn >>> (nI p &&& 31)) &&& 1 = 1 then (if f p = 42 then x ||| ((1 : Int32) <<< (nI p &&& 31)) else if f p = 63 ∨ f p = c then x ||| ((2 : Int32) <<< (nI p &&& 31)) else x) else x)
def fo_ (f : Nat → Int32) (z : Nat) (c : Nat → Int32) : Nat → Nat → Int32 → Int32
  | 0, _, x => x
  | u + 1, k, x => fo_ f z c u (k + 1) (sr_ f z 0 (fi_ f x (c k) z 0 0))
/-- the pattern of job b -/
def pa_ (M : mm_) (b : Nat) : Nat → Int32 := fun p => M.1 17 (12 * b + p)
/-- a pattern f of z signs fits the name x -/
def ft_ (f : Nat → Int32) (z : Nat) (x : Int64) : Int32 := if (fo_ f z (fun k => nb_ x (nI k) (nI (ns_ x 12 0))) (ns_ x 12 0) 0 (sr_ f z 0 1) >>> (nI z &&& 31)) &&& 1 = 1 then 1 else 0
set_option maxRecDepth 100000 in
set_option maxHeartbeats 4000000 in
theorem c12_nameSize (G : gg_) (hG : gd_ G) (d : Nat) (M : mm_) (m : Nat) (hm : m < 16) : cm_ G yX12_nameSize cX12_nameSize 3 (some .int) (d) [.ref (G.1 0), .int (nI m)] M (fI_ (nI (ns_ (M.2.1 5 m) 12 0)) M) := by
  refine cm_of hG (by decide) (Nat.le_of_ble_eq_true rfl) (fun C X => ?_)
  have lp : ∀ (u j : Nat), j + u = 12 → ns_ (M.2.1 5 m) 12 0 = ns_ (M.2.1 5 m) u j → wq_ C G (qe_ C G (fI_ (nI (ns_ (M.2.1 5 m) 12 0)) M)) 2 [some (.ref (G.1 0)), some (.int (nI m)), some (.int (nI j))] [] M := by
    intro u
    induction u with
    | zero =>
      intro j hu hr
      refine w_iload_n X dX12_nameSize_2 rfl rfl ?_
      refine w_bipush (v := 12) X dX12_nameSize_3 (by decide) ?_
      refine w_icmp_ge (tgt := 29) X dX12_nameSize_5 (by decide) (fun h5 => ?_) (fun h5 => absurd (nI_le (a := 12) (by omega) (by omega)) h5)
      refine w_iload_n X dX12_nameSize_29 rfl rfl ?_
      exact w_irF X dX12_nameSize_30 (by rw [hr]; rfl) rfl
    | succ u ih =>
      intro j hu hr
      refine w_iload_n X dX12_nameSize_2 rfl rfl ?_
      refine w_bipush (v := 12) X dX12_nameSize_3 (by decide) ?_
      refine w_icmp_ge (tgt := 29) X dX12_nameSize_5 (by decide) (fun h5 => absurd h5 (nI_ge (b := 12) (by omega) (by omega))) (fun h5 => ?_)
      refine w_aload_n X dX12_nameSize_8 rfl rfl ?_
      refine g12_names X dX12_nameSize_9 ?_
      refine w_iload_n X dX12_nameSize_12 rfl rfl ?_
      refine w_laloadN X dX12_nameSize_13 rfl rfl (by omega) ?_
      refine w_iconst (v := 5) X dX12_nameSize_14 (by decide) ?_
      refine w_iload_n X dX12_nameSize_15 rfl rfl ?_
      refine w_imul X dX12_nameSize_16 ?_
      refine w_lshr X dX12_nameSize_17 ?_
      refine w_lconst (v := 0) X dX12_nameSize_18 (by decide) ?_
      refine w_lcmp X dX12_nameSize_19 ?_
      refine w_if_eq (tgt := 29) X dX12_nameSize_20 (by decide) (fun h20 => ?_) (fun h20 => ?_)
      · refine w_iload_n X dX12_nameSize_29 rfl rfl ?_
        refine w_irF X dX12_nameSize_30 ?_ rfl
        rw [hr]
        simp only [ns_]
        rw [if_pos (lc_.mp h20)]
      · refine w_iinc (v := 1) X dX12_nameSize_23 rfl (by decide) (by decide) ?_
        refine w_goto (tgt := 2) X dX12_nameSize_26 (by decide) ?_
        rw [nI_1]
        refine ih (j + 1) (by omega) ?_
        rw [hr]
        simp only [ns_]
        exact if_neg (fun q => h20 (lc_.mpr q))
  refine w_iconst (v := 0) X dX12_nameSize_0 (by decide) ?_
  refine w_istore_n X dX12_nameSize_1 rfl (by decide) ?_
  exact lp 12 0 (by omega) rfl
set_option maxRecDepth 100000 in
set_option maxHeartbeats 4000000 in
theorem c12_nameByte (G : gg_) (hG : gd_ G) (d : Nat) (M : mm_) (m : Nat) (hm : m < 16) (k n : Int32) : cm_ G yX12_nameByte cX12_nameByte 5 (some .int) (d) [.ref (G.1 0), .int (nI m), .int k, .int n] M (fI_ (nb_ (M.2.1 5 m) k n) M) := by
  refine cm_of hG (by decide) (Nat.le_of_ble_eq_true rfl) (fun C X => ?_)
  refine w_aload_n X dX12_nameByte_0 rfl rfl ?_
  refine g12_names X dX12_nameByte_1 ?_
  refine w_iload_n X dX12_nameByte_4 rfl rfl ?_
  refine w_laloadN X dX12_nameByte_5 rfl rfl (by omega) ?_
  refine w_iconst (v := 5) X dX12_nameByte_6 (by decide) ?_
  refine w_iload_n X dX12_nameByte_7 rfl rfl ?_
  refine w_iconst (v := 1) X dX12_nameByte_8 (by decide) ?_
  refine w_isub X dX12_nameByte_9 ?_
  refine w_iload_n X dX12_nameByte_10 rfl rfl ?_
  refine w_isub X dX12_nameByte_11 ?_
  refine w_imul X dX12_nameByte_12 ?_
  refine w_lshr X dX12_nameByte_13 ?_
  refine w_ldc2 X dX12_nameByte_14 q12_332 ?_
  refine w_land X dX12_nameByte_17 ?_
  refine w_l2i X dX12_nameByte_18 ?_
  refine w_istore X dX12_nameByte_19 (by decide) ?_
  refine w_iload X dX12_nameByte_21 rfl ?_
  refine w_bipush (v := 27) X dX12_nameByte_23 (by decide) ?_
  refine w_icmp_ne (tgt := 33) X dX12_nameByte_25 (by decide) (fun h25 => ?_) (fun h25 => ?_)
  · refine w_bipush (v := 96) X dX12_nameByte_33 (by decide) ?_
    refine w_iload X dX12_nameByte_35 rfl ?_
    refine w_iadd X dX12_nameByte_37 ?_
    refine w_irF X dX12_nameByte_38 ?_ rfl
    unfold nb_
    first | exact (if_pos h25).symm | exact (if_neg h25).symm
  · refine w_bipush (v := 46) X dX12_nameByte_28 (by decide) ?_
    refine w_goto (tgt := 38) X dX12_nameByte_30 (by decide) ?_
    refine w_irF X dX12_nameByte_38 ?_ rfl
    unfold nb_
    first | exact (if_pos h25).symm | exact (if_neg h25).symm
set_option maxRecDepth 100000 in
set_option maxHeartbeats 4000000 in
theorem c12_starred (G : gg_) (hG : gd_ G) (d : Nat) (M : mm_) (b z : Nat) (hb : b < 8) (hz : M.1 18 b = nI z) (hz2 : z ≤ 12) (x : Int32) : cm_ G yX12_starred cX12_starred 5 (some .int) (d) [.ref (G.1 0), .int (nI b), .int x] M (fI_ (sr_ (pa_ M b) z 0 x) M) := by
  refine cm_of hG (by decide) (Nat.le_of_ble_eq_true rfl) (fun C X => ?_)
  have lp : ∀ (u p : Nat) (y : Int32), p + u = z → sr_ (pa_ M b) z 0 x = sr_ (pa_ M b) u p y → wq_ C G (qe_ C G (fI_ (sr_ (pa_ M b) z 0 x) M)) 5 [some (.ref (G.1 0)), some (.int (nI b)), some (.int x), some (.int y), some (.int (nI p))] [] M := by
    intro u
    induction u with
    | zero =>
      intro p y hu hr
      refine w_iload X dX12_starred_5 rfl ?_
      refine w_aload_n X dX12_starred_7 rfl rfl ?_
      refine g12_patternSizes X dX12_starred_8 ?_
      refine w_iload_n X dX12_starred_11 rfl rfl ?_
      refine w_ialoadN X dX12_starred_12 rfl rfl (by omega) ?_
      try simp only [gI_sI, gI_sL, gL_sI, gL_sL, false_and, and_false, and_self, if_false, if_true, reduceIte, Nat.reduceEqDiff, hz]
      refine w_icmp_ge (tgt := 60) X dX12_starred_13 (by decide) (fun h13 => ?_) (fun h13 => absurd (nI_le (by omega) (by omega)) h13)
      refine w_iload_n X dX12_starred_60 rfl rfl ?_
      exact w_irF X dX12_starred_61 (by rw [hr]; rfl) rfl
    | succ u ih =>
      intro p y hu hr
      refine w_iload X dX12_starred_5 rfl ?_
      refine w_aload_n X dX12_starred_7 rfl rfl ?_
      refine g12_patternSizes X dX12_starred_8 ?_
      refine w_iload_n X dX12_starred_11 rfl rfl ?_
      refine w_ialoadN X dX12_starred_12 rfl rfl (by omega) ?_
      try simp only [gI_sI, gI_sL, gL_sI, gL_sL, false_and, and_false, and_self, if_false, if_true, reduceIte, Nat.reduceEqDiff, hz]
      refine w_icmp_ge (tgt := 60) X dX12_starred_13 (by decide) (fun h13 => absurd h13 (nI_ge (by omega) (by omega))) (fun h13 => ?_)
      refine w_iload_n X dX12_starred_16 rfl rfl ?_
      refine w_iload X dX12_starred_17 rfl ?_
      refine w_ishr X dX12_starred_19 ?_
      refine w_iconst (v := 1) X dX12_starred_20 (by decide) ?_
      refine w_iand X dX12_starred_21 ?_
      refine w_iconst (v := 1) X dX12_starred_22 (by decide) ?_
      refine w_icmp_ne (tgt := 52) X dX12_starred_23 (by decide) (fun h23 => ?_) (fun h23 => ?_)
      · refine w_iload_n X dX12_starred_52 rfl rfl ?_
        refine w_istore_n X dX12_starred_53 rfl (by decide) ?_
        refine w_iinc (v := 1) X dX12_starred_54 rfl (by decide) (by decide) ?_
        refine w_goto (tgt := 5) X dX12_starred_57 (by decide) ?_
        rw [nI_1]
        refine ih (p + 1) _ (by omega) ?_
        rw [hr]
        simp only [sr_]
        simp [pa_, h13, h23]
      · refine w_aload_n X dX12_starred_26 rfl rfl ?_
        refine g12_patterns X dX12_starred_27 ?_
        refine w_bipush (v := 12) X dX12_starred_30 (by decide) ?_
        refine w_iload_n X dX12_starred_32 rfl rfl ?_
        refine w_imul X dX12_starred_33 ?_
        refine w_iload X dX12_starred_34 rfl ?_
        refine w_iadd X dX12_starred_36 ?_
        rw [nI_12]
        refine w_ialoadN X dX12_starred_37 rfl rfl (by omega) ?_
        try simp only [gI_sI, gI_sL, gL_sI, gL_sL, false_and, and_false, and_self, if_false, if_true, reduceIte, Nat.reduceEqDiff, hz]
        refine w_bipush (v := 42) X dX12_starred_38 (by decide) ?_
        refine w_icmp_ne (tgt := 52) X dX12_starred_40 (by decide) (fun h40 => ?_) (fun h40 => ?_)
        · refine w_iload_n X dX12_starred_52 rfl rfl ?_
          refine w_istore_n X dX12_starred_53 rfl (by decide) ?_
          refine w_iinc (v := 1) X dX12_starred_54 rfl (by decide) (by decide) ?_
          refine w_goto (tgt := 5) X dX12_starred_57 (by decide) ?_
          rw [nI_1]
          refine ih (p + 1) _ (by omega) ?_
          rw [hr]
          simp only [sr_]
          simp [pa_, h13, h23, h40]
        · refine w_iload_n X dX12_starred_43 rfl rfl ?_
          refine w_iconst (v := 2) X dX12_starred_44 (by decide) ?_
          refine w_iload X dX12_starred_45 rfl ?_
          refine w_ishl X dX12_starred_47 ?_
          refine w_ior X dX12_starred_48 ?_
          refine w_goto (tgt := 53) X dX12_starred_49 (by decide) ?_
          refine w_istore_n X dX12_starred_53 rfl (by decide) ?_
          refine w_iinc (v := 1) X dX12_starred_54 rfl (by decide) (by decide) ?_
          refine w_goto (tgt := 5) X dX12_starred_57 (by decide) ?_
          rw [nI_1]
          refine ih (p + 1) _ (by omega) ?_
          rw [hr]
          simp only [sr_]
          simp [pa_, h13, h23, h40]
  refine w_iload_n X dX12_starred_0 rfl rfl ?_
  refine w_istore_n X dX12_starred_1 rfl (by decide) ?_
  refine w_iconst (v := 0) X dX12_starred_2 (by decide) ?_
  refine w_istore X dX12_starred_3 (by decide) ?_
  exact lp z 0 x (by omega) rfl
set_option maxRecDepth 100000 in
set_option maxHeartbeats 4000000 in
theorem c12_fits (G : gg_) (hG : gd_ G) (d : Nat) (M : mm_) (b z m : Nat) (hb : b < 8) (hz : M.1 18 b = nI z) (hz2 : z ≤ 12) (hm : m < 16) : cm_ G yX12_fits cX12_fits 10 (some .boolean) (d + 1) [.ref (G.1 0), .int (nI b), .int (nI m)] M (fI_ (ft_ (pa_ M b) z (M.2.1 5 m)) M) := by
  refine cm_of hG (by decide) (Nat.le_of_ble_eq_true rfl) (fun C X => ?_)
  have hn := ns_le (M.2.1 5 m) 12 0
  have lp : ∀ (u k : Nat) (dn : Int32) (w7 w8 w9 : Option Value), k + u = (ns_ (M.2.1 5 m) 12 0) → fo_ (pa_ M b) z (fun k => nb_ (M.2.1 5 m) (nI k) (nI (ns_ (M.2.1 5 m) 12 0))) (ns_ (M.2.1 5 m) 12 0) 0 (sr_ (pa_ M b) z 0 1) = fo_ (pa_ M b) z (fun k => nb_ (M.2.1 5 m) (nI k) (nI (ns_ (M.2.1 5 m) 12 0))) u k dn → wq_ C G (qe_ C G (fI_ (ft_ (pa_ M b) z (M.2.1 5 m)) M)) 25 [some (.ref (G.1 0)), some (.int (nI b)), some (.int (nI m)), some (.int (nI (ns_ (M.2.1 5 m) 12 0))), some (.int (nI z)), some (.int dn), some (.int (nI k)), w7, w8, w9] [] M := by
    intro u
    induction u with
    | zero =>
      intro k dn w7 w8 w9 hu hr
      refine w_iload X dX12_fits_25 rfl ?_
      refine w_iload_n X dX12_fits_27 rfl rfl ?_
      refine w_icmp_ge (tgt := 141) X dX12_fits_28 (by decide) (fun h28 => ?_) (fun h28 => absurd (nI_le (by omega) (by omega)) h28)
      refine w_iload X dX12_fits_141 rfl ?_
      refine w_iload X dX12_fits_143 rfl ?_
      refine w_ishr X dX12_fits_145 ?_
      refine w_iconst (v := 1) X dX12_fits_146 (by decide) ?_
      refine w_iand X dX12_fits_147 ?_
      refine w_iconst (v := 1) X dX12_fits_148 (by decide) ?_
      refine w_icmp_ne (tgt := 156) X dX12_fits_149 (by decide) (fun h149 => ?_) (fun h149 => ?_)
      · refine w_iconst (v := 0) X dX12_fits_156 (by decide) ?_
        refine w_zrF X dX12_fits_157 (by first | exact Or.inl rfl | exact Or.inr rfl) ?_ rfl
        unfold ft_
        rw [hr]
        simp only [fo_]
        simp [h28, h149]
      · refine w_iconst (v := 1) X dX12_fits_152 (by decide) ?_
        refine w_goto (tgt := 157) X dX12_fits_153 (by decide) ?_
        refine w_zrF X dX12_fits_157 (by first | exact Or.inl rfl | exact Or.inr rfl) ?_ rfl
        unfold ft_
        rw [hr]
        simp only [fo_]
        simp [h28, h149]
    | succ u ih =>
      intro k dn w7 w8 w9 hu hr
      have lpi : ∀ (v p : Nat) (y : Int32) (w9 : Option Value), p + v = z → fi_ (pa_ M b) dn (nb_ (M.2.1 5 m) (nI k) (nI (ns_ (M.2.1 5 m) 12 0))) z 0 0 = fi_ (pa_ M b) dn (nb_ (M.2.1 5 m) (nI k) (nI (ns_ (M.2.1 5 m) 12 0))) v p y → wq_ C G (qe_ C G (fI_ (ft_ (pa_ M b) z (M.2.1 5 m)) M)) 37 [some (.ref (G.1 0)), some (.int (nI b)), some (.int (nI m)), some (.int (nI (ns_ (M.2.1 5 m) 12 0))), some (.int (nI z)), some (.int dn), some (.int (nI k)), some (.int y), some (.int (nI p)), w9] [] M := by
        intro v
        induction v with
        | zero =>
          intro p y w9 hp he
          refine w_iload X dX12_fits_37 rfl ?_
          refine w_iload X dX12_fits_39 rfl ?_
          refine w_icmp_ge (tgt := 126) X dX12_fits_41 (by decide) (fun h41 => ?_) (fun h41 => absurd (nI_le (by omega) (by omega)) h41)
          refine w_aload_n X dX12_fits_126 rfl rfl ?_
          refine w_iload_n X dX12_fits_127 rfl rfl ?_
          refine w_iload X dX12_fits_128 rfl ?_
          refine w_v2fI X dX12_fits_130 k12_starred rfl rfl (c12_starred G hG _ _ b z hb hz hz2 _) (Nat.le_of_ble_eq_true rfl) ?_
          refine w_istore X dX12_fits_133 (by decide) ?_
          refine w_iinc (v := 1) X dX12_fits_135 rfl (by decide) (by decide) ?_
          refine w_goto (tgt := 25) X dX12_fits_138 (by decide) ?_
          rw [nI_1]
          refine ih (k + 1) _ _ _ _ (by omega) ?_
          rw [hr]
          simp only [fo_]
          rw [he]
          simp only [fi_]
        | succ v ihv =>
          intro p y w9 hp he
          refine w_iload X dX12_fits_37 rfl ?_
          refine w_iload X dX12_fits_39 rfl ?_
          refine w_icmp_ge (tgt := 126) X dX12_fits_41 (by decide) (fun h41 => absurd h41 (nI_ge (by omega) (by omega))) (fun h41 => ?_)
          refine w_iload X dX12_fits_44 rfl ?_
          refine w_iload X dX12_fits_46 rfl ?_
          refine w_ishr X dX12_fits_48 ?_
          refine w_iconst (v := 1) X dX12_fits_49 (by decide) ?_
          refine w_iand X dX12_fits_50 ?_
          refine w_iconst (v := 1) X dX12_fits_51 (by decide) ?_
          refine w_icmp_ne (tgt := 120) X dX12_fits_52 (by decide) (fun h52 => ?_) (fun h52 => ?_)
          · refine w_iinc (v := 1) X dX12_fits_120 rfl (by decide) (by decide) ?_
            refine w_goto (tgt := 37) X dX12_fits_123 (by decide) ?_
            rw [nI_1]
            refine ihv (p + 1) _ _ (by omega) ?_
            rw [he]
            simp only [fi_]
            first | (simp [pa_, h41, h52]; done) | (rw [h103] at h73; simp [pa_, h41, h52]; done)
          · refine w_aload_n X dX12_fits_55 rfl rfl ?_
            refine g12_patterns X dX12_fits_56 ?_
            refine w_bipush (v := 12) X dX12_fits_59 (by decide) ?_
            refine w_iload_n X dX12_fits_61 rfl rfl ?_
            refine w_imul X dX12_fits_62 ?_
            refine w_iload X dX12_fits_63 rfl ?_
            refine w_iadd X dX12_fits_65 ?_
            rw [nI_12]
            refine w_ialoadN X dX12_fits_66 rfl rfl (by omega) ?_
            try simp only [gI_sI, gI_sL, gL_sI, gL_sL, false_and, and_false, and_self, if_false, if_true, reduceIte, Nat.reduceEqDiff]
            refine w_istore X dX12_fits_67 (by decide) ?_
            refine w_iload X dX12_fits_69 rfl ?_
            refine w_bipush (v := 42) X dX12_fits_71 (by decide) ?_
            refine w_icmp_ne (tgt := 86) X dX12_fits_73 (by decide) (fun h73 => ?_) (fun h73 => ?_)
            · refine w_iload X dX12_fits_86 rfl ?_
              refine w_bipush (v := 63) X dX12_fits_88 (by decide) ?_
              refine w_icmp_eq (tgt := 106) X dX12_fits_90 (by decide) (fun h90 => ?_) (fun h90 => ?_)
              · refine w_iload X dX12_fits_106 rfl ?_
                refine w_iconst (v := 2) X dX12_fits_108 (by decide) ?_
                refine w_iload X dX12_fits_109 rfl ?_
                refine w_ishl X dX12_fits_111 ?_
                refine w_ior X dX12_fits_112 ?_
                refine w_goto (tgt := 118) X dX12_fits_113 (by decide) ?_
                refine w_istore X dX12_fits_118 (by decide) ?_
                refine w_iinc (v := 1) X dX12_fits_120 rfl (by decide) (by decide) ?_
                refine w_goto (tgt := 37) X dX12_fits_123 (by decide) ?_
                rw [nI_1]
                refine ihv (p + 1) _ _ (by omega) ?_
                rw [he]
                simp only [fi_]
                first | (simp [pa_, h41, h52, h73, h90]; done) | (rw [h103] at h73; simp [pa_, h41, h52, h73, h90]; done)
              · refine w_iload X dX12_fits_93 rfl ?_
                refine w_aload_n X dX12_fits_95 rfl rfl ?_
                refine w_iload_n X dX12_fits_96 rfl rfl ?_
                refine w_iload X dX12_fits_97 rfl ?_
                refine w_iload_n X dX12_fits_99 rfl rfl ?_
                refine w_v3fI X dX12_fits_100 k12_nameByte rfl rfl (c12_nameByte G hG _ _ m hm _ _) (Nat.le_of_ble_eq_true rfl) ?_
                refine w_icmp_ne (tgt := 116) X dX12_fits_103 (by decide) (fun h103 => ?_) (fun h103 => ?_)
                · refine w_iload X dX12_fits_116 rfl ?_
                  refine w_istore X dX12_fits_118 (by decide) ?_
                  refine w_iinc (v := 1) X dX12_fits_120 rfl (by decide) (by decide) ?_
                  refine w_goto (tgt := 37) X dX12_fits_123 (by decide) ?_
                  rw [nI_1]
                  refine ihv (p + 1) _ _ (by omega) ?_
                  rw [he]
                  simp only [fi_]
                  first | (simp [pa_, h41, h52, h73, h90, h103]; done) | (rw [h103] at h73; simp [pa_, h41, h52, h73, h90, h103]; done)
                · refine w_iload X dX12_fits_106 rfl ?_
                  refine w_iconst (v := 2) X dX12_fits_108 (by decide) ?_
                  refine w_iload X dX12_fits_109 rfl ?_
                  refine w_ishl X dX12_fits_111 ?_
                  refine w_ior X dX12_fits_112 ?_
                  refine w_goto (tgt := 118) X dX12_fits_113 (by decide) ?_
                  refine w_istore X dX12_fits_118 (by decide) ?_
                  refine w_iinc (v := 1) X dX12_fits_120 rfl (by decide) (by decide) ?_
                  refine w_goto (tgt := 37) X dX12_fits_123 (by decide) ?_
                  rw [nI_1]
                  refine ihv (p + 1) _ _ (by omega) ?_
                  rw [he]
                  simp only [fi_]
                  first | (simp [pa_, h41, h52, h73, h90, h103]; done) | (rw [h103] at h73; simp [pa_, h41, h52, h73, h90, h103]; done)
            · refine w_iload X dX12_fits_76 rfl ?_
              refine w_iconst (v := 1) X dX12_fits_78 (by decide) ?_
              refine w_iload X dX12_fits_79 rfl ?_
              refine w_ishl X dX12_fits_81 ?_
              refine w_ior X dX12_fits_82 ?_
              refine w_goto (tgt := 118) X dX12_fits_83 (by decide) ?_
              refine w_istore X dX12_fits_118 (by decide) ?_
              refine w_iinc (v := 1) X dX12_fits_120 rfl (by decide) (by decide) ?_
              refine w_goto (tgt := 37) X dX12_fits_123 (by decide) ?_
              rw [nI_1]
              refine ihv (p + 1) _ _ (by omega) ?_
              rw [he]
              simp only [fi_]
              first | (simp [pa_, h41, h52, h73]; done) | (rw [h103] at h73; simp [pa_, h41, h52, h73]; done)
      refine w_iload X dX12_fits_25 rfl ?_
      refine w_iload_n X dX12_fits_27 rfl rfl ?_
      refine w_icmp_ge (tgt := 141) X dX12_fits_28 (by decide) (fun h28 => absurd h28 (nI_ge (by omega) (by omega))) (fun h28 => ?_)
      refine w_iconst (v := 0) X dX12_fits_31 (by decide) ?_
      refine w_istore X dX12_fits_32 (by decide) ?_
      refine w_iconst (v := 0) X dX12_fits_34 (by decide) ?_
      refine w_istore X dX12_fits_35 (by decide) ?_
      exact lpi z 0 0 _ (by omega) rfl
  refine w_aload_n X dX12_fits_0 rfl rfl ?_
  refine w_iload_n X dX12_fits_1 rfl rfl ?_
  refine w_v1fI X dX12_fits_2 k12_nameSize rfl rfl (c12_nameSize G hG _ _ m hm) (Nat.le_of_ble_eq_true rfl) ?_
  refine w_istore_n X dX12_fits_5 rfl (by decide) ?_
  refine w_aload_n X dX12_fits_6 rfl rfl ?_
  refine g12_patternSizes X dX12_fits_7 ?_
  refine w_iload_n X dX12_fits_10 rfl rfl ?_
  refine w_ialoadN X dX12_fits_11 rfl rfl (by omega) ?_
  try simp only [gI_sI, gI_sL, gL_sI, gL_sL, false_and, and_false, and_self, if_false, if_true, reduceIte, Nat.reduceEqDiff, hz]
  refine w_istore X dX12_fits_12 (by decide) ?_
  refine w_aload_n X dX12_fits_14 rfl rfl ?_
  refine w_iload_n X dX12_fits_15 rfl rfl ?_
  refine w_iconst (v := 1) X dX12_fits_16 (by decide) ?_
  refine w_v2fI X dX12_fits_17 k12_starred rfl rfl (c12_starred G hG _ _ b z hb hz hz2 _) (Nat.le_of_ble_eq_true rfl) ?_
  refine w_istore X dX12_fits_20 (by decide) ?_
  refine w_iconst (v := 0) X dX12_fits_22 (by decide) ?_
  refine w_istore X dX12_fits_23 (by decide) ?_
  exact lp _ 0 _ _ _ _ (by omega) rfl

end
section
section SWITCH
variable {C : mc_} {G : gg_} {Q : State → Prop} {pc : Nat} {lv : List (Option Value)} {st : List Value} {M : mm_} {own : String} {cc : ByteArray} {nL : Nat} {ry : Option FieldType} {d : Nat}
end SWITCH
/-- what a sign between two values makes -/
def rs_ (h x y : Int32) : Int32 := if h = 43 then x + y else if h = 45 then x - y else if h = 42 then x * y else if h = 47 then x / y else if h = 37 then x - x / y * y else if h = 60 then (if x < y then 1 else 0) else if h = 62 then (if y < x then 1 else 0) else (if x = y then 1 else 0)
theorem nI_m (a b p : Nat) : nI a * nI b + nI p = nI (a * b + p) := by rw [pk_mul, nI_add]
/-- row t is a copy of the row that was made, as far as n -/
def kx_ (M : mm_) (t : Nat) : Nat → mm_
  | 0 => M
  | j + 1 => sL_ (sI_ (kx_ M t j) 2 (64 * t + j) (M.1 2 (2048 + j))) 3 (64 * t + j) (M.2.1 3 (2048 + j))
theorem kx_I {M : mm_} {t : Nat} (ht : t < 32) : ∀ (j : Nat), j ≤ 64 → ∀ (a i : Nat), (kx_ M t j).1 a i = if a = 2 ∧ 64 * t ≤ i ∧ i < 64 * t + j then M.1 2 (2048 + (i - 64 * t)) else M.1 a i
  | 0, _, a, i => by
    rw [if_neg (by omega)]; rfl
  | j + 1, hj, a, i => by
    simp only [kx_, gI_sL, gI_sI]
    rw [kx_I ht j (by omega) a i]
    by_cases h : a = 2 ∧ i = 64 * t + j
    · obtain ⟨rfl, rfl⟩ := h
      rw [if_pos ⟨rfl, rfl⟩, if_pos ⟨rfl, by omega, by omega⟩, show 64 * t + j - 64 * t = j by omega]
    · rw [if_neg h]
      by_cases h2 : a = 2 ∧ 64 * t ≤ i ∧ i < 64 * t + j
      · rw [if_pos h2, if_pos ⟨h2.1, h2.2.1, by omega⟩]
      · rw [if_neg h2, if_neg (fun q => h2 ⟨q.1, q.2.1, by have := q.2.2; have : ¬ i = 64 * t + j := fun z => h ⟨q.1, z⟩; omega⟩)]
theorem kx_L {M : mm_} {t : Nat} (ht : t < 32) : ∀ (j : Nat), j ≤ 64 → ∀ (a i : Nat), (kx_ M t j).2.1 a i = if a = 3 ∧ 64 * t ≤ i ∧ i < 64 * t + j then M.2.1 3 (2048 + (i - 64 * t)) else M.2.1 a i
  | 0, _, a, i => by
    rw [if_neg (by omega)]; rfl
  | j + 1, hj, a, i => by
    simp only [kx_, gL_sL, gL_sI]
    rw [kx_L ht j (by omega) a i]
    by_cases h : a = 3 ∧ i = 64 * t + j
    · obtain ⟨rfl, rfl⟩ := h
      rw [if_pos ⟨rfl, rfl⟩, if_pos ⟨rfl, by omega, by omega⟩, show 64 * t + j - 64 * t = j by omega]
    · rw [if_neg h]
      by_cases h2 : a = 3 ∧ 64 * t ≤ i ∧ i < 64 * t + j
      · rw [if_pos h2, if_pos ⟨h2.1, h2.2.1, by omega⟩]
      · rw [if_neg h2, if_neg (fun q => h2 ⟨q.1, q.2.1, by have := q.2.2; have : ¬ i = 64 * t + j := fun z => h ⟨q.1, z⟩; omega⟩)]
set_option maxRecDepth 100000 in
set_option maxHeartbeats 4000000 in
theorem c12_result (G : gg_) (hG : gd_ G) (d : Nat) (M : mm_) (h x y : Int32) (hy : h = 47 ∨ h = 37 → ¬ y = 0) : cm_ G yX12_result cX12_result 3 (some .int) (d) [.int h, .int x, .int y] M (fI_ (rs_ h x y) M) := by
  refine cm_of hG (by decide) (Nat.le_of_ble_eq_true rfl) (fun C X => ?_)
  refine w_iload_n X dX12_result_0 rfl rfl ?_
  by_cases h1_37 : h = 37
  · refine w_lookup (tgt := 84) (off := 83) X dX12_result_1 (by decide) (by rw [h1_37]; decide) (by decide) ?_
    refine w_iload_n X dX12_result_84 rfl rfl ?_
    refine w_iload_n X dX12_result_85 rfl rfl ?_
    refine w_irem X dX12_result_86 (hy (Or.inr h1_37)) ?_
    refine w_irF X dX12_result_87 ?_ rfl
    unfold rs_
    first | (simp [h1_37]; done) | (simp_all; done)
  by_cases h1_42 : h = 42
  · refine w_lookup (tgt := 76) (off := 75) X dX12_result_1 (by decide) (by rw [h1_42]; decide) (by decide) ?_
    refine w_iload_n X dX12_result_76 rfl rfl ?_
    refine w_iload_n X dX12_result_77 rfl rfl ?_
    refine w_imul X dX12_result_78 ?_
    refine w_irF X dX12_result_79 ?_ rfl
    unfold rs_
    first | (simp [h1_42]; done) | (simp_all; done)
  by_cases h1_43 : h = 43
  · refine w_lookup (tgt := 68) (off := 67) X dX12_result_1 (by decide) (by rw [h1_43]; decide) (by decide) ?_
    refine w_iload_n X dX12_result_68 rfl rfl ?_
    refine w_iload_n X dX12_result_69 rfl rfl ?_
    refine w_iadd X dX12_result_70 ?_
    refine w_irF X dX12_result_71 ?_ rfl
    unfold rs_
    first | (simp [h1_43]; done) | (simp_all; done)
  by_cases h1_45 : h = 45
  · refine w_lookup (tgt := 72) (off := 71) X dX12_result_1 (by decide) (by rw [h1_45]; decide) (by decide) ?_
    refine w_iload_n X dX12_result_72 rfl rfl ?_
    refine w_iload_n X dX12_result_73 rfl rfl ?_
    refine w_isub X dX12_result_74 ?_
    refine w_irF X dX12_result_75 ?_ rfl
    unfold rs_
    first | (simp [h1_45]; done) | (simp_all; done)
  by_cases h1_47 : h = 47
  · refine w_lookup (tgt := 80) (off := 79) X dX12_result_1 (by decide) (by rw [h1_47]; decide) (by decide) ?_
    refine w_iload_n X dX12_result_80 rfl rfl ?_
    refine w_iload_n X dX12_result_81 rfl rfl ?_
    refine w_idiv X dX12_result_82 (hy (Or.inl h1_47)) ?_
    refine w_irF X dX12_result_83 ?_ rfl
    unfold rs_
    first | (simp [h1_47]; done) | (simp_all; done)
  by_cases h1_60 : h = 60
  · refine w_lookup (tgt := 88) (off := 87) X dX12_result_1 (by decide) (by rw [h1_60]; decide) (by decide) ?_
    refine w_iload_n X dX12_result_88 rfl rfl ?_
    refine w_iload_n X dX12_result_89 rfl rfl ?_
    refine w_icmp_ge (tgt := 97) X dX12_result_90 (by decide) (fun h90 => ?_) (fun h90 => ?_)
    · refine w_iconst (v := 0) X dX12_result_97 (by decide) ?_
      refine w_irF X dX12_result_98 ?_ rfl
      unfold rs_
      first | (simp [h1_60, h90]; done) | (simp_all; done)
    · refine w_iconst (v := 1) X dX12_result_93 (by decide) ?_
      refine w_goto (tgt := 98) X dX12_result_94 (by decide) ?_
      refine w_irF X dX12_result_98 ?_ rfl
      unfold rs_
      first | (simp [h1_60, h90]; done) | (simp_all; done)
  by_cases h1_62 : h = 62
  · refine w_lookup (tgt := 99) (off := 98) X dX12_result_1 (by decide) (by rw [h1_62]; decide) (by decide) ?_
    refine w_iload_n X dX12_result_99 rfl rfl ?_
    refine w_iload_n X dX12_result_100 rfl rfl ?_
    refine w_icmp_le (tgt := 108) X dX12_result_101 (by decide) (fun h101 => ?_) (fun h101 => ?_)
    · refine w_iconst (v := 0) X dX12_result_108 (by decide) ?_
      refine w_irF X dX12_result_109 ?_ rfl
      unfold rs_
      first | (simp [h1_62, h101]; done) | (simp_all; done)
    · refine w_iconst (v := 1) X dX12_result_104 (by decide) ?_
      refine w_goto (tgt := 109) X dX12_result_105 (by decide) ?_
      refine w_irF X dX12_result_109 ?_ rfl
      unfold rs_
      first | (simp [h1_62, h101]; done) | (simp_all; done)
  have t1_37 : (37 : Int) ≠ (h).toInt := fun q => h1_37 (Int32.toInt_inj.mp (by rw [← q]; decide))
  have t1_42 : (42 : Int) ≠ (h).toInt := fun q => h1_42 (Int32.toInt_inj.mp (by rw [← q]; decide))
  have t1_43 : (43 : Int) ≠ (h).toInt := fun q => h1_43 (Int32.toInt_inj.mp (by rw [← q]; decide))
  have t1_45 : (45 : Int) ≠ (h).toInt := fun q => h1_45 (Int32.toInt_inj.mp (by rw [← q]; decide))
  have t1_47 : (47 : Int) ≠ (h).toInt := fun q => h1_47 (Int32.toInt_inj.mp (by rw [← q]; decide))
  have t1_60 : (60 : Int) ≠ (h).toInt := fun q => h1_60 (Int32.toInt_inj.mp (by rw [← q]; decide))
  have t1_62 : (62 : Int) ≠ (h).toInt := fun q => h1_62 (Int32.toInt_inj.mp (by rw [← q]; decide))
  refine w_lookup (tgt := 110) (off := 109) X dX12_result_1 (by decide) (by simp only [Op.lookupswitch.offset, t1_37, t1_42, t1_43, t1_45, t1_47, t1_60, t1_62, if_false]) (by decide) ?_
  refine w_iload_n X dX12_result_110 rfl rfl ?_
  refine w_iload_n X dX12_result_111 rfl rfl ?_
  refine w_icmp_ne (tgt := 119) X dX12_result_112 (by decide) (fun h112 => ?_) (fun h112 => ?_)
  · refine w_iconst (v := 0) X dX12_result_119 (by decide) ?_
    refine w_irF X dX12_result_120 ?_ rfl
    unfold rs_
    first | (simp [h1_37, h1_42, h1_43, h1_45, h1_47, h1_60, h1_62, h112]; done) | (simp_all; done)
  · refine w_iconst (v := 1) X dX12_result_115 (by decide) ?_
    refine w_goto (tgt := 120) X dX12_result_116 (by decide) ?_
    refine w_irF X dX12_result_120 ?_ rfl
    unfold rs_
    first | (simp [h1_37, h1_42, h1_43, h1_45, h1_47, h1_60, h1_62, h112]; done) | (simp_all; done)
set_option maxRecDepth 100000 in
set_option maxHeartbeats 4000000 in
theorem c12_keepExpression (G : gg_) (hG : gd_ G) (d : Nat) (M : mm_) (t n : Nat) (ht : t < 32) (hl : M.1 0 12 = nI n) (hn : n ≤ 64) : cm_ G yX12_keepExpression cX12_keepExpression 3 none (d + 1) [.ref (G.1 0), .int (nI t)] M (fV_ (sI_ (kx_ M t n) 4 t (nI n))) := by
  refine cm_of hG (by decide) (Nat.le_of_ble_eq_true rfl) (fun C X => ?_)
  have e12 : ∀ j, j ≤ n → (kx_ M t j).1 0 12 = nI n := fun j hj => by rw [kx_I ht j (by omega), if_neg (by omega)]; exact hl
  have e2 : ∀ j, j < n → (kx_ M t j).1 2 (2048 + j) = M.1 2 (2048 + j) := fun j hj => by rw [kx_I ht j (by omega), if_neg (by omega)]
  have e3 : ∀ j, j < n → (kx_ M t j).2.1 3 (2048 + j) = M.2.1 3 (2048 + j) := fun j hj => by rw [kx_L ht j (by omega), if_neg (by omega)]
  have e64 : ∀ j, (64 : Int32) * nI t + nI j = nI (64 * t + j) := fun j => nI_m 64 t j
  have lp : ∀ (u j : Nat), j + u = n → wq_ C G (qe_ C G (fV_ (sI_ (kx_ M t n) 4 t (nI n)))) 2 [some (.ref (G.1 0)), some (.int (nI t)), some (.int (nI j))] [] (kx_ M t j) := by
    intro u
    induction u with
    | zero =>
      intro j hu
      obtain rfl : j = n := by omega
      refine w_iload_n X dX12_keepExpression_2 rfl rfl ?_
      refine w_aload_n X dX12_keepExpression_3 rfl rfl ?_
      refine g12_length X dX12_keepExpression_4 ?_
      try simp only [gI_sI, gI_sL, gL_sI, gL_sL, false_and, and_false, and_self, if_false, if_true, reduceIte, Nat.reduceEqDiff, e12 j (Nat.le_refl _)]
      refine w_icmp_ge (tgt := 62) X dX12_keepExpression_7 (by decide) (fun h7 => ?_) (fun h7 => absurd (Int32.le_refl _) h7)
      refine w_aload_n X dX12_keepExpression_62 rfl rfl ?_
      refine g12_lengths X dX12_keepExpression_63 ?_
      refine w_iload_n X dX12_keepExpression_66 rfl rfl ?_
      refine w_aload_n X dX12_keepExpression_67 rfl rfl ?_
      refine g12_length X dX12_keepExpression_68 ?_
      try simp only [gI_sI, gI_sL, gL_sI, gL_sL, false_and, and_false, and_self, if_false, if_true, reduceIte, Nat.reduceEqDiff, e12 j (Nat.le_refl _)]
      refine w_iastoreN X dX12_keepExpression_71 rfl rfl (by omega) ?_
      exact w_vrF X dX12_keepExpression_72 rfl
    | succ u ih =>
      intro j hu
      refine w_iload_n X dX12_keepExpression_2 rfl rfl ?_
      refine w_aload_n X dX12_keepExpression_3 rfl rfl ?_
      refine g12_length X dX12_keepExpression_4 ?_
      try simp only [gI_sI, gI_sL, gL_sI, gL_sL, false_and, and_false, and_self, if_false, if_true, reduceIte, Nat.reduceEqDiff, e12 j (by omega), e2 j (by omega), e3 j (by omega)]
      refine w_icmp_ge (tgt := 62) X dX12_keepExpression_7 (by decide) (fun h7 => absurd h7 (nI_ge (by omega) (by omega))) (fun h7 => ?_)
      refine w_aload_n X dX12_keepExpression_10 rfl rfl ?_
      refine g12_steps X dX12_keepExpression_11 ?_
      refine w_iload_n X dX12_keepExpression_14 rfl rfl ?_
      refine w_s1fI X dX12_keepExpression_15 k12_rowOf (c12_rowOf G hG _ _ _) (Nat.le_of_ble_eq_true rfl) ?_
      refine w_iload_n X dX12_keepExpression_18 rfl rfl ?_
      refine w_iadd X dX12_keepExpression_19 ?_
      rw [e64]
      refine w_aload_n X dX12_keepExpression_20 rfl rfl ?_
      refine g12_steps X dX12_keepExpression_21 ?_
      refine w_bipush (v := 32) X dX12_keepExpression_24 (by decide) ?_
      refine w_s1fI X dX12_keepExpression_26 k12_rowOf (c12_rowOf G hG _ _ _) (Nat.le_of_ble_eq_true rfl) ?_
      refine w_iload_n X dX12_keepExpression_29 rfl rfl ?_
      refine w_iadd X dX12_keepExpression_30 ?_
      rw [nI_2048]
      refine w_ialoadN X dX12_keepExpression_31 rfl rfl (by omega) ?_
      try simp only [gI_sI, gI_sL, gL_sI, gL_sL, false_and, and_false, and_self, if_false, if_true, reduceIte, Nat.reduceEqDiff, e12 j (by omega), e2 j (by omega), e3 j (by omega)]
      refine w_iastoreN X dX12_keepExpression_32 rfl rfl (by omega) ?_
      refine w_aload_n X dX12_keepExpression_33 rfl rfl ?_
      refine g12_values X dX12_keepExpression_34 ?_
      refine w_iload_n X dX12_keepExpression_37 rfl rfl ?_
      refine w_s1fI X dX12_keepExpression_38 k12_rowOf (c12_rowOf G hG _ _ _) (Nat.le_of_ble_eq_true rfl) ?_
      refine w_iload_n X dX12_keepExpression_41 rfl rfl ?_
      refine w_iadd X dX12_keepExpression_42 ?_
      rw [e64]
      refine w_aload_n X dX12_keepExpression_43 rfl rfl ?_
      refine g12_values X dX12_keepExpression_44 ?_
      refine w_bipush (v := 32) X dX12_keepExpression_47 (by decide) ?_
      refine w_s1fI X dX12_keepExpression_49 k12_rowOf (c12_rowOf G hG _ _ _) (Nat.le_of_ble_eq_true rfl) ?_
      refine w_iload_n X dX12_keepExpression_52 rfl rfl ?_
      refine w_iadd X dX12_keepExpression_53 ?_
      rw [nI_2048]
      refine w_laloadN X dX12_keepExpression_54 rfl rfl (by omega) ?_
      try simp only [gI_sI, gI_sL, gL_sI, gL_sL, false_and, and_false, and_self, if_false, if_true, reduceIte, Nat.reduceEqDiff, e12 j (by omega), e2 j (by omega), e3 j (by omega)]
      refine w_lastoreN X dX12_keepExpression_55 rfl rfl (by omega) ?_
      refine w_iinc (v := 1) X dX12_keepExpression_56 rfl (by decide) (by decide) ?_
      refine w_goto (tgt := 2) X dX12_keepExpression_59 (by decide) ?_
      rw [nI_1]
      exact ih (j + 1) (by omega)
  refine w_iconst (v := 0) X dX12_keepExpression_0 (by decide) ?_
  refine w_istore_n X dX12_keepExpression_1 rfl (by decide) ?_
  exact lp n 0 (by omega)

end
