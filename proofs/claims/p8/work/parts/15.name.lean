theorem nI_p1 (n : Nat) (k : Nat) (h : 0 < k + n) : nI (k + n) - 1 = nI (k + n - 1) := nI_p _ h
set_option maxRecDepth 100000 in
set_option maxHeartbeats 4000000 in
theorem c12_isName (G : gg_) (hG : gd_ G) (d : Nat) (M : mm_) (n k j : Nat) (ht : tz_ M n) (hk : k + j < 1073741824) : cm_ G yX12_isName cX12_isName 6 (some .boolean) (d + 1) [.ref (G.1 0), .int (nI k), .int (nI j)] M (fI_ (if ne_ (bf_ M n) k j then 1 else 0) (sL_ M 0 24 (nm_ (bf_ M n) k j))) := by
  refine cm_of hG (by decide) (Nat.le_of_ble_eq_true rfl) (fun C X => ?_)
  have lp : ∀ (u i : Nat) (w5 : Option Value), i + u = j → wq_ C G (qe_ C G (fI_ (if ne_ (bf_ M n) k j then 1 else 0) (sL_ M 0 24 (nm_ (bf_ M n) k j)))) 10 [some (.ref (G.1 0)), some (.int (nI k)), some (.int (nI j)), some (.int (nI (dt_ (bf_ M n) k i))), some (.int (nI i)), w5] [] (sL_ M 0 24 (nm_ (bf_ M n) k i)) := by
    intro u
    induction u with
    | zero =>
      intro i w5 hu
      refine w_iload X dX12_isName_10 rfl ?_
      refine w_iload_n X dX12_isName_12 rfl rfl ?_
      refine w_icmp_ge (tgt := 76) X dX12_isName_13 (by decide) (fun h13 => ?_) (fun h13 => absurd (by rw [show i = j by omega]; exact Int32.le_refl _) h13)
      obtain rfl : i = j := by omega
      refine w_iload_n X dX12_isName_76 rfl rfl ?_
      refine w_iconst (v := 2) X dX12_isName_77 (by decide) ?_
      refine w_icmp_le (tgt := 114) X dX12_isName_78 (by decide) (fun h78 => ?_) (fun h78 => ?_)
      · have e78 : ¬ 2 < i := fun q => Int32.not_le.mpr (nI_lt (a := 2) q (by omega)) h78
        refine w_iconst (v := 0) X dX12_isName_114 (by decide) ?_
        refine w_zrF X dX12_isName_115 (by first | exact Or.inl rfl | exact Or.inr rfl) ?_ rfl
        simp only [ne_]
        simp [hu, e78]
      · have e78 : 2 < i := (nI_ltI (a := 2) (by omega) (by omega)).mp (Int32.not_le.mp h78)
        refine w_iload_n X dX12_isName_81 rfl rfl ?_
        refine w_iconst (v := 1) X dX12_isName_82 (by decide) ?_
        refine w_icmp_ne (tgt := 114) X dX12_isName_83 (by decide) (fun h83 => ?_) (fun h83 => ?_)
        · have e83 : ¬ dt_ (bf_ M n) k i = 1 := fun q => h83 (by rw [q]; rfl)
          refine w_iconst (v := 0) X dX12_isName_114 (by decide) ?_
          refine w_zrF X dX12_isName_115 (by first | exact Or.inl rfl | exact Or.inr rfl) ?_ rfl
          simp only [ne_]
          simp [hu, e78, e83]
        · have e83 : dt_ (bf_ M n) k i = 1 := by
            have hd9 := dt_le (bf_ M n) k i
            exact (nI_eq (b := 1) (by omega) (by omega)).mp h83
          refine w_aload_n X dX12_isName_86 rfl rfl ?_
          refine w_iload_n X dX12_isName_87 rfl rfl ?_
          refine w_v1fI X dX12_isName_88 k12_byteAt rfl rfl (c12_byteAt G hG _ _ (nI k) (fun q => tz_in (tz_sL ht) (by omega) q)) (Nat.le_of_ble_eq_true rfl) ?_
          rw [ba_sL, ba_bf ht (by omega)]
          refine w_bipush (v := 46) X dX12_isName_91 (by decide) ?_
          refine w_icmp_eq (tgt := 114) X dX12_isName_93 (by decide) (fun h93 => ?_) (fun h93 => ?_)
          · refine w_iconst (v := 0) X dX12_isName_114 (by decide) ?_
            refine w_zrF X dX12_isName_115 (by first | exact Or.inl rfl | exact Or.inr rfl) ?_ rfl
            simp only [ne_]
            simp [hu, e78, e83, h93]
          · refine w_aload_n X dX12_isName_96 rfl rfl ?_
            refine w_iload_n X dX12_isName_97 rfl rfl ?_
            refine w_iload_n X dX12_isName_98 rfl rfl ?_
            refine w_iadd X dX12_isName_99 ?_
            refine w_iconst (v := 1) X dX12_isName_100 (by decide) ?_
            refine w_isub X dX12_isName_101 ?_
            rw [nI_add k i, nI_p1 i k (by omega)]
            refine w_v1fI X dX12_isName_102 k12_byteAt rfl rfl (c12_byteAt G hG _ _ (nI (k + i - 1)) (fun q => tz_in (tz_sL ht) (by omega) q)) (Nat.le_of_ble_eq_true rfl) ?_
            rw [ba_sL, ba_bf ht (by omega)]
            refine w_bipush (v := 46) X dX12_isName_105 (by decide) ?_
            refine w_icmp_eq (tgt := 114) X dX12_isName_107 (by decide) (fun h107 => ?_) (fun h107 => ?_)
            · refine w_iconst (v := 0) X dX12_isName_114 (by decide) ?_
              refine w_zrF X dX12_isName_115 (by first | exact Or.inl rfl | exact Or.inr rfl) ?_ rfl
              simp only [ne_]
              simp [hu, e78, e83, h93, h107]
            · refine w_iconst (v := 1) X dX12_isName_110 (by decide) ?_
              refine w_goto (tgt := 115) X dX12_isName_111 (by decide) ?_
              refine w_zrF X dX12_isName_115 (by first | exact Or.inl rfl | exact Or.inr rfl) ?_ rfl
              simp only [ne_]
              simp [hu, e78, e83, h93, h107]
    | succ u ih =>
      intro i w5 hu
      refine w_iload X dX12_isName_10 rfl ?_
      refine w_iload_n X dX12_isName_12 rfl rfl ?_
      refine w_icmp_ge (tgt := 76) X dX12_isName_13 (by decide) (fun h13 => absurd h13 (nI_ge (by omega) (by omega))) (fun h13 => ?_)
      refine w_aload_n X dX12_isName_16 rfl rfl ?_
      refine w_iload_n X dX12_isName_17 rfl rfl ?_
      refine w_iload X dX12_isName_18 rfl ?_
      refine w_iadd X dX12_isName_20 ?_
      rw [nI_add k i]
      refine w_v1fI X dX12_isName_21 k12_byteAt rfl rfl (c12_byteAt G hG _ _ (nI (k + i)) (fun q => tz_in (tz_sL ht) (by omega) q)) (Nat.le_of_ble_eq_true rfl) ?_
      rw [ba_sL, ba_bf ht (by omega)]
      refine w_istore X dX12_isName_24 (by decide) ?_
      refine w_iload X dX12_isName_26 rfl ?_
      refine w_bipush (v := 46) X dX12_isName_28 (by decide) ?_
      refine w_icmp_ne (tgt := 39) X dX12_isName_30 (by decide) (fun h30 => ?_) (fun h30 => ?_)
      · refine w_iload_n X dX12_isName_39 rfl rfl ?_
        refine w_istore_n X dX12_isName_40 rfl (by decide) ?_
        refine w_aload_n X dX12_isName_41 rfl rfl ?_
        refine w_aload_n X dX12_isName_42 rfl rfl ?_
        refine g12_rowName X dX12_isName_43 ?_
        try simp only [gI_sI, gI_sL, gL_sI, gL_sL, false_and, and_false, and_self, if_false, if_true, reduceIte, Nat.reduceEqDiff]
        refine w_iconst (v := 5) X dX12_isName_46 (by decide) ?_
        refine w_lshl X dX12_isName_47 ?_
        refine w_iload X dX12_isName_48 rfl ?_
        refine w_bipush (v := 46) X dX12_isName_50 (by decide) ?_
        refine w_icmp_ne (tgt := 60) X dX12_isName_52 (by decide) (fun h52 => ?_) (fun h52 => absurd h52 h30)
        refine w_iload X dX12_isName_60 rfl ?_
        refine w_bipush (v := 96) X dX12_isName_62 (by decide) ?_
        refine w_isub X dX12_isName_64 ?_
        refine w_i2l X dX12_isName_65 ?_
        refine w_lor X dX12_isName_66 ?_
        refine p12_rowName X dX12_isName_67 ?_
        refine w_iinc (v := 1) X dX12_isName_70 rfl (by decide) (by decide) ?_
        refine w_goto (tgt := 10) X dX12_isName_73 (by decide) ?_
        have e := ih (i + 1) (some (.int (bf_ M n (k + i)))) (by omega)
        simp only [dt_, nm_, nc_] at e
        first | rw [if_neg h30, if_neg h30] at e | rw [if_pos h30, if_pos h30] at e
        try rw [nI_1 (dt_ (bf_ M n) k i)]
        rw [sL_sL, nI_1 i]
        exact e
      · refine w_iload_n X dX12_isName_33 rfl rfl ?_
        refine w_iconst (v := 1) X dX12_isName_34 (by decide) ?_
        refine w_iadd X dX12_isName_35 ?_
        refine w_goto (tgt := 40) X dX12_isName_36 (by decide) ?_
        refine w_istore_n X dX12_isName_40 rfl (by decide) ?_
        refine w_aload_n X dX12_isName_41 rfl rfl ?_
        refine w_aload_n X dX12_isName_42 rfl rfl ?_
        refine g12_rowName X dX12_isName_43 ?_
        try simp only [gI_sI, gI_sL, gL_sI, gL_sL, false_and, and_false, and_self, if_false, if_true, reduceIte, Nat.reduceEqDiff]
        refine w_iconst (v := 5) X dX12_isName_46 (by decide) ?_
        refine w_lshl X dX12_isName_47 ?_
        refine w_iload X dX12_isName_48 rfl ?_
        refine w_bipush (v := 46) X dX12_isName_50 (by decide) ?_
        refine w_icmp_ne (tgt := 60) X dX12_isName_52 (by decide) (fun h52 => absurd h30 h52) (fun h52 => ?_)
        refine w_bipush (v := 27) X dX12_isName_55 (by decide) ?_
        refine w_goto (tgt := 65) X dX12_isName_57 (by decide) ?_
        refine w_i2l X dX12_isName_65 ?_
        refine w_lor X dX12_isName_66 ?_
        refine p12_rowName X dX12_isName_67 ?_
        refine w_iinc (v := 1) X dX12_isName_70 rfl (by decide) (by decide) ?_
        refine w_goto (tgt := 10) X dX12_isName_73 (by decide) ?_
        have e := ih (i + 1) (some (.int (bf_ M n (k + i)))) (by omega)
        simp only [dt_, nm_, nc_] at e
        first | rw [if_neg h30, if_neg h30] at e | rw [if_pos h30, if_pos h30] at e
        try rw [nI_1 (dt_ (bf_ M n) k i)]
        rw [sL_sL, nI_1 i]
        exact e
  refine w_iconst (v := 0) X dX12_isName_0 (by decide) ?_
  refine w_istore_n X dX12_isName_1 rfl (by decide) ?_
  refine w_aload_n X dX12_isName_2 rfl rfl ?_
  refine w_lconst (v := 0) X dX12_isName_3 (by decide) ?_
  refine p12_rowName X dX12_isName_4 ?_
  refine w_iconst (v := 0) X dX12_isName_7 (by decide) ?_
  refine w_istore X dX12_isName_8 (by decide) ?_
  exact lp j 0 none (by omega)
set_option maxRecDepth 100000 in
set_option maxHeartbeats 4000000 in
theorem c12_rowAt (G : gg_) (hG : gd_ G) (d : Nat) (M : mm_) (n k : Nat) (ht : tz_ M n) (hk : k < 536870912) : cm_ G yX12_rowAt cX12_rowAt 4 (some .long) (d + 3) [.ref (G.1 0), .int (nI k)] M (fL_ (if 8 < rz_ M n k then 0 else nm_ (bf_ M n) k (rz_ M n k)) (sL_ M 0 24 (nm_ (bf_ M n) k (min (rz_ M n k) 12)))) := by
  refine cm_of hG (by decide) (Nat.le_of_ble_eq_true rfl) (fun C X => ?_)
  refine w_aload_n X dX12_rowAt_0 rfl rfl ?_
  refine w_iload_n X dX12_rowAt_1 rfl rfl ?_
  refine w_v1fI X dX12_rowAt_2 k12_rowSize rfl rfl (c12_rowSize G hG _ _ n k ht (by omega)) (Nat.le_of_ble_eq_true rfl) ?_
  refine w_istore_n X dX12_rowAt_5 rfl (by decide) ?_
  have hz := rz_le M n k
  have hn := ht.2
  refine w_aload_n X dX12_rowAt_6 rfl rfl ?_
  refine w_iload_n X dX12_rowAt_7 rfl rfl ?_
  refine w_iload_n X dX12_rowAt_8 rfl rfl ?_
  refine w_bipush (v := 12) X dX12_rowAt_9 (by decide) ?_
  refine w_icmp_le (tgt := 19) X dX12_rowAt_11 (by decide) (fun h11 => ?_) (fun h11 => ?_)
  · have e11 : rz_ M n k ≤ 12 := (nI_leI (b := 12) (by omega) (by omega)).mp h11
    refine w_iload_n X dX12_rowAt_19 rfl rfl ?_
    refine w_v2fI X dX12_rowAt_20 k12_isName rfl rfl (c12_isName G hG _ _ n k (rz_ M n k) ht (by omega)) (Nat.le_of_ble_eq_true rfl) ?_
    refine w_istore_n X dX12_rowAt_23 rfl (by decide) ?_
    refine w_iload_n X dX12_rowAt_24 rfl rfl ?_
    refine w_bipush (v := 8) X dX12_rowAt_25 (by decide) ?_
    refine w_icmp_le (tgt := 34) X dX12_rowAt_27 (by decide) (fun h27 => ?_) (fun h27 => ?_)
    · have e27 : rz_ M n k ≤ 8 := (nI_leI (b := 8) (by omega) (by omega)).mp h27
      refine w_iload_n X dX12_rowAt_34 rfl rfl ?_
      refine w_if_eq (tgt := 45) X dX12_rowAt_35 (by decide) (fun h35 => ?_) (fun h35 => ?_)
      · refine w_aload_n X dX12_rowAt_45 rfl rfl ?_
        refine g12_rowName X dX12_rowAt_46 ?_
        try simp only [gI_sI, gI_sL, gL_sI, gL_sL, false_and, and_false, and_self, if_false, if_true, reduceIte, Nat.reduceEqDiff]
        refine w_lrF X dX12_rowAt_49 ?_ ?_
        · first | exact (if_neg (by omega)).symm | exact (if_pos (by omega)).symm
        · first | rw [show min (rz_ M n k) 12 = rz_ M n k by omega] | rw [show min (rz_ M n k) 12 = 12 by omega]
      · refine w_aload_n X dX12_rowAt_38 rfl rfl ?_
        refine g12_rowName X dX12_rowAt_39 ?_
        try simp only [gI_sI, gI_sL, gL_sI, gL_sL, false_and, and_false, and_self, if_false, if_true, reduceIte, Nat.reduceEqDiff]
        refine w_goto (tgt := 49) X dX12_rowAt_42 (by decide) ?_
        refine w_lrF X dX12_rowAt_49 ?_ ?_
        · first | exact (if_neg (by omega)).symm | exact (if_pos (by omega)).symm
        · first | rw [show min (rz_ M n k) 12 = rz_ M n k by omega] | rw [show min (rz_ M n k) 12 = 12 by omega]
    · have e27 : 8 < rz_ M n k := Nat.not_le.mp (fun q => h27 (nI_le (b := 8) q (by omega)))
      refine w_lconst (v := 0) X dX12_rowAt_30 (by decide) ?_
      refine w_goto (tgt := 49) X dX12_rowAt_31 (by decide) ?_
      refine w_lrF X dX12_rowAt_49 ?_ ?_
      · first | exact (if_neg (by omega)).symm | exact (if_pos (by omega)).symm
      · first | rw [show min (rz_ M n k) 12 = rz_ M n k by omega] | rw [show min (rz_ M n k) 12 = 12 by omega]
  · have e11 : 12 < rz_ M n k := Nat.not_le.mp (fun q => h11 (nI_le (b := 12) q (by omega)))
    refine w_bipush (v := 12) X dX12_rowAt_14 (by decide) ?_
    refine w_goto (tgt := 20) X dX12_rowAt_16 (by decide) ?_
    refine w_v2fI X dX12_rowAt_20 k12_isName rfl rfl (c12_isName G hG _ _ n k 12 ht (by omega)) (Nat.le_of_ble_eq_true rfl) ?_
    refine w_istore_n X dX12_rowAt_23 rfl (by decide) ?_
    refine w_iload_n X dX12_rowAt_24 rfl rfl ?_
    refine w_bipush (v := 8) X dX12_rowAt_25 (by decide) ?_
    refine w_icmp_le (tgt := 34) X dX12_rowAt_27 (by decide) (fun h27 => absurd h27 (fun q => by have := (nI_leI (b := 8) (by omega) (by omega)).mp q; omega)) (fun h27 => ?_)
    refine w_lconst (v := 0) X dX12_rowAt_30 (by decide) ?_
    refine w_goto (tgt := 49) X dX12_rowAt_31 (by decide) ?_
    refine w_lrF X dX12_rowAt_49 ?_ ?_
    · first | exact (if_neg (by omega)).symm | exact (if_pos (by omega)).symm
    · first | rw [show min (rz_ M n k) 12 = rz_ M n k by omega] | rw [show min (rz_ M n k) 12 = 12 by omega]
