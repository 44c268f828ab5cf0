/-! names and patterns -/
theorem nI_12 (b p : Nat) : (12 : Int32) * nI b + nI p = nI (12 * b + p) := by rw [show (12 : Int32) = nI 12 from rfl, pk_mul, nI_add]
def ns_ (x : Int64) : Nat → Nat → Nat
  | 0, n => n
  | u + 1, n => if x >>> (((5 : Int32) * nI n).toInt64 &&& 63) = 0 then n else ns_ x u (n + 1)
theorem ns_le (x : Int64) : ∀ u n, ns_ x u n ≤ n + u
  | 0, n => Nat.le_refl _
  | u + 1, n => by
    have := ns_le x u (n + 1)
    unfold ns_
    split <;> omega
def nb_ (x : Int64) (k n : Int32) : Int32 := if ((x >>> (((5 : Int32) * (n - 1 - k)).toInt64 &&& 63)) &&& 31).toInt32 = 27 then 46 else 96 + ((x >>> (((5 : Int32) * (n - 1 - k)).toInt64 &&& 63)) &&& 31).toInt32
def sr_ (f : Nat → Int32) : Nat → Nat → Int32 → Int32
  | 0, _, x => x
  | u + 1, p, x => sr_ f u (p + 1) (if (x >>> (nI p &&& 31)) &&& 1 = 1 ∧ f p = 42 then x ||| ((2 : Int32) <<< (nI p &&& 31)) else x)
def fi_ (f : Nat → Int32) (dn c : Int32) : Nat → Nat → Int32 → Int32
  | 0, _, x => x
  | u + 1, p, x => fi_ f dn c u (p + 1) (if (dn >>> (nI p &&& 31)) &&& 1 = 1 then (if f p = 42 then x ||| ((1 : Int32) <<< (nI p &&& 31)) else if f p = 63 ∨ f p = c then x ||| ((2 : Int32) <<< (nI p &&& 31)) else x) else x)
def fo_ (f : Nat → Int32) (z : Nat) (c : Nat → Int32) : Nat → Nat → Int32 → Int32
  | 0, _, x => x
  | u + 1, k, x => fo_ f z c u (k + 1) (sr_ f z 0 (fi_ f x (c k) z 0 0))
/-- the pattern of job b -/
def pa_ (M : mm_) (b : Nat) : Nat → Int32 := fun p => M.1 17 (12 * b + p)
/-- a pattern f of z signs fits the name x -/
def ft_ (f : Nat → Int32) (z : Nat) (x : Int64) : Int32 := if (fo_ f z (fun k => nb_ x (nI k) (nI (ns_ x 12 0))) (ns_ x 12 0) 0 (sr_ f z 0 1) >>> (nI z &&& 31)) &&& 1 = 1 then 1 else 0
set_option maxRecDepth 100000 in
set_option maxHeartbeats 4000000 in
theorem c12_nameSize (G : gg_) (hG : gd_ G) (d : Nat) (M : mm_) (m : Nat) (hm : m < 16) : cm_ G yX12_nameSize cX12_nameSize 3 (some .int) (d) [.ref (G.1 0), .int (nI m)] M (fI_ (nI (ns_ (M.2.1 5 m) 12 0)) M) := by
  refine cm_of hG (by decide) (Nat.le_of_ble_eq_true rfl) (fun C X => ?_)
  have lp : ∀ (u j : Nat), j + u = 12 → ns_ (M.2.1 5 m) 12 0 = ns_ (M.2.1 5 m) u j → wq_ C G (qe_ C G (fI_ (nI (ns_ (M.2.1 5 m) 12 0)) M)) 2 [some (.ref (G.1 0)), some (.int (nI m)), some (.int (nI j))] [] M := by
    intro u
    induction u with
    | zero =>
      intro j hu hr
      refine w_iload_n X dX12_nameSize_2 rfl rfl ?_
      refine w_bipush (v := 12) X dX12_nameSize_3 (by decide) ?_
      refine w_icmp_ge (tgt := 29) X dX12_nameSize_5 (by decide) (fun h5 => ?_) (fun h5 => absurd (nI_le (a := 12) (by omega) (by omega)) h5)
      refine w_iload_n X dX12_nameSize_29 rfl rfl ?_
      exact w_irF X dX12_nameSize_30 (by rw [hr]; rfl) rfl
    | succ u ih =>
      intro j hu hr
      refine w_iload_n X dX12_nameSize_2 rfl rfl ?_
      refine w_bipush (v := 12) X dX12_nameSize_3 (by decide) ?_
      refine w_icmp_ge (tgt := 29) X dX12_nameSize_5 (by decide) (fun h5 => absurd h5 (nI_ge (b := 12) (by omega) (by omega))) (fun h5 => ?_)
      refine w_aload_n X dX12_nameSize_8 rfl rfl ?_
      refine g12_names X dX12_nameSize_9 ?_
      refine w_iload_n X dX12_nameSize_12 rfl rfl ?_
      refine w_laloadN X dX12_nameSize_13 rfl rfl (by omega) ?_
      refine w_iconst (v := 5) X dX12_nameSize_14 (by decide) ?_
      refine w_iload_n X dX12_nameSize_15 rfl rfl ?_
      refine w_imul X dX12_nameSize_16 ?_
      refine w_lshr X dX12_nameSize_17 ?_
      refine w_lconst (v := 0) X dX12_nameSize_18 (by decide) ?_
      refine w_lcmp X dX12_nameSize_19 ?_
      refine w_if_eq (tgt := 29) X dX12_nameSize_20 (by decide) (fun h20 => ?_) (fun h20 => ?_)
      · refine w_iload_n X dX12_nameSize_29 rfl rfl ?_
        refine w_irF X dX12_nameSize_30 ?_ rfl
        rw [hr]
        simp only [ns_]
        rw [if_pos (lc_.mp h20)]
      · refine w_iinc (v := 1) X dX12_nameSize_23 rfl (by decide) (by decide) ?_
        refine w_goto (tgt := 2) X dX12_nameSize_26 (by decide) ?_
        rw [nI_1]
        refine ih (j + 1) (by omega) ?_
        rw [hr]
        simp only [ns_]
        exact if_neg (fun q => h20 (lc_.mpr q))
  refine w_iconst (v := 0) X dX12_nameSize_0 (by decide) ?_
  refine w_istore_n X dX12_nameSize_1 rfl (by decide) ?_
  exact lp 12 0 (by omega) rfl
set_option maxRecDepth 100000 in
set_option maxHeartbeats 4000000 in
theorem c12_nameByte (G : gg_) (hG : gd_ G) (d : Nat) (M : mm_) (m : Nat) (hm : m < 16) (k n : Int32) : cm_ G yX12_nameByte cX12_nameByte 5 (some .int) (d) [.ref (G.1 0), .int (nI m), .int k, .int n] M (fI_ (nb_ (M.2.1 5 m) k n) M) := by
  refine cm_of hG (by decide) (Nat.le_of_ble_eq_true rfl) (fun C X => ?_)
  refine w_aload_n X dX12_nameByte_0 rfl rfl ?_
  refine g12_names X dX12_nameByte_1 ?_
  refine w_iload_n X dX12_nameByte_4 rfl rfl ?_
  refine w_laloadN X dX12_nameByte_5 rfl rfl (by omega) ?_
  refine w_iconst (v := 5) X dX12_nameByte_6 (by decide) ?_
  refine w_iload_n X dX12_nameByte_7 rfl rfl ?_
  refine w_iconst (v := 1) X dX12_nameByte_8 (by decide) ?_
  refine w_isub X dX12_nameByte_9 ?_
  refine w_iload_n X dX12_nameByte_10 rfl rfl ?_
  refine w_isub X dX12_nameByte_11 ?_
  refine w_imul X dX12_nameByte_12 ?_
  refine w_lshr X dX12_nameByte_13 ?_
  refine w_ldc2 X dX12_nameByte_14 q12_332 ?_
  refine w_land X dX12_nameByte_17 ?_
  refine w_l2i X dX12_nameByte_18 ?_
  refine w_istore X dX12_nameByte_19 (by decide) ?_
  refine w_iload X dX12_nameByte_21 rfl ?_
  refine w_bipush (v := 27) X dX12_nameByte_23 (by decide) ?_
  refine w_icmp_ne (tgt := 33) X dX12_nameByte_25 (by decide) (fun h25 => ?_) (fun h25 => ?_)
  · refine w_bipush (v := 96) X dX12_nameByte_33 (by decide) ?_
    refine w_iload X dX12_nameByte_35 rfl ?_
    refine w_iadd X dX12_nameByte_37 ?_
    refine w_irF X dX12_nameByte_38 ?_ rfl
    unfold nb_
    first | exact (if_pos h25).symm | exact (if_neg h25).symm
  · refine w_bipush (v := 46) X dX12_nameByte_28 (by decide) ?_
    refine w_goto (tgt := 38) X dX12_nameByte_30 (by decide) ?_
    refine w_irF X dX12_nameByte_38 ?_ rfl
    unfold nb_
    first | exact (if_pos h25).symm | exact (if_neg h25).symm
set_option maxRecDepth 100000 in
set_option maxHeartbeats 4000000 in
theorem c12_starred (G : gg_) (hG : gd_ G) (d : Nat) (M : mm_) (b z : Nat) (hb : b < 8) (hz : M.1 18 b = nI z) (hz2 : z ≤ 12) (x : Int32) : cm_ G yX12_starred cX12_starred 5 (some .int) (d) [.ref (G.1 0), .int (nI b), .int x] M (fI_ (sr_ (pa_ M b) z 0 x) M) := by
  refine cm_of hG (by decide) (Nat.le_of_ble_eq_true rfl) (fun C X => ?_)
  have lp : ∀ (u p : Nat) (y : Int32), p + u = z → sr_ (pa_ M b) z 0 x = sr_ (pa_ M b) u p y → wq_ C G (qe_ C G (fI_ (sr_ (pa_ M b) z 0 x) M)) 5 [some (.ref (G.1 0)), some (.int (nI b)), some (.int x), some (.int y), some (.int (nI p))] [] M := by
    intro u
    induction u with
    | zero =>
      intro p y hu hr
      refine w_iload X dX12_starred_5 rfl ?_
      refine w_aload_n X dX12_starred_7 rfl rfl ?_
      refine g12_patternSizes X dX12_starred_8 ?_
      refine w_iload_n X dX12_starred_11 rfl rfl ?_
      refine w_ialoadN X dX12_starred_12 rfl rfl (by omega) ?_
      try simp only [gI_sI, gI_sL, gL_sI, gL_sL, false_and, and_false, and_self, if_false, if_true, reduceIte, Nat.reduceEqDiff, hz]
      refine w_icmp_ge (tgt := 60) X dX12_starred_13 (by decide) (fun h13 => ?_) (fun h13 => absurd (nI_le (by omega) (by omega)) h13)
      refine w_iload_n X dX12_starred_60 rfl rfl ?_
      exact w_irF X dX12_starred_61 (by rw [hr]; rfl) rfl
    | succ u ih =>
      intro p y hu hr
      refine w_iload X dX12_starred_5 rfl ?_
      refine w_aload_n X dX12_starred_7 rfl rfl ?_
      refine g12_patternSizes X dX12_starred_8 ?_
      refine w_iload_n X dX12_starred_11 rfl rfl ?_
      refine w_ialoadN X dX12_starred_12 rfl rfl (by omega) ?_
      try simp only [gI_sI, gI_sL, gL_sI, gL_sL, false_and, and_false, and_self, if_false, if_true, reduceIte, Nat.reduceEqDiff, hz]
      refine w_icmp_ge (tgt := 60) X dX12_starred_13 (by decide) (fun h13 => absurd h13 (nI_ge (by omega) (by omega))) (fun h13 => ?_)
      refine w_iload_n X dX12_starred_16 rfl rfl ?_
      refine w_iload X dX12_starred_17 rfl ?_
      refine w_ishr X dX12_starred_19 ?_
      refine w_iconst (v := 1) X dX12_starred_20 (by decide) ?_
      refine w_iand X dX12_starred_21 ?_
      refine w_iconst (v := 1) X dX12_starred_22 (by decide) ?_
      refine w_icmp_ne (tgt := 52) X dX12_starred_23 (by decide) (fun h23 => ?_) (fun h23 => ?_)
      · refine w_iload_n X dX12_starred_52 rfl rfl ?_
        refine w_istore_n X dX12_starred_53 rfl (by decide) ?_
        refine w_iinc (v := 1) X dX12_starred_54 rfl (by decide) (by decide) ?_
        refine w_goto (tgt := 5) X dX12_starred_57 (by decide) ?_
        rw [nI_1]
        refine ih (p + 1) _ (by omega) ?_
        rw [hr]
        simp only [sr_]
        simp [pa_, h13, h23]
      · refine w_aload_n X dX12_starred_26 rfl rfl ?_
        refine g12_patterns X dX12_starred_27 ?_
        refine w_bipush (v := 12) X dX12_starred_30 (by decide) ?_
        refine w_iload_n X dX12_starred_32 rfl rfl ?_
        refine w_imul X dX12_starred_33 ?_
        refine w_iload X dX12_starred_34 rfl ?_
        refine w_iadd X dX12_starred_36 ?_
        rw [nI_12]
        refine w_ialoadN X dX12_starred_37 rfl rfl (by omega) ?_
        try simp only [gI_sI, gI_sL, gL_sI, gL_sL, false_and, and_false, and_self, if_false, if_true, reduceIte, Nat.reduceEqDiff, hz]
        refine w_bipush (v := 42) X dX12_starred_38 (by decide) ?_
        refine w_icmp_ne (tgt := 52) X dX12_starred_40 (by decide) (fun h40 => ?_) (fun h40 => ?_)
        · refine w_iload_n X dX12_starred_52 rfl rfl ?_
          refine w_istore_n X dX12_starred_53 rfl (by decide) ?_
          refine w_iinc (v := 1) X dX12_starred_54 rfl (by decide) (by decide) ?_
          refine w_goto (tgt := 5) X dX12_starred_57 (by decide) ?_
          rw [nI_1]
          refine ih (p + 1) _ (by omega) ?_
          rw [hr]
          simp only [sr_]
          simp [pa_, h13, h23, h40]
        · refine w_iload_n X dX12_starred_43 rfl rfl ?_
          refine w_iconst (v := 2) X dX12_starred_44 (by decide) ?_
          refine w_iload X dX12_starred_45 rfl ?_
          refine w_ishl X dX12_starred_47 ?_
          refine w_ior X dX12_starred_48 ?_
          refine w_goto (tgt := 53) X dX12_starred_49 (by decide) ?_
          refine w_istore_n X dX12_starred_53 rfl (by decide) ?_
          refine w_iinc (v := 1) X dX12_starred_54 rfl (by decide) (by decide) ?_
          refine w_goto (tgt := 5) X dX12_starred_57 (by decide) ?_
          rw [nI_1]
          refine ih (p + 1) _ (by omega) ?_
          rw [hr]
          simp only [sr_]
          simp [pa_, h13, h23, h40]
  refine w_iload_n X dX12_starred_0 rfl rfl ?_
  refine w_istore_n X dX12_starred_1 rfl (by decide) ?_
  refine w_iconst (v := 0) X dX12_starred_2 (by decide) ?_
  refine w_istore X dX12_starred_3 (by decide) ?_
  exact lp z 0 x (by omega) rfl
set_option maxRecDepth 100000 in
set_option maxHeartbeats 4000000 in
theorem c12_fits (G : gg_) (hG : gd_ G) (d : Nat) (M : mm_) (b z m : Nat) (hb : b < 8) (hz : M.1 18 b = nI z) (hz2 : z ≤ 12) (hm : m < 16) : cm_ G yX12_fits cX12_fits 10 (some .boolean) (d + 1) [.ref (G.1 0), .int (nI b), .int (nI m)] M (fI_ (ft_ (pa_ M b) z (M.2.1 5 m)) M) := by
  refine cm_of hG (by decide) (Nat.le_of_ble_eq_true rfl) (fun C X => ?_)
  have hn := ns_le (M.2.1 5 m) 12 0
  have lp : ∀ (u k : Nat) (dn : Int32) (w7 w8 w9 : Option Value), k + u = (ns_ (M.2.1 5 m) 12 0) → fo_ (pa_ M b) z (fun k => nb_ (M.2.1 5 m) (nI k) (nI (ns_ (M.2.1 5 m) 12 0))) (ns_ (M.2.1 5 m) 12 0) 0 (sr_ (pa_ M b) z 0 1) = fo_ (pa_ M b) z (fun k => nb_ (M.2.1 5 m) (nI k) (nI (ns_ (M.2.1 5 m) 12 0))) u k dn → wq_ C G (qe_ C G (fI_ (ft_ (pa_ M b) z (M.2.1 5 m)) M)) 25 [some (.ref (G.1 0)), some (.int (nI b)), some (.int (nI m)), some (.int (nI (ns_ (M.2.1 5 m) 12 0))), some (.int (nI z)), some (.int dn), some (.int (nI k)), w7, w8, w9] [] M := by
    intro u
    induction u with
    | zero =>
      intro k dn w7 w8 w9 hu hr
      refine w_iload X dX12_fits_25 rfl ?_
      refine w_iload_n X dX12_fits_27 rfl rfl ?_
      refine w_icmp_ge (tgt := 141) X dX12_fits_28 (by decide) (fun h28 => ?_) (fun h28 => absurd (nI_le (by omega) (by omega)) h28)
      refine w_iload X dX12_fits_141 rfl ?_
      refine w_iload X dX12_fits_143 rfl ?_
      refine w_ishr X dX12_fits_145 ?_
      refine w_iconst (v := 1) X dX12_fits_146 (by decide) ?_
      refine w_iand X dX12_fits_147 ?_
      refine w_iconst (v := 1) X dX12_fits_148 (by decide) ?_
      refine w_icmp_ne (tgt := 156) X dX12_fits_149 (by decide) (fun h149 => ?_) (fun h149 => ?_)
      · refine w_iconst (v := 0) X dX12_fits_156 (by decide) ?_
        refine w_zrF X dX12_fits_157 (by first | exact Or.inl rfl | exact Or.inr rfl) ?_ rfl
        unfold ft_
        rw [hr]
        simp only [fo_]
        simp [h28, h149]
      · refine w_iconst (v := 1) X dX12_fits_152 (by decide) ?_
        refine w_goto (tgt := 157) X dX12_fits_153 (by decide) ?_
        refine w_zrF X dX12_fits_157 (by first | exact Or.inl rfl | exact Or.inr rfl) ?_ rfl
        unfold ft_
        rw [hr]
        simp only [fo_]
        simp [h28, h149]
    | succ u ih =>
      intro k dn w7 w8 w9 hu hr
      have lpi : ∀ (v p : Nat) (y : Int32) (w9 : Option Value), p + v = z → fi_ (pa_ M b) dn (nb_ (M.2.1 5 m) (nI k) (nI (ns_ (M.2.1 5 m) 12 0))) z 0 0 = fi_ (pa_ M b) dn (nb_ (M.2.1 5 m) (nI k) (nI (ns_ (M.2.1 5 m) 12 0))) v p y → wq_ C G (qe_ C G (fI_ (ft_ (pa_ M b) z (M.2.1 5 m)) M)) 37 [some (.ref (G.1 0)), some (.int (nI b)), some (.int (nI m)), some (.int (nI (ns_ (M.2.1 5 m) 12 0))), some (.int (nI z)), some (.int dn), some (.int (nI k)), some (.int y), some (.int (nI p)), w9] [] M := by
        intro v
        induction v with
        | zero =>
          intro p y w9 hp he
          refine w_iload X dX12_fits_37 rfl ?_
          refine w_iload X dX12_fits_39 rfl ?_
          refine w_icmp_ge (tgt := 126) X dX12_fits_41 (by decide) (fun h41 => ?_) (fun h41 => absurd (nI_le (by omega) (by omega)) h41)
          refine w_aload_n X dX12_fits_126 rfl rfl ?_
          refine w_iload_n X dX12_fits_127 rfl rfl ?_
          refine w_iload X dX12_fits_128 rfl ?_
          refine w_v2fI X dX12_fits_130 k12_starred rfl rfl (c12_starred G hG _ _ b z hb hz hz2 _) (Nat.le_of_ble_eq_true rfl) ?_
          refine w_istore X dX12_fits_133 (by decide) ?_
          refine w_iinc (v := 1) X dX12_fits_135 rfl (by decide) (by decide) ?_
          refine w_goto (tgt := 25) X dX12_fits_138 (by decide) ?_
          rw [nI_1]
          refine ih (k + 1) _ _ _ _ (by omega) ?_
          rw [hr]
          simp only [fo_]
          rw [he]
          simp only [fi_]
        | succ v ihv =>
          intro p y w9 hp he
          refine w_iload X dX12_fits_37 rfl ?_
          refine w_iload X dX12_fits_39 rfl ?_
          refine w_icmp_ge (tgt := 126) X dX12_fits_41 (by decide) (fun h41 => absurd h41 (nI_ge (by omega) (by omega))) (fun h41 => ?_)
          refine w_iload X dX12_fits_44 rfl ?_
          refine w_iload X dX12_fits_46 rfl ?_
          refine w_ishr X dX12_fits_48 ?_
          refine w_iconst (v := 1) X dX12_fits_49 (by decide) ?_
          refine w_iand X dX12_fits_50 ?_
          refine w_iconst (v := 1) X dX12_fits_51 (by decide) ?_
          refine w_icmp_ne (tgt := 120) X dX12_fits_52 (by decide) (fun h52 => ?_) (fun h52 => ?_)
          · refine w_iinc (v := 1) X dX12_fits_120 rfl (by decide) (by decide) ?_
            refine w_goto (tgt := 37) X dX12_fits_123 (by decide) ?_
            rw [nI_1]
            refine ihv (p + 1) _ _ (by omega) ?_
            rw [he]
            simp only [fi_]
            first | (simp [pa_, h41, h52]; done) | (rw [h103] at h73; simp [pa_, h41, h52]; done)
          · refine w_aload_n X dX12_fits_55 rfl rfl ?_
            refine g12_patterns X dX12_fits_56 ?_
            refine w_bipush (v := 12) X dX12_fits_59 (by decide) ?_
            refine w_iload_n X dX12_fits_61 rfl rfl ?_
            refine w_imul X dX12_fits_62 ?_
            refine w_iload X dX12_fits_63 rfl ?_
            refine w_iadd X dX12_fits_65 ?_
            rw [nI_12]
            refine w_ialoadN X dX12_fits_66 rfl rfl (by omega) ?_
            try simp only [gI_sI, gI_sL, gL_sI, gL_sL, false_and, and_false, and_self, if_false, if_true, reduceIte, Nat.reduceEqDiff]
            refine w_istore X dX12_fits_67 (by decide) ?_
            refine w_iload X dX12_fits_69 rfl ?_
            refine w_bipush (v := 42) X dX12_fits_71 (by decide) ?_
            refine w_icmp_ne (tgt := 86) X dX12_fits_73 (by decide) (fun h73 => ?_) (fun h73 => ?_)
            · refine w_iload X dX12_fits_86 rfl ?_
              refine w_bipush (v := 63) X dX12_fits_88 (by decide) ?_
              refine w_icmp_eq (tgt := 106) X dX12_fits_90 (by decide) (fun h90 => ?_) (fun h90 => ?_)
              · refine w_iload X dX12_fits_106 rfl ?_
                refine w_iconst (v := 2) X dX12_fits_108 (by decide) ?_
                refine w_iload X dX12_fits_109 rfl ?_
                refine w_ishl X dX12_fits_111 ?_
                refine w_ior X dX12_fits_112 ?_
                refine w_goto (tgt := 118) X dX12_fits_113 (by decide) ?_
                refine w_istore X dX12_fits_118 (by decide) ?_
                refine w_iinc (v := 1) X dX12_fits_120 rfl (by decide) (by decide) ?_
                refine w_goto (tgt := 37) X dX12_fits_123 (by decide) ?_
                rw [nI_1]
                refine ihv (p + 1) _ _ (by omega) ?_
                rw [he]
                simp only [fi_]
                first | (simp [pa_, h41, h52, h73, h90]; done) | (rw [h103] at h73; simp [pa_, h41, h52, h73, h90]; done)
              · refine w_iload X dX12_fits_93 rfl ?_
                refine w_aload_n X dX12_fits_95 rfl rfl ?_
                refine w_iload_n X dX12_fits_96 rfl rfl ?_
                refine w_iload X dX12_fits_97 rfl ?_
                refine w_iload_n X dX12_fits_99 rfl rfl ?_
                refine w_v3fI X dX12_fits_100 k12_nameByte rfl rfl (c12_nameByte G hG _ _ m hm _ _) (Nat.le_of_ble_eq_true rfl) ?_
                refine w_icmp_ne (tgt := 116) X dX12_fits_103 (by decide) (fun h103 => ?_) (fun h103 => ?_)
                · refine w_iload X dX12_fits_116 rfl ?_
                  refine w_istore X dX12_fits_118 (by decide) ?_
                  refine w_iinc (v := 1) X dX12_fits_120 rfl (by decide) (by decide) ?_
                  refine w_goto (tgt := 37) X dX12_fits_123 (by decide) ?_
                  rw [nI_1]
                  refine ihv (p + 1) _ _ (by omega) ?_
                  rw [he]
                  simp only [fi_]
                  first | (simp [pa_, h41, h52, h73, h90, h103]; done) | (rw [h103] at h73; simp [pa_, h41, h52, h73, h90, h103]; done)
                · refine w_iload X dX12_fits_106 rfl ?_
                  refine w_iconst (v := 2) X dX12_fits_108 (by decide) ?_
                  refine w_iload X dX12_fits_109 rfl ?_
                  refine w_ishl X dX12_fits_111 ?_
                  refine w_ior X dX12_fits_112 ?_
                  refine w_goto (tgt := 118) X dX12_fits_113 (by decide) ?_
                  refine w_istore X dX12_fits_118 (by decide) ?_
                  refine w_iinc (v := 1) X dX12_fits_120 rfl (by decide) (by decide) ?_
                  refine w_goto (tgt := 37) X dX12_fits_123 (by decide) ?_
                  rw [nI_1]
                  refine ihv (p + 1) _ _ (by omega) ?_
                  rw [he]
                  simp only [fi_]
                  first | (simp [pa_, h41, h52, h73, h90, h103]; done) | (rw [h103] at h73; simp [pa_, h41, h52, h73, h90, h103]; done)
            · refine w_iload X dX12_fits_76 rfl ?_
              refine w_iconst (v := 1) X dX12_fits_78 (by decide) ?_
              refine w_iload X dX12_fits_79 rfl ?_
              refine w_ishl X dX12_fits_81 ?_
              refine w_ior X dX12_fits_82 ?_
              refine w_goto (tgt := 118) X dX12_fits_83 (by decide) ?_
              refine w_istore X dX12_fits_118 (by decide) ?_
              refine w_iinc (v := 1) X dX12_fits_120 rfl (by decide) (by decide) ?_
              refine w_goto (tgt := 37) X dX12_fits_123 (by decide) ?_
              rw [nI_1]
              refine ihv (p + 1) _ _ (by omega) ?_
              rw [he]
              simp only [fi_]
              first | (simp [pa_, h41, h52, h73]; done) | (rw [h103] at h73; simp [pa_, h41, h52, h73]; done)
      refine w_iload X dX12_fits_25 rfl ?_
      refine w_iload_n X dX12_fits_27 rfl rfl ?_
      refine w_icmp_ge (tgt := 141) X dX12_fits_28 (by decide) (fun h28 => absurd h28 (nI_ge (by omega) (by omega))) (fun h28 => ?_)
      refine w_iconst (v := 0) X dX12_fits_31 (by decide) ?_
      refine w_istore X dX12_fits_32 (by decide) ?_
      refine w_iconst (v := 0) X dX12_fits_34 (by decide) ?_
      refine w_istore X dX12_fits_35 (by decide) ?_
      exact lpi z 0 0 _ (by omega) rfl
  refine w_aload_n X dX12_fits_0 rfl rfl ?_
  refine w_iload_n X dX12_fits_1 rfl rfl ?_
  refine w_v1fI X dX12_fits_2 k12_nameSize rfl rfl (c12_nameSize G hG _ _ m hm) (Nat.le_of_ble_eq_true rfl) ?_
  refine w_istore_n X dX12_fits_5 rfl (by decide) ?_
  refine w_aload_n X dX12_fits_6 rfl rfl ?_
  refine g12_patternSizes X dX12_fits_7 ?_
  refine w_iload_n X dX12_fits_10 rfl rfl ?_
  refine w_ialoadN X dX12_fits_11 rfl rfl (by omega) ?_
  try simp only [gI_sI, gI_sL, gL_sI, gL_sL, false_and, and_false, and_self, if_false, if_true, reduceIte, Nat.reduceEqDiff, hz]
  refine w_istore X dX12_fits_12 (by decide) ?_
  refine w_aload_n X dX12_fits_14 rfl rfl ?_
  refine w_iload_n X dX12_fits_15 rfl rfl ?_
  refine w_iconst (v := 1) X dX12_fits_16 (by decide) ?_
  refine w_v2fI X dX12_fits_17 k12_starred rfl rfl (c12_starred G hG _ _ b z hb hz hz2 _) (Nat.le_of_ble_eq_true rfl) ?_
  refine w_istore X dX12_fits_20 (by decide) ?_
  refine w_iconst (v := 0) X dX12_fits_22 (by decide) ?_
  refine w_istore X dX12_fits_23 (by decide) ?_
  exact lp _ 0 _ _ _ _ (by omega) rfl
