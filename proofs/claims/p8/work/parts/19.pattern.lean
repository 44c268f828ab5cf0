/-! patterns, small numbers, jobs -/
theorem fa_0 {M : mm_} {f w : Int32} (h : M.1 0 3 = 0) : fa_ M f w = sI_ (sI_ M 0 3 f) 0 4 w := if_pos h
theorem fa_1 {M : mm_} {f w : Int32} (h : ¬ M.1 0 3 = 0) : fa_ M f w = M := if_neg h
def rq_ (n : Nat) : Nat → mm_ → Nat → Nat → mm_
  | 0, M, _, _ => M
  | u + 1, M, k, p => if 32 < bf_ M n k then (if io_ (bf_ M n k) = 0 ∧ ¬ bf_ M n k = 42 ∧ ¬ bf_ M n k = 63 then fa_ M 1 (nI k) else if p = 12 then fa_ M 3 (nI k) else rq_ n u (sI_ (sI_ (sI_ M 19 p (bf_ M n k)) 0 33 (nI (p + 1))) 0 5 (nI (k + 1))) (k + 1) (p + 1)) else M
def rp_ (M : mm_) (n k : Nat) : mm_ := if sp_ M n k < n then rq_ n (n - sp_ M n k) (sI_ (sI_ M 0 5 (nI (sp_ M n k))) 0 33 0) (sp_ M n k) 0 else fa_ (sI_ (sI_ M 0 5 (nI (sp_ M n k))) 0 33 0) 1 (nI (sp_ M n k))
def dw_ (v c : Int32) : Int32 := if v * 10 + c - 48 ≤ 999 then v * 10 + c - 48 else 999
def dv_ (f : Nat → Int32) : Nat → Nat → Int32 → Nat × Int32
  | 0, k, v => (k, v)
  | u + 1, k, v => if ig_ (f k) = 1 then dv_ f u (k + 1) (dw_ v (f k)) else (k, v)
theorem ig_bf {M : mm_} {n k : Nat} (h : ¬ k < n) : ig_ (bf_ M n k) = 0 := by
  unfold bf_
  rw [if_neg h]
  decide +kernel
theorem dv_le (f : Nat → Int32) : ∀ u k v, k ≤ (dv_ f u k v).1 ∧ (dv_ f u k v).1 ≤ k + u
  | 0, k, v => ⟨Nat.le_refl _, Nat.le_refl _⟩
  | u + 1, k, v => by
    unfold dv_
    split
    · have := dv_le f u (k + 1) (dw_ v (f k)); omega
    · simp
set_option maxRecDepth 100000 in
set_option maxHeartbeats 4000000 in
theorem c12_readPattern (G : gg_) (hG : gd_ G) (d : Nat) (M : mm_) (n k : Nat) (ht : tz_ M n) (ha : M.1 0 5 = nI k) (hk : k < 536870912) (hf : M.1 0 3 = 0) : cm_ G yX12_readPattern cX12_readPattern 2 none (d + 2) [.ref (G.1 0)] M (fV_ (rp_ M n k)) := by
  refine cm_of hG (by decide) (Nat.le_of_ble_eq_true rfl) (fun C X => ?_)
  generalize hR : rp_ M n k = R
  have lpf : ∀ (N : mm_) (w1 : Option Value), ¬ N.1 0 3 = 0 → N = R → wq_ C G (qe_ C G (fV_ R)) 29 [some (.ref (G.1 0)), w1] [] N := by
    intro N w1 h3 hr
    refine w_aload_n X dX12_readPattern_29 rfl rfl ?_
    refine g12_fault X dX12_readPattern_30 ?_
    refine w_if_ne (tgt := 156) X dX12_readPattern_33 (by decide) (fun h33 => ?_) (fun h33 => absurd h33 h3)
    exact w_vrF X dX12_readPattern_156 hr
  have lp : ∀ (u : Nat) (N : mm_) (q p : Nat) (w1 : Option Value), tz_ N n → N.1 0 5 = nI q → N.1 0 33 = nI p → p ≤ 12 → N.1 0 3 = 0 → u = n - q → q < 1073741824 → R = rq_ n u N q p → wq_ C G (qe_ C G (fV_ R)) 29 [some (.ref (G.1 0)), w1] [] N := by
    intro u
    induction u with
    | zero =>
      intro N q p w1 hz h5 hp hp2 h3 hu hq hr
      have hn := hz.2
      refine w_aload_n X dX12_readPattern_29 rfl rfl ?_
      refine g12_fault X dX12_readPattern_30 ?_
      try simp only [gI_sI, gI_sL, gL_sI, gL_sL, false_and, and_false, and_self, if_false, if_true, reduceIte, Nat.reduceEqDiff, hz.1, h5, hp, h3]
      refine w_if_ne (tgt := 156) X dX12_readPattern_33 (by decide) (fun h33 => absurd rfl h33) (fun h33 => ?_)
      refine w_aload_n X dX12_readPattern_36 rfl rfl ?_
      refine g12_at X dX12_readPattern_37 ?_
      try simp only [gI_sI, gI_sL, gL_sI, gL_sL, false_and, and_false, and_self, if_false, if_true, reduceIte, Nat.reduceEqDiff, hz.1, h5, hp, h3]
      refine w_aload_n X dX12_readPattern_40 rfl rfl ?_
      refine g12_size X dX12_readPattern_41 ?_
      try simp only [gI_sI, gI_sL, gL_sI, gL_sL, false_and, and_false, and_self, if_false, if_true, reduceIte, Nat.reduceEqDiff, hz.1, h5, hp, h3]
      refine w_icmp_ge (tgt := 156) X dX12_readPattern_44 (by decide) (fun h44 => ?_) (fun h44 => absurd (nI_le (by omega) (by omega)) h44)
      exact w_vrF X dX12_readPattern_156 (by rw [hr]; rfl)
    | succ u ih =>
      intro N q p w1 hz h5 hp hp2 h3 hu hq hr
      have hn := hz.2
      have eb : bf_ N n q = N.1 1 q := if_pos (by omega)
      refine w_aload_n X dX12_readPattern_29 rfl rfl ?_
      refine g12_fault X dX12_readPattern_30 ?_
      try simp only [gI_sI, gI_sL, gL_sI, gL_sL, false_and, and_false, and_self, if_false, if_true, reduceIte, Nat.reduceEqDiff, hz.1, h5, hp, h3]
      refine w_if_ne (tgt := 156) X dX12_readPattern_33 (by decide) (fun h33 => absurd rfl h33) (fun h33 => ?_)
      refine w_aload_n X dX12_readPattern_36 rfl rfl ?_
      refine g12_at X dX12_readPattern_37 ?_
      try simp only [gI_sI, gI_sL, gL_sI, gL_sL, false_and, and_false, and_self, if_false, if_true, reduceIte, Nat.reduceEqDiff, hz.1, h5, hp, h3]
      refine w_aload_n X dX12_readPattern_40 rfl rfl ?_
      refine g12_size X dX12_readPattern_41 ?_
      try simp only [gI_sI, gI_sL, gL_sI, gL_sL, false_and, and_false, and_self, if_false, if_true, reduceIte, Nat.reduceEqDiff, hz.1, h5, hp, h3]
      refine w_icmp_ge (tgt := 156) X dX12_readPattern_44 (by decide) (fun h44 => absurd h44 (nI_ge (by omega) (by omega))) (fun h44 => ?_)
      refine w_aload_n X dX12_readPattern_47 rfl rfl ?_
      refine g12_tape X dX12_readPattern_48 ?_
      refine w_aload_n X dX12_readPattern_51 rfl rfl ?_
      refine g12_at X dX12_readPattern_52 ?_
      try simp only [gI_sI, gI_sL, gL_sI, gL_sL, false_and, and_false, and_self, if_false, if_true, reduceIte, Nat.reduceEqDiff, hz.1, h5, hp, h3]
      refine w_ialoadN X dX12_readPattern_55 rfl rfl (by omega) ?_
      try simp only [gI_sI, gI_sL, gL_sI, gL_sL, false_and, and_false, and_self, if_false, if_true, reduceIte, Nat.reduceEqDiff, hz.1, h5, hp, h3]
      refine w_bipush (v := 32) X dX12_readPattern_56 (by decide) ?_
      refine w_icmp_le (tgt := 156) X dX12_readPattern_58 (by decide) (fun h58 => ?_) (fun h58 => ?_)
      · refine w_vrF X dX12_readPattern_156 ?_
        rw [hr]
        simp only [rq_]
        rw [if_neg (by rw [eb]; exact Int32.not_lt.mpr h58)]
      · refine w_aload_n X dX12_readPattern_61 rfl rfl ?_
        refine g12_tape X dX12_readPattern_62 ?_
        refine w_aload_n X dX12_readPattern_65 rfl rfl ?_
        refine g12_at X dX12_readPattern_66 ?_
        try simp only [gI_sI, gI_sL, gL_sI, gL_sL, false_and, and_false, and_self, if_false, if_true, reduceIte, Nat.reduceEqDiff, hz.1, h5, hp, h3]
        refine w_ialoadN X dX12_readPattern_69 rfl rfl (by omega) ?_
        try simp only [gI_sI, gI_sL, gL_sI, gL_sL, false_and, and_false, and_self, if_false, if_true, reduceIte, Nat.reduceEqDiff, hz.1, h5, hp, h3]
        refine w_istore_n X dX12_readPattern_70 rfl (by decide) ?_
        refine w_iload_n X dX12_readPattern_71 rfl rfl ?_
        refine w_s1fI X dX12_readPattern_72 k12_isOfRow (c12_isOfRow G hG _ _ _) (Nat.le_of_ble_eq_true rfl) ?_
        refine w_if_ne (tgt := 102) X dX12_readPattern_75 (by decide) (fun h75 => ?_) (fun h75 => ?_)
        · refine w_aload_n X dX12_readPattern_102 rfl rfl ?_
          refine g12_newPatternSize X dX12_readPattern_103 ?_
          try simp only [gI_sI, gI_sL, gL_sI, gL_sL, false_and, and_false, and_self, if_false, if_true, reduceIte, Nat.reduceEqDiff, hz.1, h5, hp, h3]
          refine w_bipush (v := 12) X dX12_readPattern_106 (by decide) ?_
          refine w_icmp_ne (tgt := 123) X dX12_readPattern_108 (by decide) (fun h108 => ?_) (fun h108 => ?_)
          · have e108 : ¬ p = 12 := fun q => h108 (by rw [q]; rfl)
            refine w_aload_n X dX12_readPattern_123 rfl rfl ?_
            refine g12_newPattern X dX12_readPattern_124 ?_
            refine w_aload_n X dX12_readPattern_127 rfl rfl ?_
            refine g12_newPatternSize X dX12_readPattern_128 ?_
            try simp only [gI_sI, gI_sL, gL_sI, gL_sL, false_and, and_false, and_self, if_false, if_true, reduceIte, Nat.reduceEqDiff, hz.1, h5, hp, h3]
            refine w_iload_n X dX12_readPattern_131 rfl rfl ?_
            refine w_iastoreN X dX12_readPattern_132 rfl rfl (by have : ¬ p = 12 := e108; omega) ?_
            refine w_aload_n X dX12_readPattern_133 rfl rfl ?_
            refine w_dup X dX12_readPattern_134 rfl ?_
            refine g12_newPatternSize X dX12_readPattern_135 ?_
            try simp only [gI_sI, gI_sL, gL_sI, gL_sL, false_and, and_false, and_self, if_false, if_true, reduceIte, Nat.reduceEqDiff, hz.1, h5, hp, h3]
            refine w_iconst (v := 1) X dX12_readPattern_138 (by decide) ?_
            refine w_iadd X dX12_readPattern_139 ?_
            refine p12_newPatternSize X dX12_readPattern_140 ?_
            refine w_aload_n X dX12_readPattern_143 rfl rfl ?_
            refine w_dup X dX12_readPattern_144 rfl ?_
            refine g12_at X dX12_readPattern_145 ?_
            try simp only [gI_sI, gI_sL, gL_sI, gL_sL, false_and, and_false, and_self, if_false, if_true, reduceIte, Nat.reduceEqDiff, hz.1, h5, hp, h3]
            refine w_iconst (v := 1) X dX12_readPattern_148 (by decide) ?_
            refine w_iadd X dX12_readPattern_149 ?_
            refine p12_at X dX12_readPattern_150 ?_
            refine w_goto (tgt := 29) X dX12_readPattern_153 (by decide) ?_
            rw [nI_1, nI_1]
            refine ih _ (q + 1) (p + 1) _ (tz_sI (tz_sI (tz_sI hz (by omega)) (by omega)) (by omega)) (by simp [sI_]) (by simp [sI_]) (by omega) (by simp [sI_, h3]) (by omega) (by omega) ?_
            rw [hr]
            simp only [rq_]
            simp [eb, h3, h3, h58, h75, e108]
          · have e108 : p = 12 := (nI_eq (b := 12) (by omega) (by omega)).mp h108
            refine w_aload_n X dX12_readPattern_111 rfl rfl ?_
            refine w_iconst (v := 3) X dX12_readPattern_112 (by decide) ?_
            refine w_aload_n X dX12_readPattern_113 rfl rfl ?_
            refine g12_at X dX12_readPattern_114 ?_
            try simp only [gI_sI, gI_sL, gL_sI, gL_sL, false_and, and_false, and_self, if_false, if_true, reduceIte, Nat.reduceEqDiff, hz.1, h5, hp, h3]
            refine w_v2fV X dX12_readPattern_117 k12_fail rfl rfl (c12_fail G hG _ _ _ _) (Nat.le_of_ble_eq_true rfl) ?_
            rw [fa_0 h3]
            refine w_goto (tgt := 153) X dX12_readPattern_120 (by decide) ?_
            refine w_goto (tgt := 29) X dX12_readPattern_153 (by decide) ?_
            refine lpf _ _ (by simp [sI_]) ?_
            rw [hr]
            simp only [rq_]
            simp [eb, h3, h3, h58, h75, e108, fa_0 h3]
        · refine w_iload_n X dX12_readPattern_78 rfl rfl ?_
          refine w_bipush (v := 42) X dX12_readPattern_79 (by decide) ?_
          refine w_icmp_eq (tgt := 102) X dX12_readPattern_81 (by decide) (fun h81 => ?_) (fun h81 => ?_)
          · refine w_aload_n X dX12_readPattern_102 rfl rfl ?_
            refine g12_newPatternSize X dX12_readPattern_103 ?_
            try simp only [gI_sI, gI_sL, gL_sI, gL_sL, false_and, and_false, and_self, if_false, if_true, reduceIte, Nat.reduceEqDiff, hz.1, h5, hp, h3]
            refine w_bipush (v := 12) X dX12_readPattern_106 (by decide) ?_
            refine w_icmp_ne (tgt := 123) X dX12_readPattern_108 (by decide) (fun h108 => ?_) (fun h108 => ?_)
            · have e108 : ¬ p = 12 := fun q => h108 (by rw [q]; rfl)
              refine w_aload_n X dX12_readPattern_123 rfl rfl ?_
              refine g12_newPattern X dX12_readPattern_124 ?_
              refine w_aload_n X dX12_readPattern_127 rfl rfl ?_
              refine g12_newPatternSize X dX12_readPattern_128 ?_
              try simp only [gI_sI, gI_sL, gL_sI, gL_sL, false_and, and_false, and_self, if_false, if_true, reduceIte, Nat.reduceEqDiff, hz.1, h5, hp, h3]
              refine w_iload_n X dX12_readPattern_131 rfl rfl ?_
              refine w_iastoreN X dX12_readPattern_132 rfl rfl (by have : ¬ p = 12 := e108; omega) ?_
              refine w_aload_n X dX12_readPattern_133 rfl rfl ?_
              refine w_dup X dX12_readPattern_134 rfl ?_
              refine g12_newPatternSize X dX12_readPattern_135 ?_
              try simp only [gI_sI, gI_sL, gL_sI, gL_sL, false_and, and_false, and_self, if_false, if_true, reduceIte, Nat.reduceEqDiff, hz.1, h5, hp, h3]
              refine w_iconst (v := 1) X dX12_readPattern_138 (by decide) ?_
              refine w_iadd X dX12_readPattern_139 ?_
              refine p12_newPatternSize X dX12_readPattern_140 ?_
              refine w_aload_n X dX12_readPattern_143 rfl rfl ?_
              refine w_dup X dX12_readPattern_144 rfl ?_
              refine g12_at X dX12_readPattern_145 ?_
              try simp only [gI_sI, gI_sL, gL_sI, gL_sL, false_and, and_false, and_self, if_false, if_true, reduceIte, Nat.reduceEqDiff, hz.1, h5, hp, h3]
              refine w_iconst (v := 1) X dX12_readPattern_148 (by decide) ?_
              refine w_iadd X dX12_readPattern_149 ?_
              refine p12_at X dX12_readPattern_150 ?_
              refine w_goto (tgt := 29) X dX12_readPattern_153 (by decide) ?_
              rw [nI_1, nI_1]
              refine ih _ (q + 1) (p + 1) _ (tz_sI (tz_sI (tz_sI hz (by omega)) (by omega)) (by omega)) (by simp [sI_]) (by simp [sI_]) (by omega) (by simp [sI_, h3]) (by omega) (by omega) ?_
              rw [hr]
              simp only [rq_]
              simp [eb, h3, h3, h58, h75, h81, e108]
            · have e108 : p = 12 := (nI_eq (b := 12) (by omega) (by omega)).mp h108
              refine w_aload_n X dX12_readPattern_111 rfl rfl ?_
              refine w_iconst (v := 3) X dX12_readPattern_112 (by decide) ?_
              refine w_aload_n X dX12_readPattern_113 rfl rfl ?_
              refine g12_at X dX12_readPattern_114 ?_
              try simp only [gI_sI, gI_sL, gL_sI, gL_sL, false_and, and_false, and_self, if_false, if_true, reduceIte, Nat.reduceEqDiff, hz.1, h5, hp, h3]
              refine w_v2fV X dX12_readPattern_117 k12_fail rfl rfl (c12_fail G hG _ _ _ _) (Nat.le_of_ble_eq_true rfl) ?_
              rw [fa_0 h3]
              refine w_goto (tgt := 153) X dX12_readPattern_120 (by decide) ?_
              refine w_goto (tgt := 29) X dX12_readPattern_153 (by decide) ?_
              refine lpf _ _ (by simp [sI_]) ?_
              rw [hr]
              simp only [rq_]
              simp [eb, h3, h3, h58, h75, h81, e108, fa_0 h3]
          · refine w_iload_n X dX12_readPattern_84 rfl rfl ?_
            refine w_bipush (v := 63) X dX12_readPattern_85 (by decide) ?_
            refine w_icmp_eq (tgt := 102) X dX12_readPattern_87 (by decide) (fun h87 => ?_) (fun h87 => ?_)
            · refine w_aload_n X dX12_readPattern_102 rfl rfl ?_
              refine g12_newPatternSize X dX12_readPattern_103 ?_
              try simp only [gI_sI, gI_sL, gL_sI, gL_sL, false_and, and_false, and_self, if_false, if_true, reduceIte, Nat.reduceEqDiff, hz.1, h5, hp, h3]
              refine w_bipush (v := 12) X dX12_readPattern_106 (by decide) ?_
              refine w_icmp_ne (tgt := 123) X dX12_readPattern_108 (by decide) (fun h108 => ?_) (fun h108 => ?_)
              · have e108 : ¬ p = 12 := fun q => h108 (by rw [q]; rfl)
                refine w_aload_n X dX12_readPattern_123 rfl rfl ?_
                refine g12_newPattern X dX12_readPattern_124 ?_
                refine w_aload_n X dX12_readPattern_127 rfl rfl ?_
                refine g12_newPatternSize X dX12_readPattern_128 ?_
                try simp only [gI_sI, gI_sL, gL_sI, gL_sL, false_and, and_false, and_self, if_false, if_true, reduceIte, Nat.reduceEqDiff, hz.1, h5, hp, h3]
                refine w_iload_n X dX12_readPattern_131 rfl rfl ?_
                refine w_iastoreN X dX12_readPattern_132 rfl rfl (by have : ¬ p = 12 := e108; omega) ?_
                refine w_aload_n X dX12_readPattern_133 rfl rfl ?_
                refine w_dup X dX12_readPattern_134 rfl ?_
                refine g12_newPatternSize X dX12_readPattern_135 ?_
                try simp only [gI_sI, gI_sL, gL_sI, gL_sL, false_and, and_false, and_self, if_false, if_true, reduceIte, Nat.reduceEqDiff, hz.1, h5, hp, h3]
                refine w_iconst (v := 1) X dX12_readPattern_138 (by decide) ?_
                refine w_iadd X dX12_readPattern_139 ?_
                refine p12_newPatternSize X dX12_readPattern_140 ?_
                refine w_aload_n X dX12_readPattern_143 rfl rfl ?_
                refine w_dup X dX12_readPattern_144 rfl ?_
                refine g12_at X dX12_readPattern_145 ?_
                try simp only [gI_sI, gI_sL, gL_sI, gL_sL, false_and, and_false, and_self, if_false, if_true, reduceIte, Nat.reduceEqDiff, hz.1, h5, hp, h3]
                refine w_iconst (v := 1) X dX12_readPattern_148 (by decide) ?_
                refine w_iadd X dX12_readPattern_149 ?_
                refine p12_at X dX12_readPattern_150 ?_
                refine w_goto (tgt := 29) X dX12_readPattern_153 (by decide) ?_
                rw [nI_1, nI_1]
                refine ih _ (q + 1) (p + 1) _ (tz_sI (tz_sI (tz_sI hz (by omega)) (by omega)) (by omega)) (by simp [sI_]) (by simp [sI_]) (by omega) (by simp [sI_, h3]) (by omega) (by omega) ?_
                rw [hr]
                simp only [rq_]
                simp [eb, h3, h3, h58, h75, h81, h87, e108]
              · have e108 : p = 12 := (nI_eq (b := 12) (by omega) (by omega)).mp h108
                refine w_aload_n X dX12_readPattern_111 rfl rfl ?_
                refine w_iconst (v := 3) X dX12_readPattern_112 (by decide) ?_
                refine w_aload_n X dX12_readPattern_113 rfl rfl ?_
                refine g12_at X dX12_readPattern_114 ?_
                try simp only [gI_sI, gI_sL, gL_sI, gL_sL, false_and, and_false, and_self, if_false, if_true, reduceIte, Nat.reduceEqDiff, hz.1, h5, hp, h3]
                refine w_v2fV X dX12_readPattern_117 k12_fail rfl rfl (c12_fail G hG _ _ _ _) (Nat.le_of_ble_eq_true rfl) ?_
                rw [fa_0 h3]
                refine w_goto (tgt := 153) X dX12_readPattern_120 (by decide) ?_
                refine w_goto (tgt := 29) X dX12_readPattern_153 (by decide) ?_
                refine lpf _ _ (by simp [sI_]) ?_
                rw [hr]
                simp only [rq_]
                simp [eb, h3, h3, h58, h75, h81, h87, e108, fa_0 h3]
            · refine w_aload_n X dX12_readPattern_90 rfl rfl ?_
              refine w_iconst (v := 1) X dX12_readPattern_91 (by decide) ?_
              refine w_aload_n X dX12_readPattern_92 rfl rfl ?_
              refine g12_at X dX12_readPattern_93 ?_
              try simp only [gI_sI, gI_sL, gL_sI, gL_sL, false_and, and_false, and_self, if_false, if_true, reduceIte, Nat.reduceEqDiff, hz.1, h5, hp, h3]
              refine w_v2fV X dX12_readPattern_96 k12_fail rfl rfl (c12_fail G hG _ _ _ _) (Nat.le_of_ble_eq_true rfl) ?_
              rw [fa_0 h3]
              refine w_goto (tgt := 153) X dX12_readPattern_99 (by decide) ?_
              refine w_goto (tgt := 29) X dX12_readPattern_153 (by decide) ?_
              refine lpf _ _ (by simp [sI_]) ?_
              rw [hr]
              simp only [rq_]
              simp [eb, h3, h3, h58, h75, h81, h87, fa_0 h3]
  refine w_aload_n X dX12_readPattern_0 rfl rfl ?_
  refine w_v0fV X dX12_readPattern_1 k12_skip rfl rfl (c12_skip G hG _ _ n k ht ha (by omega)) (Nat.le_of_ble_eq_true rfl) ?_
  have hn := ht.2
  have hq : sp_ M n k < 1073741824 := by have := (sk_ge (bf_ M n) (n - k) k).2; unfold sp_; omega
  refine w_aload_n X dX12_readPattern_4 rfl rfl ?_
  refine w_iconst (v := 0) X dX12_readPattern_5 (by decide) ?_
  refine p12_newPatternSize X dX12_readPattern_6 ?_
  refine w_aload_n X dX12_readPattern_9 rfl rfl ?_
  refine g12_at X dX12_readPattern_10 ?_
  try simp only [gI_sI, gI_sL, gL_sI, gL_sL, false_and, and_false, and_self, if_false, if_true, reduceIte, Nat.reduceEqDiff, ht.1]
  refine w_aload_n X dX12_readPattern_13 rfl rfl ?_
  refine g12_size X dX12_readPattern_14 ?_
  try simp only [gI_sI, gI_sL, gL_sI, gL_sL, false_and, and_false, and_self, if_false, if_true, reduceIte, Nat.reduceEqDiff, ht.1]
  refine w_icmp_lt (tgt := 29) X dX12_readPattern_17 (by decide) (fun h17 => ?_) (fun h17 => ?_)
  · have e17 : sp_ M n k < n := (nI_ltI (by omega) (by omega)).mp h17
    refine lp (n - sp_ M n k) _ (sp_ M n k) 0 _ (tz_sI (tz_sI ht (by omega)) (by omega)) (by simp [sI_]) (by simp [sI_]; rfl) (by omega) (by simp [sI_, hf]) rfl (by omega) ?_
    rw [← hR]
    unfold rp_
    rw [if_pos e17]
  · have e17 : ¬ sp_ M n k < n := fun q => h17 ((nI_ltI (by omega) (by omega)).mpr q)
    refine w_aload_n X dX12_readPattern_20 rfl rfl ?_
    refine w_iconst (v := 1) X dX12_readPattern_21 (by decide) ?_
    refine w_aload_n X dX12_readPattern_22 rfl rfl ?_
    refine g12_at X dX12_readPattern_23 ?_
    try simp only [gI_sI, gI_sL, gL_sI, gL_sL, false_and, and_false, and_self, if_false, if_true, reduceIte, Nat.reduceEqDiff, ht.1]
    refine w_v2fV X dX12_readPattern_26 k12_fail rfl rfl (c12_fail G hG _ _ _ _) (Nat.le_of_ble_eq_true rfl) ?_
    rw [fa_0 (by simp [sI_, hf])]
    refine lpf _ _ (by simp [sI_]) ?_
    rw [← hR]
    unfold rp_
    rw [if_neg e17, fa_0 (by simp [sI_, hf])]
