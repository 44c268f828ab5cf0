def vv_ (c : Int32) : Int32 := if c = 114 then 3 else if c = 120 then 4 else if c = 110 then 5 else if c = 107 then 6 else c - 97
def ow_ (c : Int32) : Int32 := if 97 ≤ c ∧ c ≤ 99 then 1 else 0
theorem ow_01 (c : Int32) : ow_ c = 0 ∨ ow_ c = 1 := by unfold ow_; split <;> simp
def vo_ (M : mm_) (c : Int32) : Int32 := if (¬ ow_ c = 0 ∧ vv_ c < M.1 0 15) ∨ (¬ M.1 0 14 = 0 ∧ (¬ ow_ c = 0 ∨ (¬ vv_ c < 3 ∧ ¬ 6 < vv_ c ∧ ¬ c = 100 ∧ ¬ c = 101 ∧ ¬ c = 102 ∧ ¬ c = 103))) then vv_ c else -1
theorem nI_k (n : Nat) (k : Nat) (x : Int32) (h : x = nI k) : nI n + x = nI (n + k) := by rw [h, nI_add]
/-- a record more, if there is room -/
def rc_ (M : mm_) (c : Nat) (j m e : Int32) : mm_ := if c < 300 then sI_ (sI_ (sI_ (sI_ (sI_ (sI_ M 21 (5 * c) j) 21 (5 * c + 1) m) 21 (5 * c + 2) (M.1 0 58)) 21 (5 * c + 3) (if M.1 0 59 = 0 then 0 else 1)) 21 (5 * c + 4) e) 0 35 (nI (c + 1)) else M
def rd_ (M : mm_) (c b : Nat) (m e : Int32) : mm_ := if M.1 15 b + 1 = M.1 14 b then sI_ (sI_ (rc_ M c (nI b) m e) 15 b (M.1 15 b + 1)) 12 b 0 else sI_ (rc_ M c (nI b) m e) 15 b (M.1 15 b + 1)
def kp_ (M : mm_) (c e : Nat) : Nat → mm_
  | 0 => M
  | j + 1 => sI_ (kp_ M c e j) 22 (7 * c + 2 + j) (M.1 24 (3 * e + j))
theorem kp_I {M : mm_} {c e : Nat} : ∀ (j : Nat) (a i : Nat), a ≠ 22 → (kp_ M c e j).1 a i = M.1 a i
  | 0, a, i, h => rfl
  | j + 1, a, i, h => by rw [kp_, sI_ne _ _ _ _ (fun q => h q.1), kp_I j a i h]
def ko_ (M : mm_) (c e : Nat) (j pt v : Int32) : mm_ := if c = 40 then M else sI_ (sI_ (sI_ (kp_ (sI_ (sI_ M 22 (7 * c) j) 22 (7 * c + 1) (M.1 23 e)) c e 3) 22 (7 * c + 5) (pt - 1)) 22 (7 * c + 6) v) 0 37 (nI (c + 1))
set_option maxRecDepth 100000 in
set_option maxHeartbeats 4000000 in
theorem c12_variableOf (G : gg_) (hG : gd_ G) (d : Nat) (M : mm_) (c : Int32) : cm_ G yX12_variableOf cX12_variableOf 4 (some .int) d [.ref (G.1 0), .int c] M (fI_ (vo_ M c) M) := by
  refine cm_of hG (by decide) (Nat.le_of_ble_eq_true rfl) (fun C X => ?_)
  have j64 : ∀ w v : Int32, w = ow_ c → v = vv_ c → wq_ C G (qe_ C G (fI_ (vo_ M c) M)) 64 [some (.ref (G.1 0)), some (.int c), some (.int v), some (.int w)] [] M := by
    intro w v hw hv
    refine w_iload_n X dX12_variableOf_64 rfl rfl ?_
    refine w_if_eq (tgt := 76) X dX12_variableOf_65 (by decide) (fun h65 => ?_) (fun h65 => ?_)
    · refine w_aload_n X dX12_variableOf_76 rfl rfl ?_
      refine g12_inCommand X dX12_variableOf_77 ?_
      refine w_if_eq (tgt := 126) X dX12_variableOf_80 (by decide) (fun h80 => ?_) (fun h80 => ?_)
      · refine w_iconst (v := -1) X dX12_variableOf_126 (by decide) ?_
        refine w_irF X dX12_variableOf_127 ?_ rfl
        unfold vo_
        rw [← hw, ← hv]
        first | (simp [h65, h80]; done) | (simp_all; done)
      · refine w_iload_n X dX12_variableOf_83 rfl rfl ?_
        refine w_if_ne (tgt := 122) X dX12_variableOf_84 (by decide) (fun h84 => absurd h65 h84) (fun h84 => ?_)
        refine w_iload_n X dX12_variableOf_87 rfl rfl ?_
        refine w_iconst (v := 3) X dX12_variableOf_88 (by decide) ?_
        refine w_icmp_lt (tgt := 126) X dX12_variableOf_89 (by decide) (fun h89 => ?_) (fun h89 => ?_)
        · refine w_iconst (v := -1) X dX12_variableOf_126 (by decide) ?_
          refine w_irF X dX12_variableOf_127 ?_ rfl
          unfold vo_
          rw [← hw, ← hv]
          first | (simp [h65, h80, h84, h89]; done) | (simp_all; done)
        · refine w_iload_n X dX12_variableOf_92 rfl rfl ?_
          refine w_bipush (v := 6) X dX12_variableOf_93 (by decide) ?_
          refine w_icmp_gt (tgt := 126) X dX12_variableOf_95 (by decide) (fun h95 => ?_) (fun h95 => ?_)
          · refine w_iconst (v := -1) X dX12_variableOf_126 (by decide) ?_
            refine w_irF X dX12_variableOf_127 ?_ rfl
            unfold vo_
            rw [← hw, ← hv]
            first | (simp [h65, h80, h84, h89, h95]; done) | (simp_all; done)
          · refine w_iload_n X dX12_variableOf_98 rfl rfl ?_
            refine w_bipush (v := 100) X dX12_variableOf_99 (by decide) ?_
            refine w_icmp_eq (tgt := 126) X dX12_variableOf_101 (by decide) (fun h101 => ?_) (fun h101 => ?_)
            · refine w_iconst (v := -1) X dX12_variableOf_126 (by decide) ?_
              refine w_irF X dX12_variableOf_127 ?_ rfl
              unfold vo_
              rw [← hw, ← hv]
              first | (simp [h65, h80, h84, h89, h95, h101]; done) | (simp_all; done)
            · refine w_iload_n X dX12_variableOf_104 rfl rfl ?_
              refine w_bipush (v := 101) X dX12_variableOf_105 (by decide) ?_
              refine w_icmp_eq (tgt := 126) X dX12_variableOf_107 (by decide) (fun h107 => ?_) (fun h107 => ?_)
              · refine w_iconst (v := -1) X dX12_variableOf_126 (by decide) ?_
                refine w_irF X dX12_variableOf_127 ?_ rfl
                unfold vo_
                rw [← hw, ← hv]
                first | (simp [h65, h80, h84, h89, h95, h101, h107]; done) | (simp_all; done)
              · refine w_iload_n X dX12_variableOf_110 rfl rfl ?_
                refine w_bipush (v := 102) X dX12_variableOf_111 (by decide) ?_
                refine w_icmp_eq (tgt := 126) X dX12_variableOf_113 (by decide) (fun h113 => ?_) (fun h113 => ?_)
                · refine w_iconst (v := -1) X dX12_variableOf_126 (by decide) ?_
                  refine w_irF X dX12_variableOf_127 ?_ rfl
                  unfold vo_
                  rw [← hw, ← hv]
                  first | (simp [h65, h80, h84, h89, h95, h101, h107, h113]; done) | (simp_all; done)
                · refine w_iload_n X dX12_variableOf_116 rfl rfl ?_
                  refine w_bipush (v := 103) X dX12_variableOf_117 (by decide) ?_
                  refine w_icmp_eq (tgt := 126) X dX12_variableOf_119 (by decide) (fun h119 => ?_) (fun h119 => ?_)
                  · refine w_iconst (v := -1) X dX12_variableOf_126 (by decide) ?_
                    refine w_irF X dX12_variableOf_127 ?_ rfl
                    unfold vo_
                    rw [← hw, ← hv]
                    first | (simp [h65, h80, h84, h89, h95, h101, h107, h113, h119]; done) | (simp_all; done)
                  · refine w_iload_n X dX12_variableOf_122 rfl rfl ?_
                    refine w_goto (tgt := 127) X dX12_variableOf_123 (by decide) ?_
                    refine w_irF X dX12_variableOf_127 ?_ rfl
                    unfold vo_
                    rw [← hw, ← hv]
                    first | (simp [h65, h80, h84, h89, h95, h101, h107, h113, h119]; done) | (simp_all; done)
    · refine w_iload_n X dX12_variableOf_68 rfl rfl ?_
      refine w_aload_n X dX12_variableOf_69 rfl rfl ?_
      refine g12_variables X dX12_variableOf_70 ?_
      refine w_icmp_lt (tgt := 122) X dX12_variableOf_73 (by decide) (fun h73 => ?_) (fun h73 => ?_)
      · refine w_iload_n X dX12_variableOf_122 rfl rfl ?_
        refine w_goto (tgt := 127) X dX12_variableOf_123 (by decide) ?_
        refine w_irF X dX12_variableOf_127 ?_ rfl
        unfold vo_
        rw [← hw, ← hv]
        first | (simp [h65, h73]; done) | (simp_all; done)
      · refine w_aload_n X dX12_variableOf_76 rfl rfl ?_
        refine g12_inCommand X dX12_variableOf_77 ?_
        refine w_if_eq (tgt := 126) X dX12_variableOf_80 (by decide) (fun h80 => ?_) (fun h80 => ?_)
        · refine w_iconst (v := -1) X dX12_variableOf_126 (by decide) ?_
          refine w_irF X dX12_variableOf_127 ?_ rfl
          unfold vo_
          rw [← hw, ← hv]
          first | (simp [h65, h73, h80]; done) | (simp_all; done)
        · refine w_iload_n X dX12_variableOf_83 rfl rfl ?_
          refine w_if_ne (tgt := 122) X dX12_variableOf_84 (by decide) (fun h84 => ?_) (fun h84 => absurd h84 h65)
          refine w_iload_n X dX12_variableOf_122 rfl rfl ?_
          refine w_goto (tgt := 127) X dX12_variableOf_123 (by decide) ?_
          refine w_irF X dX12_variableOf_127 ?_ rfl
          unfold vo_
          rw [← hw, ← hv]
          first | (simp [h65, h73, h80, h84]; done) | (simp_all; done)
  have j46 : ∀ v : Int32, v = vv_ c → wq_ C G (qe_ C G (fI_ (vo_ M c) M)) 46 [some (.ref (G.1 0)), some (.int c), some (.int v), none] [] M := by
    intro v hv
    refine w_iload_n X dX12_variableOf_46 rfl rfl ?_
    refine w_bipush (v := 97) X dX12_variableOf_47 (by decide) ?_
    refine w_icmp_lt (tgt := 62) X dX12_variableOf_49 (by decide) (fun h49 => ?_) (fun h49 => ?_)
    · refine w_iconst (v := 0) X dX12_variableOf_62 (by decide) ?_
      refine w_istore_n X dX12_variableOf_63 rfl (by decide) ?_
      refine j64 _ _ ?_ hv
      unfold ow_
      exact (if_neg (fun z => Int32.not_le.mpr h49 z.1)).symm
    · refine w_iload_n X dX12_variableOf_52 rfl rfl ?_
      refine w_bipush (v := 99) X dX12_variableOf_53 (by decide) ?_
      refine w_icmp_gt (tgt := 62) X dX12_variableOf_55 (by decide) (fun h55 => ?_) (fun h55 => ?_)
      · refine w_iconst (v := 0) X dX12_variableOf_62 (by decide) ?_
        refine w_istore_n X dX12_variableOf_63 rfl (by decide) ?_
        refine j64 _ _ ?_ hv
        unfold ow_
        exact (if_neg (fun z => Int32.not_le.mpr h55 z.2)).symm
      · refine w_iconst (v := 1) X dX12_variableOf_58 (by decide) ?_
        refine w_goto (tgt := 63) X dX12_variableOf_59 (by decide) ?_
        refine w_istore_n X dX12_variableOf_63 rfl (by decide) ?_
        refine j64 _ _ ?_ hv
        unfold ow_
        exact (if_pos ⟨Int32.not_lt.mp h49, Int32.not_lt.mp h55⟩).symm
  refine w_iload_n X dX12_variableOf_0 rfl rfl ?_
  refine w_bipush (v := 114) X dX12_variableOf_1 (by decide) ?_
  refine w_icmp_ne (tgt := 10) X dX12_variableOf_3 (by decide) (fun h3 => ?_) (fun h3 => ?_)
  · refine w_iload_n X dX12_variableOf_10 rfl rfl ?_
    refine w_bipush (v := 120) X dX12_variableOf_11 (by decide) ?_
    refine w_icmp_ne (tgt := 20) X dX12_variableOf_13 (by decide) (fun h13 => ?_) (fun h13 => ?_)
    · refine w_iload_n X dX12_variableOf_20 rfl rfl ?_
      refine w_bipush (v := 110) X dX12_variableOf_21 (by decide) ?_
      refine w_icmp_ne (tgt := 30) X dX12_variableOf_23 (by decide) (fun h23 => ?_) (fun h23 => ?_)
      · refine w_iload_n X dX12_variableOf_30 rfl rfl ?_
        refine w_bipush (v := 107) X dX12_variableOf_31 (by decide) ?_
        refine w_icmp_ne (tgt := 41) X dX12_variableOf_33 (by decide) (fun h33 => ?_) (fun h33 => ?_)
        · refine w_iload_n X dX12_variableOf_41 rfl rfl ?_
          refine w_bipush (v := 97) X dX12_variableOf_42 (by decide) ?_
          refine w_isub X dX12_variableOf_44 ?_
          refine w_istore_n X dX12_variableOf_45 rfl (by decide) ?_
          refine j46 _ ?_
          unfold vv_
          simp [h3, h13, h23, h33]
        · refine w_bipush (v := 6) X dX12_variableOf_36 (by decide) ?_
          refine w_goto (tgt := 45) X dX12_variableOf_38 (by decide) ?_
          refine w_istore_n X dX12_variableOf_45 rfl (by decide) ?_
          refine j46 _ ?_
          unfold vv_
          simp [h3, h13, h23, h33]
      · refine w_iconst (v := 5) X dX12_variableOf_26 (by decide) ?_
        refine w_goto (tgt := 45) X dX12_variableOf_27 (by decide) ?_
        refine w_istore_n X dX12_variableOf_45 rfl (by decide) ?_
        refine j46 _ ?_
        unfold vv_
        simp [h3, h13, h23]
    · refine w_iconst (v := 4) X dX12_variableOf_16 (by decide) ?_
      refine w_goto (tgt := 45) X dX12_variableOf_17 (by decide) ?_
      refine w_istore_n X dX12_variableOf_45 rfl (by decide) ?_
      refine j46 _ ?_
      unfold vv_
      simp [h3, h13]
  · refine w_iconst (v := 3) X dX12_variableOf_6 (by decide) ?_
    refine w_goto (tgt := 45) X dX12_variableOf_7 (by decide) ?_
    refine w_istore_n X dX12_variableOf_45 rfl (by decide) ?_
    refine j46 _ ?_
    unfold vv_
    simp [h3]
set_option maxRecDepth 100000 in
set_option maxHeartbeats 4000000 in
theorem c12_record (G : gg_) (hG : gd_ G) (d : Nat) (M : mm_) (c b : Nat) (hc : M.1 0 35 = nI c) (hc2 : c ≤ 300) (hb : b < 8) (m e : Int32) : cm_ G yX12_record cX12_record 5 none (d) [.ref (G.1 0), .int (nI b), .int m, .int e] M (fV_ (rd_ M c b m e)) := by
  refine cm_of hG (by decide) (Nat.le_of_ble_eq_true rfl) (fun C X => ?_)
  refine w_aload_n X dX12_record_0 rfl rfl ?_
  refine g12_recordCount X dX12_record_1 ?_
  try simp only [gI_sI, gI_sL, gL_sI, gL_sL, false_and, and_false, and_self, if_false, if_true, reduceIte, Nat.reduceEqDiff, hc]
  refine w_sipush (v := 300) X dX12_record_4 (by decide) ?_
  refine w_icmp_ge (tgt := 90) X dX12_record_7 (by decide) (fun h7 => ?_) (fun h7 => ?_)
  · have e7 : ¬ c < 300 := fun q => Int32.not_le.mpr (nI_lt (b := 300) q (by omega)) h7
    refine w_aload_n X dX12_record_90 rfl rfl ?_
    refine g12_mades X dX12_record_91 ?_
    refine w_iload_n X dX12_record_94 rfl rfl ?_
    refine w_dup2 X dX12_record_95 rfl rfl ?_
    refine w_ialoadN X dX12_record_96 rfl rfl (by omega) ?_
    try simp only [gI_sI, gI_sL, gL_sI, gL_sL, false_and, and_false, and_self, if_false, if_true, reduceIte, Nat.reduceEqDiff, hc]
    refine w_iconst (v := 1) X dX12_record_97 (by decide) ?_
    refine w_iadd X dX12_record_98 ?_
    refine w_iastoreN X dX12_record_99 rfl rfl (by omega) ?_
    refine w_aload_n X dX12_record_100 rfl rfl ?_
    refine g12_mades X dX12_record_101 ?_
    refine w_iload_n X dX12_record_104 rfl rfl ?_
    refine w_ialoadN X dX12_record_105 rfl rfl (by omega) ?_
    try simp only [gI_sI, gI_sL, gL_sI, gL_sL, false_and, and_false, and_self, if_false, if_true, reduceIte, Nat.reduceEqDiff, hc]
    refine w_aload_n X dX12_record_106 rfl rfl ?_
    refine g12_limits X dX12_record_107 ?_
    refine w_iload_n X dX12_record_110 rfl rfl ?_
    refine w_ialoadN X dX12_record_111 rfl rfl (by omega) ?_
    try simp only [gI_sI, gI_sL, gL_sI, gL_sL, false_and, and_false, and_self, if_false, if_true, reduceIte, Nat.reduceEqDiff, hc]
    refine w_icmp_ne (tgt := 122) X dX12_record_112 (by decide) (fun h112 => ?_) (fun h112 => ?_)
    · refine w_vrF X dX12_record_122 ?_
      unfold rd_ rc_
      simp [e7, h112, nI_1]
    · refine w_aload_n X dX12_record_115 rfl rfl ?_
      refine g12_kinds X dX12_record_116 ?_
      refine w_iload_n X dX12_record_119 rfl rfl ?_
      refine w_iconst (v := 0) X dX12_record_120 (by decide) ?_
      refine w_iastoreN X dX12_record_121 rfl rfl (by omega) ?_
      refine w_vrF X dX12_record_122 ?_
      unfold rd_ rc_
      simp [e7, h112, nI_1]
  · have e7 : c < 300 := (nI_ltI (b := 300) (by omega) (by omega)).mp (Int32.not_le.mp h7)
    refine w_iconst (v := 5) X dX12_record_10 (by decide) ?_
    refine w_aload_n X dX12_record_11 rfl rfl ?_
    refine g12_recordCount X dX12_record_12 ?_
    try simp only [gI_sI, gI_sL, gL_sI, gL_sL, false_and, and_false, and_self, if_false, if_true, reduceIte, Nat.reduceEqDiff, hc]
    refine w_imul X dX12_record_15 ?_
    rw [show (5 : Int32) * nI c = nI (5 * c) from pk_mul 5 c]
    refine w_istore X dX12_record_16 (by decide) ?_
    refine w_aload_n X dX12_record_18 rfl rfl ?_
    refine g12_records X dX12_record_19 ?_
    refine w_iload X dX12_record_22 rfl ?_
    refine w_iload_n X dX12_record_24 rfl rfl ?_
    refine w_iastoreN X dX12_record_25 rfl rfl (by omega) ?_
    refine w_aload_n X dX12_record_26 rfl rfl ?_
    refine g12_records X dX12_record_27 ?_
    refine w_iload X dX12_record_30 rfl ?_
    refine w_iconst (v := 1) X dX12_record_32 (by decide) ?_
    refine w_iadd X dX12_record_33 ?_
    rw [nI_k (5 * c) 1 1 rfl]
    refine w_iload_n X dX12_record_34 rfl rfl ?_
    refine w_iastoreN X dX12_record_35 rfl rfl (by omega) ?_
    refine w_aload_n X dX12_record_36 rfl rfl ?_
    refine g12_records X dX12_record_37 ?_
    refine w_iload X dX12_record_40 rfl ?_
    refine w_iconst (v := 2) X dX12_record_42 (by decide) ?_
    refine w_iadd X dX12_record_43 ?_
    rw [nI_k (5 * c) 2 2 rfl]
    refine w_aload_n X dX12_record_44 rfl rfl ?_
    refine g12_probeValue X dX12_record_45 ?_
    try simp only [gI_sI, gI_sL, gL_sI, gL_sL, false_and, and_false, and_self, if_false, if_true, reduceIte, Nat.reduceEqDiff, hc]
    refine w_iastoreN X dX12_record_48 rfl rfl (by omega) ?_
    refine w_aload_n X dX12_record_49 rfl rfl ?_
    refine g12_records X dX12_record_50 ?_
    refine w_iload X dX12_record_53 rfl ?_
    refine w_iconst (v := 3) X dX12_record_55 (by decide) ?_
    refine w_iadd X dX12_record_56 ?_
    rw [nI_k (5 * c) 3 3 rfl]
    refine w_aload_n X dX12_record_57 rfl rfl ?_
    refine g12_probeThrew X dX12_record_58 ?_
    try simp only [gI_sI, gI_sL, gL_sI, gL_sL, false_and, and_false, and_self, if_false, if_true, reduceIte, Nat.reduceEqDiff, hc]
    refine w_if_eq (tgt := 68) X dX12_record_61 (by decide) (fun h61 => ?_) (fun h61 => ?_)
    · refine w_iconst (v := 0) X dX12_record_68 (by decide) ?_
      refine w_iastoreN X dX12_record_69 rfl rfl (by omega) ?_
      refine w_aload_n X dX12_record_70 rfl rfl ?_
      refine g12_records X dX12_record_71 ?_
      refine w_iload X dX12_record_74 rfl ?_
      refine w_iconst (v := 4) X dX12_record_76 (by decide) ?_
      refine w_iadd X dX12_record_77 ?_
      rw [nI_k (5 * c) 4 4 rfl]
      refine w_iload_n X dX12_record_78 rfl rfl ?_
      refine w_iastoreN X dX12_record_79 rfl rfl (by omega) ?_
      refine w_aload_n X dX12_record_80 rfl rfl ?_
      refine w_dup X dX12_record_81 rfl ?_
      refine g12_recordCount X dX12_record_82 ?_
      try simp only [gI_sI, gI_sL, gL_sI, gL_sL, false_and, and_false, and_self, if_false, if_true, reduceIte, Nat.reduceEqDiff, hc]
      refine w_iconst (v := 1) X dX12_record_85 (by decide) ?_
      refine w_iadd X dX12_record_86 ?_
      refine p12_recordCount X dX12_record_87 ?_
      refine w_aload_n X dX12_record_90 rfl rfl ?_
      refine g12_mades X dX12_record_91 ?_
      refine w_iload_n X dX12_record_94 rfl rfl ?_
      refine w_dup2 X dX12_record_95 rfl rfl ?_
      refine w_ialoadN X dX12_record_96 rfl rfl (by omega) ?_
      try simp only [gI_sI, gI_sL, gL_sI, gL_sL, false_and, and_false, and_self, if_false, if_true, reduceIte, Nat.reduceEqDiff, hc]
      refine w_iconst (v := 1) X dX12_record_97 (by decide) ?_
      refine w_iadd X dX12_record_98 ?_
      refine w_iastoreN X dX12_record_99 rfl rfl (by omega) ?_
      refine w_aload_n X dX12_record_100 rfl rfl ?_
      refine g12_mades X dX12_record_101 ?_
      refine w_iload_n X dX12_record_104 rfl rfl ?_
      refine w_ialoadN X dX12_record_105 rfl rfl (by omega) ?_
      try simp only [gI_sI, gI_sL, gL_sI, gL_sL, false_and, and_false, and_self, if_false, if_true, reduceIte, Nat.reduceEqDiff, hc]
      refine w_aload_n X dX12_record_106 rfl rfl ?_
      refine g12_limits X dX12_record_107 ?_
      refine w_iload_n X dX12_record_110 rfl rfl ?_
      refine w_ialoadN X dX12_record_111 rfl rfl (by omega) ?_
      try simp only [gI_sI, gI_sL, gL_sI, gL_sL, false_and, and_false, and_self, if_false, if_true, reduceIte, Nat.reduceEqDiff, hc]
      refine w_icmp_ne (tgt := 122) X dX12_record_112 (by decide) (fun h112 => ?_) (fun h112 => ?_)
      · refine w_vrF X dX12_record_122 ?_
        unfold rd_ rc_
        simp [e7, h61, h112, nI_1]
      · refine w_aload_n X dX12_record_115 rfl rfl ?_
        refine g12_kinds X dX12_record_116 ?_
        refine w_iload_n X dX12_record_119 rfl rfl ?_
        refine w_iconst (v := 0) X dX12_record_120 (by decide) ?_
        refine w_iastoreN X dX12_record_121 rfl rfl (by omega) ?_
        refine w_vrF X dX12_record_122 ?_
        unfold rd_ rc_
        simp [e7, h61, h112, nI_1]
    · refine w_iconst (v := 1) X dX12_record_64 (by decide) ?_
      refine w_goto (tgt := 69) X dX12_record_65 (by decide) ?_
      refine w_iastoreN X dX12_record_69 rfl rfl (by omega) ?_
      refine w_aload_n X dX12_record_70 rfl rfl ?_
      refine g12_records X dX12_record_71 ?_
      refine w_iload X dX12_record_74 rfl ?_
      refine w_iconst (v := 4) X dX12_record_76 (by decide) ?_
      refine w_iadd X dX12_record_77 ?_
      rw [nI_k (5 * c) 4 4 rfl]
      refine w_iload_n X dX12_record_78 rfl rfl ?_
      refine w_iastoreN X dX12_record_79 rfl rfl (by omega) ?_
      refine w_aload_n X dX12_record_80 rfl rfl ?_
      refine w_dup X dX12_record_81 rfl ?_
      refine g12_recordCount X dX12_record_82 ?_
      try simp only [gI_sI, gI_sL, gL_sI, gL_sL, false_and, and_false, and_self, if_false, if_true, reduceIte, Nat.reduceEqDiff, hc]
      refine w_iconst (v := 1) X dX12_record_85 (by decide) ?_
      refine w_iadd X dX12_record_86 ?_
      refine p12_recordCount X dX12_record_87 ?_
      refine w_aload_n X dX12_record_90 rfl rfl ?_
      refine g12_mades X dX12_record_91 ?_
      refine w_iload_n X dX12_record_94 rfl rfl ?_
      refine w_dup2 X dX12_record_95 rfl rfl ?_
      refine w_ialoadN X dX12_record_96 rfl rfl (by omega) ?_
      try simp only [gI_sI, gI_sL, gL_sI, gL_sL, false_and, and_false, and_self, if_false, if_true, reduceIte, Nat.reduceEqDiff, hc]
      refine w_iconst (v := 1) X dX12_record_97 (by decide) ?_
      refine w_iadd X dX12_record_98 ?_
      refine w_iastoreN X dX12_record_99 rfl rfl (by omega) ?_
      refine w_aload_n X dX12_record_100 rfl rfl ?_
      refine g12_mades X dX12_record_101 ?_
      refine w_iload_n X dX12_record_104 rfl rfl ?_
      refine w_ialoadN X dX12_record_105 rfl rfl (by omega) ?_
      try simp only [gI_sI, gI_sL, gL_sI, gL_sL, false_and, and_false, and_self, if_false, if_true, reduceIte, Nat.reduceEqDiff, hc]
      refine w_aload_n X dX12_record_106 rfl rfl ?_
      refine g12_limits X dX12_record_107 ?_
      refine w_iload_n X dX12_record_110 rfl rfl ?_
      refine w_ialoadN X dX12_record_111 rfl rfl (by omega) ?_
      try simp only [gI_sI, gI_sL, gL_sI, gL_sL, false_and, and_false, and_self, if_false, if_true, reduceIte, Nat.reduceEqDiff, hc]
      refine w_icmp_ne (tgt := 122) X dX12_record_112 (by decide) (fun h112 => ?_) (fun h112 => ?_)
      · refine w_vrF X dX12_record_122 ?_
        unfold rd_ rc_
        simp [e7, h61, h112, nI_1]
      · refine w_aload_n X dX12_record_115 rfl rfl ?_
        refine g12_kinds X dX12_record_116 ?_
        refine w_iload_n X dX12_record_119 rfl rfl ?_
        refine w_iconst (v := 0) X dX12_record_120 (by decide) ?_
        refine w_iastoreN X dX12_record_121 rfl rfl (by omega) ?_
        refine w_vrF X dX12_record_122 ?_
        unfold rd_ rc_
        simp [e7, h61, h112, nI_1]
set_option maxRecDepth 100000 in
set_option maxHeartbeats 4000000 in
theorem c12_keepOne (G : gg_) (hG : gd_ G) (d : Nat) (M : mm_) (c e : Nat) (hc : M.1 0 37 = nI c) (hc2 : c ≤ 40) (he : e ≤ 10) (j pt v : Int32) : cm_ G yX12_keepOne cX12_keepOne 7 none (d) [.ref (G.1 0), .int j, .int (nI e), .int pt, .int v] M (fV_ (ko_ M c e j pt v)) := by
  refine cm_of hG (by decide) (Nat.le_of_ble_eq_true rfl) (fun C X => ?_)
  have e37 : ∀ i, (kp_ (sI_ (sI_ M 22 (7 * c) j) 22 (7 * c + 1) (M.1 23 e)) c e i).1 0 37 = nI c := fun i => by rw [kp_I i 0 37 (by omega)]; simp [sI_, hc]
  have e24 : ∀ i k, (kp_ (sI_ (sI_ M 22 (7 * c) j) 22 (7 * c + 1) (M.1 23 e)) c e i).1 24 k = M.1 24 k := fun i k => by rw [kp_I i 24 k (by omega)]; simp [sI_]
  have lp : ∀ (u i : Nat), i + u = 3 → ¬ c = 40 → wq_ C G (qe_ C G (fV_ (ko_ M c e j pt v))) 45 [some (.ref (G.1 0)), some (.int j), some (.int (nI e)), some (.int pt), some (.int v), some (.int (nI (7 * c))), some (.int (nI i))] [] (kp_ (sI_ (sI_ M 22 (7 * c) j) 22 (7 * c + 1) (M.1 23 e)) c e i) := by
    intro u
    induction u with
    | zero =>
      intro i hu hc3
      obtain rfl : i = 3 := by omega
      refine w_iload X dX12_keepOne_45 rfl ?_
      refine w_iconst (v := 3) X dX12_keepOne_47 (by decide) ?_
      refine w_icmp_ge (tgt := 80) X dX12_keepOne_48 (by decide) (fun h48 => ?_) (fun h48 => absurd (by decide) h48)
      refine w_aload_n X dX12_keepOne_80 rfl rfl ?_
      refine g12_keptOnes X dX12_keepOne_81 ?_
      refine w_iload X dX12_keepOne_84 rfl ?_
      refine w_iconst (v := 5) X dX12_keepOne_86 (by decide) ?_
      refine w_iadd X dX12_keepOne_87 ?_
      rw [nI_k (7 * c) 5 5 rfl]
      refine w_iload_n X dX12_keepOne_88 rfl rfl ?_
      refine w_iconst (v := 1) X dX12_keepOne_89 (by decide) ?_
      refine w_isub X dX12_keepOne_90 ?_
      refine w_iastoreN X dX12_keepOne_91 rfl rfl (by omega) ?_
      refine w_aload_n X dX12_keepOne_92 rfl rfl ?_
      refine g12_keptOnes X dX12_keepOne_93 ?_
      refine w_iload X dX12_keepOne_96 rfl ?_
      refine w_bipush (v := 6) X dX12_keepOne_98 (by decide) ?_
      refine w_iadd X dX12_keepOne_100 ?_
      rw [nI_k (7 * c) 6 6 rfl]
      refine w_iload X dX12_keepOne_101 rfl ?_
      refine w_iastoreN X dX12_keepOne_103 rfl rfl (by omega) ?_
      refine w_aload_n X dX12_keepOne_104 rfl rfl ?_
      refine w_dup X dX12_keepOne_105 rfl ?_
      refine g12_keepCount X dX12_keepOne_106 ?_
      try simp only [gI_sI, gI_sL, gL_sI, gL_sL, false_and, and_false, and_self, if_false, if_true, reduceIte, Nat.reduceEqDiff, e37]
      refine w_iconst (v := 1) X dX12_keepOne_109 (by decide) ?_
      refine w_iadd X dX12_keepOne_110 ?_
      refine p12_keepCount X dX12_keepOne_111 ?_
      refine w_vrF X dX12_keepOne_114 ?_
      unfold ko_
      rw [if_neg hc3, nI_1]
    | succ u ih =>
      intro i hu hc3
      refine w_iload X dX12_keepOne_45 rfl ?_
      refine w_iconst (v := 3) X dX12_keepOne_47 (by decide) ?_
      refine w_icmp_ge (tgt := 80) X dX12_keepOne_48 (by decide) (fun h48 => absurd h48 (nI_ge (b := 3) (by omega) (by omega))) (fun h48 => ?_)
      refine w_aload_n X dX12_keepOne_51 rfl rfl ?_
      refine g12_keptOnes X dX12_keepOne_52 ?_
      refine w_iload X dX12_keepOne_55 rfl ?_
      refine w_iconst (v := 2) X dX12_keepOne_57 (by decide) ?_
      refine w_iadd X dX12_keepOne_58 ?_
      refine w_iload X dX12_keepOne_59 rfl ?_
      refine w_iadd X dX12_keepOne_61 ?_
      rw [nI_k (7 * c) 2 2 rfl, nI_add]
      refine w_aload_n X dX12_keepOne_62 rfl rfl ?_
      refine g12_runParameters X dX12_keepOne_63 ?_
      refine w_iconst (v := 3) X dX12_keepOne_66 (by decide) ?_
      refine w_iload_n X dX12_keepOne_67 rfl rfl ?_
      refine w_imul X dX12_keepOne_68 ?_
      refine w_iload X dX12_keepOne_69 rfl ?_
      refine w_iadd X dX12_keepOne_71 ?_
      rw [show (3 : Int32) = nI 3 from rfl, nI_m]
      refine w_ialoadN X dX12_keepOne_72 rfl rfl (by omega) ?_
      try simp only [gI_sI, gI_sL, gL_sI, gL_sL, false_and, and_false, and_self, if_false, if_true, reduceIte, Nat.reduceEqDiff, e24]
      refine w_iastoreN X dX12_keepOne_73 rfl rfl (by omega) ?_
      refine w_iinc (v := 1) X dX12_keepOne_74 rfl (by decide) (by decide) ?_
      refine w_goto (tgt := 45) X dX12_keepOne_77 (by decide) ?_
      rw [nI_1]
      have ee := ih (i + 1) (by omega) hc3
      simp only [kp_] at ee
      rw [show (sI_ (sI_ M 22 (7 * c) j) 22 (7 * c + 1) (M.1 23 e)).1 24 (3 * e + i) = M.1 24 (3 * e + i) by simp [sI_]] at ee
      exact ee
  refine w_aload_n X dX12_keepOne_0 rfl rfl ?_
  refine g12_keepCount X dX12_keepOne_1 ?_
  try simp only [gI_sI, gI_sL, gL_sI, gL_sL, false_and, and_false, and_self, if_false, if_true, reduceIte, Nat.reduceEqDiff, hc]
  refine w_bipush (v := 40) X dX12_keepOne_4 (by decide) ?_
  refine w_icmp_ne (tgt := 10) X dX12_keepOne_6 (by decide) (fun h6 => ?_) (fun h6 => ?_)
  · have e6 : ¬ c = 40 := fun q => h6 (by rw [q]; rfl)
    refine w_bipush (v := 7) X dX12_keepOne_10 (by decide) ?_
    refine w_aload_n X dX12_keepOne_12 rfl rfl ?_
    refine g12_keepCount X dX12_keepOne_13 ?_
    try simp only [gI_sI, gI_sL, gL_sI, gL_sL, false_and, and_false, and_self, if_false, if_true, reduceIte, Nat.reduceEqDiff, hc]
    refine w_imul X dX12_keepOne_16 ?_
    rw [show (7 : Int32) * nI c = nI (7 * c) from pk_mul 7 c]
    refine w_istore X dX12_keepOne_17 (by decide) ?_
    refine w_aload_n X dX12_keepOne_19 rfl rfl ?_
    refine g12_keptOnes X dX12_keepOne_20 ?_
    refine w_iload X dX12_keepOne_23 rfl ?_
    refine w_iload_n X dX12_keepOne_25 rfl rfl ?_
    refine w_iastoreN X dX12_keepOne_26 rfl rfl (by omega) ?_
    refine w_aload_n X dX12_keepOne_27 rfl rfl ?_
    refine g12_keptOnes X dX12_keepOne_28 ?_
    refine w_iload X dX12_keepOne_31 rfl ?_
    refine w_iconst (v := 1) X dX12_keepOne_33 (by decide) ?_
    refine w_iadd X dX12_keepOne_34 ?_
    rw [nI_k (7 * c) 1 1 rfl]
    refine w_aload_n X dX12_keepOne_35 rfl rfl ?_
    refine g12_runMethods X dX12_keepOne_36 ?_
    refine w_iload_n X dX12_keepOne_39 rfl rfl ?_
    refine w_ialoadN X dX12_keepOne_40 rfl rfl (by omega) ?_
    try simp only [gI_sI, gI_sL, gL_sI, gL_sL, false_and, and_false, and_self, if_false, if_true, reduceIte, Nat.reduceEqDiff, hc]
    refine w_iastoreN X dX12_keepOne_41 rfl rfl (by omega) ?_
    refine w_iconst (v := 0) X dX12_keepOne_42 (by decide) ?_
    refine w_istore X dX12_keepOne_43 (by decide) ?_
    exact lp 3 0 (by omega) e6
  · have e6 : c = 40 := (nI_eq (b := 40) (by omega) (by omega)).mp h6
    refine w_vrF X dX12_keepOne_9 ?_
    unfold ko_
    rw [if_pos e6]
