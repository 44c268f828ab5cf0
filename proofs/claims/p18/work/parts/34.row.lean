section
theorem vo_13 (M : mm_) (v c : Int32) : vo_ (sI_ M 0 13 v) c = vo_ M c := by unfold vo_; simp [sI_]
def rr_ (M : mm_) (n k : Nat) (W : List fr_) (nd op : Nat) : ss_ ⊕ (Int32 × Nat) :=
  if rz_ M n k = 1 ∧ il_ (bf_ M n k) = 1 then (if nd = 20 then .inr (3, k) else if vo_ M (bf_ M n k) < 0 then .inr (4, k) else .inl (k + 1, W, some (.index (vo_ M (bf_ M n k)).toNatClampNeg), nd + 1, op))
  else if nd = 20 then .inr (3, k) else if 12 < rz_ M n k then .inr (3, k + 12) else if ¬ ne_ (bf_ M n) k (rz_ M n k) then .inr (1, k) else if ¬ M.1 0 14 = 0 then .inr (4, k) else if ¬ bf_ M n (k + rz_ M n k) = 40 then .inr (1, k + rz_ M n k) else if op = 12 then .inr (3, k + rz_ M n k)
  else .inl (k + rz_ M n k + 1, (8, 0, .null, .null, nm_ (bf_ M n) k (rz_ M n k)) :: W, none, nd + 1, op + 1)
/-- what is answered: whether a tree is there -/
def ok_ (r : Int32) : ss_ ⊕ (Int32 × Nat) → Prop
  | .inl S => r = match S.2.2.1 with | none => 0 | some _ => 1
  | .inr _ => True
def py_ (M : mm_) (n : Nat) (q : ss_ ⊕ (Int32 × Nat)) (r : Int32) (N : mm_) : Prop := (r = 0 ∨ r = 1) ∧ px_ M n q N ∧ ok_ r q
theorem py_f {M N : mm_} {n w : Nat} {f r : Int32} (hr : r = 0 ∨ r = 1) (h : px_ M n (.inr (f, w)) N) : py_ M n (.inr (f, w)) r N := ⟨hr, h, trivial⟩
/-- an opened bracket over the parser's state: PAREN -/
theorem pr_paren {M : mm_} {n k nd op : Nat} {W : List fr_} (h : pr_ M n k W none nd op) (hop12 : op < 12) (x : Int64) : pr_ (ob_ M W.length k op 0 0) n (k + 1) ((0, 0, .null, .null, x) :: W) none nd (op + 1) := by
  obtain ⟨h0, h5, hc, h20, hw, ho, h13, h23, hn1, hn2, hop, hop2, hcq⟩ := h
  simp only [cu_, co_] at hc ho
  unfold ob_
  refine ⟨tz_sI (tz_sL (tz_wa (tz_sI h0 (by omega)))) (by omega), by simp [sI_], ?_, by simp [wa_, sI_, sL_], ?_, ?_, by simp [wa_, sI_, sL_, h13], by simp [wa_, sI_, sL_], by simpa [nw_, nf_] using hn1, hn2, by simp [no_]; omega, by omega, trivial⟩
  · have e1 : cs_ ((0, 0, .null, .null, x) :: W) ++ cu_ none = cs_ W ++ [] := by simp [cs_, fc_, cu_]
    rw [e1]
    exact cd_sI (cd_sL (cd_wa (cd_sI hc (by omega) (by omega))) (by omega)) (by omega) (by omega)
  · exact ⟨wr_sI (wr_sL (wr_wa (wr_sI hw (Or.inl (by omega))) (Nat.le_refl _)) (Or.inr (Nat.le_refl _))) (Or.inl (by omega)), ⟨by simp, fun q => by simp at q⟩, by simp [wa_, sI_, sL_]; rfl, by simp [wa_, sI_, sL_, fp_]; rfl, by simp [wa_, sI_, sL_, fu_], fun q => by simp at q⟩
  · have e2 : os_ ((0, 0, .null, .null, x) :: W) ++ co_ (cs_ ((0, 0, .null, .null, x) :: W)).length none = os_ W ++ [] := by simp [os_, ff_, co_]
    rw [e2]
    exact od_sI (od_sL (od_wa (od_sI ho (by omega) (by omega)))) (by omega) (by omega)
theorem pr_call {M : mm_} {n k j nd op : Nat} {W : List fr_} (h : pr_ M n k W none nd op) (hn20 : nd < 20) (hop12 : op < 12) (x : Int64) : pr_ (ob_ (sI_ (sI_ (sL_ M 0 24 x) 0 13 (nI (nd + 1))) 0 5 (nI j)) W.length j op 8 (nI (cs_ W).length)) n (j + 1) ((8, 0, .null, .null, x) :: W) none (nd + 1) (op + 1) := by
  obtain ⟨h0, h5, hc, h20, hw, ho, h13, h23, hn1, hn2, hop, hop2, hcq⟩ := h
  simp only [cu_, co_] at hc ho
  unfold ob_
  refine ⟨tz_sI (tz_sL (tz_wa (tz_sI (tz_sI (tz_sI (tz_sL h0) (by omega)) (by omega)) (by omega)))) (by omega), by simp [sI_], ?_, by simp [wa_, sI_, sL_], ?_, ?_, by simp [wa_, sI_, sL_], by simp [wa_, sI_, sL_], ?_, by omega, by simp [no_]; omega, by omega, trivial⟩
  · have e1 : cs_ ((8, 0, .null, .null, x) :: W) ++ cu_ none = cs_ W ++ [] := by simp [cs_, fc_, cu_, tc_]
    rw [e1]
    exact cd_sI (cd_sL (cd_wa (cd_sI (cd_sI (cd_sI (cd_sL hc (by omega)) (by omega) (by omega)) (by omega) (by omega)) (by omega) (by omega))) (by omega)) (by omega) (by omega)
  · refine ⟨wr_sI (wr_sL (wr_wa (wr_sI (wr_sI (wr_sI (wr_sL hw (Or.inl (by omega))) (Or.inl (by omega))) (Or.inl (by omega))) (Or.inl (by omega))) (Nat.le_refl _)) (Or.inr (Nat.le_refl _))) (Or.inl (by omega)), ⟨by simp, fun _ => ⟨trivial, by simp [ac_]⟩⟩, by simp [wa_, sI_, sL_]; rfl, by simp [wa_, sI_, sL_, fp_], by simp [wa_, sI_, sL_, fu_, ac_]; rfl, fun _ => ?_⟩
    simp [gL_sI, gL_sL]
  · have e2 : os_ ((8, 0, .null, .null, x) :: W) ++ co_ (cs_ ((8, 0, .null, .null, x) :: W)).length none = os_ W ++ [] := by simp [os_, ff_, co_, oa_]
    rw [e2]
    exact od_sI (od_sL (od_wa (od_sI (od_sI (od_sI (od_sL ho) (by omega) (by omega)) (by omega) (by omega)) (by omega) (by omega)))) (by omega) (by omega)
  · simp only [nw_, cn_] at hn1 ⊢
    simp [nf_, nt_]
    omega
set_option maxRecDepth 100000 in
set_option maxHeartbeats 4000000 in
theorem c12_readRow (G : gg_) (hG : gd_ G) (d : Nat) (M : mm_) (n k nd op : Nat) (W : List fr_) (h : pr_ M n k W none nd op) (hf : M.1 0 3 = 0) (hk : k < 268435456) : cm_ G yX12_readRow cX12_readRow 4 (some .boolean) (d + 3) [.ref (G.1 0)] M (rI_ (py_ M n (rr_ M n k W nd op))) := by
  refine cm_of hG (by decide) (Nat.le_of_ble_eq_true rfl) (fun C X => ?_)
  have hle := pr_len h
  have hos := pr_os h
  have hh := id h
  obtain ⟨h0, h5, hc, h20, hw, ho, h13, h23, hn1, hn2, hop, hop2, hcq⟩ := hh
  simp only [cu_, List.append_nil, co_] at hc ho hle
  have hn := h0.2
  have h12 := hc.1
  have h22 := ho.1
  have hz := rz_le M n k
  generalize hrr : rr_ M n k W nd op = res
  have j91 : ¬ (rz_ M n k = 1 ∧ il_ (bf_ M n k) = 1) → wq_ C G (qe_ C G (rI_ (py_ M n res))) 91 [some (.ref (G.1 0)), some (.int (nI k)), some (.int (nI (rz_ M n k))), none] [] M := by
    intro hq
    unfold rr_ at hrr
    rw [if_neg hq] at hrr
    refine w_aload_n X dX12_readRow_91 rfl rfl ?_
    refine g12_nodes X dX12_readRow_92 ?_
    try simp only [gI_sI, gI_sL, gL_sI, gL_sL, false_and, and_false, and_self, if_false, if_true, reduceIte, Nat.reduceEqDiff, h5, h13, h12, gI_wa, gL_wa, gI_pu, gL_pu, gI_op, gL_op]
    refine w_bipush (v := 20) X dX12_readRow_95 (by decide) ?_
    refine w_icmp_ne (tgt := 108) X dX12_readRow_97 (by decide) (fun h97 => ?_) (fun h97 => ?_)
    · have e97 : ¬ nd = 20 := fun q => h97 (by rw [q]; rfl)
      rw [if_neg e97] at hrr
      refine w_iload_n X dX12_readRow_108 rfl rfl ?_
      refine w_bipush (v := 12) X dX12_readRow_109 (by decide) ?_
      refine w_icmp_le (tgt := 125) X dX12_readRow_111 (by decide) (fun h111 => ?_) (fun h111 => ?_)
      · have e111 : ¬ 12 < rz_ M n k := fun q => absurd h111 (nI_ge (a := 12) q (by omega))
        rw [if_neg e111] at hrr
        refine w_aload_n X dX12_readRow_125 rfl rfl ?_
        refine w_iload_n X dX12_readRow_126 rfl rfl ?_
        refine w_iload_n X dX12_readRow_127 rfl rfl ?_
        refine w_v2fI X dX12_readRow_128 k12_isName rfl rfl (c12_isName G hG _ _ n k (rz_ M n k) h0 (by omega)) (Nat.le_of_ble_eq_true rfl) ?_
        refine w_if_ne (tgt := 142) X dX12_readRow_131 (by decide) (fun h131 => ?_) (fun h131 => ?_)
        · have e131 : ne_ (bf_ M n) k (rz_ M n k) := Decidable.by_contra (fun q => h131 (if_neg q))
          rw [if_neg (fun q => q e131)] at hrr
          refine w_aload_n X dX12_readRow_142 rfl rfl ?_
          refine g12_inCommand X dX12_readRow_143 ?_
          try simp only [gI_sI, gI_sL, gL_sI, gL_sL, false_and, and_false, and_self, if_false, if_true, reduceIte, Nat.reduceEqDiff, h5, h13, h12, gI_wa, gL_wa, gI_pu, gL_pu, gI_op, gL_op]
          refine w_if_eq (tgt := 157) X dX12_readRow_146 (by decide) (fun h146 => ?_) (fun h146 => ?_)
          · rw [if_neg (fun q => q h146)] at hrr
            refine w_aload_n X dX12_readRow_157 rfl rfl ?_
            refine w_dup X dX12_readRow_158 rfl ?_
            refine g12_nodes X dX12_readRow_159 ?_
            try simp only [gI_sI, gI_sL, gL_sI, gL_sL, false_and, and_false, and_self, if_false, if_true, reduceIte, Nat.reduceEqDiff, h5, h13, h12, gI_wa, gL_wa, gI_pu, gL_pu, gI_op, gL_op]
            refine w_iconst (v := 1) X dX12_readRow_162 (by decide) ?_
            refine w_iadd X dX12_readRow_163 ?_
            rw [nI_1]
            refine p12_nodes X dX12_readRow_164 ?_
            refine w_aload_n X dX12_readRow_167 rfl rfl ?_
            refine w_iload_n X dX12_readRow_168 rfl rfl ?_
            refine w_iload_n X dX12_readRow_169 rfl rfl ?_
            refine w_iadd X dX12_readRow_170 ?_
            rw [nI_add]
            refine p12_at X dX12_readRow_171 ?_
            refine w_aload_n X dX12_readRow_174 rfl rfl ?_
            refine w_aload_n X dX12_readRow_175 rfl rfl ?_
            refine g12_at X dX12_readRow_176 ?_
            try simp only [gI_sI, gI_sL, gL_sI, gL_sL, false_and, and_false, and_self, if_false, if_true, reduceIte, Nat.reduceEqDiff, h5, h13, h12, gI_wa, gL_wa, gI_pu, gL_pu, gI_op, gL_op]
            refine w_v1fI X dX12_readRow_179 k12_byteAt rfl rfl (c12_byteAt G hG _ _ (nI (k + rz_ M n k)) (fun z => tz_in (tz_sI (tz_sI (tz_sL h0) (by omega)) (by omega)) (by omega) z)) (Nat.le_of_ble_eq_true rfl) ?_
            rw [ba_bf (tz_sI (tz_sI (tz_sL h0) (by omega)) (by omega)) (by omega), bf_sI (by omega), bf_sI (by omega), bf_sL]
            refine w_bipush (v := 40) X dX12_readRow_182 (by decide) ?_
            refine w_icmp_eq (tgt := 198) X dX12_readRow_184 (by decide) (fun h184 => ?_) (fun h184 => ?_)
            · rw [if_neg (fun q => q h184)] at hrr
              refine w_aload_n X dX12_readRow_198 rfl rfl ?_
              refine w_bipush (v := 8) X dX12_readRow_199 (by decide) ?_
              refine w_aload_n X dX12_readRow_201 rfl rfl ?_
              refine g12_length X dX12_readRow_202 ?_
              try simp only [gI_sI, gI_sL, gL_sI, gL_sL, false_and, and_false, and_self, if_false, if_true, reduceIte, Nat.reduceEqDiff, h5, h13, h12, gI_wa, gL_wa, gI_pu, gL_pu, gI_op, gL_op]
              by_cases ho12 : op = 12
              · rw [if_pos ho12] at hrr
                refine w_v2fV X dX12_readRow_205 k12_open rfl rfl (c12_open_f G hG _ _ (k + rz_ M n k) _ _ (by simp [sI_]) (by simp [sI_, sL_, h23, ho12])) (Nat.le_of_ble_eq_true rfl) ?_
                refine w_iconst (v := 0) X dX12_readRow_208 (by decide) ?_
                refine w_zrR X dX12_readRow_209 (by first | exact Or.inl rfl | exact Or.inr rfl) ?_
                rw [← hrr]
                exact py_f (Or.inl rfl) (px_fa (pf_sI (pf_sI (pf_sL (pf_rf M) (by first | omega | exact at5_ (by omega))) (by first | omega | exact at5_ (by omega))) (by first | omega | exact at5_ (by omega))) (by simp [sI_, sL_, hf]))
              · rw [if_neg ho12] at hrr
                refine w_v2fV X dX12_readRow_205 k12_open rfl rfl (c12_open_o G hG _ _ (k + rz_ M n k) W.length op _ _ (by simp [sI_]) (by simp [sI_, sL_, h20]) (by simp [sI_, sL_, h23]) (by first | omega | exact at5_ (by omega)) (by first | omega | exact at5_ (by omega))) (Nat.le_of_ble_eq_true rfl) ?_
                refine w_iconst (v := 0) X dX12_readRow_208 (by decide) ?_
                refine w_zrR X dX12_readRow_209 (by first | exact Or.inl rfl | exact Or.inr rfl) ?_
                rw [← hrr]
                exact ⟨Or.inl rfl, ⟨pf_sI (pf_sL (pf_wa (pf_sI (pf_sI (pf_sI (pf_sL (pf_rf M) (by first | omega | exact at5_ (by omega))) (by first | omega | exact at5_ (by omega))) (by first | omega | exact at5_ (by omega))) (by first | omega | exact at5_ (by omega)))) (by first | omega | exact at5_ (by omega))) (by first | omega | exact at5_ (by omega)), pr_call h (by first | omega | exact at5_ (by omega)) (by first | omega | exact at5_ (by omega)) _, by simp [ob_, wa_, sI_, sL_, hf]⟩, rfl⟩
            · rw [if_pos h184] at hrr
              refine w_aload_n X dX12_readRow_187 rfl rfl ?_
              refine w_iconst (v := 1) X dX12_readRow_188 (by decide) ?_
              refine w_aload_n X dX12_readRow_189 rfl rfl ?_
              refine g12_at X dX12_readRow_190 ?_
              try simp only [gI_sI, gI_sL, gL_sI, gL_sL, false_and, and_false, and_self, if_false, if_true, reduceIte, Nat.reduceEqDiff, h5, h13, h12, gI_wa, gL_wa, gI_pu, gL_pu, gI_op, gL_op]
              refine w_v2fV X dX12_readRow_193 k12_fail rfl rfl (c12_fail G hG _ _ _ _) (Nat.le_of_ble_eq_true rfl) ?_
              refine w_iconst (v := 1) X dX12_readRow_196 (by decide) ?_
              refine w_zrR X dX12_readRow_197 (by first | exact Or.inl rfl | exact Or.inr rfl) ?_
              rw [← hrr]
              refine py_f (Or.inr rfl) (px_fa ?_ ?_)
              · first | exact pf_rf M | exact pf_sL (pf_rf M) (by first | omega | exact at5_ (by omega)) | exact pf_sI (pf_sI (pf_sL (pf_rf M) (by first | omega | exact at5_ (by omega))) (by first | omega | exact at5_ (by omega))) (by first | omega | exact at5_ (by omega))
              · first | exact hf | simp [sI_, sL_, hf]
          · rw [if_pos h146] at hrr
            refine w_aload_n X dX12_readRow_149 rfl rfl ?_
            refine w_iconst (v := 4) X dX12_readRow_150 (by decide) ?_
            refine w_iload_n X dX12_readRow_151 rfl rfl ?_
            refine w_v2fV X dX12_readRow_152 k12_fail rfl rfl (c12_fail G hG _ _ _ _) (Nat.le_of_ble_eq_true rfl) ?_
            refine w_iconst (v := 1) X dX12_readRow_155 (by decide) ?_
            refine w_zrR X dX12_readRow_156 (by first | exact Or.inl rfl | exact Or.inr rfl) ?_
            rw [← hrr]
            refine py_f (Or.inr rfl) (px_fa ?_ ?_)
            · first | exact pf_rf M | exact pf_sL (pf_rf M) (by first | omega | exact at5_ (by omega)) | exact pf_sI (pf_sI (pf_sL (pf_rf M) (by first | omega | exact at5_ (by omega))) (by first | omega | exact at5_ (by omega))) (by first | omega | exact at5_ (by omega))
            · first | exact hf | simp [sI_, sL_, hf]
        · have e131 : ¬ ne_ (bf_ M n) k (rz_ M n k) := fun q => by rw [if_pos q] at h131; exact absurd h131 (by decide)
          rw [if_pos e131] at hrr
          refine w_aload_n X dX12_readRow_134 rfl rfl ?_
          refine w_iconst (v := 1) X dX12_readRow_135 (by decide) ?_
          refine w_iload_n X dX12_readRow_136 rfl rfl ?_
          refine w_v2fV X dX12_readRow_137 k12_fail rfl rfl (c12_fail G hG _ _ _ _) (Nat.le_of_ble_eq_true rfl) ?_
          refine w_iconst (v := 1) X dX12_readRow_140 (by decide) ?_
          refine w_zrR X dX12_readRow_141 (by first | exact Or.inl rfl | exact Or.inr rfl) ?_
          rw [← hrr]
          refine py_f (Or.inr rfl) (px_fa ?_ ?_)
          · first | exact pf_rf M | exact pf_sL (pf_rf M) (by first | omega | exact at5_ (by omega)) | exact pf_sI (pf_sI (pf_sL (pf_rf M) (by first | omega | exact at5_ (by omega))) (by first | omega | exact at5_ (by omega))) (by first | omega | exact at5_ (by omega))
          · first | exact hf | simp [sI_, sL_, hf]
      · have e111 : 12 < rz_ M n k := Nat.not_le.mp (fun q => h111 (nI_le (b := 12) q (by omega)))
        rw [if_pos e111] at hrr
        refine w_aload_n X dX12_readRow_114 rfl rfl ?_
        refine w_iconst (v := 3) X dX12_readRow_115 (by decide) ?_
        refine w_iload_n X dX12_readRow_116 rfl rfl ?_
        refine w_bipush (v := 12) X dX12_readRow_117 (by decide) ?_
        refine w_iadd X dX12_readRow_119 ?_
        rw [show nI k + 12 = nI (k + 12) from nI_add k 12]
        refine w_v2fV X dX12_readRow_120 k12_fail rfl rfl (c12_fail G hG _ _ _ _) (Nat.le_of_ble_eq_true rfl) ?_
        refine w_iconst (v := 1) X dX12_readRow_123 (by decide) ?_
        refine w_zrR X dX12_readRow_124 (by first | exact Or.inl rfl | exact Or.inr rfl) ?_
        rw [← hrr]
        refine py_f (Or.inr rfl) (px_fa ?_ ?_)
        · first | exact pf_rf M | exact pf_sL (pf_rf M) (by first | omega | exact at5_ (by omega)) | exact pf_sI (pf_sI (pf_sL (pf_rf M) (by first | omega | exact at5_ (by omega))) (by first | omega | exact at5_ (by omega))) (by first | omega | exact at5_ (by omega))
        · first | exact hf | simp [sI_, sL_, hf]
    · have e97 : nd = 20 := (nI_eq (b := 20) (by omega) (by omega)).mp h97
      rw [if_pos e97] at hrr
      refine w_aload_n X dX12_readRow_100 rfl rfl ?_
      refine w_iconst (v := 3) X dX12_readRow_101 (by decide) ?_
      refine w_iload_n X dX12_readRow_102 rfl rfl ?_
      refine w_v2fV X dX12_readRow_103 k12_fail rfl rfl (c12_fail G hG _ _ _ _) (Nat.le_of_ble_eq_true rfl) ?_
      refine w_iconst (v := 1) X dX12_readRow_106 (by decide) ?_
      refine w_zrR X dX12_readRow_107 (by first | exact Or.inl rfl | exact Or.inr rfl) ?_
      rw [← hrr]
      refine py_f (Or.inr rfl) (px_fa ?_ ?_)
      · first | exact pf_rf M | exact pf_sL (pf_rf M) (by first | omega | exact at5_ (by omega)) | exact pf_sI (pf_sI (pf_sL (pf_rf M) (by first | omega | exact at5_ (by omega))) (by first | omega | exact at5_ (by omega))) (by first | omega | exact at5_ (by omega))
      · first | exact hf | simp [sI_, sL_, hf]
  refine w_aload_n X dX12_readRow_0 rfl rfl ?_
  refine g12_at X dX12_readRow_1 ?_
  try simp only [gI_sI, gI_sL, gL_sI, gL_sL, false_and, and_false, and_self, if_false, if_true, reduceIte, Nat.reduceEqDiff, h5]
  refine w_istore_n X dX12_readRow_4 rfl (by decide) ?_
  refine w_aload_n X dX12_readRow_5 rfl rfl ?_
  refine w_aload_n X dX12_readRow_6 rfl rfl ?_
  refine g12_at X dX12_readRow_7 ?_
  try simp only [gI_sI, gI_sL, gL_sI, gL_sL, false_and, and_false, and_self, if_false, if_true, reduceIte, Nat.reduceEqDiff, h5]
  refine w_v1fI X dX12_readRow_10 k12_rowSize rfl rfl (c12_rowSize G hG _ _ n k h0 (by omega)) (Nat.le_of_ble_eq_true rfl) ?_
  refine w_istore_n X dX12_readRow_13 rfl (by decide) ?_
  refine w_iload_n X dX12_readRow_14 rfl rfl ?_
  refine w_iconst (v := 1) X dX12_readRow_15 (by decide) ?_
  refine w_icmp_ne (tgt := 91) X dX12_readRow_16 (by decide) (fun h16 => ?_) (fun h16 => ?_)
  · have e16 : ¬ rz_ M n k = 1 := fun q => h16 (by rw [q]; rfl)
    exact j91 (fun z => e16 z.1)
  · have e16 : rz_ M n k = 1 := (nI_eq (b := 1) (by omega) (by omega)).mp h16
    refine w_aload_n X dX12_readRow_19 rfl rfl ?_
    refine w_aload_n X dX12_readRow_20 rfl rfl ?_
    refine g12_at X dX12_readRow_21 ?_
    try simp only [gI_sI, gI_sL, gL_sI, gL_sL, false_and, and_false, and_self, if_false, if_true, reduceIte, Nat.reduceEqDiff, h5]
    refine w_v1fI X dX12_readRow_24 k12_byteAt rfl rfl (c12_byteAt G hG _ _ (nI k) (fun z => tz_in h0 (by omega) z)) (Nat.le_of_ble_eq_true rfl) ?_
    rw [ba_bf h0 (by omega)]
    refine w_s1fI X dX12_readRow_27 k12_isLetter (c12_isLetter G hG _ _ _) (Nat.le_of_ble_eq_true rfl) ?_
    refine w_if_eq (tgt := 91) X dX12_readRow_30 (by decide) (fun h30 => ?_) (fun h30 => ?_)
    · exact j91 (fun z => by rw [h30] at z; exact absurd z.2 (by decide))
    · have e30 : il_ (bf_ M n k) = 1 := (il_01 _).resolve_left h30
      unfold rr_ at hrr
      rw [if_pos ⟨e16, e30⟩] at hrr
      by_cases hd20 : nd = 20
      · have e20 : M.1 0 13 = 20 := by rw [h13, hd20]; rfl
        rw [if_pos hd20] at hrr
        refine w_aload_n X dX12_readRow_33 rfl rfl ?_
        refine w_iload_n X dX12_readRow_34 rfl rfl ?_
        refine w_v1fI X dX12_readRow_35 k12_count rfl rfl (c12_count G hG _ _ _) (Nat.le_of_ble_eq_true rfl) ?_
        refine w_if_eq (tgt := 89) X dX12_readRow_38 (by decide) (fun h38 => ?_) (fun h38 => absurd (if_pos e20) h38)
        refine w_iconst (v := 1) X dX12_readRow_89 (by decide) ?_
        refine w_zrR X dX12_readRow_90 (by first | exact Or.inl rfl | exact Or.inr rfl) ?_
        rw [← hrr, if_pos e20]
        exact py_f (Or.inr rfl) (px_fa (pf_rf M) hf)
      · have e20 : ¬ M.1 0 13 = 20 := fun q => hd20 ((nI_eq (b := 20) (by omega) (by omega)).mp (h13.symm.trans q))
        rw [if_neg hd20] at hrr
        refine w_aload_n X dX12_readRow_33 rfl rfl ?_
        refine w_iload_n X dX12_readRow_34 rfl rfl ?_
        refine w_v1fI X dX12_readRow_35 k12_count rfl rfl (c12_count G hG _ _ _) (Nat.le_of_ble_eq_true rfl) ?_
        rw [if_neg e20, if_neg e20]
        simp only [h13, nI_1]
        refine w_if_eq (tgt := 89) X dX12_readRow_38 (by decide) (fun h38 => absurd h38 (by decide)) (fun h38 => ?_)
        refine w_aload_n X dX12_readRow_41 rfl rfl ?_
        refine w_aload_n X dX12_readRow_42 rfl rfl ?_
        refine w_aload_n X dX12_readRow_43 rfl rfl ?_
        refine g12_at X dX12_readRow_44 ?_
        try simp only [gI_sI, gI_sL, gL_sI, gL_sL, false_and, and_false, and_self, if_false, if_true, reduceIte, Nat.reduceEqDiff, h5, h12, gI_wa, gL_wa, gI_pu, gL_pu, gI_op, gL_op]
        refine w_v1fI X dX12_readRow_47 k12_byteAt rfl rfl (c12_byteAt G hG _ _ (nI k) (fun z => tz_in (tz_sI h0 (by omega)) (by omega) z)) (Nat.le_of_ble_eq_true rfl) ?_
        rw [ba_bf (tz_sI h0 (by omega)) (by omega), bf_sI (by omega)]
        refine w_v1fI X dX12_readRow_50 k12_variableOf rfl rfl (c12_variableOf G hG _ _ _) (Nat.le_of_ble_eq_true rfl) ?_
        rw [vo_13]
        refine w_istore_n X dX12_readRow_53 rfl (by decide) ?_
        refine w_iload_n X dX12_readRow_54 rfl rfl ?_
        refine w_if_ge (tgt := 64) X dX12_readRow_55 (by decide) (fun h55 => ?_) (fun h55 => ?_)
        · rw [if_neg (Int32.not_lt.mpr h55)] at hrr
          obtain ⟨i, hi, ei⟩ := nI_of (Int32.not_lt.mpr h55)
          refine w_aload_n X dX12_readRow_64 rfl rfl ?_
          refine w_aload_n X dX12_readRow_65 rfl rfl ?_
          refine g12_length X dX12_readRow_66 ?_
          try simp only [gI_sI, gI_sL, gL_sI, gL_sL, false_and, and_false, and_self, if_false, if_true, reduceIte, Nat.reduceEqDiff, h5, h12, gI_wa, gL_wa, gI_pu, gL_pu, gI_op, gL_op]
          refine w_v1fV X dX12_readRow_69 k12_operand rfl rfl (c12_operand G hG _ _ (os_ W).length (by simp [sI_, h22]) (by omega) _) (Nat.le_of_ble_eq_true rfl) ?_
          refine w_aload_n X dX12_readRow_72 rfl rfl ?_
          refine w_iconst (v := 1) X dX12_readRow_73 (by decide) ?_
          refine w_iload_n X dX12_readRow_74 rfl rfl ?_
          refine w_i2l X dX12_readRow_75 ?_
          refine w_v2fV X dX12_readRow_76 k12_put rfl rfl (c12_put G hG _ _ (cs_ W).length (by simp [op_, sI_, h12]) (by omega) _ _) (Nat.le_of_ble_eq_true rfl) ?_
          refine w_aload_n X dX12_readRow_79 rfl rfl ?_
          refine w_dup X dX12_readRow_80 rfl ?_
          refine g12_at X dX12_readRow_81 ?_
          try simp only [gI_sI, gI_sL, gL_sI, gL_sL, false_and, and_false, and_self, if_false, if_true, reduceIte, Nat.reduceEqDiff, h5, h12, gI_wa, gL_wa, gI_pu, gL_pu, gI_op, gL_op]
          refine w_iconst (v := 1) X dX12_readRow_84 (by decide) ?_
          refine w_iadd X dX12_readRow_85 ?_
          rw [nI_1]
          refine p12_at X dX12_readRow_86 ?_
          refine w_iconst (v := 1) X dX12_readRow_89 (by decide) ?_
          refine w_zrR X dX12_readRow_90 (by first | exact Or.inl rfl | exact Or.inr rfl) ?_
          rw [← hrr]
          first
            | (refine py_f (Or.inr rfl) ⟨pf_sI (pf_pu (pf_op (pf_f2 (pf_sI (pf_rf M) (by first | omega | exact at5_ (by omega)))))) (by first | omega | exact at5_ (by omega)), ?_, ?_⟩
               · simp [pu_, op_, sI_, sL_]
               · simp [pu_, op_, sI_, sL_])
            | (refine ⟨Or.inr rfl, ⟨pf_sI (pf_pu (pf_op (pf_sI (pf_rf M) (by first | omega | exact at5_ (by omega))))) (by first | omega | exact at5_ (by omega)), pr_leaf (t := 1) (v := (vo_ M (bf_ M n k)).toInt64) h (by first | omega | exact at5_ (by omega)) (by simp only [tc_]; rw [ei, pk_cl i rfl hi]) (by simp [nt_]) (tz_sI (tz_pu (tz_op (tz_sI h0 (by first | omega | exact at5_ (by omega))))) (by first | omega | exact at5_ (by omega))) (by simp [sI_]) (cd_sI (cd_pu (cd_op (cd_sI hc (by first | omega | exact at5_ (by omega)) (by first | omega | exact at5_ (by omega))))) (by first | omega | exact at5_ (by omega)) (by first | omega | exact at5_ (by omega))) (by simp [pu_, op_, sI_, sL_, h20]) (wr_sI (wr_pu (wr_op (wr_sI hw (Or.inl (by first | omega | exact at5_ (by omega)))))) (Or.inl (by first | omega | exact at5_ (by omega)))) (od_sI (od_pu (od_op (od_sI (by simpa using ho) (by first | omega | exact at5_ (by omega)) (by first | omega | exact at5_ (by omega))))) (by first | omega | exact at5_ (by omega)) (by first | omega | exact at5_ (by omega))) (by simp [pu_, op_, sI_, sL_]) (by simp [pu_, op_, sI_, sL_, h23]), by simp [pu_, op_, sI_, sL_, hf]⟩, rfl⟩)
        · rw [if_pos (Int32.not_le.mp h55)] at hrr
          refine w_aload_n X dX12_readRow_58 rfl rfl ?_
          refine w_iconst (v := 4) X dX12_readRow_59 (by decide) ?_
          refine w_iload_n X dX12_readRow_60 rfl rfl ?_
          refine w_v2fV X dX12_readRow_61 k12_fail rfl rfl (c12_fail G hG _ _ _ _) (Nat.le_of_ble_eq_true rfl) ?_
          rw [fa_0 (by simp [sI_, hf])]
          refine w_aload_n X dX12_readRow_64 rfl rfl ?_
          refine w_aload_n X dX12_readRow_65 rfl rfl ?_
          refine g12_length X dX12_readRow_66 ?_
          try simp only [gI_sI, gI_sL, gL_sI, gL_sL, false_and, and_false, and_self, if_false, if_true, reduceIte, Nat.reduceEqDiff, h5, h12, gI_wa, gL_wa, gI_pu, gL_pu, gI_op, gL_op]
          refine w_v1fV X dX12_readRow_69 k12_operand rfl rfl (c12_operand G hG _ _ (os_ W).length (by simp [sI_, h22]) (by omega) _) (Nat.le_of_ble_eq_true rfl) ?_
          refine w_aload_n X dX12_readRow_72 rfl rfl ?_
          refine w_iconst (v := 1) X dX12_readRow_73 (by decide) ?_
          refine w_iload_n X dX12_readRow_74 rfl rfl ?_
          refine w_i2l X dX12_readRow_75 ?_
          refine w_v2fV X dX12_readRow_76 k12_put rfl rfl (c12_put G hG _ _ (cs_ W).length (by simp [op_, sI_, h12]) (by omega) _ _) (Nat.le_of_ble_eq_true rfl) ?_
          refine w_aload_n X dX12_readRow_79 rfl rfl ?_
          refine w_dup X dX12_readRow_80 rfl ?_
          refine g12_at X dX12_readRow_81 ?_
          try simp only [gI_sI, gI_sL, gL_sI, gL_sL, false_and, and_false, and_self, if_false, if_true, reduceIte, Nat.reduceEqDiff, h5, h12, gI_wa, gL_wa, gI_pu, gL_pu, gI_op, gL_op]
          refine w_iconst (v := 1) X dX12_readRow_84 (by decide) ?_
          refine w_iadd X dX12_readRow_85 ?_
          rw [nI_1]
          refine p12_at X dX12_readRow_86 ?_
          refine w_iconst (v := 1) X dX12_readRow_89 (by decide) ?_
          refine w_zrR X dX12_readRow_90 (by first | exact Or.inl rfl | exact Or.inr rfl) ?_
          rw [← hrr]
          first
            | (refine py_f (Or.inr rfl) ⟨pf_sI (pf_pu (pf_op (pf_f2 (pf_sI (pf_rf M) (by first | omega | exact at5_ (by omega)))))) (by first | omega | exact at5_ (by omega)), ?_, ?_⟩
               · simp [pu_, op_, sI_, sL_]
               · simp [pu_, op_, sI_, sL_])
            | (refine ⟨Or.inr rfl, ⟨pf_sI (pf_pu (pf_op (pf_sI (pf_rf M) (by first | omega | exact at5_ (by omega))))) (by first | omega | exact at5_ (by omega)), pr_leaf (t := 1) (v := (vo_ M (bf_ M n k)).toInt64) h (by first | omega | exact at5_ (by omega)) (by simp only [tc_]; rw [ei, pk_cl i rfl hi]) (by simp [nt_]) (tz_sI (tz_pu (tz_op (tz_sI h0 (by first | omega | exact at5_ (by omega))))) (by first | omega | exact at5_ (by omega))) (by simp [sI_]) (cd_sI (cd_pu (cd_op (cd_sI hc (by first | omega | exact at5_ (by omega)) (by first | omega | exact at5_ (by omega))))) (by first | omega | exact at5_ (by omega)) (by first | omega | exact at5_ (by omega))) (by simp [pu_, op_, sI_, sL_, h20]) (wr_sI (wr_pu (wr_op (wr_sI hw (Or.inl (by first | omega | exact at5_ (by omega)))))) (Or.inl (by first | omega | exact at5_ (by omega)))) (od_sI (od_pu (od_op (od_sI (by simpa using ho) (by first | omega | exact at5_ (by omega)) (by first | omega | exact at5_ (by omega))))) (by first | omega | exact at5_ (by omega)) (by first | omega | exact at5_ (by omega))) (by simp [pu_, op_, sI_, sL_]) (by simp [pu_, op_, sI_, sL_, h23]), by simp [pu_, op_, sI_, sL_, hf]⟩, rfl⟩)

end
section
/-- a byte behind a tree -/
def si_ (c : Int32) (k : Nat) (W : List fr_) (e : Term) (nd op : Nat) : ss_ ⊕ (Int32 × Nat) :=
  if c = 35 then ha_ k W e nd op else if c = 63 then qu_ k W e nd op else if c = 58 then cl_ k W e nd op
  else if c = 60 ∨ c = 61 ∨ c = 62 then bt_ 3 c k W e nd op else if c = 43 ∨ c = 45 then bt_ 4 c k W e nd op else if c = 42 ∨ c = 47 ∨ c = 37 then bt_ 5 c k W e nd op
  else if c = 44 then cm2_ k W e nd op else if c = 41 then cz_ k W e nd op else .inr (1, k)
/-- what is answered: whether an operand is wanted -/
def ow2_ (r : Int32) : ss_ ⊕ (Int32 × Nat) → Prop
  | .inl S => r = match S.2.2.1 with | none => 1 | some _ => 0
  | .inr _ => True
def pw_ (M : mm_) (n : Nat) (q : ss_ ⊕ (Int32 × Nat)) (r : Int32) (N : mm_) : Prop := (r = 0 ∨ r = 1) ∧ px_ M n q N ∧ ow2_ r q
theorem ow_ha {k nd op : Nat} {W : List fr_} {e : Term} : ow2_ 1 (ha_ k W e nd op) := by unfold ha_; split <;> simp [ow2_]
theorem ow_qu {k nd op : Nat} {W : List fr_} {e : Term} : ow2_ 1 (qu_ k W e nd op) := by unfold qu_; split <;> simp [ow2_]
theorem ow_bt {k nd op L : Nat} {c : Int32} {W : List fr_} {e : Term} : ow2_ 1 (bt_ L c k W e nd op) := by
  unfold bt_
  generalize rt_ (if L = 3 then 4 else L) W e = q
  split
  · simp [ow2_]
  · split <;> simp [ow2_]
theorem ow_cl {k nd op : Nat} {W : List fr_} {e : Term} : ow2_ 1 (cl_ k W e nd op) := by
  unfold cl_
  split
  · simp [ow2_]
  · split <;> simp [ow2_]
theorem ow_cm {k nd op : Nat} {W : List fr_} {e : Term} : ow2_ 1 (cm2_ k W e nd op) := by
  unfold cm2_
  split
  · simp [ow2_]
  · split <;> simp [ow2_]
theorem ow_cz {k nd op : Nat} {W : List fr_} {e : Term} : ow2_ 0 (cz_ k W e nd op) := by
  unfold cz_
  split
  · simp [ow2_]
  · split
    · simp [ow2_]
    · split <;> simp [ow2_]
set_option maxRecDepth 100000 in
set_option maxHeartbeats 4000000 in
theorem c12_readSign (G : gg_) (hG : gd_ G) (d : Nat) (M : mm_) (n k nd op : Nat) (W : List fr_) (e : Term) (h : pr_ M n k W (some e) nd op) (hf : M.1 0 3 = 0) (hk : k < 268435456) : cm_ G yX12_readSign cX12_readSign 2 (some .boolean) (d + 6) [.ref (G.1 0)] M (rI_ (pw_ M n (si_ (bf_ M n k) k W e nd op))) := by
  refine cm_of hG (by decide) (Nat.le_of_ble_eq_true rfl) (fun C X => ?_)
  have h0 := h.1
  have h5 := h.2.1
  refine w_aload_n X dX12_readSign_0 rfl rfl ?_
  refine w_aload_n X dX12_readSign_1 rfl rfl ?_
  refine g12_at X dX12_readSign_2 ?_
  try simp only [gI_sI, gI_sL, gL_sI, gL_sL, false_and, and_false, and_self, if_false, if_true, reduceIte, Nat.reduceEqDiff, h5]
  refine w_v1fI X dX12_readSign_5 k12_byteAt rfl rfl (c12_byteAt G hG _ _ (nI k) (fun z => tz_in h0 (by omega) z)) (Nat.le_of_ble_eq_true rfl) ?_
  rw [ba_bf h0 (by omega)]
  refine w_istore_n X dX12_readSign_8 rfl (by decide) ?_
  refine w_iload_n X dX12_readSign_9 rfl rfl ?_
  refine w_bipush (v := 35) X dX12_readSign_10 (by decide) ?_
  refine w_icmp_ne (tgt := 22) X dX12_readSign_12 (by decide) (fun h12 => ?_) (fun h12 => ?_)
  · refine w_iload_n X dX12_readSign_22 rfl rfl ?_
    refine w_bipush (v := 63) X dX12_readSign_23 (by decide) ?_
    refine w_icmp_ne (tgt := 35) X dX12_readSign_25 (by decide) (fun h25 => ?_) (fun h25 => ?_)
    · refine w_iload_n X dX12_readSign_35 rfl rfl ?_
      refine w_bipush (v := 58) X dX12_readSign_36 (by decide) ?_
      refine w_icmp_ne (tgt := 48) X dX12_readSign_38 (by decide) (fun h38 => ?_) (fun h38 => ?_)
      · refine w_iload_n X dX12_readSign_48 rfl rfl ?_
        refine w_bipush (v := 60) X dX12_readSign_49 (by decide) ?_
        refine w_icmp_eq (tgt := 66) X dX12_readSign_51 (by decide) (fun h51 => ?_) (fun h51 => ?_)
        · refine w_aload_n X dX12_readSign_66 rfl rfl ?_
          refine w_iconst (v := 3) X dX12_readSign_67 (by decide) ?_
          refine w_iload_n X dX12_readSign_68 rfl rfl ?_
          refine w_v2rV X dX12_readSign_69 k12_between rfl rfl (c12_between G hG _ M n k nd op 3 _ W e h hf hk (by omega)) (Nat.le_of_ble_eq_true rfl) (fun N69 h69 => ?_)
          refine w_goto (tgt := 157) X dX12_readSign_72 (by decide) ?_
          refine w_iconst (v := 1) X dX12_readSign_157 (by decide) ?_
          refine w_zrR X dX12_readSign_158 (by first | exact Or.inl rfl | exact Or.inr rfl) ⟨Or.inr rfl, ?_, ?_⟩
          · have hs : si_ (bf_ M n k) k W e nd op = bt_ 3 (bf_ M n k) k W e nd op := by unfold si_; simp [h12, h25, h38, h51]
            rw [hs]
            exact h69
          · have hs : si_ (bf_ M n k) k W e nd op = bt_ 3 (bf_ M n k) k W e nd op := by unfold si_; simp [h12, h25, h38, h51]
            rw [hs]
            exact ow_bt
        · refine w_iload_n X dX12_readSign_54 rfl rfl ?_
          refine w_bipush (v := 61) X dX12_readSign_55 (by decide) ?_
          refine w_icmp_eq (tgt := 66) X dX12_readSign_57 (by decide) (fun h57 => ?_) (fun h57 => ?_)
          · refine w_aload_n X dX12_readSign_66 rfl rfl ?_
            refine w_iconst (v := 3) X dX12_readSign_67 (by decide) ?_
            refine w_iload_n X dX12_readSign_68 rfl rfl ?_
            refine w_v2rV X dX12_readSign_69 k12_between rfl rfl (c12_between G hG _ M n k nd op 3 _ W e h hf hk (by omega)) (Nat.le_of_ble_eq_true rfl) (fun N69 h69 => ?_)
            refine w_goto (tgt := 157) X dX12_readSign_72 (by decide) ?_
            refine w_iconst (v := 1) X dX12_readSign_157 (by decide) ?_
            refine w_zrR X dX12_readSign_158 (by first | exact Or.inl rfl | exact Or.inr rfl) ⟨Or.inr rfl, ?_, ?_⟩
            · have hs : si_ (bf_ M n k) k W e nd op = bt_ 3 (bf_ M n k) k W e nd op := by unfold si_; simp [h12, h25, h38, h51, h57]
              rw [hs]
              exact h69
            · have hs : si_ (bf_ M n k) k W e nd op = bt_ 3 (bf_ M n k) k W e nd op := by unfold si_; simp [h12, h25, h38, h51, h57]
              rw [hs]
              exact ow_bt
          · refine w_iload_n X dX12_readSign_60 rfl rfl ?_
            refine w_bipush (v := 62) X dX12_readSign_61 (by decide) ?_
            refine w_icmp_ne (tgt := 75) X dX12_readSign_63 (by decide) (fun h63 => ?_) (fun h63 => ?_)
            · refine w_iload_n X dX12_readSign_75 rfl rfl ?_
              refine w_bipush (v := 43) X dX12_readSign_76 (by decide) ?_
              refine w_icmp_eq (tgt := 87) X dX12_readSign_78 (by decide) (fun h78 => ?_) (fun h78 => ?_)
              · refine w_aload_n X dX12_readSign_87 rfl rfl ?_
                refine w_iconst (v := 4) X dX12_readSign_88 (by decide) ?_
                refine w_iload_n X dX12_readSign_89 rfl rfl ?_
                refine w_v2rV X dX12_readSign_90 k12_between rfl rfl (c12_between G hG _ M n k nd op 4 _ W e h hf hk (by omega)) (Nat.le_of_ble_eq_true rfl) (fun N90 h90 => ?_)
                refine w_goto (tgt := 157) X dX12_readSign_93 (by decide) ?_
                refine w_iconst (v := 1) X dX12_readSign_157 (by decide) ?_
                refine w_zrR X dX12_readSign_158 (by first | exact Or.inl rfl | exact Or.inr rfl) ⟨Or.inr rfl, ?_, ?_⟩
                · have hs : si_ (bf_ M n k) k W e nd op = bt_ 4 (bf_ M n k) k W e nd op := by unfold si_; simp [h12, h25, h38, h51, h57, h63, h78]
                  rw [hs]
                  exact h90
                · have hs : si_ (bf_ M n k) k W e nd op = bt_ 4 (bf_ M n k) k W e nd op := by unfold si_; simp [h12, h25, h38, h51, h57, h63, h78]
                  rw [hs]
                  exact ow_bt
              · refine w_iload_n X dX12_readSign_81 rfl rfl ?_
                refine w_bipush (v := 45) X dX12_readSign_82 (by decide) ?_
                refine w_icmp_ne (tgt := 96) X dX12_readSign_84 (by decide) (fun h84 => ?_) (fun h84 => ?_)
                · refine w_iload_n X dX12_readSign_96 rfl rfl ?_
                  refine w_bipush (v := 42) X dX12_readSign_97 (by decide) ?_
                  refine w_icmp_eq (tgt := 114) X dX12_readSign_99 (by decide) (fun h99 => ?_) (fun h99 => ?_)
                  · refine w_aload_n X dX12_readSign_114 rfl rfl ?_
                    refine w_iconst (v := 5) X dX12_readSign_115 (by decide) ?_
                    refine w_iload_n X dX12_readSign_116 rfl rfl ?_
                    refine w_v2rV X dX12_readSign_117 k12_between rfl rfl (c12_between G hG _ M n k nd op 5 _ W e h hf hk (by omega)) (Nat.le_of_ble_eq_true rfl) (fun N117 h117 => ?_)
                    refine w_goto (tgt := 157) X dX12_readSign_120 (by decide) ?_
                    refine w_iconst (v := 1) X dX12_readSign_157 (by decide) ?_
                    refine w_zrR X dX12_readSign_158 (by first | exact Or.inl rfl | exact Or.inr rfl) ⟨Or.inr rfl, ?_, ?_⟩
                    · have hs : si_ (bf_ M n k) k W e nd op = bt_ 5 (bf_ M n k) k W e nd op := by unfold si_; simp [h12, h25, h38, h51, h57, h63, h78, h84, h99]
                      rw [hs]
                      exact h117
                    · have hs : si_ (bf_ M n k) k W e nd op = bt_ 5 (bf_ M n k) k W e nd op := by unfold si_; simp [h12, h25, h38, h51, h57, h63, h78, h84, h99]
                      rw [hs]
                      exact ow_bt
                  · refine w_iload_n X dX12_readSign_102 rfl rfl ?_
                    refine w_bipush (v := 47) X dX12_readSign_103 (by decide) ?_
                    refine w_icmp_eq (tgt := 114) X dX12_readSign_105 (by decide) (fun h105 => ?_) (fun h105 => ?_)
                    · refine w_aload_n X dX12_readSign_114 rfl rfl ?_
                      refine w_iconst (v := 5) X dX12_readSign_115 (by decide) ?_
                      refine w_iload_n X dX12_readSign_116 rfl rfl ?_
                      refine w_v2rV X dX12_readSign_117 k12_between rfl rfl (c12_between G hG _ M n k nd op 5 _ W e h hf hk (by omega)) (Nat.le_of_ble_eq_true rfl) (fun N117 h117 => ?_)
                      refine w_goto (tgt := 157) X dX12_readSign_120 (by decide) ?_
                      refine w_iconst (v := 1) X dX12_readSign_157 (by decide) ?_
                      refine w_zrR X dX12_readSign_158 (by first | exact Or.inl rfl | exact Or.inr rfl) ⟨Or.inr rfl, ?_, ?_⟩
                      · have hs : si_ (bf_ M n k) k W e nd op = bt_ 5 (bf_ M n k) k W e nd op := by unfold si_; simp [h12, h25, h38, h51, h57, h63, h78, h84, h99, h105]
                        rw [hs]
                        exact h117
                      · have hs : si_ (bf_ M n k) k W e nd op = bt_ 5 (bf_ M n k) k W e nd op := by unfold si_; simp [h12, h25, h38, h51, h57, h63, h78, h84, h99, h105]
                        rw [hs]
                        exact ow_bt
                    · refine w_iload_n X dX12_readSign_108 rfl rfl ?_
                      refine w_bipush (v := 37) X dX12_readSign_109 (by decide) ?_
                      refine w_icmp_ne (tgt := 123) X dX12_readSign_111 (by decide) (fun h111 => ?_) (fun h111 => ?_)
                      · refine w_iload_n X dX12_readSign_123 rfl rfl ?_
                        refine w_bipush (v := 44) X dX12_readSign_124 (by decide) ?_
                        refine w_icmp_ne (tgt := 136) X dX12_readSign_126 (by decide) (fun h126 => ?_) (fun h126 => ?_)
                        · refine w_iload_n X dX12_readSign_136 rfl rfl ?_
                          refine w_bipush (v := 41) X dX12_readSign_137 (by decide) ?_
                          refine w_icmp_ne (tgt := 148) X dX12_readSign_139 (by decide) (fun h139 => ?_) (fun h139 => ?_)
                          · refine w_aload_n X dX12_readSign_148 rfl rfl ?_
                            refine w_iconst (v := 1) X dX12_readSign_149 (by decide) ?_
                            refine w_aload_n X dX12_readSign_150 rfl rfl ?_
                            refine g12_at X dX12_readSign_151 ?_
                            try simp only [gI_sI, gI_sL, gL_sI, gL_sL, false_and, and_false, and_self, if_false, if_true, reduceIte, Nat.reduceEqDiff, h5]
                            refine w_v2fV X dX12_readSign_154 k12_fail rfl rfl (c12_fail G hG _ _ _ _) (Nat.le_of_ble_eq_true rfl) ?_
                            refine w_iconst (v := 1) X dX12_readSign_157 (by decide) ?_
                            refine w_zrR X dX12_readSign_158 (by first | exact Or.inl rfl | exact Or.inr rfl) ⟨Or.inr rfl, ?_, ?_⟩
                            · have hs : si_ (bf_ M n k) k W e nd op = .inr (1, k) := by unfold si_; simp [h12, h25, h38, h51, h57, h63, h78, h84, h99, h105, h111, h126, h139]
                              rw [hs]
                              exact px_fa (pf_rf M) hf
                            · have hs : si_ (bf_ M n k) k W e nd op = .inr (1, k) := by unfold si_; simp [h12, h25, h38, h51, h57, h63, h78, h84, h99, h105, h111, h126, h139]
                              rw [hs]
                              exact trivial
                          · refine w_aload_n X dX12_readSign_142 rfl rfl ?_
                            refine w_v0rV X dX12_readSign_143 k12_close rfl rfl (c12_close G hG _ M n k nd op W e h hf hk) (Nat.le_of_ble_eq_true rfl) (fun N143 h143 => ?_)
                            refine w_iconst (v := 0) X dX12_readSign_146 (by decide) ?_
                            refine w_zrR X dX12_readSign_147 (by first | exact Or.inl rfl | exact Or.inr rfl) ⟨Or.inl rfl, ?_, ?_⟩
                            · have hs : si_ (bf_ M n k) k W e nd op = cz_ k W e nd op := by unfold si_; simp [h12, h25, h38, h51, h57, h63, h78, h84, h99, h105, h111, h126, h139]
                              rw [hs]
                              exact h143
                            · have hs : si_ (bf_ M n k) k W e nd op = cz_ k W e nd op := by unfold si_; simp [h12, h25, h38, h51, h57, h63, h78, h84, h99, h105, h111, h126, h139]
                              rw [hs]
                              exact ow_cz
                        · refine w_aload_n X dX12_readSign_129 rfl rfl ?_
                          refine w_v0rV X dX12_readSign_130 k12_comma rfl rfl (c12_comma G hG _ M n k nd op W e h hf hk) (Nat.le_of_ble_eq_true rfl) (fun N130 h130 => ?_)
                          refine w_goto (tgt := 157) X dX12_readSign_133 (by decide) ?_
                          refine w_iconst (v := 1) X dX12_readSign_157 (by decide) ?_
                          refine w_zrR X dX12_readSign_158 (by first | exact Or.inl rfl | exact Or.inr rfl) ⟨Or.inr rfl, ?_, ?_⟩
                          · have hs : si_ (bf_ M n k) k W e nd op = cm2_ k W e nd op := by unfold si_; simp [h12, h25, h38, h51, h57, h63, h78, h84, h99, h105, h111, h126]
                            rw [hs]
                            exact h130
                          · have hs : si_ (bf_ M n k) k W e nd op = cm2_ k W e nd op := by unfold si_; simp [h12, h25, h38, h51, h57, h63, h78, h84, h99, h105, h111, h126]
                            rw [hs]
                            exact ow_cm
                      · refine w_aload_n X dX12_readSign_114 rfl rfl ?_
                        refine w_iconst (v := 5) X dX12_readSign_115 (by decide) ?_
                        refine w_iload_n X dX12_readSign_116 rfl rfl ?_
                        refine w_v2rV X dX12_readSign_117 k12_between rfl rfl (c12_between G hG _ M n k nd op 5 _ W e h hf hk (by omega)) (Nat.le_of_ble_eq_true rfl) (fun N117 h117 => ?_)
                        refine w_goto (tgt := 157) X dX12_readSign_120 (by decide) ?_
                        refine w_iconst (v := 1) X dX12_readSign_157 (by decide) ?_
                        refine w_zrR X dX12_readSign_158 (by first | exact Or.inl rfl | exact Or.inr rfl) ⟨Or.inr rfl, ?_, ?_⟩
                        · have hs : si_ (bf_ M n k) k W e nd op = bt_ 5 (bf_ M n k) k W e nd op := by unfold si_; simp [h12, h25, h38, h51, h57, h63, h78, h84, h99, h105, h111]
                          rw [hs]
                          exact h117
                        · have hs : si_ (bf_ M n k) k W e nd op = bt_ 5 (bf_ M n k) k W e nd op := by unfold si_; simp [h12, h25, h38, h51, h57, h63, h78, h84, h99, h105, h111]
                          rw [hs]
                          exact ow_bt
                · refine w_aload_n X dX12_readSign_87 rfl rfl ?_
                  refine w_iconst (v := 4) X dX12_readSign_88 (by decide) ?_
                  refine w_iload_n X dX12_readSign_89 rfl rfl ?_
                  refine w_v2rV X dX12_readSign_90 k12_between rfl rfl (c12_between G hG _ M n k nd op 4 _ W e h hf hk (by omega)) (Nat.le_of_ble_eq_true rfl) (fun N90 h90 => ?_)
                  refine w_goto (tgt := 157) X dX12_readSign_93 (by decide) ?_
                  refine w_iconst (v := 1) X dX12_readSign_157 (by decide) ?_
                  refine w_zrR X dX12_readSign_158 (by first | exact Or.inl rfl | exact Or.inr rfl) ⟨Or.inr rfl, ?_, ?_⟩
                  · have hs : si_ (bf_ M n k) k W e nd op = bt_ 4 (bf_ M n k) k W e nd op := by unfold si_; simp [h12, h25, h38, h51, h57, h63, h78, h84]
                    rw [hs]
                    exact h90
                  · have hs : si_ (bf_ M n k) k W e nd op = bt_ 4 (bf_ M n k) k W e nd op := by unfold si_; simp [h12, h25, h38, h51, h57, h63, h78, h84]
                    rw [hs]
                    exact ow_bt
            · refine w_aload_n X dX12_readSign_66 rfl rfl ?_
              refine w_iconst (v := 3) X dX12_readSign_67 (by decide) ?_
              refine w_iload_n X dX12_readSign_68 rfl rfl ?_
              refine w_v2rV X dX12_readSign_69 k12_between rfl rfl (c12_between G hG _ M n k nd op 3 _ W e h hf hk (by omega)) (Nat.le_of_ble_eq_true rfl) (fun N69 h69 => ?_)
              refine w_goto (tgt := 157) X dX12_readSign_72 (by decide) ?_
              refine w_iconst (v := 1) X dX12_readSign_157 (by decide) ?_
              refine w_zrR X dX12_readSign_158 (by first | exact Or.inl rfl | exact Or.inr rfl) ⟨Or.inr rfl, ?_, ?_⟩
              · have hs : si_ (bf_ M n k) k W e nd op = bt_ 3 (bf_ M n k) k W e nd op := by unfold si_; simp [h12, h25, h38, h51, h57, h63]
                rw [hs]
                exact h69
              · have hs : si_ (bf_ M n k) k W e nd op = bt_ 3 (bf_ M n k) k W e nd op := by unfold si_; simp [h12, h25, h38, h51, h57, h63]
                rw [hs]
                exact ow_bt
      · refine w_aload_n X dX12_readSign_41 rfl rfl ?_
        refine w_v0rV X dX12_readSign_42 k12_colon rfl rfl (c12_colon G hG _ M n k nd op W e h hf hk) (Nat.le_of_ble_eq_true rfl) (fun N42 h42 => ?_)
        refine w_goto (tgt := 157) X dX12_readSign_45 (by decide) ?_
        refine w_iconst (v := 1) X dX12_readSign_157 (by decide) ?_
        refine w_zrR X dX12_readSign_158 (by first | exact Or.inl rfl | exact Or.inr rfl) ⟨Or.inr rfl, ?_, ?_⟩
        · have hs : si_ (bf_ M n k) k W e nd op = cl_ k W e nd op := by unfold si_; simp [h12, h25, h38]
          rw [hs]
          exact h42
        · have hs : si_ (bf_ M n k) k W e nd op = cl_ k W e nd op := by unfold si_; simp [h12, h25, h38]
          rw [hs]
          exact ow_cl
    · refine w_aload_n X dX12_readSign_28 rfl rfl ?_
      refine w_v0rV X dX12_readSign_29 k12_question rfl rfl (c12_question G hG _ M n k nd op W e h hf hk) (Nat.le_of_ble_eq_true rfl) (fun N29 h29 => ?_)
      refine w_goto (tgt := 157) X dX12_readSign_32 (by decide) ?_
      refine w_iconst (v := 1) X dX12_readSign_157 (by decide) ?_
      refine w_zrR X dX12_readSign_158 (by first | exact Or.inl rfl | exact Or.inr rfl) ⟨Or.inr rfl, ?_, ?_⟩
      · have hs : si_ (bf_ M n k) k W e nd op = qu_ k W e nd op := by unfold si_; simp [h12, h25]
        rw [hs]
        exact h29
      · have hs : si_ (bf_ M n k) k W e nd op = qu_ k W e nd op := by unfold si_; simp [h12, h25]
        rw [hs]
        exact ow_qu
  · refine w_aload_n X dX12_readSign_15 rfl rfl ?_
    refine w_v0rV X dX12_readSign_16 k12_hash rfl rfl (c12_hash G hG _ M n k nd op W e h hf hk) (Nat.le_of_ble_eq_true rfl) (fun N16 h16 => ?_)
    refine w_goto (tgt := 157) X dX12_readSign_19 (by decide) ?_
    refine w_iconst (v := 1) X dX12_readSign_157 (by decide) ?_
    refine w_zrR X dX12_readSign_158 (by first | exact Or.inl rfl | exact Or.inr rfl) ⟨Or.inr rfl, ?_, ?_⟩
    · have hs : si_ (bf_ M n k) k W e nd op = ha_ k W e nd op := by unfold si_; simp [h12]
      rw [hs]
      exact h16
    · have hs : si_ (bf_ M n k) k W e nd op = ha_ k W e nd op := by unfold si_; simp [h12]
      rw [hs]
      exact ow_ha

end
