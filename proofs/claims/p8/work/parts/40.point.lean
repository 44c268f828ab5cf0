/-! command's parts: readPoint, reset, kill -/
def wdR_ (a b c e : Int32) : Int64 := (((a.toInt64 <<< ((15 : Int32).toInt64 &&& 63)) ||| (b.toInt64 <<< ((10 : Int32).toInt64 &&& 63))) ||| (c.toInt64 <<< ((5 : Int32).toInt64 &&& 63)) ||| e.toInt64) &&& 1048575
def w2_ (a b c e h : Int32) (a2 b2 c2 e2 : Int32) : Int64 := (wdR_ a b c e <<< (h.toInt64 &&& 63)) ||| wdR_ a2 b2 c2 e2
theorem c12_word2 (G : gg_) (hG : gd_ G) (d : Nat) (M : mm_) (a b c e : Int32) : cm_ G yX12_word cX12_word 4 (some .long) (d) [.int a, .int b, .int c, .int e] M (fL_ (wdR_ a b c e) M) := c12_word G hG d M a b c e
/-- a row's letters as one number, where it is short enough -/
def rv_ (f : Nat → Int32) (s z : Nat) : Int64 := if 8 < z then 0 else nm_ f s z
/-- the point that a row names, or -1 -/
def pt0_ (v : Int64) (z : Nat) : Int32 := if z = 5 ∧ v = w2_ 0 5 14 20 10 0 0 5 18 then 0 else -1
def pt1_ (v : Int64) (z : Nat) : Int32 := if z = 6 ∧ v = w2_ 18 5 20 21 10 0 0 18 14 then 1 else pt0_ v z
def pt_ (v : Int64) (z : Nat) : Int32 := if z = 5 ∧ v = w2_ 0 20 8 18 10 0 0 15 23 then 2 else pt1_ v z
/-- behind a row's reading at s -/
def ra_ (M : mm_) (n s : Nat) : mm_ := sL_ (sI_ M 0 5 (nI s)) 0 24 (nm_ (bf_ M n) s (min (rz_ M n s) 12))
set_option maxRecDepth 100000 in
set_option maxHeartbeats 4000000 in
theorem c12_readPoint (G : gg_) (hG : gd_ G) (d : Nat) (M : mm_) (n k s z : Nat) (v : Int64) (ht : tz_ M n) (h5 : M.1 0 5 = nI k) (hk : k ≤ n) (hs : sp_ M n k = s) (hz : rz_ M n s = z) (hv : rv_ (bf_ M n) s z = v) : cm_ G yX12_readPoint cX12_readPoint 6 (some .int) (d + 4) [.ref (G.1 0)] M (fI_ (if pt_ v z < 0 ∨ ¬ bf_ M n (s + z) ≤ 32 then -1 else pt_ v z) (if pt_ v z < 0 ∨ ¬ bf_ M n (s + z) ≤ 32 then fa_ (ra_ M n s) 1 (nI s) else sI_ (ra_ M n s) 0 5 (nI (s + z)))) := by
  refine cm_of hG (by decide) (Nat.le_of_ble_eq_true rfl) (fun C X => ?_)
  have hn := ht.2
  have hsn := (sp_le (M := M) hk).2
  rw [hs] at hsn
  have hzn := rz_le M n s
  rw [hz] at hzn
  have hr5 : (ra_ M n s).1 0 5 = nI s := by simp [ra_, sI_, sL_]
  have hrt : tz_ (ra_ M n s) n := tz_sL (tz_sI ht (by omega))
  have hrb : bf_ (ra_ M n s) n = bf_ M n := by funext q; exact (show bf_ (sI_ M 0 5 (nI s)) n q = _ from bf_sI (by omega))
  have e1 : tz_ (sI_ M 0 5 (nI s)) n := tz_sI ht (by omega)
  have e2 : bf_ (sI_ M 0 5 (nI s)) n = bf_ M n := by funext q; exact bf_sI (by omega)
  have e3 : rz_ (sI_ M 0 5 (nI s)) n s = rz_ M n s := by unfold rz_; rw [e2]
  have e4 : rz_ (ra_ M n s) n s = z := by rw [← hz]; unfold rz_; rw [hrb]
  have ez : ∀ q : Nat, q ≤ 200 → (nI z = nI q ↔ z = q) := fun q hq => nI_eq (by omega) (by omega)
  have j156 : ∀ p0 : Int32, p0 = (pt_ v z) → wq_ C G (qe_ C G (fI_ (if pt_ v z < 0 ∨ ¬ bf_ M n (s + z) ≤ 32 then -1 else pt_ v z) (if pt_ v z < 0 ∨ ¬ bf_ M n (s + z) ≤ 32 then fa_ (ra_ M n s) 1 (nI s) else sI_ (ra_ M n s) 0 5 (nI (s + z))))) 156 [some (.ref (G.1 0)), some (.int (nI s)), some (.long v), none, some (.int (nI z)), some (.int p0)] [] (ra_ M n s) := by
    intro p0 hp0
    subst hp0
    refine w_iload X dX12_readPoint_156 rfl ?_
    refine w_if_lt (tgt := 172) X dX12_readPoint_158 (by decide) (fun h158 => ?_) (fun h158 => ?_)
    · rw [if_pos (Or.inl h158), if_pos (Or.inl h158)]
      refine w_aload_n X dX12_readPoint_172 rfl rfl ?_
      refine w_iconst (v := 1) X dX12_readPoint_173 (by decide) ?_
      refine w_iload_n X dX12_readPoint_174 rfl rfl ?_
      refine w_v2fV X dX12_readPoint_175 k12_fail rfl rfl (c12_fail G hG _ _ _ _) (Nat.le_of_ble_eq_true rfl) ?_
      refine w_iconst (v := -1) X dX12_readPoint_178 (by decide) ?_
      exact w_irF X dX12_readPoint_179 rfl rfl
    · refine w_aload_n X dX12_readPoint_161 rfl rfl ?_
      refine w_iload_n X dX12_readPoint_162 rfl rfl ?_
      refine w_iload X dX12_readPoint_163 rfl ?_
      refine w_iadd X dX12_readPoint_165 ?_
      rw [nI_add]
      refine w_v1fI X dX12_readPoint_166 k12_endsAt rfl rfl (c12_endsAt G hG _ _ n (s + z) hrt (by omega)) (Nat.le_of_ble_eq_true rfl) ?_
      rw [hrb]
      refine w_if_ne (tgt := 180) X dX12_readPoint_169 (by decide) (fun h169 => ?_) (fun h169 => ?_)
      · have e169 : bf_ M n (s + z) ≤ 32 := Decidable.by_contra (fun q => h169 (if_neg q))
        have e5 : ¬ (pt_ v z < 0 ∨ ¬ bf_ M n (s + z) ≤ 32) := fun q => q.elim h158 (fun y => y e169)
        rw [if_neg e5, if_neg e5]
        refine w_aload_n X dX12_readPoint_180 rfl rfl ?_
        refine w_iload_n X dX12_readPoint_181 rfl rfl ?_
        refine w_iload X dX12_readPoint_182 rfl ?_
        refine w_iadd X dX12_readPoint_184 ?_
        rw [nI_add]
        refine p12_at X dX12_readPoint_185 ?_
        refine w_iload X dX12_readPoint_188 rfl ?_
        exact w_irF X dX12_readPoint_190 rfl rfl
      · have e169 : ¬ bf_ M n (s + z) ≤ 32 := fun q => by rw [if_pos q] at h169; exact absurd h169 (by decide)
        rw [if_pos (Or.inr e169), if_pos (Or.inr e169)]
        refine w_aload_n X dX12_readPoint_172 rfl rfl ?_
        refine w_iconst (v := 1) X dX12_readPoint_173 (by decide) ?_
        refine w_iload_n X dX12_readPoint_174 rfl rfl ?_
        refine w_v2fV X dX12_readPoint_175 k12_fail rfl rfl (c12_fail G hG _ _ _ _) (Nat.le_of_ble_eq_true rfl) ?_
        refine w_iconst (v := -1) X dX12_readPoint_178 (by decide) ?_
        exact w_irF X dX12_readPoint_179 rfl rfl
  have j114 : ∀ p0 : Int32, p0 = (pt1_ v z) → wq_ C G (qe_ C G (fI_ (if pt_ v z < 0 ∨ ¬ bf_ M n (s + z) ≤ 32 then -1 else pt_ v z) (if pt_ v z < 0 ∨ ¬ bf_ M n (s + z) ≤ 32 then fa_ (ra_ M n s) 1 (nI s) else sI_ (ra_ M n s) 0 5 (nI (s + z))))) 114 [some (.ref (G.1 0)), some (.int (nI s)), some (.long v), none, some (.int (nI z)), some (.int p0)] [] (ra_ M n s) := by
    intro p0 hp0
    subst hp0
    refine w_iload X dX12_readPoint_114 rfl ?_
    refine w_iconst (v := 5) X dX12_readPoint_116 (by decide) ?_
    refine w_icmp_ne (tgt := 152) X dX12_readPoint_117 (by decide) (fun h117 => ?_) (fun h117 => ?_)
    · refine w_iload X dX12_readPoint_152 rfl ?_
      refine w_istore X dX12_readPoint_154 (by decide) ?_
      have ep : pt_ v z = (pt1_ v z) := by unfold pt_; exact if_neg (fun q => h117 (by rw [q.1]; rfl))
      exact j156 _ ep.symm
    · refine w_lload_n X dX12_readPoint_120 rfl rfl ?_
      refine w_iconst (v := 0) X dX12_readPoint_121 (by decide) ?_
      refine w_bipush (v := 20) X dX12_readPoint_122 (by decide) ?_
      refine w_bipush (v := 8) X dX12_readPoint_124 (by decide) ?_
      refine w_bipush (v := 18) X dX12_readPoint_126 (by decide) ?_
      refine w_s4fL X dX12_readPoint_128 k12_word (c12_word2 G hG _ _ _ _ _ _) (Nat.le_of_ble_eq_true rfl) ?_
      refine w_bipush (v := 10) X dX12_readPoint_131 (by decide) ?_
      refine w_lshl X dX12_readPoint_133 ?_
      refine w_iconst (v := 0) X dX12_readPoint_134 (by decide) ?_
      refine w_iconst (v := 0) X dX12_readPoint_135 (by decide) ?_
      refine w_bipush (v := 15) X dX12_readPoint_136 (by decide) ?_
      refine w_bipush (v := 23) X dX12_readPoint_138 (by decide) ?_
      refine w_s4fL X dX12_readPoint_140 k12_word (c12_word2 G hG _ _ _ _ _ _) (Nat.le_of_ble_eq_true rfl) ?_
      refine w_lor X dX12_readPoint_143 ?_
      refine w_lcmp X dX12_readPoint_144 ?_
      refine w_if_ne (tgt := 152) X dX12_readPoint_145 (by decide) (fun h145 => ?_) (fun h145 => ?_)
      · refine w_iload X dX12_readPoint_152 rfl ?_
        refine w_istore X dX12_readPoint_154 (by decide) ?_
        have ep : pt_ v z = (pt1_ v z) := by unfold pt_; exact if_neg (fun q => h145 (lc_.mpr q.2))
        exact j156 _ ep.symm
      · refine w_iconst (v := 2) X dX12_readPoint_148 (by decide) ?_
        refine w_goto (tgt := 154) X dX12_readPoint_149 (by decide) ?_
        refine w_istore X dX12_readPoint_154 (by decide) ?_
        have ep : pt_ v z = 2 := by unfold pt_; exact if_pos ⟨(ez 5 (by omega)).mp h117, lc_.mp h145⟩
        exact j156 _ ep.symm
  have j71 : ∀ p0 : Int32, p0 = (pt0_ v z) → wq_ C G (qe_ C G (fI_ (if pt_ v z < 0 ∨ ¬ bf_ M n (s + z) ≤ 32 then -1 else pt_ v z) (if pt_ v z < 0 ∨ ¬ bf_ M n (s + z) ≤ 32 then fa_ (ra_ M n s) 1 (nI s) else sI_ (ra_ M n s) 0 5 (nI (s + z))))) 71 [some (.ref (G.1 0)), some (.int (nI s)), some (.long v), none, some (.int (nI z)), some (.int p0)] [] (ra_ M n s) := by
    intro p0 hp0
    subst hp0
    refine w_iload X dX12_readPoint_71 rfl ?_
    refine w_bipush (v := 6) X dX12_readPoint_73 (by decide) ?_
    refine w_icmp_ne (tgt := 110) X dX12_readPoint_75 (by decide) (fun h75 => ?_) (fun h75 => ?_)
    · refine w_iload X dX12_readPoint_110 rfl ?_
      refine w_istore X dX12_readPoint_112 (by decide) ?_
      have ep : pt1_ v z = (pt0_ v z) := by unfold pt1_; exact if_neg (fun q => h75 (by rw [q.1]; rfl))
      exact j114 _ ep.symm
    · refine w_lload_n X dX12_readPoint_78 rfl rfl ?_
      refine w_bipush (v := 18) X dX12_readPoint_79 (by decide) ?_
      refine w_iconst (v := 5) X dX12_readPoint_81 (by decide) ?_
      refine w_bipush (v := 20) X dX12_readPoint_82 (by decide) ?_
      refine w_bipush (v := 21) X dX12_readPoint_84 (by decide) ?_
      refine w_s4fL X dX12_readPoint_86 k12_word (c12_word2 G hG _ _ _ _ _ _) (Nat.le_of_ble_eq_true rfl) ?_
      refine w_bipush (v := 10) X dX12_readPoint_89 (by decide) ?_
      refine w_lshl X dX12_readPoint_91 ?_
      refine w_iconst (v := 0) X dX12_readPoint_92 (by decide) ?_
      refine w_iconst (v := 0) X dX12_readPoint_93 (by decide) ?_
      refine w_bipush (v := 18) X dX12_readPoint_94 (by decide) ?_
      refine w_bipush (v := 14) X dX12_readPoint_96 (by decide) ?_
      refine w_s4fL X dX12_readPoint_98 k12_word (c12_word2 G hG _ _ _ _ _ _) (Nat.le_of_ble_eq_true rfl) ?_
      refine w_lor X dX12_readPoint_101 ?_
      refine w_lcmp X dX12_readPoint_102 ?_
      refine w_if_ne (tgt := 110) X dX12_readPoint_103 (by decide) (fun h103 => ?_) (fun h103 => ?_)
      · refine w_iload X dX12_readPoint_110 rfl ?_
        refine w_istore X dX12_readPoint_112 (by decide) ?_
        have ep : pt1_ v z = (pt0_ v z) := by unfold pt1_; exact if_neg (fun q => h103 (lc_.mpr q.2))
        exact j114 _ ep.symm
      · refine w_iconst (v := 1) X dX12_readPoint_106 (by decide) ?_
        refine w_goto (tgt := 112) X dX12_readPoint_107 (by decide) ?_
        refine w_istore X dX12_readPoint_112 (by decide) ?_
        have ep : pt1_ v z = 1 := by unfold pt1_; exact if_pos ⟨(ez 6 (by omega)).mp h75, lc_.mp h103⟩
        exact j114 _ ep.symm
  have j31 : ∀ p0 : Int32, p0 = (-1) → wq_ C G (qe_ C G (fI_ (if pt_ v z < 0 ∨ ¬ bf_ M n (s + z) ≤ 32 then -1 else pt_ v z) (if pt_ v z < 0 ∨ ¬ bf_ M n (s + z) ≤ 32 then fa_ (ra_ M n s) 1 (nI s) else sI_ (ra_ M n s) 0 5 (nI (s + z))))) 31 [some (.ref (G.1 0)), some (.int (nI s)), some (.long v), none, some (.int (nI z)), some (.int p0)] [] (ra_ M n s) := by
    intro p0 hp0
    subst hp0
    refine w_iload X dX12_readPoint_31 rfl ?_
    refine w_iconst (v := 5) X dX12_readPoint_33 (by decide) ?_
    refine w_icmp_ne (tgt := 67) X dX12_readPoint_34 (by decide) (fun h34 => ?_) (fun h34 => ?_)
    · refine w_iload X dX12_readPoint_67 rfl ?_
      refine w_istore X dX12_readPoint_69 (by decide) ?_
      have ep : pt0_ v z = (-1) := by unfold pt0_; exact if_neg (fun q => h34 (by rw [q.1]; rfl))
      exact j71 _ ep.symm
    · refine w_lload_n X dX12_readPoint_37 rfl rfl ?_
      refine w_iconst (v := 0) X dX12_readPoint_38 (by decide) ?_
      refine w_iconst (v := 5) X dX12_readPoint_39 (by decide) ?_
      refine w_bipush (v := 14) X dX12_readPoint_40 (by decide) ?_
      refine w_bipush (v := 20) X dX12_readPoint_42 (by decide) ?_
      refine w_s4fL X dX12_readPoint_44 k12_word (c12_word2 G hG _ _ _ _ _ _) (Nat.le_of_ble_eq_true rfl) ?_
      refine w_bipush (v := 10) X dX12_readPoint_47 (by decide) ?_
      refine w_lshl X dX12_readPoint_49 ?_
      refine w_iconst (v := 0) X dX12_readPoint_50 (by decide) ?_
      refine w_iconst (v := 0) X dX12_readPoint_51 (by decide) ?_
      refine w_iconst (v := 5) X dX12_readPoint_52 (by decide) ?_
      refine w_bipush (v := 18) X dX12_readPoint_53 (by decide) ?_
      refine w_s4fL X dX12_readPoint_55 k12_word (c12_word2 G hG _ _ _ _ _ _) (Nat.le_of_ble_eq_true rfl) ?_
      refine w_lor X dX12_readPoint_58 ?_
      refine w_lcmp X dX12_readPoint_59 ?_
      refine w_if_ne (tgt := 67) X dX12_readPoint_60 (by decide) (fun h60 => ?_) (fun h60 => ?_)
      · refine w_iload X dX12_readPoint_67 rfl ?_
        refine w_istore X dX12_readPoint_69 (by decide) ?_
        have ep : pt0_ v z = (-1) := by unfold pt0_; exact if_neg (fun q => h60 (lc_.mpr q.2))
        exact j71 _ ep.symm
      · refine w_iconst (v := 0) X dX12_readPoint_63 (by decide) ?_
        refine w_goto (tgt := 69) X dX12_readPoint_64 (by decide) ?_
        refine w_istore X dX12_readPoint_69 (by decide) ?_
        have ep : pt0_ v z = 0 := by unfold pt0_; exact if_pos ⟨(ez 5 (by omega)).mp h34, lc_.mp h60⟩
        exact j71 _ ep.symm
  refine w_aload_n X dX12_readPoint_0 rfl rfl ?_
  refine w_v0fV X dX12_readPoint_1 k12_skip rfl rfl (c12_skip G hG _ _ n k ht h5 (by omega)) (Nat.le_of_ble_eq_true rfl) ?_
  rw [hs]
  refine w_aload_n X dX12_readPoint_4 rfl rfl ?_
  refine g12_at X dX12_readPoint_5 ?_
  try simp only [gI_sI, gI_sL, gL_sI, gL_sL, false_and, and_false, and_self, if_false, if_true, reduceIte, Nat.reduceEqDiff, h5]
  refine w_istore_n X dX12_readPoint_8 rfl (by decide) ?_
  refine w_aload_n X dX12_readPoint_9 rfl rfl ?_
  refine w_aload_n X dX12_readPoint_10 rfl rfl ?_
  refine g12_at X dX12_readPoint_11 ?_
  try simp only [gI_sI, gI_sL, gL_sI, gL_sL, false_and, and_false, and_self, if_false, if_true, reduceIte, Nat.reduceEqDiff, h5]
  refine w_v1fL X dX12_readPoint_14 k12_rowAt rfl rfl (c12_rowAt G hG _ _ n s e1 (by omega)) (Nat.le_of_ble_eq_true rfl) ?_
  rw [e2, e3]
  rw [show (if 8 < rz_ M n s then (0 : Int64) else nm_ (bf_ M n) s (rz_ M n s)) = v by rw [hz]; exact hv]
  show wq_ C G _ _ _ _ (ra_ M n s)
  refine w_lstore_n X dX12_readPoint_17 rfl (by decide) ?_
  refine w_aload_n X dX12_readPoint_18 rfl rfl ?_
  refine w_aload_n X dX12_readPoint_19 rfl rfl ?_
  refine g12_at X dX12_readPoint_20 ?_
  try simp only [gI_sI, gI_sL, gL_sI, gL_sL, false_and, and_false, and_self, if_false, if_true, reduceIte, Nat.reduceEqDiff, h5]
  rw [hr5]
  refine w_v1fI X dX12_readPoint_23 k12_rowSize rfl rfl (c12_rowSize G hG _ _ n s hrt (by omega)) (Nat.le_of_ble_eq_true rfl) ?_
  rw [e4]
  refine w_istore X dX12_readPoint_26 (by decide) ?_
  refine w_iconst (v := -1) X dX12_readPoint_28 (by decide) ?_
  refine w_istore X dX12_readPoint_29 (by decide) ?_
  exact j31 _ rfl
set_option maxRecDepth 100000 in
set_option maxHeartbeats 4000000 in
theorem c12_reset_f (G : gg_) (hG : gd_ G) (d : Nat) (M : mm_) (n k : Nat) (ht : tz_ M n) (h5 : M.1 0 5 = nI k) (hk : k ≤ n) (hf : M.1 0 3 = 0) (hs : sp_ M n k < n) : cm_ G yX12_reset cX12_reset 3 (some .int) (d + 2) [.ref (G.1 0)] M (fI_ (-1) (fa_ (sI_ M 0 5 (nI (sp_ M n k))) 1 (nI (sp_ M n k)))) := by
  refine cm_of hG (by decide) (Nat.le_of_ble_eq_true rfl) (fun C X => ?_)
  have hn := ht.2
  have e0 : (sI_ M 0 5 (nI (sp_ M n k))).1 0 3 = 0 := by simpa [sI_] using hf
  have e1 : (fa_ (sI_ M 0 5 (nI (sp_ M n k))) 1 (nI (sp_ M n k))).1 0 3 = 1 := by rw [fa_0 e0]; simp [sI_]
  refine w_aload_n X dX12_reset_0 rfl rfl ?_
  refine w_v0fV X dX12_reset_1 k12_wantEnd rfl rfl (c12_wantEnd G hG _ _ n k ht h5 (by omega)) (Nat.le_of_ble_eq_true rfl) ?_
  rw [if_pos ⟨hf, hs⟩]
  refine w_aload_n X dX12_reset_4 rfl rfl ?_
  refine g12_fault X dX12_reset_5 ?_
  try simp only [gI_sI, gI_sL, gL_sI, gL_sL, false_and, and_false, and_self, if_false, if_true, reduceIte, Nat.reduceEqDiff, e1]
  refine w_if_le (tgt := 13) X dX12_reset_8 (by decide) (fun h8 => absurd h8 (by decide)) (fun h8 => ?_)
  refine w_iconst (v := -1) X dX12_reset_11 (by decide) ?_
  exact w_irF X dX12_reset_12 rfl rfl
set_option maxRecDepth 100000 in
set_option maxHeartbeats 4000000 in
theorem c12_reset_o (G : gg_) (hG : gd_ G) (d : Nat) (M : mm_) (n k : Nat) (ht : tz_ M n) (h5 : M.1 0 5 = nI k) (hk : k ≤ n) (hf : M.1 0 3 = 0) (hs : ¬ sp_ M n k < n) : cm_ G yX12_reset cX12_reset 3 (some .int) (d + 2) [.ref (G.1 0)] M (fI_ (nI (nk_ M 8)) (zk_ (sI_ M 0 5 (nI (sp_ M n k))) 8)) := by
  refine cm_of hG (by decide) (Nat.le_of_ble_eq_true rfl) (fun C X => ?_)
  have hn := ht.2
  generalize hE : sI_ M 0 5 (nI (sp_ M n k)) = E
  have hE3 : E.1 0 3 = 0 := by rw [← hE]; simpa [sI_] using hf
  have hE12 : ∀ i, E.1 12 i = M.1 12 i := fun i => by rw [← hE, sI_ne _ _ _ _ (by omega)]
  have lp : ∀ (u j : Nat), j + u = 8 → wq_ C G (qe_ C G (fI_ (nI (nk_ M 8)) (zk_ E 8))) 17 [some (.ref (G.1 0)), some (.int (nI (nk_ M j))), some (.int (nI j))] [] (zk_ E j) := by
    intro u
    induction u with
    | zero =>
      intro j hu
      have hj : j = 8 := by omega
      subst hj
      refine w_iload_n X dX12_reset_17 rfl rfl ?_
      refine w_bipush (v := 8) X dX12_reset_18 (by decide) ?_
      refine w_icmp_ge (tgt := 53) X dX12_reset_20 (by decide) (fun h20 => ?_) (fun h20 => absurd (nI_le (a := 8) (by omega) (by omega)) h20)
      refine w_iload_n X dX12_reset_53 rfl rfl ?_
      exact w_irF X dX12_reset_54 rfl rfl
    | succ u ih =>
      intro j hu
      have ej : (zk_ E j).1 12 j = M.1 12 j := by rw [zk_I j 12 j (by omega)]; exact hE12 j
      refine w_iload_n X dX12_reset_17 rfl rfl ?_
      refine w_bipush (v := 8) X dX12_reset_18 (by decide) ?_
      refine w_icmp_ge (tgt := 53) X dX12_reset_20 (by decide) (fun h20 => absurd h20 (nI_ge (b := 8) (by omega) (by omega))) (fun h20 => ?_)
      refine w_aload_n X dX12_reset_23 rfl rfl ?_
      refine g12_kinds X dX12_reset_24 ?_
      refine w_iload_n X dX12_reset_27 rfl rfl ?_
      refine w_ialoadN X dX12_reset_28 rfl rfl (by omega) ?_
      try simp only [gI_sI, gI_sL, gL_sI, gL_sL, false_and, and_false, and_self, if_false, if_true, reduceIte, Nat.reduceEqDiff, ej]
      refine w_if_le (tgt := 38) X dX12_reset_29 (by decide) (fun h29 => ?_) (fun h29 => ?_)
      · refine w_iload_n X dX12_reset_38 rfl rfl ?_
        refine w_istore_n X dX12_reset_39 rfl (by decide) ?_
        refine w_aload_n X dX12_reset_40 rfl rfl ?_
        refine g12_kinds X dX12_reset_41 ?_
        refine w_iload_n X dX12_reset_44 rfl rfl ?_
        refine w_iconst (v := 0) X dX12_reset_45 (by decide) ?_
        refine w_iastoreN X dX12_reset_46 rfl rfl (by omega) ?_
        refine w_iinc (v := 1) X dX12_reset_47 rfl (by decide) (by decide) ?_
        refine w_goto (tgt := 17) X dX12_reset_50 (by decide) ?_
        rw [nI_1]
        have en : nk_ M (j + 1) = nk_ M j := if_pos h29
        rw [← en]
        exact ih (j + 1) (by omega)
      · refine w_iload_n X dX12_reset_32 rfl rfl ?_
        refine w_iconst (v := 1) X dX12_reset_33 (by decide) ?_
        refine w_iadd X dX12_reset_34 ?_
        refine w_goto (tgt := 39) X dX12_reset_35 (by decide) ?_
        refine w_istore_n X dX12_reset_39 rfl (by decide) ?_
        refine w_aload_n X dX12_reset_40 rfl rfl ?_
        refine g12_kinds X dX12_reset_41 ?_
        refine w_iload_n X dX12_reset_44 rfl rfl ?_
        refine w_iconst (v := 0) X dX12_reset_45 (by decide) ?_
        refine w_iastoreN X dX12_reset_46 rfl rfl (by omega) ?_
        refine w_iinc (v := 1) X dX12_reset_47 rfl (by decide) (by decide) ?_
        refine w_goto (tgt := 17) X dX12_reset_50 (by decide) ?_
        rw [nI_1, nI_1]
        have en : nk_ M (j + 1) = nk_ M j + 1 := if_neg h29
        rw [← en]
        exact ih (j + 1) (by omega)
  refine w_aload_n X dX12_reset_0 rfl rfl ?_
  refine w_v0fV X dX12_reset_1 k12_wantEnd rfl rfl (c12_wantEnd G hG _ _ n k ht h5 (by omega)) (Nat.le_of_ble_eq_true rfl) ?_
  rw [if_neg (fun q => hs q.2), hE]
  refine w_aload_n X dX12_reset_4 rfl rfl ?_
  refine g12_fault X dX12_reset_5 ?_
  try simp only [gI_sI, gI_sL, gL_sI, gL_sL, false_and, and_false, and_self, if_false, if_true, reduceIte, Nat.reduceEqDiff, hE3]
  refine w_if_le (tgt := 13) X dX12_reset_8 (by decide) (fun h8 => ?_) (fun h8 => absurd (by decide) h8)
  refine w_iconst (v := 0) X dX12_reset_13 (by decide) ?_
  refine w_istore_n X dX12_reset_14 rfl (by decide) ?_
  refine w_iconst (v := 0) X dX12_reset_15 (by decide) ?_
  refine w_istore_n X dX12_reset_16 rfl (by decide) ?_
  exact lp 8 0 (by omega)
