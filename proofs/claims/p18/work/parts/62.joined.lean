section
/-! Machine: joined -/
def joX_ (c a b : Int32) : Int32 := if c = 43 then a + b else if c = 45 then a - b else if c = 42 then a * b else if c = 47 then (if b = 0 then 0 else a / b) else if c = 37 then (if b = 0 then 0 else a - a / b * b) else if c = 60 then (if a < b then 1 else 0) else if c = 61 then (if a = b then 1 else 0) else if b < a then 1 else 0
set_option maxRecDepth 100000 in
set_option maxHeartbeats 600000 in
theorem c4_joined (G : gg_) (hG : gd_ G) (d : Nat) (M : mm_) (c a b : Int32) : cm_ G yX4_joined cX4_joined 3 (some .int) (d) [.int c, .int a, .int b] M (fI_ (joX_ c a b) M) := by
  refine cm_of hG (by decide) (Nat.le_of_ble_eq_true rfl) (fun C X => ?_)
  refine w_iload_n X dX4_joined_0 rfl rfl ?_
  by_cases k43 : c = 43
  · refine w_tableIn (tgt := 116) (off := 115) X dX4_joined_1 (by rw [k43]; decide) (by rw [k43]; decide) (by rw [k43]; decide) (by decide) ?_
    refine w_iload_n X dX4_joined_116 rfl rfl ?_
    refine w_iload_n X dX4_joined_117 rfl rfl ?_
    refine w_iadd X dX4_joined_118 ?_
    refine w_irF X dX4_joined_119 ?_ rfl
    unfold joX_
    rw [if_pos k43]
  by_cases k45 : c = 45
  · refine w_tableIn (tgt := 120) (off := 119) X dX4_joined_1 (by rw [k45]; decide) (by rw [k45]; decide) (by rw [k45]; decide) (by decide) ?_
    refine w_iload_n X dX4_joined_120 rfl rfl ?_
    refine w_iload_n X dX4_joined_121 rfl rfl ?_
    refine w_isub X dX4_joined_122 ?_
    refine w_irF X dX4_joined_123 ?_ rfl
    unfold joX_
    rw [if_neg k43, if_pos k45]
  by_cases k42 : c = 42
  · refine w_tableIn (tgt := 124) (off := 123) X dX4_joined_1 (by rw [k42]; decide) (by rw [k42]; decide) (by rw [k42]; decide) (by decide) ?_
    refine w_iload_n X dX4_joined_124 rfl rfl ?_
    refine w_iload_n X dX4_joined_125 rfl rfl ?_
    refine w_imul X dX4_joined_126 ?_
    refine w_irF X dX4_joined_127 ?_ rfl
    unfold joX_
    rw [if_neg k43, if_neg k45, if_pos k42]
  by_cases k47 : c = 47
  · refine w_tableIn (tgt := 128) (off := 127) X dX4_joined_1 (by rw [k47]; decide) (by rw [k47]; decide) (by rw [k47]; decide) (by decide) ?_
    refine w_iload_n X dX4_joined_128 rfl rfl ?_
    refine w_if_ne (tgt := 136) X dX4_joined_129 (by decide) (fun h129 => ?_) (fun h129 => ?_)
    · refine w_iload_n X dX4_joined_136 rfl rfl ?_
      refine w_iload_n X dX4_joined_137 rfl rfl ?_
      refine w_idiv X dX4_joined_138 (h129) ?_
      refine w_irF X dX4_joined_139 ?_ rfl
      unfold joX_
      rw [if_neg k43, if_neg k45, if_neg k42, if_pos k47, if_neg h129]
    · refine w_iconst (v := 0) X dX4_joined_132 (by decide) ?_
      refine w_goto (tgt := 139) X dX4_joined_133 (by decide) ?_
      refine w_irF X dX4_joined_139 ?_ rfl
      unfold joX_
      rw [if_neg k43, if_neg k45, if_neg k42, if_pos k47, if_pos h129]
  by_cases k37 : c = 37
  · refine w_tableIn (tgt := 140) (off := 139) X dX4_joined_1 (by rw [k37]; decide) (by rw [k37]; decide) (by rw [k37]; decide) (by decide) ?_
    refine w_iload_n X dX4_joined_140 rfl rfl ?_
    refine w_if_ne (tgt := 148) X dX4_joined_141 (by decide) (fun h141 => ?_) (fun h141 => ?_)
    · refine w_iload_n X dX4_joined_148 rfl rfl ?_
      refine w_iload_n X dX4_joined_149 rfl rfl ?_
      refine w_irem X dX4_joined_150 (h141) ?_
      refine w_irF X dX4_joined_151 ?_ rfl
      unfold joX_
      rw [if_neg k43, if_neg k45, if_neg k42, if_neg k47, if_pos k37, if_neg h141]
    · refine w_iconst (v := 0) X dX4_joined_144 (by decide) ?_
      refine w_goto (tgt := 151) X dX4_joined_145 (by decide) ?_
      refine w_irF X dX4_joined_151 ?_ rfl
      unfold joX_
      rw [if_neg k43, if_neg k45, if_neg k42, if_neg k47, if_pos k37, if_pos h141]
  by_cases k60 : c = 60
  · refine w_tableIn (tgt := 152) (off := 151) X dX4_joined_1 (by rw [k60]; decide) (by rw [k60]; decide) (by rw [k60]; decide) (by decide) ?_
    refine w_iload_n X dX4_joined_152 rfl rfl ?_
    refine w_iload_n X dX4_joined_153 rfl rfl ?_
    refine w_icmp_ge (tgt := 161) X dX4_joined_154 (by decide) (fun h154 => ?_) (fun h154 => ?_)
    · refine w_iconst (v := 0) X dX4_joined_161 (by decide) ?_
      refine w_irF X dX4_joined_162 ?_ rfl
      unfold joX_
      rw [if_neg k43, if_neg k45, if_neg k42, if_neg k47, if_neg k37, if_pos k60, if_neg (Int32.not_lt.mpr h154)]
    · refine w_iconst (v := 1) X dX4_joined_157 (by decide) ?_
      refine w_goto (tgt := 162) X dX4_joined_158 (by decide) ?_
      refine w_irF X dX4_joined_162 ?_ rfl
      unfold joX_
      rw [if_neg k43, if_neg k45, if_neg k42, if_neg k47, if_neg k37, if_pos k60, if_pos (Int32.not_le.mp h154)]
  by_cases k61 : c = 61
  · refine w_tableIn (tgt := 163) (off := 162) X dX4_joined_1 (by rw [k61]; decide) (by rw [k61]; decide) (by rw [k61]; decide) (by decide) ?_
    refine w_iload_n X dX4_joined_163 rfl rfl ?_
    refine w_iload_n X dX4_joined_164 rfl rfl ?_
    refine w_icmp_ne (tgt := 172) X dX4_joined_165 (by decide) (fun h165 => ?_) (fun h165 => ?_)
    · refine w_iconst (v := 0) X dX4_joined_172 (by decide) ?_
      refine w_irF X dX4_joined_173 ?_ rfl
      unfold joX_
      rw [if_neg k43, if_neg k45, if_neg k42, if_neg k47, if_neg k37, if_neg k60, if_pos k61, if_neg h165]
    · refine w_iconst (v := 1) X dX4_joined_168 (by decide) ?_
      refine w_goto (tgt := 173) X dX4_joined_169 (by decide) ?_
      refine w_irF X dX4_joined_173 ?_ rfl
      unfold joX_
      rw [if_neg k43, if_neg k45, if_neg k42, if_neg k47, if_neg k37, if_neg k60, if_pos k61, if_pos h165]
  have n43 : ¬ c.toInt = 43 := fun q => k43 (Int32.toInt_inj.mp (q.trans (by decide : (43 : Int) = (43 : Int32).toInt)))
  have n45 : ¬ c.toInt = 45 := fun q => k45 (Int32.toInt_inj.mp (q.trans (by decide : (45 : Int) = (45 : Int32).toInt)))
  have n42 : ¬ c.toInt = 42 := fun q => k42 (Int32.toInt_inj.mp (q.trans (by decide : (42 : Int) = (42 : Int32).toInt)))
  have n47 : ¬ c.toInt = 47 := fun q => k47 (Int32.toInt_inj.mp (q.trans (by decide : (47 : Int) = (47 : Int32).toInt)))
  have n37 : ¬ c.toInt = 37 := fun q => k37 (Int32.toInt_inj.mp (q.trans (by decide : (37 : Int) = (37 : Int32).toInt)))
  have n60 : ¬ c.toInt = 60 := fun q => k60 (Int32.toInt_inj.mp (q.trans (by decide : (60 : Int) = (60 : Int32).toInt)))
  have n61 : ¬ c.toInt = 61 := fun q => k61 (Int32.toInt_inj.mp (q.trans (by decide : (61 : Int) = (61 : Int32).toInt)))
  have key : ∀ i : Nat, i < 25 → ¬ i = 0 → ¬ i = 5 → ¬ i = 6 → ¬ i = 8 → ¬ i = 10 → ¬ i = 23 → ¬ i = 24 → (#[(139 : Int), 173, 173, 173, 173, 123, 115, 173, 119, 173, 127, 173, 173, 173, 173, 173, 173, 173, 173, 173, 173, 173, 173, 151, 162])[i]? = some 173 := by
    intro i h0 h1 h2 h3 h4 h5 h6 h7
    rcases (by omega : i = 1 ∨ i = 2 ∨ i = 3 ∨ i = 4 ∨ i = 7 ∨ i = 9 ∨ i = 11 ∨ i = 12 ∨ i = 13 ∨ i = 14 ∨ i = 15 ∨ i = 16 ∨ i = 17 ∨ i = 18 ∨ i = 19 ∨ i = 20 ∨ i = 21 ∨ i = 22) with rfl | rfl | rfl | rfl | rfl | rfl | rfl | rfl | rfl | rfl | rfl | rfl | rfl | rfl | rfl | rfl | rfl | rfl <;> rfl
  have rst : wq_ C G (qe_ C G (fI_ (joX_ c a b) M)) 174 (en_ 3 [.int c, .int a, .int b]) [] M := by
    refine w_iload_n X dX4_joined_174 rfl rfl ?_
    refine w_iload_n X dX4_joined_175 rfl rfl ?_
    refine w_icmp_le (tgt := 183) X dX4_joined_176 (by decide) (fun h176 => ?_) (fun h176 => ?_)
    · refine w_iconst (v := 0) X dX4_joined_183 (by decide) ?_
      refine w_irF X dX4_joined_184 ?_ rfl
      unfold joX_
      rw [if_neg k43, if_neg k45, if_neg k42, if_neg k47, if_neg k37, if_neg k60, if_neg k61, if_neg (Int32.not_lt.mpr h176)]
    · refine w_iconst (v := 1) X dX4_joined_179 (by decide) ?_
      refine w_goto (tgt := 184) X dX4_joined_180 (by decide) ?_
      refine w_irF X dX4_joined_184 ?_ rfl
      unfold joX_
      rw [if_neg k43, if_neg k45, if_neg k42, if_neg k47, if_neg k37, if_neg k60, if_neg k61, if_pos (Int32.not_le.mp h176)]
  by_cases hin : (37 : Int) ≤ c.toInt ∧ c.toInt ≤ 61
  · exact w_tableIn (tgt := 174) (off := 173) X dX4_joined_1 (by omega) (by omega) (key _ (by omega) (by omega) (by omega) (by omega) (by omega) (by omega) (by omega) (by omega)) (by decide) rst
  · exact w_tableOut (tgt := 174) X dX4_joined_1 (by omega) (by decide) rst

end
section
/-! what a run of the Machine keeps (fzX_, fyX_), codes that the Machine can run (okX_), and what is so while it runs (kmX_) -/
def faX_ (a i : Nat) : Prop := a < 135 ∨ 262 ≤ a ∨ (a < 243 ∧ (a + 9) % 12 ≠ 0 ∧ (a + 9) % 12 ≠ 11) ∨ (a < 243 ∧ (a + 9) % 12 = 0 ∧ i ≠ 0 ∧ i ≠ 7)
/-- the kept rows speak of methods that are there -/
def kpX_ (M : mm_) : Prop := ∃ c, mt_ M c ∧ M.1 245 0 = 40 ∧ M.1 245 1 = 7 ∧ ∃ z, z ≤ 40 ∧ M.1 245 3 = nI z ∧ ∀ i, i < z → ∃ m, m < c ∧ M.1 246 (7 * i + 1) = nI m
def fzX_ (M N : mm_) : Prop := N.2 = M.2 ∧ (∀ a i, faX_ a i → N.1 a i = M.1 a i) ∧ (∀ t, t < 9 → (N.1 (135 + 12 * t) 0 = M.1 (135 + 12 * t) 0 ∨ N.1 (135 + 12 * t) 0 = 0)) ∧ (kpX_ M → kpX_ N)
def fyX_ (r : Nat) (M N : mm_) : Prop := fzX_ M N ∧ ∀ q, q ≤ r → N.1 (249 + q) 5 = M.1 (249 + q) 5
theorem cre_m {t a i : Nat} {M : mm_} (ht : t < 9) (ha : 243 ≤ a) : (cre_ M (135 + 12 * t)).1 a i = M.1 a i := by
  unfold cre_; split
  · rw [gI_sI, if_neg (by omega)]
  · rw [gI_sI, if_neg (by omega), gI_sI, if_neg (by omega)]
theorem rP_o {k c a i : Nat} {M : mm_} {x v : Int32} (h : ¬ a = k + 1) : (rP_ M k c x v).1 a i = M.1 a i := by
  unfold rP_; split
  · rw [gI_sI, if_neg (fun z => h z.1)]
  · rfl
/-- a step of a code, by how high the stack is before it and behind it -/
def stX_ (L : Nat) (H : Nat → Nat) (i : Nat) (p : Int32) (v : Int64) : Prop :=
  ((p = 0 ∨ p = 1) → H (i + 1) = H i + 1) ∧ (p = 2 → H (i + 1) = H i ∧ 1 ≤ H i) ∧ (p = 3 → 1 ≤ H i) ∧
  (p = 4 → H (i + 1) + 1 = H i ∧ ∃ t, v.toInt32 = nI t ∧ t ≤ L ∧ H t = H (i + 1) ∧ i < t) ∧
  ((p = 5 ∨ p = 6) → ∃ t, v.toInt32 = nI t ∧ t ≤ L ∧ H t = H i ∧ i < t) ∧
  (p = 7 → ∃ j, poX_ v = nI j ∧ j ≤ 3 ∧ H (i + 1) + j = H i + 1 ∧ j ≤ H i) ∧
  (¬ p = 0 → ¬ p = 1 → ¬ p = 2 → ¬ p = 3 → ¬ p = 4 → ¬ p = 5 → ¬ p = 6 → ¬ p = 7 → H (i + 1) + 1 = H i ∧ 2 ≤ H i)
def okL_ (k L : Nat) (H : Nat → Nat) (M : mm_) : Prop := L ≤ 26 ∧ M.1 k 4 = nI L ∧ H 0 = 0 ∧ (∀ i, i ≤ L → H i ≤ 20) ∧ ∀ i, i < L → M.1 (k + 4) i = nI (H (i + 1)) ∧ stX_ L H i (M.1 (k + 1) i) (M.2.1 (k + 2) i)
def okX_ (k : Nat) (M : mm_) : Prop := ∃ (L : Nat) (H : Nat → Nat), okL_ k L H M
def kcX_ (k : Nat) : Prop := k + 4 < 135 ∨ (135 ≤ k ∧ k < 239 ∧ 1 ≤ (k + 9) % 12 ∧ (k + 9) % 12 ≤ 6)
def kmX_ (c : Nat) (J : Nat → Nat) (S : Nat) (M : mm_) : Prop := mt_ M c ∧ mb2_ M ∧ jq_ M J S ∧ vq_ M ∧ (∀ i, i < c → okX_ (48 + 5 * i) M) ∧ ∀ j, j < 8 → ¬ M.1 (135 + 12 * J j) 0 = 0 → ¬ M.1 (135 + 12 * J j) 0 = 2 → ¬ M.1 (135 + 12 * J j) 0 = 3 → okX_ (135 + 12 * J j + 1) M ∧ (¬ M.1 (135 + 12 * J j) 5 = 0 → okX_ (135 + 12 * J j + 6) M)
end
section
/-! Machine: keep -/
def keX_ (M : mm_) (q : Nat) (n m p : Int32) : mm_ := if p = 0 ∨ ¬ rF_ M 245 = 0 then M else rE_ (rP_ (rP_ (rP_ (rP_ (rP_ (rP_ (rP_ M 245 280 0 n) 245 280 1 m) 245 280 2 (M.1 q 0)) 245 280 3 (M.1 q 1)) 245 280 4 (M.1 q 2)) 245 280 5 (if p = 2 then 1 else 0)) 245 280 6 (if p = 2 then M.1 q 4 else M.1 q 3)) 245
set_option maxRecDepth 100000 in
set_option maxHeartbeats 600000 in
theorem c4_keep (G : gg_) (hG : gd_ G) (d : Nat) (M : mm_) (q : Nat) (hq2 : q < 12) (n m p : Int32) : cm_ G yX4_keep cX4_keep 6 none (d + 1) [.ref (G.1 247), .int n, .int m, .int p, .ref (G.1 (249 + q))] M (fV_ (keX_ M (249 + q) n m p)) := by
  refine cm_of hG (by decide) (Nat.le_of_ble_eq_true rfl) (fun C X => ?_)
  have hq : ¬ 249 + q = 245 + 1 := by omega
  refine w_iload_n X dX4_keep_0 rfl rfl ?_
  refine w_if_eq (tgt := 14) X dX4_keep_1 (by decide) (fun h1 => ?_) (fun h1 => ?_)
  · refine w_vrF X dX4_keep_14 ?_
    unfold keX_
    rw [if_pos (Or.inl h1)]
  · refine w_aload_n X dX4_keep_4 rfl rfl ?_
    refine g4_23 X dX4_keep_5 s_247 rfl ?_
    refine w_v0fI X dX4_keep_8 k4_181 rfl s_245 (c8_isFull G hG _ _ 245 280 rw_kept) (Nat.le_of_ble_eq_true rfl) ?_
    refine w_if_eq (tgt := 15) X dX4_keep_11 (by decide) (fun h11 => ?_) (fun h11 => ?_)
    · refine w_aload_n X dX4_keep_15 rfl rfl ?_
      refine g4_23 X dX4_keep_16 s_247 rfl ?_
      refine w_iconst (v := 0) X dX4_keep_19 (by decide) ?_
      refine w_iload_n X dX4_keep_20 rfl rfl ?_
      refine w_v2fV X dX4_keep_21 k4_187 rfl s_245 (c8_put G hG _ _ 245 280 rw_kept _ _) (Nat.le_of_ble_eq_true rfl) ?_
      refine w_aload_n X dX4_keep_24 rfl rfl ?_
      refine g4_23 X dX4_keep_25 s_247 rfl ?_
      refine w_iconst (v := 1) X dX4_keep_28 (by decide) ?_
      refine w_iload_n X dX4_keep_29 rfl rfl ?_
      refine w_v2fV X dX4_keep_30 k4_187 rfl s_245 (c8_put G hG _ _ 245 280 rw_kept _ _) (Nat.le_of_ble_eq_true rfl) ?_
      refine w_iconst (v := 0) X dX4_keep_33 (by decide) ?_
      refine w_istore X dX4_keep_34 (by decide) ?_
      refine w_iload X dX4_keep_36 rfl ?_
      refine w_iconst (v := 3) X dX4_keep_38 (by decide) ?_
      refine w_icmp_ge (tgt := 64) X dX4_keep_39 (by decide) (fun h39 => absurd h39 (by decide)) (fun h39 => ?_)
      refine w_aload_n X dX4_keep_42 rfl rfl ?_
      refine g4_23 X dX4_keep_43 s_247 rfl ?_
      refine w_iconst (v := 2) X dX4_keep_46 (by decide) ?_
      refine w_iload X dX4_keep_47 rfl ?_
      refine w_iadd X dX4_keep_49 ?_
      refine w_aload X dX4_keep_50 rfl ?_
      refine w_iload X dX4_keep_52 rfl ?_
      refine w_ialoadN X dX4_keep_54 (vr_row q hq2) rfl (⟨by decide, by decide⟩) ?_
      refine w_v2fV X dX4_keep_55 k4_187 rfl s_245 (c8_put G hG _ _ 245 280 rw_kept _ _) (Nat.le_of_ble_eq_true rfl) ?_
      refine w_iinc (v := 1) X dX4_keep_58 rfl (by decide) (by decide) ?_
      refine w_goto (tgt := 36) X dX4_keep_61 (by decide) ?_
      refine w_iload X dX4_keep_36 rfl ?_
      refine w_iconst (v := 3) X dX4_keep_38 (by decide) ?_
      refine w_icmp_ge (tgt := 64) X dX4_keep_39 (by decide) (fun h39 => absurd h39 (by decide)) (fun h39 => ?_)
      refine w_aload_n X dX4_keep_42 rfl rfl ?_
      refine g4_23 X dX4_keep_43 s_247 rfl ?_
      refine w_iconst (v := 2) X dX4_keep_46 (by decide) ?_
      refine w_iload X dX4_keep_47 rfl ?_
      refine w_iadd X dX4_keep_49 ?_
      refine w_aload X dX4_keep_50 rfl ?_
      refine w_iload X dX4_keep_52 rfl ?_
      rw [show (0 : Int32) + 1 = nI 1 from rfl]
      refine w_ialoadN X dX4_keep_54 (vr_row q hq2) rfl (⟨by decide, by decide⟩) ?_
      refine w_v2fV X dX4_keep_55 k4_187 rfl s_245 (c8_put G hG _ _ 245 280 rw_kept _ _) (Nat.le_of_ble_eq_true rfl) ?_
      refine w_iinc (v := 1) X dX4_keep_58 rfl (by decide) (by decide) ?_
      refine w_goto (tgt := 36) X dX4_keep_61 (by decide) ?_
      refine w_iload X dX4_keep_36 rfl ?_
      refine w_iconst (v := 3) X dX4_keep_38 (by decide) ?_
      refine w_icmp_ge (tgt := 64) X dX4_keep_39 (by decide) (fun h39 => absurd h39 (by decide)) (fun h39 => ?_)
      refine w_aload_n X dX4_keep_42 rfl rfl ?_
      refine g4_23 X dX4_keep_43 s_247 rfl ?_
      refine w_iconst (v := 2) X dX4_keep_46 (by decide) ?_
      refine w_iload X dX4_keep_47 rfl ?_
      refine w_iadd X dX4_keep_49 ?_
      refine w_aload X dX4_keep_50 rfl ?_
      refine w_iload X dX4_keep_52 rfl ?_
      rw [show nI 1 + 1 = nI 2 from rfl]
      refine w_ialoadN X dX4_keep_54 (vr_row q hq2) rfl (⟨by decide, by decide⟩) ?_
      refine w_v2fV X dX4_keep_55 k4_187 rfl s_245 (c8_put G hG _ _ 245 280 rw_kept _ _) (Nat.le_of_ble_eq_true rfl) ?_
      refine w_iinc (v := 1) X dX4_keep_58 rfl (by decide) (by decide) ?_
      refine w_goto (tgt := 36) X dX4_keep_61 (by decide) ?_
      refine w_iload X dX4_keep_36 rfl ?_
      refine w_iconst (v := 3) X dX4_keep_38 (by decide) ?_
      refine w_icmp_ge (tgt := 64) X dX4_keep_39 (by decide) (fun h39 => ?_) (fun h39 => absurd ((by decide)) h39)
      refine w_aload_n X dX4_keep_64 rfl rfl ?_
      refine g4_23 X dX4_keep_65 s_247 rfl ?_
      refine w_iconst (v := 5) X dX4_keep_68 (by decide) ?_
      refine w_iload_n X dX4_keep_69 rfl rfl ?_
      refine w_iconst (v := 2) X dX4_keep_70 (by decide) ?_
      refine w_icmp_ne (tgt := 78) X dX4_keep_71 (by decide) (fun h71 => ?_) (fun h71 => ?_)
      · refine w_iconst (v := 0) X dX4_keep_78 (by decide) ?_
        refine w_v2fV X dX4_keep_79 k4_187 rfl s_245 (c8_put G hG _ _ 245 280 rw_kept _ _) (Nat.le_of_ble_eq_true rfl) ?_
        refine w_aload_n X dX4_keep_82 rfl rfl ?_
        refine g4_23 X dX4_keep_83 s_247 rfl ?_
        refine w_bipush (v := 6) X dX4_keep_86 (by decide) ?_
        refine w_aload X dX4_keep_88 rfl ?_
        refine w_iload_n X dX4_keep_90 rfl rfl ?_
        refine w_iconst (v := 2) X dX4_keep_91 (by decide) ?_
        refine w_icmp_ne (tgt := 99) X dX4_keep_92 (by decide) (fun h92 => ?_) (fun h92 => absurd h92 h71)
        refine w_iconst (v := 3) X dX4_keep_99 (by decide) ?_
        refine w_ialoadN X dX4_keep_100 (vr_row q hq2) rfl (⟨by decide, by decide⟩) ?_
        refine w_v2fV X dX4_keep_101 k4_187 rfl s_245 (c8_put G hG _ _ 245 280 rw_kept _ _) (Nat.le_of_ble_eq_true rfl) ?_
        refine w_aload_n X dX4_keep_104 rfl rfl ?_
        refine g4_23 X dX4_keep_105 s_247 rfl ?_
        refine w_v0fV X dX4_keep_108 k4_191 rfl s_245 (c8_endRow G hG _ _ 245 280 rw_kept) (Nat.le_of_ble_eq_true rfl) ?_
        refine w_vrF X dX4_keep_111 ?_
        unfold keX_
        rw [if_neg (fun z => z.elim h1 (fun y => y h11)), if_neg h71, if_neg h71]
        simp only [rP_o hq]
        rfl
      · refine w_iconst (v := 1) X dX4_keep_74 (by decide) ?_
        refine w_goto (tgt := 79) X dX4_keep_75 (by decide) ?_
        refine w_v2fV X dX4_keep_79 k4_187 rfl s_245 (c8_put G hG _ _ 245 280 rw_kept _ _) (Nat.le_of_ble_eq_true rfl) ?_
        refine w_aload_n X dX4_keep_82 rfl rfl ?_
        refine g4_23 X dX4_keep_83 s_247 rfl ?_
        refine w_bipush (v := 6) X dX4_keep_86 (by decide) ?_
        refine w_aload X dX4_keep_88 rfl ?_
        refine w_iload_n X dX4_keep_90 rfl rfl ?_
        refine w_iconst (v := 2) X dX4_keep_91 (by decide) ?_
        refine w_icmp_ne (tgt := 99) X dX4_keep_92 (by decide) (fun h92 => absurd h71 h92) (fun h92 => ?_)
        refine w_iconst (v := 4) X dX4_keep_95 (by decide) ?_
        refine w_goto (tgt := 100) X dX4_keep_96 (by decide) ?_
        refine w_ialoadN X dX4_keep_100 (vr_row q hq2) rfl (⟨by decide, by decide⟩) ?_
        refine w_v2fV X dX4_keep_101 k4_187 rfl s_245 (c8_put G hG _ _ 245 280 rw_kept _ _) (Nat.le_of_ble_eq_true rfl) ?_
        refine w_aload_n X dX4_keep_104 rfl rfl ?_
        refine g4_23 X dX4_keep_105 s_247 rfl ?_
        refine w_v0fV X dX4_keep_108 k4_191 rfl s_245 (c8_endRow G hG _ _ 245 280 rw_kept) (Nat.le_of_ble_eq_true rfl) ?_
        refine w_vrF X dX4_keep_111 ?_
        unfold keX_
        rw [if_neg (fun z => z.elim h1 (fun y => y h11)), if_pos h71, if_pos h71]
        simp only [rP_o hq]
        rfl
    · refine w_vrF X dX4_keep_14 ?_
      unfold keX_
      rw [if_pos (Or.inr h11)]

end
section
theorem bt1_le {M : mm_} {k a : Nat} : ∀ u i, i ≤ bt1_ M k a u i ∧ bt1_ M k a u i ≤ i + u := by
  intro u
  induction u with
  | zero => intro i; rw [bt1_]; omega
  | succ u ih =>
    intro i
    rw [bt1_]
    split
    · omega
    · have := ih (i + 1); omega
def nxX_ (M : mm_) (k L a : Nat) : Nat := if ¬ M.1 247 12 = 0 ∧ M.1 (k + 1) a = 7 then L else bt1_ M k a (L - (a + 1)) (a + 1)
theorem nxX_le {M : mm_} {k L a : Nat} (h : a < L) : a + 1 ≤ nxX_ M k L a ∧ nxX_ M k L a ≤ L := by
  unfold nxX_
  have := bt1_le (M := M) (k := k) (a := a) (L - (a + 1)) (a + 1)
  split <;> omega
def bhX_ (M : mm_) (k L a : Nat) (b : Int32) : mm_ := if nxX_ M k L a < L then sI_ (sI_ M 247 8 (b + M.1 (k + 4) (nxX_ M k L a - 1))) 247 10 0 else M
theorem nI_ne1 : ∀ m, m < 16 → ¬ nI m = -1 := by decide
theorem fd1_in {M : mm_} {c : Nat} {y : Int64} : ∀ u i, fd1_ M c y u i = -1 ∨ ∃ m, m < i + u ∧ fd1_ M c y u i = nI m := by
  intro u
  induction u with
  | zero => intro i; rw [fd1_]; exact Or.inl rfl
  | succ u ih =>
    intro i
    rw [fd1_]
    split
    · exact Or.inr ⟨i, by omega, rfl⟩
    · rcases ih (i + 1) with z | ⟨m, h1, h2⟩
      · exact Or.inl z
      · exact Or.inr ⟨m, by omega, h2⟩
set_option maxRecDepth 100000 in
set_option maxHeartbeats 600000 in
theorem c4_behindThrow (G : gg_) (hG : gd_ G) (d : Nat) (M : mm_) (k : Nat) (hk : cdX_ k) (L : Nat) (hl : M.1 k 4 = nI L) (hn : L ≤ 26) (a : Nat) (ha : a < L) (b : Int32) : cm_ G yX4_behindThrow cX4_behindThrow 6 (some .int) (d + 1) [.ref (G.1 247), .ref (G.1 k), .int (nI a), .int b] M (fI_ (nI (nxX_ M k L a)) (bhX_ M k L a b)) := by
  refine cm_of hG (by decide) (Nat.le_of_ble_eq_true rfl) (fun C X => ?_)
  have hle := nxX_le (M := M) (k := k) ha
  refine w_aload_n X dX4_behindThrow_0 rfl rfl ?_
  refine g4_45 X dX4_behindThrow_1 s_247 rfl ?_
  refine w_if_eq (tgt := 22) X dX4_behindThrow_4 (by decide) (fun h4 => ?_) (fun h4 => ?_)
  · refine w_iconst (v := 0) X dX4_behindThrow_22 (by decide) ?_
    have hx : nxX_ M k L a = bt1_ M k a (L - (a + 1)) (a + 1) := if_neg (fun z => z.1 h4)
    refine w_istore X dX4_behindThrow_23 (by decide) ?_
    refine w_iload X dX4_behindThrow_25 rfl ?_
    refine w_if_eq (tgt := 37) X dX4_behindThrow_27 (by decide) (fun h27 => ?_) (fun h27 => absurd (rfl) h27)
    refine w_aload_n X dX4_behindThrow_37 rfl rfl ?_
    refine w_iload_n X dX4_behindThrow_38 rfl rfl ?_
    refine w_v1fI X dX4_behindThrow_39 k4_119 rfl hk.1 (c0_behindThrow G hG _ _ k hk L hl hn a ha) (Nat.le_of_ble_eq_true rfl) ?_
    rw [← hx]
    refine w_istore X dX4_behindThrow_42 (by decide) ?_
    refine w_iload X dX4_behindThrow_44 rfl ?_
    refine w_aload_n X dX4_behindThrow_46 rfl rfl ?_
    refine g4_77 X dX4_behindThrow_47 hk.1 rfl ?_
    rw [hl]
    refine w_icmp_ge (tgt := 73) X dX4_behindThrow_50 (by decide) (fun h50 => ?_) (fun h50 => ?_)
    · refine w_iload X dX4_behindThrow_73 rfl ?_
      refine w_irF X dX4_behindThrow_75 rfl ?_
      unfold bhX_
      rw [if_neg (fun z => absurd h50 (nI_ge (a := nxX_ M k L a) (b := L) z (by omega)))]
    · have hlt : nxX_ M k L a < L := Nat.lt_of_not_le (fun z => h50 (nI_le (a := L) (b := nxX_ M k L a) z (by omega)))
      refine w_aload_n X dX4_behindThrow_53 rfl rfl ?_
      refine w_iload_n X dX4_behindThrow_54 rfl rfl ?_
      refine w_aload_n X dX4_behindThrow_55 rfl rfl ?_
      refine g4_122 X dX4_behindThrow_56 hk.1 rfl ?_
      refine w_iload X dX4_behindThrow_59 rfl ?_
      refine w_iconst (v := 1) X dX4_behindThrow_61 (by decide) ?_
      refine w_isub X dX4_behindThrow_62 ?_
      rw [nI_p _ (by omega)]
      refine w_ialoadN X dX4_behindThrow_63 hk.2.2.2.2 rfl (⟨by omega, by decide⟩) ?_
      refine w_iadd X dX4_behindThrow_64 ?_
      refine p4_48 X dX4_behindThrow_65 s_247 rfl ?_
      refine w_aload_n X dX4_behindThrow_68 rfl rfl ?_
      refine w_iconst (v := 0) X dX4_behindThrow_69 (by decide) ?_
      refine p4_58 X dX4_behindThrow_70 s_247 rfl (by first | exact Or.inl rfl | exact Or.inr rfl | assumption) ?_
      refine w_iload X dX4_behindThrow_73 rfl ?_
      refine w_irF X dX4_behindThrow_75 rfl ?_
      unfold bhX_
      rw [if_pos hlt]
  · refine w_aload_n X dX4_behindThrow_7 rfl rfl ?_
    refine g4_99 X dX4_behindThrow_8 hk.1 rfl ?_
    refine w_iload_n X dX4_behindThrow_11 rfl rfl ?_
    refine w_ialoadN X dX4_behindThrow_12 hk.2.1 rfl (⟨by omega, by decide⟩) ?_
    refine w_bipush (v := 7) X dX4_behindThrow_13 (by decide) ?_
    refine w_icmp_ne (tgt := 22) X dX4_behindThrow_15 (by decide) (fun h15 => ?_) (fun h15 => ?_)
    · refine w_iconst (v := 0) X dX4_behindThrow_22 (by decide) ?_
      have hx : nxX_ M k L a = bt1_ M k a (L - (a + 1)) (a + 1) := if_neg (fun z => h15 z.2)
      refine w_istore X dX4_behindThrow_23 (by decide) ?_
      refine w_iload X dX4_behindThrow_25 rfl ?_
      refine w_if_eq (tgt := 37) X dX4_behindThrow_27 (by decide) (fun h27 => ?_) (fun h27 => absurd (rfl) h27)
      refine w_aload_n X dX4_behindThrow_37 rfl rfl ?_
      refine w_iload_n X dX4_behindThrow_38 rfl rfl ?_
      refine w_v1fI X dX4_behindThrow_39 k4_119 rfl hk.1 (c0_behindThrow G hG _ _ k hk L hl hn a ha) (Nat.le_of_ble_eq_true rfl) ?_
      rw [← hx]
      refine w_istore X dX4_behindThrow_42 (by decide) ?_
      refine w_iload X dX4_behindThrow_44 rfl ?_
      refine w_aload_n X dX4_behindThrow_46 rfl rfl ?_
      refine g4_77 X dX4_behindThrow_47 hk.1 rfl ?_
      rw [hl]
      refine w_icmp_ge (tgt := 73) X dX4_behindThrow_50 (by decide) (fun h50 => ?_) (fun h50 => ?_)
      · refine w_iload X dX4_behindThrow_73 rfl ?_
        refine w_irF X dX4_behindThrow_75 rfl ?_
        unfold bhX_
        rw [if_neg (fun z => absurd h50 (nI_ge (a := nxX_ M k L a) (b := L) z (by omega)))]
      · have hlt : nxX_ M k L a < L := Nat.lt_of_not_le (fun z => h50 (nI_le (a := L) (b := nxX_ M k L a) z (by omega)))
        refine w_aload_n X dX4_behindThrow_53 rfl rfl ?_
        refine w_iload_n X dX4_behindThrow_54 rfl rfl ?_
        refine w_aload_n X dX4_behindThrow_55 rfl rfl ?_
        refine g4_122 X dX4_behindThrow_56 hk.1 rfl ?_
        refine w_iload X dX4_behindThrow_59 rfl ?_
        refine w_iconst (v := 1) X dX4_behindThrow_61 (by decide) ?_
        refine w_isub X dX4_behindThrow_62 ?_
        rw [nI_p _ (by omega)]
        refine w_ialoadN X dX4_behindThrow_63 hk.2.2.2.2 rfl (⟨by omega, by decide⟩) ?_
        refine w_iadd X dX4_behindThrow_64 ?_
        refine p4_48 X dX4_behindThrow_65 s_247 rfl ?_
        refine w_aload_n X dX4_behindThrow_68 rfl rfl ?_
        refine w_iconst (v := 0) X dX4_behindThrow_69 (by decide) ?_
        refine p4_58 X dX4_behindThrow_70 s_247 rfl (by first | exact Or.inl rfl | exact Or.inr rfl | assumption) ?_
        refine w_iload X dX4_behindThrow_73 rfl ?_
        refine w_irF X dX4_behindThrow_75 rfl ?_
        unfold bhX_
        rw [if_pos hlt]
    · refine w_iconst (v := 1) X dX4_behindThrow_18 (by decide) ?_
      refine w_goto (tgt := 23) X dX4_behindThrow_19 (by decide) ?_
      have hx : nxX_ M k L a = L := if_pos ⟨h4, h15⟩
      refine w_istore X dX4_behindThrow_23 (by decide) ?_
      refine w_iload X dX4_behindThrow_25 rfl ?_
      refine w_if_eq (tgt := 37) X dX4_behindThrow_27 (by decide) (fun h27 => absurd h27 (by decide)) (fun h27 => ?_)
      refine w_aload_n X dX4_behindThrow_30 rfl rfl ?_
      refine g4_77 X dX4_behindThrow_31 hk.1 rfl ?_
      refine w_goto (tgt := 42) X dX4_behindThrow_34 (by decide) ?_
      rw [hl, show nI L = nI (nxX_ M k L a) by rw [hx]]
      refine w_istore X dX4_behindThrow_42 (by decide) ?_
      refine w_iload X dX4_behindThrow_44 rfl ?_
      refine w_aload_n X dX4_behindThrow_46 rfl rfl ?_
      refine g4_77 X dX4_behindThrow_47 hk.1 rfl ?_
      rw [hl]
      refine w_icmp_ge (tgt := 73) X dX4_behindThrow_50 (by decide) (fun h50 => ?_) (fun h50 => ?_)
      · refine w_iload X dX4_behindThrow_73 rfl ?_
        refine w_irF X dX4_behindThrow_75 rfl ?_
        unfold bhX_
        rw [if_neg (fun z => absurd h50 (nI_ge (a := nxX_ M k L a) (b := L) z (by omega)))]
      · have hlt : nxX_ M k L a < L := Nat.lt_of_not_le (fun z => h50 (nI_le (a := L) (b := nxX_ M k L a) z (by omega)))
        refine w_aload_n X dX4_behindThrow_53 rfl rfl ?_
        refine w_iload_n X dX4_behindThrow_54 rfl rfl ?_
        refine w_aload_n X dX4_behindThrow_55 rfl rfl ?_
        refine g4_122 X dX4_behindThrow_56 hk.1 rfl ?_
        refine w_iload X dX4_behindThrow_59 rfl ?_
        refine w_iconst (v := 1) X dX4_behindThrow_61 (by decide) ?_
        refine w_isub X dX4_behindThrow_62 ?_
        rw [nI_p _ (by omega)]
        refine w_ialoadN X dX4_behindThrow_63 hk.2.2.2.2 rfl (⟨by omega, by decide⟩) ?_
        refine w_iadd X dX4_behindThrow_64 ?_
        refine p4_48 X dX4_behindThrow_65 s_247 rfl ?_
        refine w_aload_n X dX4_behindThrow_68 rfl rfl ?_
        refine w_iconst (v := 0) X dX4_behindThrow_69 (by decide) ?_
        refine p4_58 X dX4_behindThrow_70 s_247 rfl (by first | exact Or.inl rfl | exact Or.inr rfl | assumption) ?_
        refine w_iload X dX4_behindThrow_73 rfl ?_
        refine w_irF X dX4_behindThrow_75 rfl ?_
        unfold bhX_
        rw [if_pos hlt]
def zoX_ (x : Int32) : Prop := x = 0 ∨ x = 1
end
section
/-! Machine: step -/
theorem lc_lt {x y : Int64} : lg_cmp x y < 0 ↔ x < y := by
  unfold lg_cmp
  by_cases h1 : x > y
  · rw [if_pos h1]
    constructor
    · intro q; exact absurd q (by decide)
    · intro q; exact absurd (Int64.lt_trans q h1) Int64.lt_irrefl
  · rw [if_neg h1]
    by_cases h2 : x = y
    · rw [if_pos h2]; subst h2
      exact ⟨fun q => absurd q (by decide), fun q => absurd q Int64.lt_irrefl⟩
    · rw [if_neg h2]
      exact ⟨fun _ => Int64.lt_of_le_of_ne (Int64.not_lt.mp h1) h2, fun _ => by decide⟩
theorem lc_ge {x y : Int64} : 0 ≤ lg_cmp x y ↔ y ≤ x := by
  rw [← Int32.not_lt, lc_lt, Int64.not_lt]
theorem vi7_ {v : Int64} (h1 : ¬ lg_cmp v 0 < 0) (h2 : ¬ 0 ≤ lg_cmp v 7) : ∃ i, i < 7 ∧ v.toInt32 = nI i := by
  rw [lc_lt, Int64.not_lt, Int64.le_iff_toInt_le] at h1
  rw [lc_ge, Int64.not_le, Int64.lt_iff_toInt_lt] at h2
  have e0 : (0 : Int64).toInt = 0 := by decide
  have e7 : (7 : Int64).toInt = 7 := by decide
  rw [e0] at h1
  rw [e7] at h2
  have e := Int64.ofInt_toInt v
  obtain h | h | h | h | h | h | h : v.toInt = 0 ∨ v.toInt = 1 ∨ v.toInt = 2 ∨ v.toInt = 3 ∨ v.toInt = 4 ∨ v.toInt = 5 ∨ v.toInt = 6 := by omega
  · exact ⟨0, by decide, by rw [← e, h]; decide⟩
  · exact ⟨1, by decide, by rw [← e, h]; decide⟩
  · exact ⟨2, by decide, by rw [← e, h]; decide⟩
  · exact ⟨3, by decide, by rw [← e, h]; decide⟩
  · exact ⟨4, by decide, by rw [← e, h]; decide⟩
  · exact ⟨5, by decide, by rw [← e, h]; decide⟩
  · exact ⟨6, by decide, by rw [← e, h]; decide⟩
end
section
theorem kcX_b {i : Nat} (h : i < 17) : kcX_ (48 + 5 * i) := by unfold kcX_; omega
theorem kcX_e {i : Nat} (h : i < 9) : kcX_ (135 + 12 * i + 1) := by unfold kcX_; omega
theorem kcX_c {i : Nat} (h : i < 9) : kcX_ (135 + 12 * i + 6) := by unfold kcX_; omega
theorem nI_mp (m p : Nat) : nI m * 3 + nI p = nI (m * 3 + p) := by rw [show (3 : Int32) = nI 3 from rfl, pk_mul, nI_add]
end
section
/-! the trees that the class's reader makes (wfX_), and that their codes can be run (okX_) -/
def wfX_ : Bool → Term → Prop
  | true, .int _ => True
  | true, .index _ => True
  | true, .length e => wfX_ true e
  | true, .sum e => wfX_ true e
  | true, .elem s (.add a b) => ¬ kd_ (sg2_ s) = 0 ∧ wfX_ true a ∧ wfX_ true b
  | true, .mul a (.div b c) => wfX_ true a ∧ wfX_ true b ∧ wfX_ true c
  | true, .rem a b => wfX_ true a ∧ wfX_ true b
  | true, .sub k x => wfX_ false x ∧ an_ x ≤ 3 ∧ poX_ (kv2_ k) = nI (an_ x)
  | false, .null => True
  | false, .add a r => wfX_ true a ∧ wfX_ false r
  | _, _ => False
/-- what a reading gives: a tree, or (kind 8) arguments -/
def wgX_ (q : Nat) (x : px2_) : Prop := ∀ y, x = some y → wfX_ (decide (q ≤ 7)) y.1 ∧ (8 ≤ q → an_ y.1 ≤ 3)
def wP_ (P : pf2_) : Prop := ∀ q l k m o, 1 ≤ q ∧ q ≤ 8 → (∀ e, l = some e → wfX_ true e) → wgX_ q (P q l k m o)
theorem wr_none {q : Nat} : wgX_ q none := fun _ h => by cases h
theorem wr_t {q : Nat} {y : Term × Nat × Nat} (hq : q ≤ 7) (h : wfX_ true y.1) : wgX_ q (some y) := fun z hz => by
  cases hz
  exact ⟨by rw [decide_eq_true hq]; exact h, fun w => by omega⟩
theorem wP_t {P : pf2_} (h : wP_ P) {q : Nat} {l : Option Term} {k m o : Nat} (hq : 1 ≤ q ∧ q ≤ 7) (hl : ∀ e, l = some e → wfX_ true e) {y : Term × Nat × Nat} (hy : P q l k m o = some y) : wfX_ true y.1 := by
  have z := (h q l k m o (by omega) hl y hy).1
  rw [decide_eq_true hq.2] at z
  exact z
theorem nl_ : ∀ e, (none : Option Term) = some e → wfX_ true e := fun _ h => by cases h
theorem sl_ {a : Term} (h : wfX_ true a) : ∀ e, some a = some e → wfX_ true e := fun _ z => by cases z; exact h
theorem wz1 {P : pf2_} (h : wP_ P) (T : Int32 → Int32) (l : Option Term) (k m o : Nat) (hl : ∀ e, l = some e → wfX_ true e) : wgX_ 1 (z1_ P T l k m o) := by
  unfold z1_
  cases l with
  | none =>
    simp only
    cases h2 : P 2 none k m o with
    | none => exact wr_none
    | some r => exact h 1 _ _ _ _ (by omega) (sl_ (wP_t h (by omega) nl_ h2))
  | some e =>
    simp only
    split
    · split
      · cases h2 : P 2 none (k + 1) (m + 1) o with
        | none => exact wr_none
        | some r => exact h 1 _ _ _ _ (by omega) (sl_ ⟨hl e rfl, wP_t h (by omega) nl_ h2⟩)
      · exact wr_none
    · exact wr_t (by omega) (hl e rfl)
theorem wz2 {P : pf2_} (h : wP_ P) (T : Int32 → Int32) (k m o : Nat) : wgX_ 2 (z2_ P T k m o) := by
  unfold z2_
  cases h3 : P 3 none k m o with
  | none => exact wr_none
  | some a =>
    simp only
    have wa := wP_t h (by omega) nl_ h3
    split
    · split
      · cases h1 : P 1 none (a.2.1 + 1) (a.2.2 + 1) o with
        | none => exact wr_none
        | some t =>
          simp only
          split
          · cases h2 : P 2 none (t.2.1 + 1) t.2.2 o with
            | none => exact wr_none
            | some c => exact wr_t (by omega) ⟨wa, wP_t h (by omega) nl_ h1, wP_t h (by omega) nl_ h2⟩
          · exact wr_none
      · exact wr_none
    · exact wr_t (by omega) wa
theorem wz3 {P : pf2_} (h : wP_ P) (T : Int32 → Int32) (q : Nat) (hq1 : 3 ≤ q) (hq : q ≤ 5) (l : Option Term) (k m o : Nat) (hl : ∀ e, l = some e → wfX_ true e) : wgX_ q (z3_ P T q l k m o) := by
  unfold z3_
  cases l with
  | none =>
    simp only
    cases h2 : P (q + 1) none k m o with
    | none => exact wr_none
    | some r => exact h q _ _ _ _ (by omega) (sl_ (wP_t h (by omega) nl_ h2))
  | some e =>
    simp only
    split
    · rename_i hk
      have hk0 : ¬ kd_ (T (nI k)) = 0 := by
        rw [hk]
        intro z
        rw [nI_z (by omega)] at z
        omega
      split
      · cases h2 : P (q + 1) none (k + 1) (m + 1) o with
        | none => exact wr_none
        | some r =>
          simp only
          have w : wfX_ true (.elem (.int (T (nI k))) (.add e r.1)) := ⟨hk0, hl e rfl, wP_t h (by omega) nl_ h2⟩
          split
          · exact wr_t (by omega) w
          · exact h q _ _ _ _ (by omega) (sl_ w)
      · exact wr_none
    · exact wr_t (by omega) (hl e rfl)
theorem wz6 {P : pf2_} (h : wP_ P) (T : Int32 → Int32) (k m o : Nat) : wgX_ 6 (z6_ P T k m o) := by
  unfold z6_
  split
  · split
    · cases h2 : P 6 none (k + 1) (m + 1) o with
      | none => exact wr_none
      | some r =>
        simp only
        have w := wP_t h (by omega) nl_ h2
        refine wr_t (by omega) ?_
        show wfX_ true (if T (nI k) = 45 then .length r.1 else .sum r.1)
        split
        · exact w
        · exact w
    · exact wr_none
  · intro y hy
    have z := wP_t h (q := 7) (by omega) nl_ hy
    exact ⟨z, fun w => by omega⟩
theorem wzw {P : pf2_} (h : wP_ P) (T : Int32 → Int32) (v : Int32) (nm : Bool) (k m o : Nat) (r : Nat × Int32 × Int64) (hw : r.2.2.toBitVec.toNat < 2 ^ 60) : wgX_ 7 (zw_ P T v nm k m o r) := by
  unfold zw_
  split
  · split
    · split
      · refine wr_t (by omega) ⟨True.intro, by show 0 ≤ 3; omega, ?_⟩
        exact po_ky (j := 0) (by omega) hw
      · cases h8 : P 8 none (k + r.1 + 1) (m + 1) (o + 1) with
        | none => exact wr_none
        | some x =>
          simp only
          obtain ⟨w1, w2⟩ := h 8 none _ _ _ (by omega) nl_ x h8
          have w3 := w2 (by omega)
          split
          · exact wr_t (by omega) ⟨w1, w3, po_ky (by omega) hw⟩
          · exact wr_none
    · exact wr_none
  · split
    · exact wr_t (by omega) True.intro
    · exact wr_none
theorem wz7 {P : pf2_} (h : wP_ P) (T : Int32 → Int32) (v : Int32) (nm : Bool) (k m o : Nat) : wgX_ 7 (z7_ P T v nm k m o) := by
  unfold z7_
  split
  · split
    · split
      · cases h1 : P 1 none (k + 1) m (o + 1) with
        | none => exact wr_none
        | some x =>
          simp only
          split
          · exact wr_t (by omega) (show wfX_ true x.1 from wP_t h (q := 1) (y := x) (by omega) nl_ h1)
          · exact wr_none
      · exact wr_none
    · exact wzw h T v nm k m o _ (srT_w 200 0 0 0 (by decide))
  · split
    · exact wr_t (by omega) True.intro
    · exact wr_none
theorem wz8 {P : pf2_} (h : wP_ P) (T : Int32 → Int32) (k m o : Nat) : wgX_ 8 (z8_ P T k m o) := by
  unfold z8_
  cases h1 : P 1 none k m o with
  | none => exact wr_none
  | some a =>
    simp only
    have wa := wP_t h (by omega) nl_ h1
    split
    · cases h2 : P 1 none (a.2.1 + 1) a.2.2 o with
      | none => exact wr_none
      | some b =>
        simp only
        have wb := wP_t h (by omega) nl_ h2
        split
        · cases h3 : P 1 none (b.2.1 + 1) b.2.2 o with
          | none => exact wr_none
          | some c =>
            simp only
            have wc := wP_t h (by omega) nl_ h3
            split
            · exact wr_none
            · intro y hy; cases hy; exact ⟨⟨wa, wb, wc, True.intro⟩, fun _ => by show 3 ≤ 3; omega⟩
        · intro y hy; cases hy; exact ⟨⟨wa, wb, True.intro⟩, fun _ => by show 2 ≤ 3; omega⟩
    · intro y hy; cases hy; exact ⟨⟨wa, True.intro⟩, fun _ => by show 1 ≤ 3; omega⟩
theorem wP_all (T : Int32 → Int32) (v : Int32) (nm : Bool) : ∀ f, wP_ (pz2_ T v nm f) := by
  intro f
  induction f with
  | zero => intro q l k m o _ _; exact wr_none
  | succ f ih =>
    intro q l k m o hq hl
    show wgX_ q (zs_ (pz2_ T v nm f) T v nm q l k m o)
    unfold zs_
    generalize pz2_ T v nm f = P at ih
    by_cases h1 : q = 1
    · subst h1; rw [if_pos rfl]; exact wz1 ih T l k m o hl
    rw [if_neg h1]
    by_cases h2 : q = 2
    · subst h2; rw [if_pos rfl]; exact wz2 ih T k m o
    rw [if_neg h2]
    by_cases h5 : q ≤ 5
    · rw [if_pos h5]; exact wz3 ih T q (by omega) h5 l k m o hl
    rw [if_neg h5]
    by_cases h6 : q = 6
    · subst h6; rw [if_pos rfl]; exact wz6 ih T k m o
    rw [if_neg h6]
    by_cases h7 : q = 7
    · subst h7; rw [if_pos rfl]; exact wz7 ih T v nm k m o
    rw [if_neg h7]
    obtain rfl : q = 8 := by omega
    exact wz8 ih T k m o
theorem wf_pe {T : Int32 → Int32} {v : Int32} {nm : Bool} {q : Option Nat} {x : Term × Nat × Nat} (h : pe2_ T v nm q = some x) : wfX_ true x.1 := by
  cases q with
  | none => exact absurd (show (none : px2_) = some x from h) (by simp)
  | some p => exact wP_t (wP_all T v nm 297) (q := 1) (by omega) nl_ h

end
section
/-! the code of a tree that the reader makes can be run -/
def CH_ (F : Nat → Nat) (C : List cq2_) (L E : Nat) : Prop := ∀ i q, C[i]? = some q → q.2.2.2 = nI (F (L + i + 1)) ∧ stX_ E F (L + i) q.1 q.2.1
theorem stX_E {E E2 i : Nat} {F : Nat → Nat} {p : Int32} {v : Int64} (hE : E ≤ E2) (h : stX_ E F i p v) : stX_ E2 F i p v := by
  obtain ⟨h1, h2, h3, h4, h5, h6, h7⟩ := h
  refine ⟨h1, h2, h3, fun z => ?_, fun z => ?_, h6, h7⟩
  · obtain ⟨a, t, b1, b2, b3, b4⟩ := h4 z
    exact ⟨a, t, b1, by omega, b3, b4⟩
  · obtain ⟨t, b1, b2, b3, b4⟩ := h5 z
    exact ⟨t, b1, by omega, b3, b4⟩
theorem stX_F {E i L : Nat} {F F2 : Nat → Nat} {p : Int32} {v : Int64} (hF : ∀ j, L ≤ j → j ≤ E → F2 j = F j) (h1 : L ≤ i) (h2 : i + 1 ≤ E) (h : stX_ E F i p v) : stX_ E F2 i p v := by
  unfold stX_ at h ⊢
  rw [hF i h1 (by omega), hF (i + 1) (by omega) h2]
  obtain ⟨a1, a2, a3, a4, a5, a6, a7⟩ := h
  refine ⟨a1, a2, a3, fun z => ?_, fun z => ?_, a6, a7⟩
  · obtain ⟨a, t, b1, b2, b3, b4⟩ := a4 z
    exact ⟨a, t, b1, b2, by rw [hF t (by omega) b2]; exact b3, b4⟩
  · obtain ⟨t, b1, b2, b3, b4⟩ := a5 z
    exact ⟨t, b1, b2, by rw [hF t (by omega) b2]; exact b3, b4⟩
theorem CH_F {F F2 : Nat → Nat} {C : List cq2_} {L E : Nat} (hE : L + C.length = E) (hF : ∀ j, L ≤ j → j ≤ E → F2 j = F j) (h : CH_ F C L E) : CH_ F2 C L E := by
  intro i q hq
  have hi := (List.getElem?_eq_some_iff.mp hq).1
  obtain ⟨h1, h2⟩ := h i q hq
  exact ⟨by rw [hF _ (by omega) (by omega)]; exact h1, stX_F hF (by omega) (by omega) h2⟩
theorem CH_E {F : Nat → Nat} {C : List cq2_} {L E E2 : Nat} (hE : E ≤ E2) (h : CH_ F C L E) : CH_ F C L E2 := fun i q hq => ⟨(h i q hq).1, stX_E hE (h i q hq).2⟩
theorem CH_app {F : Nat → Nat} {A B : List cq2_} {L E : Nat} (h : CH_ F A L E) (g : CH_ F B (L + A.length) E) : CH_ F (A ++ B) L E := by
  intro i q hq
  by_cases hi : i < A.length
  · rw [List.getElem?_append_left hi] at hq
    exact h i q hq
  · rw [List.getElem?_append_right (by omega)] at hq
    have := g _ q hq
    rw [show L + A.length + (i - A.length) = L + i by omega] at this
    exact this
theorem CH_one {F : Nat → Nat} {L E : Nat} {q : cq2_} (h1 : q.2.2.2 = nI (F (L + 1))) (h2 : stX_ E F L q.1 q.2.1) : CH_ F [q] L E := by
  intro i q2 hq
  have hi := (List.getElem?_eq_some_iff.mp hq).1
  obtain rfl : i = 0 := by simp at hi; omega
  cases hq
  exact ⟨h1, h2⟩
theorem CH_cons {F : Nat → Nat} {L E : Nat} {q : cq2_} {B : List cq2_} (h1 : q.2.2.2 = nI (F (L + 1))) (h2 : stX_ E F L q.1 q.2.1) (g : CH_ F B (L + 1) E) : CH_ F (q :: B) L E := CH_app (A := [q]) (CH_one h1 h2) g
theorem st01 {E i : Nat} {F : Nat → Nat} {p : Int32} {v : Int64} (hp : p = 0 ∨ p = 1) (h : F (i + 1) = F i + 1) : stX_ E F i p v := by
  rcases hp with rfl | rfl <;> exact ⟨fun _ => h, fun z => absurd z (by decide), fun z => absurd z (by decide), fun z => absurd z (by decide), fun z => absurd z (by decide), fun z => absurd z (by decide), fun z1 z2 => by first | exact absurd rfl z1 | exact absurd rfl z2⟩
theorem st23 {E i : Nat} {F : Nat → Nat} {p : Int32} {v : Int64} (hp : p = 2 ∨ p = 3) (h : F (i + 1) = F i) (h1 : 1 ≤ F i) : stX_ E F i p v := by
  rcases hp with rfl | rfl <;> exact ⟨fun z => absurd z (by decide), fun _ => ⟨h, h1⟩, fun _ => h1, fun z => absurd z (by decide), fun z => absurd z (by decide), fun z => absurd z (by decide), fun _ _ z1 z2 => by first | exact absurd rfl z1 | exact absurd rfl z2⟩
theorem st4 {E i t : Nat} {F : Nat → Nat} {v : Int64} (h : F (i + 1) + 1 = F i) (hv : v.toInt32 = nI t) (ht : t ≤ E) (h2 : F t = F (i + 1)) (h3 : i < t) : stX_ E F i 4 v := ⟨fun z => absurd z (by decide), fun z => absurd z (by decide), fun z => absurd z (by decide), fun _ => ⟨h, t, hv, ht, h2, h3⟩, fun z => absurd z (by decide), fun z => absurd z (by decide), fun _ _ _ _ z => absurd rfl z⟩
theorem st56 {E i t : Nat} {F : Nat → Nat} {p : Int32} {v : Int64} (hp : p = 5 ∨ p = 6) (hv : v.toInt32 = nI t) (ht : t ≤ E) (h2 : F t = F i) (h3 : i < t) : stX_ E F i p v := by
  rcases hp with rfl | rfl <;> exact ⟨fun z => absurd z (by decide), fun z => absurd z (by decide), fun z => absurd z (by decide), fun z => absurd z (by decide), fun _ => ⟨t, hv, ht, h2, h3⟩, fun z => absurd z (by decide), fun _ _ _ _ _ z1 z2 => by first | exact absurd rfl z1 | exact absurd rfl z2⟩
theorem st7 {E i j : Nat} {F : Nat → Nat} {v : Int64} (hv : poX_ v = nI j) (hj : j ≤ 3) (h : F (i + 1) + j = F i + 1) (h2 : j ≤ F i) : stX_ E F i 7 v := ⟨fun z => absurd z (by decide), fun z => absurd z (by decide), fun z => absurd z (by decide), fun z => absurd z (by decide), fun z => absurd z (by decide), fun _ => ⟨j, hv, hj, h, h2⟩, fun _ _ _ _ _ _ _ z => absurd rfl z⟩
theorem kd_big {c : Int32} (h : ¬ kd_ c = 0) : ¬ c = 0 ∧ ¬ c = 1 ∧ ¬ c = 2 ∧ ¬ c = 3 ∧ ¬ c = 4 ∧ ¬ c = 5 ∧ ¬ c = 6 ∧ ¬ c = 7 := by
  refine ⟨?_, ?_, ?_, ?_, ?_, ?_, ?_, ?_⟩ <;> (rintro rfl; exact h (by decide))
theorem st8 {E i : Nat} {F : Nat → Nat} {p : Int32} {v : Int64} (hp : ¬ kd_ p = 0) (h : F (i + 1) + 1 = F i) (h2 : 2 ≤ F i) : stX_ E F i p v := by
  obtain ⟨a0, a1, a2, a3, a4, a5, a6, a7⟩ := kd_big hp
  exact ⟨fun z => absurd z (by simp [a0, a1]), fun z => absurd z a2, fun z => absurd z a3, fun z => absurd z a4, fun z => absurd z (by simp [a5, a6]), fun z => absurd z a7, fun _ _ _ _ _ _ _ _ => ⟨h, h2⟩⟩
/-- a code from L on, the stack h high before it and h + n behind it, and no higher than h + B between -/
def CK_ (e : Term) (L h n B : Nat) : Prop := ∃ F : Nat → Nat, F L = h ∧ F (L + snX_ e) = h + n ∧ (∀ j, L ≤ j → j ≤ L + snX_ e → F j ≤ h + B) ∧ CH_ F (cqX_ e L (nI h)) L (L + snX_ e)
theorem sn_pos : ∀ e, wfX_ true e → 1 ≤ snX_ e
  | .int _, _ => Nat.le_refl _
  | .index _, _ => Nat.le_refl _
  | .length e, _ => by rw [snX_]; omega
  | .sum e, _ => by rw [snX_]; omega
  | .elem s (.add a b), _ => by rw [snX_]; omega
  | .mul a (.div b c), _ => by rw [snX_]; omega
  | .rem a b, _ => by rw [snX_]; omega
  | .sub k x, _ => by rw [snX_]; omega
theorem CK_one {e : Term} {L h : Nat} {q : cq2_} (hs : snX_ e = 1) (hc : cqX_ e L (nI h) = [q]) (h1 : q.2.2.2 = nI h + 1) (hp : q.1 = 0 ∨ q.1 = 1) : CK_ e L h 1 1 := by
  refine ⟨fun j => if j ≤ L then h else h + 1, if_pos (Nat.le_refl _), by rw [hs]; exact if_neg (by omega), fun j _ _ => ?_, ?_⟩
  · show (if j ≤ L then h else h + 1) ≤ h + 1
    split <;> omega
  · rw [hc]
    refine CH_one ?_ (st01 hp ?_)
    · rw [h1, nI_1]; exact congrArg nI (if_neg (by omega)).symm
    · show (if L + 1 ≤ L then h else h + 1) = (if L ≤ L then h else h + 1) + 1
      rw [if_neg (by omega), if_pos (Nat.le_refl _)]
/-- a step behind a code -/
theorem CK_then {e f : Term} {L h n n2 B B2 : Nat} {q : cq2_} (k : CK_ e L h n B) (hs : snX_ f = snX_ e + 1) (hc : cqX_ f L (nI h) = cqX_ e L (nI h) ++ [q]) (hB : B ≤ B2) (hn2 : n2 ≤ B2) (h1 : q.2.2.2 = nI (h + n2)) (st : ∀ F : Nat → Nat, F (L + snX_ e) = h + n → F (L + snX_ e + 1) = h + n2 → stX_ (L + snX_ f) F (L + snX_ e) q.1 q.2.1) : CK_ f L h n2 B2 := by
  obtain ⟨F, f1, f2, f3, f4⟩ := k
  have e1 : (fun j => if j ≤ L + snX_ e then F j else h + n2) (L + snX_ e) = h + n := by
    show (if L + snX_ e ≤ L + snX_ e then F (L + snX_ e) else h + n2) = h + n
    rw [if_pos (Nat.le_refl _)]; exact f2
  have e2 : (fun j => if j ≤ L + snX_ e then F j else h + n2) (L + snX_ e + 1) = h + n2 := if_neg (by omega)
  refine ⟨fun j => if j ≤ L + snX_ e then F j else h + n2, ?_, ?_, fun j h3 h4 => ?_, ?_⟩
  · show (if L ≤ L + snX_ e then F L else h + n2) = h
    rw [if_pos (by omega)]; exact f1
  · rw [hs]; exact e2
  · show (if j ≤ L + snX_ e then F j else h + n2) ≤ h + B2
    split
    · have := f3 j h3 (by omega); omega
    · omega
  · rw [hc]
    refine CH_app (CH_E (by omega) (CH_F (by rw [cq_len]) (fun j _ h5 => if_pos h5) f4)) ?_
    rw [cq_len]
    exact CH_one (h1.trans (congrArg nI e2.symm)) (st _ e1 e2)
/-- a code behind a code -/
theorem CK_app {a b f : Term} {L h n m B B1 B2 : Nat} (ka : CK_ a L h n B1) (kb : CK_ b (L + snX_ a) (h + n) m B2) (hs : snX_ f = snX_ a + snX_ b) (hc : cqX_ f L (nI h) = cqX_ a L (nI h) ++ cqX_ b (L + snX_ a) (nI (h + n))) (h1 : B1 ≤ B) (h2 : n + B2 ≤ B) : CK_ f L h (n + m) B := by
  obtain ⟨F, f1, f2, f3, f4⟩ := ka
  obtain ⟨K, k1, k2, k3, k4⟩ := kb
  have eF : ∀ j, j ≤ L + snX_ a → (fun j => if j ≤ L + snX_ a then F j else K j) j = F j := fun j hj => if_pos hj
  have eK : ∀ j, L + snX_ a ≤ j → (fun j => if j ≤ L + snX_ a then F j else K j) j = K j := by
    intro j hj
    show (if j ≤ L + snX_ a then F j else K j) = K j
    split
    · obtain rfl : j = L + snX_ a := by omega
      rw [f2, k1]
    · rfl
  refine ⟨fun j => if j ≤ L + snX_ a then F j else K j, ?_, ?_, fun j h3 h4 => ?_, ?_⟩
  · rw [eF L (by omega)]; exact f1
  · rw [hs, ← Nat.add_assoc, eK _ (by omega), k2]; omega
  · by_cases hj : j ≤ L + snX_ a
    · rw [eF j hj]; have := f3 j h3 hj; omega
    · rw [eK j (by omega)]; have := k3 j (by omega) (by omega); omega
  · rw [hc]
    refine CH_app (CH_E (by omega) (CH_F (by rw [cq_len]) (fun j _ h5 => eF j h5) f4)) ?_
    rw [cq_len, hs, ← Nat.add_assoc]
    exact CH_F (by rw [cq_len]) (fun j h5 _ => eK j h5) k4
theorem wf_code : ∀ (g : Bool) (e : Term), wfX_ g e → ∀ (L h : Nat), L + snX_ e ≤ 60 → (g = true → ∃ B, 3 * B ≤ 2 * snX_ e + 1 ∧ CK_ e L h 1 B) ∧ (g = false → ∃ B, 3 * B ≤ 2 * snX_ e + an_ e ∧ CK_ e L h (an_ e) B)
  | true, .int v, _, L, h, _ => ⟨fun _ => ⟨1, by rw [snX_]; omega, CK_one rfl rfl rfl (Or.inl rfl)⟩, fun z => Bool.noConfusion z⟩
  | true, .index i, _, L, h, _ => ⟨fun _ => ⟨1, by rw [snX_]; omega, CK_one rfl rfl rfl (Or.inr rfl)⟩, fun z => Bool.noConfusion z⟩
  | true, .length e, w, L, h, hL => by
    refine ⟨fun _ => ?_, fun z => Bool.noConfusion z⟩
    rw [snX_] at hL
    obtain ⟨B, b1, b2⟩ := (wf_code true e w L h (by omega)).1 rfl
    have := sn_pos e w
    have hB1 : 1 ≤ B := by obtain ⟨F, f1, f2, f3, _⟩ := b2; have := f3 (L + snX_ e) (by omega) (by omega); omega
    exact ⟨B, by rw [snX_]; omega, CK_then b2 rfl rfl (Nat.le_refl _) hB1 (nI_1 h) (fun F f1 f2 => st23 (Or.inl rfl) (f2.trans f1.symm) (by omega))⟩
  | true, .sum e, w, L, h, hL => by
    refine ⟨fun _ => ?_, fun z => Bool.noConfusion z⟩
    rw [snX_] at hL
    obtain ⟨B, b1, b2⟩ := (wf_code true e w L h (by omega)).1 rfl
    have hB1 : 1 ≤ B := by obtain ⟨F, f1, f2, f3, _⟩ := b2; have := f3 (L + snX_ e) (by omega) (by omega); omega
    exact ⟨B, by rw [snX_]; omega, CK_then b2 rfl rfl (Nat.le_refl _) hB1 (nI_1 h) (fun F f1 f2 => st23 (Or.inr rfl) (f2.trans f1.symm) (by omega))⟩
  | true, .elem s (.add a b), w, L, h, hL => by
    refine ⟨fun _ => ?_, fun z => Bool.noConfusion z⟩
    rw [snX_, snX_] at hL
    have pa := sn_pos a w.2.1
    have pb := sn_pos b w.2.2
    obtain ⟨B1, b1, c1⟩ := (wf_code true a w.2.1 L h (by omega)).1 rfl
    obtain ⟨B2, b2, c2⟩ := (wf_code true b w.2.2 (L + snX_ a) (h + 1) (by omega)).1 rfl
    have c3 : CK_ (.add a b) L h (1 + 1) (max B1 (1 + B2)) := CK_app c1 c2 (by rw [snX_]) (by rw [cqX_, nI_1]) (by omega) (by omega)
    refine ⟨max B1 (1 + B2), by rw [snX_, snX_]; omega, CK_then c3 rfl rfl (Nat.le_refl _) (by omega) (nI_1 h) (fun F f1 f2 => st8 w.1 (by omega) (by omega))⟩
  | true, .mul a (.div b c), w, L, h, hL => by
    refine ⟨fun _ => ?_, fun z => Bool.noConfusion z⟩
    have hs : snX_ (.mul a (.div b c)) = snX_ a + snX_ b + snX_ c + 2 := by rw [snX_]
    rw [hs] at hL
    obtain ⟨B1, b1, F, f1, f2, f3, f4⟩ := (wf_code true a w.1 L h (by omega)).1 rfl
    obtain ⟨B2, b2, K, k1, k2, k3, k4⟩ := (wf_code true b w.2.1 (L + snX_ a + 1) h (by omega)).1 rfl
    obtain ⟨B3, b3, U, u1, u2, u3, u4⟩ := (wf_code true c w.2.2 (L + snX_ a + 1 + snX_ b + 1) h (by omega)).1 rfl
    have pa := sn_pos a w.1
    have pb := sn_pos b w.2.1
    have pc := sn_pos c w.2.2
    obtain ⟨Z, hZ⟩ : ∃ Z : Nat → Nat, Z = fun j => if j ≤ L + snX_ a then F j else if j ≤ L + snX_ a + 1 + snX_ b then K j else U j := ⟨_, rfl⟩
    have eF : ∀ j, j ≤ L + snX_ a → Z j = F j := fun j hj => by rw [hZ]; exact if_pos hj
    have eK : ∀ j, L + snX_ a + 1 ≤ j → j ≤ L + snX_ a + 1 + snX_ b → Z j = K j := fun j hj hj2 => by rw [hZ]; exact (if_neg (by omega)).trans (if_pos hj2)
    have eU : ∀ j, L + snX_ a + 1 + snX_ b + 1 ≤ j → Z j = U j := fun j hj => by rw [hZ]; exact (if_neg (by omega)).trans (if_neg (by omega))
    refine ⟨max B1 (max B2 B3), by rw [hs]; omega, Z, ?_, ?_, fun j h3 h4 => ?_, ?_⟩
    · rw [eF L (by omega)]; exact f1
    · rw [hs, show L + (snX_ a + snX_ b + snX_ c + 2) = L + snX_ a + 1 + snX_ b + 1 + snX_ c by omega, eU _ (by omega)]; exact u2
    · rw [hs] at h4
      by_cases z1 : j ≤ L + snX_ a
      · rw [eF j z1]; have := f3 j h3 z1; omega
      · by_cases z2 : j ≤ L + snX_ a + 1 + snX_ b
        · rw [eK j (by omega) z2]; have := k3 j (by omega) z2; omega
        · rw [eU j (by omega)]; have := u3 j (by omega) (by omega); omega
    · rw [hs, cqX_]
      have g1 := eF (L + snX_ a) (by omega)
      have g2 := eK (L + snX_ a + 1) (by omega) (by omega)
      have g3 := eK (L + snX_ a + 1 + snX_ b) (by omega) (by omega)
      have g4 := eU (L + snX_ a + 1 + snX_ b + 1) (by omega)
      have g5 := eU (L + snX_ a + 1 + snX_ b + 1 + snX_ c) (by omega)
      refine CH_app (CH_E (by omega) (CH_F (by rw [cq_len]) (fun j _ h5 => eF j h5) f4)) ?_
      rw [cq_len]
      refine CH_cons (by rw [g2, k1]) (st4 (t := L + snX_ a + 1 + snX_ b + 1) (by rw [g1, g2, f2, k1]) (lN_i _) (by omega) (by rw [g4, g2, u1, k1]) (by omega)) ?_
      refine CH_app (CH_E (by omega) (CH_F (by rw [cq_len]) (fun j h5 h6 => eK j h5 h6) k4)) ?_
      rw [cq_len]
      refine CH_cons (by rw [g4, u1]) (st56 (t := L + snX_ a + 1 + snX_ b + 1 + snX_ c) (Or.inl rfl) (lN_i _) (by omega) (by rw [g5, g3, u2, k2]) (by omega)) ?_
      exact CH_E (by omega) (CH_F (by rw [cq_len]) (fun j h5 h6 => eU j h5) u4)
  | true, .rem a b, w, L, h, hL => by
    refine ⟨fun _ => ?_, fun z => Bool.noConfusion z⟩
    have hs : snX_ (.rem a b) = snX_ a + snX_ b + 1 := by rw [snX_]
    rw [hs] at hL
    obtain ⟨B1, b1, F, f1, f2, f3, f4⟩ := (wf_code true a w.1 L h (by omega)).1 rfl
    obtain ⟨B2, b2, K, k1, k2, k3, k4⟩ := (wf_code true b w.2 (L + snX_ a + 1) h (by omega)).1 rfl
    have pa := sn_pos a w.1
    have pb := sn_pos b w.2
    obtain ⟨Z, hZ⟩ : ∃ Z : Nat → Nat, Z = fun j => if j ≤ L + snX_ a then F j else K j := ⟨_, rfl⟩
    have eF : ∀ j, j ≤ L + snX_ a → Z j = F j := fun j hj => by rw [hZ]; exact if_pos hj
    have eK : ∀ j, L + snX_ a + 1 ≤ j → Z j = K j := fun j hj => by rw [hZ]; exact if_neg (by omega)
    refine ⟨max B1 B2, by rw [hs]; omega, Z, ?_, ?_, fun j h3 h4 => ?_, ?_⟩
    · rw [eF L (by omega)]; exact f1
    · rw [hs, show L + (snX_ a + snX_ b + 1) = L + snX_ a + 1 + snX_ b by omega, eK _ (by omega)]; exact k2
    · rw [hs] at h4
      by_cases z1 : j ≤ L + snX_ a
      · rw [eF j z1]; have := f3 j h3 z1; omega
      · rw [eK j (by omega)]; have := k3 j (by omega) (by omega); omega
    · rw [hs, cqX_]
      have g1 := eF (L + snX_ a) (by omega)
      have g2 := eK (L + snX_ a + 1) (by omega)
      have g3 := eK (L + snX_ a + 1 + snX_ b) (by omega)
      refine CH_app (CH_E (by omega) (CH_F (by rw [cq_len]) (fun j _ h5 => eF j h5) f4)) ?_
      rw [cq_len]
      refine CH_cons (by rw [g2, k1]) (st56 (t := L + snX_ a + 1 + snX_ b) (Or.inr rfl) (lN_i _) (by omega) (by rw [g3, g1, f2, k2]) (by omega)) ?_
      exact CH_E (by omega) (CH_F (by rw [cq_len]) (fun j h5 h6 => eK j h5) k4)
  | true, .sub k x, w, L, h, hL => by
    refine ⟨fun _ => ?_, fun z => Bool.noConfusion z⟩
    rw [snX_] at hL
    obtain ⟨B, b1, b2⟩ := (wf_code false x w.1 L h (by omega)).2 rfl
    have hw := w.2.1
    exact ⟨max B 1, by rw [snX_]; omega, CK_then b2 rfl rfl (by omega) (by omega) (nI_1 h) (fun F f1 f2 => st7 w.2.2 w.2.1 (by omega) (by omega))⟩
  | false, .null, _, L, h, _ => ⟨fun z => Bool.noConfusion z, fun _ => ⟨0, by omega, fun _ => h, rfl, rfl, fun _ _ _ => Nat.le_refl _, fun i q hq => by cases hq⟩⟩
  | false, .add a r, w, L, h, hL => by
    refine ⟨fun z => Bool.noConfusion z, fun _ => ?_⟩
    rw [snX_] at hL
    have pa := sn_pos a w.1
    obtain ⟨B1, b1, c1⟩ := (wf_code true a w.1 L h (by omega)).1 rfl
    obtain ⟨B2, b2, c2⟩ := (wf_code false r w.2 (L + snX_ a) (h + 1) (by omega)).2 rfl
    refine ⟨max B1 (1 + B2), ?_, ?_⟩
    · rw [snX_, an_]; omega
    · rw [an_, Nat.add_comm]
      exact CK_app c1 c2 (by rw [snX_]) (by rw [cqX_, nI_1]) (by omega) (by omega)
theorem ok_hd {k : Nat} {M : mm_} {e : Term} (w : wfX_ true e) (hs : 3 * snX_ e + 1 ≤ 80) (h : hd_ k M (cqX_ e 0 0)) : okX_ k M := by
  obtain ⟨B, b1, F, f1, f2, f3, f4⟩ := (wf_code true e w 0 0 (by omega)).1 rfl
  rw [Nat.zero_add] at f2 f3 f4
  refine ⟨snX_ e, F, by omega, ?_, f1, fun i hi => ?_, fun i hi => ?_⟩
  · rw [h.1, cq_len]
  · have := f3 i (by omega) hi; omega
  · have hl : i < (cqX_ e 0 0).length := by rw [cq_len]; exact hi
    obtain ⟨g1, g2⟩ := f4 i _ (List.getElem?_eq_getElem hl)
    obtain ⟨h1, h2, _, h4⟩ := h.2 i _ (List.getElem?_eq_getElem hl)
    rw [h1, h2, h4]
    rw [Nat.zero_add] at g1 g2
    exact ⟨g1, g2⟩

end
