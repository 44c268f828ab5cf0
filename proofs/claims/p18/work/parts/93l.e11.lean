section
/-! Machine: step and run, exactly -/
theorem pp_8 {M : mm_} {h : Nat} (hh : M.1 247 8 = nI h) : (ppX_ M h).2.1 247 8 = nI (h - 1) := by
  unfold ppX_; split
  · rename_i z; subst z; exact hh
  · exact (gI_sI _ _ _ _ _ _).trans (if_pos ⟨rfl, rfl⟩)
/-- a step that invokes nothing: p its operation, v its operand, the stack h high -/
def sfX_ (M : mm_) (a h r : Nat) (p : Int32) (v : Int64) : Int32 × mm_ :=
  if p = 0 then (nI a + 1, puX_ M h v.toInt32)
  else if p = 1 then (nI a + 1, puX_ M h (if v < 0 ∨ 7 ≤ v then 0 else M.1 (249 + r) v.toInt32.toNatClampNeg))
  else if p = 2 then (nI a + 1, puX_ (ppX_ M h).2 (h - 1) (-(ppX_ M h).1))
  else if p = 3 then (nI a + 1, flX_ (ppX_ M h).2 (ppX_ M h).1)
  else if p = 4 then (if (ppX_ M h).1 = 0 then v.toInt32 else nI a + 1, (ppX_ M h).2)
  else if p = 5 ∨ p = 6 then (v.toInt32, M)
  else if (ppX_ M h).1 = 0 ∧ (p = 47 ∨ p = 37) then (nI a + 1, flX_ (ppX_ (ppX_ M h).2 (h - 1)).2 (-1))
  else (nI a + 1, puX_ (ppX_ (ppX_ M h).2 (h - 1)).2 (h - 1 - 1) (joX_ p (ppX_ (ppX_ M h).2 (h - 1)).1 (ppX_ M h).1))
set_option maxHeartbeats 800000 in
set_option maxRecDepth 100000 in
theorem c4_stepE (G : gg_) (hG : gd_ G) (d r : Nat) (hr : r ≤ 10) (M : mm_) (k : Nat) (hk : cdX_ k) (a : Nat) (ha : a < 26) (p : Int32) (hp : M.1 (k + 1) a = p) (v : Int64) (hv : M.2.1 (k + 2) a = v) (h : Nat) (hh : M.1 247 8 = nI h) (hh2 : h ≤ 220) (hd5 : M.1 (249 + r) 5 = nI r) (QN : mm_ → Prop) (hN : p = 7 → cm_ G yX4_invokeNamed cX4_invokeNamed 8 none (d + 1) [.ref (G.1 247), .long v, .int (nI (r + 1))] M (rV_ QN)) : cm_ G yX4_step cX4_step 9 (some .int) (d + 2) [.ref (G.1 247), .ref (G.1 k), .int (nI a), .ref (G.1 (249 + r))] M (rI_ (fun x N => (¬ p = 7 → (x, N) = sfX_ M a h r p v) ∧ (p = 7 → x = nI a + 1 ∧ QN N))) := by
  refine cm_of hG (by decide) (Nat.le_of_ble_eq_true rfl) (fun C X => ?_)
  refine w_aload_n X dX4_step_0 rfl rfl ?_
  refine g4_95 X dX4_step_1 hk.1 rfl ?_
  refine w_iload_n X dX4_step_4 rfl rfl ?_
  refine w_laloadN X dX4_step_5 hk.2.2.1 rfl (⟨by omega, by decide⟩) ?_
  rw [hv]
  refine w_lstore X dX4_step_6 (by decide) ?_
  refine w_aload_n X dX4_step_8 rfl rfl ?_
  refine g4_99 X dX4_step_9 hk.1 rfl ?_
  refine w_iload_n X dX4_step_12 rfl rfl ?_
  refine w_ialoadN X dX4_step_13 hk.2.1 rfl (⟨by omega, by decide⟩) ?_
  rw [hp]
  refine w_istore X dX4_step_14 (by decide) ?_
  refine w_iload X dX4_step_16 rfl ?_
  by_cases h18_0 : p = 0
  · refine w_tableIn (tgt := 64) (off := 46) X dX4_step_18 (by rw [h18_0]; decide) (by rw [h18_0]; decide) (by rw [h18_0]; decide) (by decide) ?_
    refine w_aload_n X dX4_step_64 rfl rfl ?_
    refine w_lload X dX4_step_65 rfl ?_
    refine w_l2i X dX4_step_67 ?_
    refine w_v1fV X dX4_step_68 k4_102 rfl s_247 (c4_push G hG _ _ h hh hh2 _) (Nat.le_of_ble_eq_true rfl) ?_
    refine w_goto (tgt := 216) X dX4_step_71 (by decide) ?_
    refine w_iload_n X dX4_step_216 rfl rfl ?_
    refine w_iconst (v := 1) X dX4_step_217 (by decide) ?_
    refine w_iadd X dX4_step_218 ?_
    exact w_irR X dX4_step_219 ⟨fun _ => by unfold sfX_; rw [if_pos h18_0], fun z => absurd (h18_0.symm.trans z) (by decide)⟩
  by_cases h18_1 : p = 1
  · refine w_tableIn (tgt := 74) (off := 56) X dX4_step_18 (by rw [h18_1]; decide) (by rw [h18_1]; decide) (by rw [h18_1]; decide) (by decide) ?_
    refine w_aload_n X dX4_step_74 rfl rfl ?_
    refine w_lload X dX4_step_75 rfl ?_
    refine w_lconst (v := 0) X dX4_step_77 (by decide) ?_
    refine w_lcmp X dX4_step_78 ?_
    refine w_if_lt (tgt := 99) X dX4_step_79 (by decide) (fun h79 => ?_) (fun h79 => ?_)
    · refine w_iconst (v := 0) X dX4_step_99 (by decide) ?_
      refine w_v1fV X dX4_step_100 k4_102 rfl s_247 (c4_push G hG _ _ h hh hh2 _) (Nat.le_of_ble_eq_true rfl) ?_
      refine w_goto (tgt := 216) X dX4_step_103 (by decide) ?_
      refine w_iload_n X dX4_step_216 rfl rfl ?_
      refine w_iconst (v := 1) X dX4_step_217 (by decide) ?_
      refine w_iadd X dX4_step_218 ?_
      exact w_irR X dX4_step_219 ⟨fun _ => by unfold sfX_; rw [if_neg h18_0, if_pos h18_1, if_pos (Or.inl (lc_lt.mp h79))], fun z => absurd (h18_1.symm.trans z) (by decide)⟩
    · refine w_lload X dX4_step_82 rfl ?_
      refine w_ldc2 X dX4_step_84 q4_106 ?_
      refine w_lcmp X dX4_step_87 ?_
      refine w_if_ge (tgt := 99) X dX4_step_88 (by decide) (fun h88 => ?_) (fun h88 => ?_)
      · refine w_iconst (v := 0) X dX4_step_99 (by decide) ?_
        refine w_v1fV X dX4_step_100 k4_102 rfl s_247 (c4_push G hG _ _ h hh hh2 _) (Nat.le_of_ble_eq_true rfl) ?_
        refine w_goto (tgt := 216) X dX4_step_103 (by decide) ?_
        refine w_iload_n X dX4_step_216 rfl rfl ?_
        refine w_iconst (v := 1) X dX4_step_217 (by decide) ?_
        refine w_iadd X dX4_step_218 ?_
        exact w_irR X dX4_step_219 ⟨fun _ => by unfold sfX_; rw [if_neg h18_0, if_pos h18_1, if_pos (Or.inr (lc_ge.mp h88))], fun z => absurd (h18_1.symm.trans z) (by decide)⟩
      · refine w_aload_n X dX4_step_91 rfl rfl ?_
        refine w_lload X dX4_step_92 rfl ?_
        refine w_l2i X dX4_step_94 ?_
        obtain ⟨i7, hi7, ei7⟩ := vi7_ h79 h88
        rw [ei7]
        refine w_ialoadN X dX4_step_95 (vr_row r (by omega)) rfl (⟨hi7, by decide⟩) ?_
        refine w_goto (tgt := 100) X dX4_step_96 (by decide) ?_
        refine w_v1fV X dX4_step_100 k4_102 rfl s_247 (c4_push G hG _ _ h hh hh2 _) (Nat.le_of_ble_eq_true rfl) ?_
        refine w_goto (tgt := 216) X dX4_step_103 (by decide) ?_
        refine w_iload_n X dX4_step_216 rfl rfl ?_
        refine w_iconst (v := 1) X dX4_step_217 (by decide) ?_
        refine w_iadd X dX4_step_218 ?_
        exact w_irR X dX4_step_219 ⟨fun _ => by unfold sfX_; rw [if_neg h18_0, if_pos h18_1, if_neg (fun z => z.elim (fun y => h79 (lc_lt.mpr y)) (fun y => h88 (lc_ge.mpr y))), ei7, nI_clamp (by omega)], fun z => absurd (h18_1.symm.trans z) (by decide)⟩
  by_cases h18_2 : p = 2
  · refine w_tableIn (tgt := 106) (off := 88) X dX4_step_18 (by rw [h18_2]; decide) (by rw [h18_2]; decide) (by rw [h18_2]; decide) (by decide) ?_
    refine w_aload_n X dX4_step_106 rfl rfl ?_
    refine w_aload_n X dX4_step_107 rfl rfl ?_
    refine w_v0fI X dX4_step_108 k4_91 rfl s_247 (c4_pop G hG _ _ h hh hh2) (Nat.le_of_ble_eq_true rfl) ?_
    refine w_ineg X dX4_step_111 ?_
    refine w_v1fV X dX4_step_112 k4_102 rfl s_247 (c4_push G hG _ _ (h - 1) (pp_8 hh) (by omega) _) (Nat.le_of_ble_eq_true rfl) ?_
    refine w_goto (tgt := 216) X dX4_step_115 (by decide) ?_
    refine w_iload_n X dX4_step_216 rfl rfl ?_
    refine w_iconst (v := 1) X dX4_step_217 (by decide) ?_
    refine w_iadd X dX4_step_218 ?_
    exact w_irR X dX4_step_219 ⟨fun _ => by unfold sfX_; rw [if_neg h18_0, if_neg h18_1, if_pos h18_2], fun z => absurd (h18_2.symm.trans z) (by decide)⟩
  by_cases h18_3 : p = 3
  · refine w_tableIn (tgt := 118) (off := 100) X dX4_step_18 (by rw [h18_3]; decide) (by rw [h18_3]; decide) (by rw [h18_3]; decide) (by decide) ?_
    refine w_aload_n X dX4_step_118 rfl rfl ?_
    refine w_aload_n X dX4_step_119 rfl rfl ?_
    refine w_v0fI X dX4_step_120 k4_91 rfl s_247 (c4_pop G hG _ _ h hh hh2) (Nat.le_of_ble_eq_true rfl) ?_
    refine w_v1fV X dX4_step_123 k4_108 rfl s_247 (c4_fail G hG _ _ _) (Nat.le_of_ble_eq_true rfl) ?_
    refine w_goto (tgt := 216) X dX4_step_126 (by decide) ?_
    refine w_iload_n X dX4_step_216 rfl rfl ?_
    refine w_iconst (v := 1) X dX4_step_217 (by decide) ?_
    refine w_iadd X dX4_step_218 ?_
    exact w_irR X dX4_step_219 ⟨fun _ => by unfold sfX_; rw [if_neg h18_0, if_neg h18_1, if_neg h18_2, if_pos h18_3], fun z => absurd (h18_3.symm.trans z) (by decide)⟩
  by_cases h18_4 : p = 4
  · refine w_tableIn (tgt := 129) (off := 111) X dX4_step_18 (by rw [h18_4]; decide) (by rw [h18_4]; decide) (by rw [h18_4]; decide) (by decide) ?_
    refine w_aload_n X dX4_step_129 rfl rfl ?_
    refine w_v0fI X dX4_step_130 k4_91 rfl s_247 (c4_pop G hG _ _ h hh hh2) (Nat.le_of_ble_eq_true rfl) ?_
    refine w_if_ne (tgt := 142) X dX4_step_133 (by decide) (fun h133 => ?_) (fun h133 => ?_)
    · refine w_iload_n X dX4_step_142 rfl rfl ?_
      refine w_iconst (v := 1) X dX4_step_143 (by decide) ?_
      refine w_iadd X dX4_step_144 ?_
      exact w_irR X dX4_step_145 ⟨fun _ => by unfold sfX_; rw [if_neg h18_0, if_neg h18_1, if_neg h18_2, if_neg h18_3, if_pos h18_4, if_neg h133], fun z => absurd (h18_4.symm.trans z) (by decide)⟩
    · refine w_lload X dX4_step_136 rfl ?_
      refine w_l2i X dX4_step_138 ?_
      refine w_goto (tgt := 145) X dX4_step_139 (by decide) ?_
      exact w_irR X dX4_step_145 ⟨fun _ => by unfold sfX_; rw [if_neg h18_0, if_neg h18_1, if_neg h18_2, if_neg h18_3, if_pos h18_4, if_pos h133], fun z => absurd (h18_4.symm.trans z) (by decide)⟩
  by_cases h18_5 : p = 5
  · refine w_tableIn (tgt := 146) (off := 128) X dX4_step_18 (by rw [h18_5]; decide) (by rw [h18_5]; decide) (by rw [h18_5]; decide) (by decide) ?_
    refine w_lload X dX4_step_146 rfl ?_
    refine w_l2i X dX4_step_148 ?_
    exact w_irR X dX4_step_149 ⟨fun _ => by unfold sfX_; rw [if_neg h18_0, if_neg h18_1, if_neg h18_2, if_neg h18_3, if_neg h18_4, if_pos (Or.inl h18_5)], fun z => absurd (h18_5.symm.trans z) (by decide)⟩
  by_cases h18_6 : p = 6
  · refine w_tableIn (tgt := 146) (off := 128) X dX4_step_18 (by rw [h18_6]; decide) (by rw [h18_6]; decide) (by rw [h18_6]; decide) (by decide) ?_
    refine w_lload X dX4_step_146 rfl ?_
    refine w_l2i X dX4_step_148 ?_
    exact w_irR X dX4_step_149 ⟨fun _ => by unfold sfX_; rw [if_neg h18_0, if_neg h18_1, if_neg h18_2, if_neg h18_3, if_neg h18_4, if_pos (Or.inr h18_6)], fun z => absurd (h18_6.symm.trans z) (by decide)⟩
  by_cases h18_7 : p = 7
  · refine w_tableIn (tgt := 150) (off := 132) X dX4_step_18 (by rw [h18_7]; decide) (by rw [h18_7]; decide) (by rw [h18_7]; decide) (by decide) ?_
    refine w_aload_n X dX4_step_150 rfl rfl ?_
    refine w_lload X dX4_step_151 rfl ?_
    refine w_aload_n X dX4_step_153 rfl rfl ?_
    refine w_iconst (v := 5) X dX4_step_154 (by decide) ?_
    refine w_ialoadN X dX4_step_155 (vr_row r (by omega)) rfl (⟨by decide, by decide⟩) ?_
    refine w_iconst (v := 1) X dX4_step_156 (by decide) ?_
    rw [hd5]
    refine w_iadd X dX4_step_157 ?_
    rw [nI_1 r]
    refine w_v2rV X dX4_step_158 k4_111 rfl s_247 (hN h18_7) (Nat.le_of_ble_eq_true rfl) (fun N158 h158 => ?_)
    refine w_goto (tgt := 216) X dX4_step_161 (by decide) ?_
    refine w_iload_n X dX4_step_216 rfl rfl ?_
    refine w_iconst (v := 1) X dX4_step_217 (by decide) ?_
    refine w_iadd X dX4_step_218 ?_
    exact w_irR X dX4_step_219 ⟨fun z => absurd h18_7 z, fun _ => ⟨rfl, h158⟩⟩
  have t18_0 : (0 : Int) ≠ (p).toInt := fun q => h18_0 (Int32.toInt_inj.mp (by rw [← q]; decide))
  have t18_1 : (1 : Int) ≠ (p).toInt := fun q => h18_1 (Int32.toInt_inj.mp (by rw [← q]; decide))
  have t18_2 : (2 : Int) ≠ (p).toInt := fun q => h18_2 (Int32.toInt_inj.mp (by rw [← q]; decide))
  have t18_3 : (3 : Int) ≠ (p).toInt := fun q => h18_3 (Int32.toInt_inj.mp (by rw [← q]; decide))
  have t18_4 : (4 : Int) ≠ (p).toInt := fun q => h18_4 (Int32.toInt_inj.mp (by rw [← q]; decide))
  have t18_5 : (5 : Int) ≠ (p).toInt := fun q => h18_5 (Int32.toInt_inj.mp (by rw [← q]; decide))
  have t18_6 : (6 : Int) ≠ (p).toInt := fun q => h18_6 (Int32.toInt_inj.mp (by rw [← q]; decide))
  have t18_7 : (7 : Int) ≠ (p).toInt := fun q => h18_7 (Int32.toInt_inj.mp (by rw [← q]; decide))
  refine w_tableOut (tgt := 164) X dX4_step_18 (by omega) (by decide) ?_
  refine w_aload_n X dX4_step_164 rfl rfl ?_
  refine w_v0fI X dX4_step_165 k4_91 rfl s_247 (c4_pop G hG _ _ h hh hh2) (Nat.le_of_ble_eq_true rfl) ?_
  refine w_istore X dX4_step_168 (by decide) ?_
  refine w_aload_n X dX4_step_170 rfl rfl ?_
  refine w_v0fI X dX4_step_171 k4_91 rfl s_247 (c4_pop G hG _ _ (h - 1) (pp_8 hh) (by omega)) (Nat.le_of_ble_eq_true rfl) ?_
  refine w_istore X dX4_step_174 (by decide) ?_
  refine w_iload X dX4_step_176 rfl ?_
  refine w_if_ne (tgt := 203) X dX4_step_178 (by decide) (fun h178 => ?_) (fun h178 => ?_)
  · refine w_aload_n X dX4_step_203 rfl rfl ?_
    refine w_iload X dX4_step_204 rfl ?_
    refine w_iload X dX4_step_206 rfl ?_
    refine w_iload X dX4_step_208 rfl ?_
    refine w_s3fI X dX4_step_210 k4_115 (c4_joined G hG _ _ _ _ _) (Nat.le_of_ble_eq_true rfl) ?_
    refine w_v1fV X dX4_step_213 k4_102 rfl s_247 (c4_push G hG _ _ (h - 1 - 1) (pp_8 (pp_8 hh)) (by omega) _) (Nat.le_of_ble_eq_true rfl) ?_
    refine w_iload_n X dX4_step_216 rfl rfl ?_
    refine w_iconst (v := 1) X dX4_step_217 (by decide) ?_
    refine w_iadd X dX4_step_218 ?_
    exact w_irR X dX4_step_219 ⟨fun _ => by unfold sfX_; rw [if_neg h18_0, if_neg h18_1, if_neg h18_2, if_neg h18_3, if_neg h18_4, if_neg (fun z => z.elim h18_5 h18_6), if_neg (fun z => h178 z.1)], fun z => absurd z h18_7⟩
  · refine w_iload X dX4_step_181 rfl ?_
    refine w_bipush (v := 47) X dX4_step_183 (by decide) ?_
    refine w_icmp_eq (tgt := 195) X dX4_step_185 (by decide) (fun h185 => ?_) (fun h185 => ?_)
    · refine w_aload_n X dX4_step_195 rfl rfl ?_
      refine w_iconst (v := -1) X dX4_step_196 (by decide) ?_
      refine w_v1fV X dX4_step_197 k4_108 rfl s_247 (c4_fail G hG _ _ _) (Nat.le_of_ble_eq_true rfl) ?_
      refine w_goto (tgt := 216) X dX4_step_200 (by decide) ?_
      refine w_iload_n X dX4_step_216 rfl rfl ?_
      refine w_iconst (v := 1) X dX4_step_217 (by decide) ?_
      refine w_iadd X dX4_step_218 ?_
      exact w_irR X dX4_step_219 ⟨fun _ => by unfold sfX_; rw [if_neg h18_0, if_neg h18_1, if_neg h18_2, if_neg h18_3, if_neg h18_4, if_neg (fun z => z.elim h18_5 h18_6), if_pos ⟨h178, Or.inl h185⟩], fun z => absurd z h18_7⟩
    · refine w_iload X dX4_step_188 rfl ?_
      refine w_bipush (v := 37) X dX4_step_190 (by decide) ?_
      refine w_icmp_ne (tgt := 203) X dX4_step_192 (by decide) (fun h192 => ?_) (fun h192 => ?_)
      · refine w_aload_n X dX4_step_203 rfl rfl ?_
        refine w_iload X dX4_step_204 rfl ?_
        refine w_iload X dX4_step_206 rfl ?_
        refine w_iload X dX4_step_208 rfl ?_
        refine w_s3fI X dX4_step_210 k4_115 (c4_joined G hG _ _ _ _ _) (Nat.le_of_ble_eq_true rfl) ?_
        refine w_v1fV X dX4_step_213 k4_102 rfl s_247 (c4_push G hG _ _ (h - 1 - 1) (pp_8 (pp_8 hh)) (by omega) _) (Nat.le_of_ble_eq_true rfl) ?_
        refine w_iload_n X dX4_step_216 rfl rfl ?_
        refine w_iconst (v := 1) X dX4_step_217 (by decide) ?_
        refine w_iadd X dX4_step_218 ?_
        exact w_irR X dX4_step_219 ⟨fun _ => by unfold sfX_; rw [if_neg h18_0, if_neg h18_1, if_neg h18_2, if_neg h18_3, if_neg h18_4, if_neg (fun z => z.elim h18_5 h18_6), if_neg (fun z => z.2.elim h185 h192)], fun z => absurd z h18_7⟩
      · refine w_aload_n X dX4_step_195 rfl rfl ?_
        refine w_iconst (v := -1) X dX4_step_196 (by decide) ?_
        refine w_v1fV X dX4_step_197 k4_108 rfl s_247 (c4_fail G hG _ _ _) (Nat.le_of_ble_eq_true rfl) ?_
        refine w_goto (tgt := 216) X dX4_step_200 (by decide) ?_
        refine w_iload_n X dX4_step_216 rfl rfl ?_
        refine w_iconst (v := 1) X dX4_step_217 (by decide) ?_
        refine w_iadd X dX4_step_218 ?_
        exact w_irR X dX4_step_219 ⟨fun _ => by unfold sfX_; rw [if_neg h18_0, if_neg h18_1, if_neg h18_2, if_neg h18_3, if_neg h18_4, if_neg (fun z => z.elim h18_5 h18_6), if_pos ⟨h178, Or.inr h192⟩], fun z => absurd z h18_7⟩
/-- behind the loop: what run answers -/
def FNX_ (b : Nat) (Q : Int32 → mm_ → Prop) (N : mm_) : Prop := ∃ h, h ≤ 220 ∧ N.1 247 8 = nI h ∧ (N.1 247 10 = 0 → Q (ppX_ N h).1 (sI_ (ppX_ N h).2 247 8 (nI b))) ∧ (¬ N.1 247 10 = 0 → Q (N.1 247 11) (sI_ N 247 8 (nI b)))
/-- behind a step from a -/
def CTX_ (W : Nat → mm_ → Prop) (k L b a : Nat) (x : Int32) (N : mm_) : Prop := (N.1 247 10 = 0 → ∃ t, t ≤ L ∧ x = nI t ∧ W t N) ∧ (¬ N.1 247 10 = 0 → N.1 k 4 = nI L ∧ W (nxX_ N k L a) (bhX_ N k L a (nI b)))
def WPX_ (G : gg_) (d k L r b : Nat) (Q : Int32 → mm_ → Prop) : Nat → Nat → mm_ → Prop
  | 0, _, N => FNX_ b Q N
  | u + 1, a, N => N.1 k 4 = nI L ∧ (L ≤ a → FNX_ b Q N) ∧ (a < L → N.1 (249 + r) 5 = nI r ∧ ∃ h, h ≤ 220 ∧ N.1 247 8 = nI h ∧
    (¬ N.1 (k + 1) a = 7 → CTX_ (WPX_ G d k L r b Q u) k L b a (sfX_ N a h r (N.1 (k + 1) a) (N.2.1 (k + 2) a)).1 (sfX_ N a h r (N.1 (k + 1) a) (N.2.1 (k + 2) a)).2) ∧
    (N.1 (k + 1) a = 7 → ∃ QN : mm_ → Prop, cm_ G yX4_invokeNamed cX4_invokeNamed 8 none (d + 1) [.ref (G.1 247), .long (N.2.1 (k + 2) a), .int (nI (r + 1))] N (rV_ QN) ∧ ∀ N2, QN N2 → CTX_ (WPX_ G d k L r b Q u) k L b a (nI a + 1) N2))
theorem stE_ {G : gg_} (hG : gd_ G) {d k L r b u a : Nat} {Q : Int32 → mm_ → Prop} {N : mm_} (hk : cdX_ k) (hr : r ≤ 10) (hL : L ≤ 26) (ha : a < L) (h : WPX_ G d k L r b Q (u + 1) a N) : cm_ G yX4_step cX4_step 9 (some .int) (d + 2) [.ref (G.1 247), .ref (G.1 k), .int (nI a), .ref (G.1 (249 + r))] N (rI_ (fun x N2 => CTX_ (WPX_ G d k L r b Q u) k L b a x N2)) := by
  obtain ⟨-, -, h⟩ := h
  obtain ⟨h5, g, g1, g2, g3, g4⟩ := h ha
  by_cases h7 : N.1 (k + 1) a = 7
  · obtain ⟨QN, c1, c2⟩ := g4 h7
    refine cm_post (c4_stepE G hG d r hr N k hk a (by omega) _ rfl _ rfl g g2 g1 h5 QN (fun _ => c1)) (fun v N2 z => ?_)
    obtain ⟨x, z1, z2, z3⟩ := z
    obtain ⟨z4, z5⟩ := z3 h7
    exact ⟨x, z1, by rw [z4]; exact c2 N2 z5⟩
  · refine cm_post (c4_stepE G hG d r hr N k hk a (by omega) _ rfl _ rfl g g2 g1 h5 (fun _ => True) (fun z => absurd z h7)) (fun v N2 z => ?_)
    obtain ⟨x, z1, z2, z3⟩ := z
    have e := z2 h7
    have q := g3 h7
    rw [← e] at q
    exact ⟨x, z1, q⟩
set_option maxRecDepth 100000 in
set_option maxHeartbeats 600000 in
theorem c4_runE (G : gg_) (hG : gd_ G) (d r : Nat) (hr : r ≤ 10) (M : mm_) (k : Nat) (hk : cdX_ k) (L : Nat) (hLL : L ≤ 26) (b : Nat) (hh : M.1 247 8 = nI b) (Q : Int32 → mm_ → Prop) (hW : WPX_ G d k L r b Q 26 0 (sI_ M 247 10 0)) : cm_ G yX4_run cX4_run 7 (some .int) (d + 3) [.ref (G.1 247), .ref (G.1 k), .ref (G.1 (249 + r))] M (rI_ Q) := by
  refine cm_of hG (by decide) (Nat.le_of_ble_eq_true rfl) (fun C X => ?_)
  have t70 : ∀ (a4 a5 a6 : Option Value) (N : mm_), FNX_ b Q N → wq_ C G (qe_ C G (rI_ Q)) 70 [some (.ref (G.1 247)), some (.ref (G.1 k)), some (.ref (G.1 (249 + r))), some (.int (nI b)), a4, a5, a6] [] N := by
    intro a4 a5 a6 N hF
    obtain ⟨h, hh3, hh4, hF1, hF2⟩ := hF
    refine w_aload_n X dX4_run_70 rfl rfl ?_
    refine g4_58 X dX4_run_71 s_247 rfl ?_
    refine w_if_eq (tgt := 84) X dX4_run_74 (by decide) (fun h74 => ?_) (fun h74 => ?_)
    · refine w_aload_n X dX4_run_84 rfl rfl ?_
      refine w_v0fI X dX4_run_85 k4_91 rfl s_247 (c4_pop G hG _ _ h hh4 hh3) (Nat.le_of_ble_eq_true rfl) ?_
      refine w_istore X dX4_run_88 (by decide) ?_
      refine w_aload_n X dX4_run_90 rfl rfl ?_
      refine w_iload_n X dX4_run_91 rfl rfl ?_
      refine p4_48 X dX4_run_92 s_247 rfl ?_
      refine w_iload X dX4_run_95 rfl ?_
      exact w_irR X dX4_run_97 (hF1 h74)
    · refine w_aload_n X dX4_run_77 rfl rfl ?_
      refine g4_88 X dX4_run_78 s_247 rfl ?_
      refine w_goto (tgt := 88) X dX4_run_81 (by decide) ?_
      refine w_istore X dX4_run_88 (by decide) ?_
      refine w_aload_n X dX4_run_90 rfl rfl ?_
      refine w_iload_n X dX4_run_91 rfl rfl ?_
      refine p4_48 X dX4_run_92 s_247 rfl ?_
      refine w_iload X dX4_run_95 rfl ?_
      exact w_irR X dX4_run_97 (hF2 h74)
  have lp : ∀ (u i a : Nat) (N : mm_) (x : Option Value), i + u = 26 → a ≤ L → WPX_ G d k L r b Q u a N → wq_ C G (qe_ C G (rI_ Q)) 16 [some (.ref (G.1 247)), some (.ref (G.1 k)), some (.ref (G.1 (249 + r))), some (.int (nI b)), some (.int (nI a)), some (.int (nI i)), x] [] N := by
    intro u
    induction u with
    | zero =>
      intro i a N x hi ha2 hL
      refine w_iload X dX4_run_16 rfl ?_
      refine w_bipush (v := 26) X dX4_run_18 (by decide) ?_
      refine w_icmp_ge (tgt := 70) X dX4_run_20 (by decide) (fun h20 => ?_) (fun h20 => absurd (nI_le (a := 26) (b := i) (by omega) (by omega)) h20)
      exact t70 _ _ _ N hL
    | succ u ih =>
      intro i a N x hi ha2 hL
      refine w_iload X dX4_run_16 rfl ?_
      refine w_bipush (v := 26) X dX4_run_18 (by decide) ?_
      refine w_icmp_ge (tgt := 70) X dX4_run_20 (by decide) (fun h20 => absurd h20 (nI_ge (a := i) (b := 26) (by omega) (by decide))) (fun h20 => ?_)
      refine w_iload X dX4_run_23 rfl ?_
      refine w_aload_n X dX4_run_25 rfl rfl ?_
      refine g4_77 X dX4_run_26 hk.1 rfl ?_
      rw [hL.1]
      refine w_icmp_ge (tgt := 70) X dX4_run_29 (by decide) (fun h29 => ?_) (fun h29 => ?_)
      · exact t70 _ _ _ N (hL.2.1 (Nat.le_of_not_lt (fun z => absurd h29 (nI_ge (a := a) (b := L) z (by omega)))))
      · have ha : a < L := Nat.lt_of_not_le (fun z => h29 (nI_le (a := L) (b := a) z (by omega)))
        refine w_aload_n X dX4_run_32 rfl rfl ?_
        refine w_aload_n X dX4_run_33 rfl rfl ?_
        refine w_iload X dX4_run_34 rfl ?_
        refine w_aload_n X dX4_run_36 rfl rfl ?_
        refine w_v3rI X dX4_run_37 k4_80 rfl s_247 (stE_ hG hk hr hLL ha hL) (Nat.le_of_ble_eq_true rfl) (fun r37 N37 h37 => ?_)
        refine w_istore X dX4_run_40 (by decide) ?_
        refine w_aload_n X dX4_run_42 rfl rfl ?_
        refine g4_58 X dX4_run_43 s_247 rfl ?_
        refine w_if_eq (tgt := 60) X dX4_run_46 (by decide) (fun h46 => ?_) (fun h46 => ?_)
        · refine w_iload X dX4_run_60 rfl ?_
          refine w_istore X dX4_run_62 (by decide) ?_
          refine w_iinc (v := 1) X dX4_run_64 rfl (by decide) (by decide) ?_
          refine w_goto (tgt := 16) X dX4_run_67 (by decide) ?_
          obtain ⟨t, ht1, ht2, ht3⟩ := h37.1 h46
          rw [nI_1, ht2]
          exact ih (i + 1) t _ _ (by omega) ht1 ht3
        · refine w_aload_n X dX4_run_49 rfl rfl ?_
          refine w_aload_n X dX4_run_50 rfl rfl ?_
          refine w_iload X dX4_run_51 rfl ?_
          refine w_iload_n X dX4_run_53 rfl rfl ?_
          refine w_v3fI X dX4_run_54 k4_84 rfl s_247 (c4_behindThrow G hG _ _ k hk L (h37.2 h46).1 hLL a ha _) (Nat.le_of_ble_eq_true rfl) ?_
          refine w_goto (tgt := 62) X dX4_run_57 (by decide) ?_
          refine w_istore X dX4_run_62 (by decide) ?_
          refine w_iinc (v := 1) X dX4_run_64 rfl (by decide) (by decide) ?_
          refine w_goto (tgt := 16) X dX4_run_67 (by decide) ?_
          rw [nI_1]
          exact ih (i + 1) _ _ _ (by omega) (nxX_le ha).2 (h37.2 h46).2
  refine w_aload_n X dX4_run_0 rfl rfl ?_
  refine g4_48 X dX4_run_1 s_247 rfl ?_
  rw [hh]
  refine w_istore_n X dX4_run_4 rfl (by decide) ?_
  refine w_iconst (v := 0) X dX4_run_5 (by decide) ?_
  refine w_istore X dX4_run_6 (by decide) ?_
  refine w_aload_n X dX4_run_8 rfl rfl ?_
  refine w_iconst (v := 0) X dX4_run_9 (by decide) ?_
  refine p4_58 X dX4_run_10 s_247 rfl (by first | exact Or.inl rfl | exact Or.inr rfl | assumption) ?_
  refine w_iconst (v := 0) X dX4_run_13 (by decide) ?_
  refine w_istore X dX4_run_14 (by decide) ?_
  exact lp 26 0 0 _ _ (by omega) (by omega) hW

end
section
/-! Machine: invokeNamed, exactly -/
theorem pp_pos {M : mm_} {h : Nat} (hp : 0 < h) : ppX_ M h = (M.1 261 (h - 1), sI_ M 247 8 (nI (h - 1))) := by unfold ppX_; rw [if_neg (by omega)]
theorem c4_popE (G : gg_) (hG : gd_ G) (d : Nat) (M : mm_) (h : Nat) (hh : M.1 247 8 = nI h) (h2 : h ≤ 220) (h1 : 1 ≤ h) : cm_ G yX4_pop cX4_pop 1 (some .int) d [.ref (G.1 247)] M (rI_ (fun v N => v = M.1 261 (h - 1) ∧ N = sI_ M 247 8 (nI (h - 1)))) := by
  refine cm_post (c4_pop G hG d M h hh h2) (fun v N z => ?_)
  rw [pp_pos (by omega)] at z
  exact ⟨_, z.1, rfl, z.2⟩
/-- of the j arguments g are taken into the row R, whose places from q on are set -/
def IS_ (M : mm_) (h j R g q : Nat) (N : mm_) : Prop := N.2 = M.2 ∧ N.1 247 8 = nI (h - g) ∧ (∀ a i, ¬ (a = 247 ∧ i = 8) → ¬ (a = R ∧ i < 3) → N.1 a i = M.1 a i) ∧ ∀ i, q ≤ i → i < 3 → N.1 R i = if i < j then M.1 261 (h - j + i) else 0
theorem IS_rf {M : mm_} {h j R : Nat} (hh : M.1 247 8 = nI h) : IS_ M h j R 0 3 M := ⟨rfl, hh, fun _ _ _ _ => rfl, fun i h1 h2 => by omega⟩
theorem IS_z {M N : mm_} {h j R g q : Nat} (hR : 249 ≤ R ∧ R ≤ 260) (hq : q < 3) (hj : j ≤ q) (a : IS_ M h j R g (q + 1) N) : IS_ M h j R g q (sI_ N R q 0) := by
  obtain ⟨a1, a2, a3, a4⟩ := a
  refine ⟨a1, by rw [gI_sI, if_neg (by omega)]; exact a2, fun b i z1 z2 => by rw [gI_sI, if_neg (by omega)]; exact a3 b i z1 z2, fun i h1 h2 => ?_⟩
  by_cases e : i = q
  · rw [gI_sI, if_pos ⟨rfl, e⟩, if_neg (by omega)]
  · rw [gI_sI, if_neg (fun z => e z.2)]; exact a4 i (by omega) h2
theorem IS_p {M N N2 : mm_} {h j R g q : Nat} {v : Int32} (hR : 249 ≤ R ∧ R ≤ 260) (hq : q < 3) (hj : q + 1 + g = j) (hh : j ≤ h) (a : IS_ M h j R g (q + 1) N) (z : v = N.1 261 (h - g - 1) ∧ N2 = sI_ N 247 8 (nI (h - g - 1))) : IS_ M h j R (g + 1) q (sI_ N2 R q v) := by
  obtain ⟨a1, a2, a3, a4⟩ := a
  obtain ⟨e1, rfl⟩ := z
  refine ⟨a1, by rw [gI_sI, if_neg (by omega), gI_sI, if_pos ⟨rfl, rfl⟩]; congr 1, fun b i z1 z2 => by rw [gI_sI, if_neg (by omega), gI_sI, if_neg (by omega)]; exact a3 b i z1 z2, fun i h1 h2 => ?_⟩
  by_cases e : i = q
  · rw [gI_sI, if_pos ⟨rfl, e⟩, if_pos (by omega), e1, a3 _ _ (by omega) (by omega), show h - g - 1 = h - j + i by omega]
  · rw [gI_sI, if_neg (fun z => e z.2), gI_sI, if_neg (by omega)]; exact a4 i (by omega) h2
def IA_ (M : mm_) (h j r : Nat) (N : mm_) : Prop := IS_ M h j (249 + (r + 1)) j 0 N
set_option maxRecDepth 100000 in
set_option maxHeartbeats 800000 in
theorem c4_invokeNamedE (G : gg_) (hG : gd_ G) (d c r : Nat) (hr : r ≤ 10) (M : mm_) (hc : mt_ M c) (hV : vq_ M) (key : Int64) (j : Nat) (hj : poX_ key = nI j) (hj3 : j ≤ 3) (h : Nat) (hh : M.1 247 8 = nI h) (hjh : j ≤ h) (hh2 : h ≤ 220) (QN : mm_ → Prop) (h1 : ∀ N, IA_ M h j r N → fd1_ N c key c 0 = -1 → QN (flX_ N (-4))) (h2 : ∀ N m, IA_ M h j r N → m < c → fd1_ N c key c 0 = nI m → ∃ QI : Int32 → mm_ → Prop, cm_ G yX4_invoke cX4_invoke 6 (some .int) d [.ref (G.1 247), .int (nI m), .int (nI (r + 1))] N (rI_ QI) ∧ ∀ v N1, QI v N1 → (∃ g, g ≤ 220 ∧ N1.1 247 8 = nI g ∧ (N1.1 247 10 = 0 → QN (puX_ N1 g v))) ∧ (¬ N1.1 247 10 = 0 → QN (sI_ N1 247 11 v))) : cm_ G yX4_invokeNamed cX4_invokeNamed 8 none (d + 1) [.ref (G.1 247), .long key, .int (nI (r + 1))] M (rV_ QN) := by
  refine cm_of hG (by decide) (Nat.le_of_ble_eq_true rfl) (fun C X => ?_)
  have t53 : ∀ (a0 a1 a2 a3 a4 : Option Value) (N : mm_), IA_ M h j r N → wq_ C G (qe_ C G (rV_ QN)) 53 [some (.ref (G.1 247)), some (.long key), a0, some (.int (nI (r + 1))), a1, a2, a3, a4] [] N := by
    intro a0 a1 a2 a3 a4 N hP
    have hcN : mt_ N c := ⟨hc.1, by rw [hP.2.2.1 45 2 (by omega) (by omega)]; exact hc.2⟩
    refine w_aload_n X dX4_invokeNamed_53 rfl rfl ?_
    refine g4_9 X dX4_invokeNamed_54 s_247 rfl ?_
    refine w_lload_n X dX4_invokeNamed_57 rfl rfl ?_
    refine w_v1fI X dX4_invokeNamed_58 k4_136 rfl s_45 (c5_find G hG _ _ c hcN _) (Nat.le_of_ble_eq_true rfl) ?_
    refine w_istore X dX4_invokeNamed_61 (by decide) ?_
    rcases fd1_in (M := N) (c := c) (y := key) c 0 with hf | ⟨m, hm, hf⟩
    · refine w_iload X dX4_invokeNamed_63 rfl ?_
      refine w_iconst (v := -1) X dX4_invokeNamed_65 (by decide) ?_
      rw [hf]
      refine w_icmp_ne (tgt := 76) X dX4_invokeNamed_66 (by decide) (fun h66 => absurd rfl h66) (fun h66 => ?_)
      refine w_aload_n X dX4_invokeNamed_69 rfl rfl ?_
      refine w_bipush (v := -4) X dX4_invokeNamed_70 (by decide) ?_
      refine w_v1fV X dX4_invokeNamed_72 k4_108 rfl s_247 (c4_fail G hG _ _ _) (Nat.le_of_ble_eq_true rfl) ?_
      exact w_vrR X dX4_invokeNamed_75 (h1 N hP hf)
    · refine w_iload X dX4_invokeNamed_63 rfl ?_
      refine w_iconst (v := -1) X dX4_invokeNamed_65 (by decide) ?_
      rw [hf]
      refine w_icmp_ne (tgt := 76) X dX4_invokeNamed_66 (by decide) (fun h66 => ?_) (fun h66 => absurd h66 (nI_ne1 m (by have := hc.1; omega)))
      obtain ⟨QI, hI1, hI2⟩ := h2 N m hP (by omega) hf
      refine w_aload_n X dX4_invokeNamed_76 rfl rfl ?_
      refine w_iload X dX4_invokeNamed_77 rfl ?_
      refine w_iload_n X dX4_invokeNamed_79 rfl rfl ?_
      refine w_v2rI X dX4_invokeNamed_80 k4_51 rfl s_247 (hI1) (Nat.le_of_ble_eq_true rfl) (fun r80 N80 h80 => ?_)
      refine w_istore X dX4_invokeNamed_83 (by decide) ?_
      refine w_aload_n X dX4_invokeNamed_85 rfl rfl ?_
      refine g4_58 X dX4_invokeNamed_86 s_247 rfl ?_
      refine w_if_eq (tgt := 101) X dX4_invokeNamed_89 (by decide) (fun h89 => ?_) (fun h89 => ?_)
      · obtain ⟨⟨g, hg1, hg2, hg3⟩, -⟩ := hI2 _ _ h80
        refine w_aload_n X dX4_invokeNamed_101 rfl rfl ?_
        refine w_iload X dX4_invokeNamed_102 rfl ?_
        refine w_v1fV X dX4_invokeNamed_104 k4_102 rfl s_247 (c4_push G hG _ _ g hg2 hg1 _) (Nat.le_of_ble_eq_true rfl) ?_
        exact w_vrR X dX4_invokeNamed_107 (hg3 h89)
      · refine w_aload_n X dX4_invokeNamed_92 rfl rfl ?_
        refine w_iload X dX4_invokeNamed_93 rfl ?_
        refine p4_88 X dX4_invokeNamed_95 s_247 rfl ?_
        refine w_goto (tgt := 107) X dX4_invokeNamed_98 (by decide) ?_
        exact w_vrR X dX4_invokeNamed_107 ((hI2 _ _ h80).2 h89)
  have hmin : (if (11 : Int32) < nI (r + 1) then 11 else nI (r + 1)) = nI (r + 1) := if_neg (fun z => absurd z (Int32.not_lt.mpr (nI_le (a := r + 1) (b := 11) (by omega) (by decide))))
  refine w_aload_n X dX4_invokeNamed_0 rfl rfl ?_
  refine g4_28 X dX4_invokeNamed_1 s_247 rfl ?_
  refine w_iload_n X dX4_invokeNamed_4 rfl rfl ?_
  refine w_bipush (v := 11) X dX4_invokeNamed_5 (by decide) ?_
  refine w_minI X dX4_invokeNamed_7 mw4_125 (Nat.le_of_ble_eq_true rfl) ?_
  rw [hmin]
  refine w_aaload X dX4_invokeNamed_10 s_248 rfl rfl (⟨by omega, by decide⟩) (hV (r + 1) (by omega)) ?_
  refine w_astore X dX4_invokeNamed_11 (by decide) ?_
  refine w_lload_n X dX4_invokeNamed_13 rfl rfl ?_
  refine w_s1fI X dX4_invokeNamed_14 k4_130 (c6_parametersOf G hG _ _ _) (Nat.le_of_ble_eq_true rfl) ?_
  rw [hj]
  refine w_istore X dX4_invokeNamed_17 (by decide) ?_
  obtain rfl | rfl | rfl | rfl : j = 0 ∨ j = 1 ∨ j = 2 ∨ j = 3 := by omega
  · refine w_iconst (v := 2) X dX4_invokeNamed_19 (by decide) ?_
    refine w_istore X dX4_invokeNamed_20 (by decide) ?_
    refine w_iload X dX4_invokeNamed_22 rfl ?_
    refine w_if_lt (tgt := 53) X dX4_invokeNamed_24 (by decide) (fun h24 => absurd h24 (by decide)) (fun h24 => ?_)
    refine w_aload X dX4_invokeNamed_27 rfl ?_
    refine w_iload X dX4_invokeNamed_29 rfl ?_
    refine w_iload X dX4_invokeNamed_31 rfl ?_
    refine w_iload X dX4_invokeNamed_33 rfl ?_
    refine w_icmp_ge (tgt := 45) X dX4_invokeNamed_35 (by decide) (fun h35 => ?_) (fun h35 => absurd (by decide) h35)
    refine w_iconst (v := 0) X dX4_invokeNamed_45 (by decide) ?_
    refine w_iastoreN X dX4_invokeNamed_46 (vr_row _ (by omega)) rfl (⟨by decide, by decide⟩) ?_
    refine w_iinc (v := -1) X dX4_invokeNamed_47 rfl (by decide) (by decide) ?_
    refine w_goto (tgt := 22) X dX4_invokeNamed_50 (by decide) ?_
    refine w_iload X dX4_invokeNamed_22 rfl ?_
    refine w_if_lt (tgt := 53) X dX4_invokeNamed_24 (by decide) (fun h24 => absurd h24 (by decide)) (fun h24 => ?_)
    refine w_aload X dX4_invokeNamed_27 rfl ?_
    refine w_iload X dX4_invokeNamed_29 rfl ?_
    refine w_iload X dX4_invokeNamed_31 rfl ?_
    refine w_iload X dX4_invokeNamed_33 rfl ?_
    refine w_icmp_ge (tgt := 45) X dX4_invokeNamed_35 (by decide) (fun h35 => ?_) (fun h35 => absurd (by decide) h35)
    refine w_iconst (v := 0) X dX4_invokeNamed_45 (by decide) ?_
    rw [show (2 : Int32) + -1 = nI 1 from rfl]
    refine w_iastoreN X dX4_invokeNamed_46 (vr_row _ (by omega)) rfl (⟨by decide, by decide⟩) ?_
    refine w_iinc (v := -1) X dX4_invokeNamed_47 rfl (by decide) (by decide) ?_
    refine w_goto (tgt := 22) X dX4_invokeNamed_50 (by decide) ?_
    refine w_iload X dX4_invokeNamed_22 rfl ?_
    refine w_if_lt (tgt := 53) X dX4_invokeNamed_24 (by decide) (fun h24 => absurd h24 (by decide)) (fun h24 => ?_)
    refine w_aload X dX4_invokeNamed_27 rfl ?_
    refine w_iload X dX4_invokeNamed_29 rfl ?_
    refine w_iload X dX4_invokeNamed_31 rfl ?_
    refine w_iload X dX4_invokeNamed_33 rfl ?_
    refine w_icmp_ge (tgt := 45) X dX4_invokeNamed_35 (by decide) (fun h35 => ?_) (fun h35 => absurd (by decide) h35)
    refine w_iconst (v := 0) X dX4_invokeNamed_45 (by decide) ?_
    rw [show nI 1 + -1 = nI 0 from rfl]
    refine w_iastoreN X dX4_invokeNamed_46 (vr_row _ (by omega)) rfl (⟨by decide, by decide⟩) ?_
    refine w_iinc (v := -1) X dX4_invokeNamed_47 rfl (by decide) (by decide) ?_
    refine w_goto (tgt := 22) X dX4_invokeNamed_50 (by decide) ?_
    refine w_iload X dX4_invokeNamed_22 rfl ?_
    refine w_if_lt (tgt := 53) X dX4_invokeNamed_24 (by decide) (fun h24 => ?_) (fun h24 => absurd (by decide) h24)
    exact t53 _ _ _ _ _ _ (IS_z (q := 0) (by omega) (by omega) (by omega) (IS_z (q := 1) (by omega) (by omega) (by omega) (IS_z (q := 2) (by omega) (by omega) (by omega) (IS_rf (j := 0) (R := 249 + (r + 1)) hh))))
  · refine w_iconst (v := 2) X dX4_invokeNamed_19 (by decide) ?_
    refine w_istore X dX4_invokeNamed_20 (by decide) ?_
    refine w_iload X dX4_invokeNamed_22 rfl ?_
    refine w_if_lt (tgt := 53) X dX4_invokeNamed_24 (by decide) (fun h24 => absurd h24 (by decide)) (fun h24 => ?_)
    refine w_aload X dX4_invokeNamed_27 rfl ?_
    refine w_iload X dX4_invokeNamed_29 rfl ?_
    refine w_iload X dX4_invokeNamed_31 rfl ?_
    refine w_iload X dX4_invokeNamed_33 rfl ?_
    refine w_icmp_ge (tgt := 45) X dX4_invokeNamed_35 (by decide) (fun h35 => ?_) (fun h35 => absurd (by decide) h35)
    refine w_iconst (v := 0) X dX4_invokeNamed_45 (by decide) ?_
    refine w_iastoreN X dX4_invokeNamed_46 (vr_row _ (by omega)) rfl (⟨by decide, by decide⟩) ?_
    refine w_iinc (v := -1) X dX4_invokeNamed_47 rfl (by decide) (by decide) ?_
    refine w_goto (tgt := 22) X dX4_invokeNamed_50 (by decide) ?_
    refine w_iload X dX4_invokeNamed_22 rfl ?_
    refine w_if_lt (tgt := 53) X dX4_invokeNamed_24 (by decide) (fun h24 => absurd h24 (by decide)) (fun h24 => ?_)
    refine w_aload X dX4_invokeNamed_27 rfl ?_
    refine w_iload X dX4_invokeNamed_29 rfl ?_
    refine w_iload X dX4_invokeNamed_31 rfl ?_
    refine w_iload X dX4_invokeNamed_33 rfl ?_
    refine w_icmp_ge (tgt := 45) X dX4_invokeNamed_35 (by decide) (fun h35 => ?_) (fun h35 => absurd (by decide) h35)
    refine w_iconst (v := 0) X dX4_invokeNamed_45 (by decide) ?_
    rw [show (2 : Int32) + -1 = nI 1 from rfl]
    refine w_iastoreN X dX4_invokeNamed_46 (vr_row _ (by omega)) rfl (⟨by decide, by decide⟩) ?_
    refine w_iinc (v := -1) X dX4_invokeNamed_47 rfl (by decide) (by decide) ?_
    refine w_goto (tgt := 22) X dX4_invokeNamed_50 (by decide) ?_
    refine w_iload X dX4_invokeNamed_22 rfl ?_
    refine w_if_lt (tgt := 53) X dX4_invokeNamed_24 (by decide) (fun h24 => absurd h24 (by decide)) (fun h24 => ?_)
    refine w_aload X dX4_invokeNamed_27 rfl ?_
    refine w_iload X dX4_invokeNamed_29 rfl ?_
    refine w_iload X dX4_invokeNamed_31 rfl ?_
    refine w_iload X dX4_invokeNamed_33 rfl ?_
    refine w_icmp_ge (tgt := 45) X dX4_invokeNamed_35 (by decide) (fun h35 => absurd h35 (by decide)) (fun h35 => ?_)
    refine w_aload_n X dX4_invokeNamed_38 rfl rfl ?_
    have q0 := (IS_z (q := 1) (by omega) (by omega) (by omega) (IS_z (q := 2) (by omega) (by omega) (by omega) (IS_rf (j := 1) (R := 249 + (r + 1)) hh)))
    refine w_v0rI X dX4_invokeNamed_39 k4_91 rfl s_247 (c4_popE G hG _ _ (h - 0) q0.2.1 (by omega) (by omega)) (Nat.le_of_ble_eq_true rfl) (fun v0 N0 z0 => ?_)
    refine w_goto (tgt := 46) X dX4_invokeNamed_42 (by decide) ?_
    rw [show nI 1 + -1 = nI 0 from rfl]
    refine w_iastoreN X dX4_invokeNamed_46 (vr_row _ (by omega)) rfl (⟨by decide, by decide⟩) ?_
    refine w_iinc (v := -1) X dX4_invokeNamed_47 rfl (by decide) (by decide) ?_
    refine w_goto (tgt := 22) X dX4_invokeNamed_50 (by decide) ?_
    refine w_iload X dX4_invokeNamed_22 rfl ?_
    refine w_if_lt (tgt := 53) X dX4_invokeNamed_24 (by decide) (fun h24 => ?_) (fun h24 => absurd (by decide) h24)
    exact t53 _ _ _ _ _ _ (IS_p (q := 0) (by omega) (by omega) (by omega) (by omega) q0 z0)
  · refine w_iconst (v := 2) X dX4_invokeNamed_19 (by decide) ?_
    refine w_istore X dX4_invokeNamed_20 (by decide) ?_
    refine w_iload X dX4_invokeNamed_22 rfl ?_
    refine w_if_lt (tgt := 53) X dX4_invokeNamed_24 (by decide) (fun h24 => absurd h24 (by decide)) (fun h24 => ?_)
    refine w_aload X dX4_invokeNamed_27 rfl ?_
    refine w_iload X dX4_invokeNamed_29 rfl ?_
    refine w_iload X dX4_invokeNamed_31 rfl ?_
    refine w_iload X dX4_invokeNamed_33 rfl ?_
    refine w_icmp_ge (tgt := 45) X dX4_invokeNamed_35 (by decide) (fun h35 => ?_) (fun h35 => absurd (by decide) h35)
    refine w_iconst (v := 0) X dX4_invokeNamed_45 (by decide) ?_
    refine w_iastoreN X dX4_invokeNamed_46 (vr_row _ (by omega)) rfl (⟨by decide, by decide⟩) ?_
    refine w_iinc (v := -1) X dX4_invokeNamed_47 rfl (by decide) (by decide) ?_
    refine w_goto (tgt := 22) X dX4_invokeNamed_50 (by decide) ?_
    refine w_iload X dX4_invokeNamed_22 rfl ?_
    refine w_if_lt (tgt := 53) X dX4_invokeNamed_24 (by decide) (fun h24 => absurd h24 (by decide)) (fun h24 => ?_)
    refine w_aload X dX4_invokeNamed_27 rfl ?_
    refine w_iload X dX4_invokeNamed_29 rfl ?_
    refine w_iload X dX4_invokeNamed_31 rfl ?_
    refine w_iload X dX4_invokeNamed_33 rfl ?_
    refine w_icmp_ge (tgt := 45) X dX4_invokeNamed_35 (by decide) (fun h35 => absurd h35 (by decide)) (fun h35 => ?_)
    refine w_aload_n X dX4_invokeNamed_38 rfl rfl ?_
    have q1 := (IS_z (q := 2) (by omega) (by omega) (by omega) (IS_rf (j := 2) (R := 249 + (r + 1)) hh))
    refine w_v0rI X dX4_invokeNamed_39 k4_91 rfl s_247 (c4_popE G hG _ _ (h - 0) q1.2.1 (by omega) (by omega)) (Nat.le_of_ble_eq_true rfl) (fun v1 N1 z1 => ?_)
    refine w_goto (tgt := 46) X dX4_invokeNamed_42 (by decide) ?_
    rw [show (2 : Int32) + -1 = nI 1 from rfl]
    refine w_iastoreN X dX4_invokeNamed_46 (vr_row _ (by omega)) rfl (⟨by decide, by decide⟩) ?_
    refine w_iinc (v := -1) X dX4_invokeNamed_47 rfl (by decide) (by decide) ?_
    refine w_goto (tgt := 22) X dX4_invokeNamed_50 (by decide) ?_
    refine w_iload X dX4_invokeNamed_22 rfl ?_
    refine w_if_lt (tgt := 53) X dX4_invokeNamed_24 (by decide) (fun h24 => absurd h24 (by decide)) (fun h24 => ?_)
    refine w_aload X dX4_invokeNamed_27 rfl ?_
    refine w_iload X dX4_invokeNamed_29 rfl ?_
    refine w_iload X dX4_invokeNamed_31 rfl ?_
    refine w_iload X dX4_invokeNamed_33 rfl ?_
    refine w_icmp_ge (tgt := 45) X dX4_invokeNamed_35 (by decide) (fun h35 => absurd h35 (by decide)) (fun h35 => ?_)
    refine w_aload_n X dX4_invokeNamed_38 rfl rfl ?_
    have q0 := (IS_p (q := 1) (by omega) (by omega) (by omega) (by omega) q1 z1)
    refine w_v0rI X dX4_invokeNamed_39 k4_91 rfl s_247 (c4_popE G hG _ _ (h - 1) q0.2.1 (by omega) (by omega)) (Nat.le_of_ble_eq_true rfl) (fun v0 N0 z0 => ?_)
    refine w_goto (tgt := 46) X dX4_invokeNamed_42 (by decide) ?_
    rw [show nI 1 + -1 = nI 0 from rfl]
    refine w_iastoreN X dX4_invokeNamed_46 (vr_row _ (by omega)) rfl (⟨by decide, by decide⟩) ?_
    refine w_iinc (v := -1) X dX4_invokeNamed_47 rfl (by decide) (by decide) ?_
    refine w_goto (tgt := 22) X dX4_invokeNamed_50 (by decide) ?_
    refine w_iload X dX4_invokeNamed_22 rfl ?_
    refine w_if_lt (tgt := 53) X dX4_invokeNamed_24 (by decide) (fun h24 => ?_) (fun h24 => absurd (by decide) h24)
    exact t53 _ _ _ _ _ _ (IS_p (q := 0) (by omega) (by omega) (by omega) (by omega) q0 z0)
  · refine w_iconst (v := 2) X dX4_invokeNamed_19 (by decide) ?_
    refine w_istore X dX4_invokeNamed_20 (by decide) ?_
    refine w_iload X dX4_invokeNamed_22 rfl ?_
    refine w_if_lt (tgt := 53) X dX4_invokeNamed_24 (by decide) (fun h24 => absurd h24 (by decide)) (fun h24 => ?_)
    refine w_aload X dX4_invokeNamed_27 rfl ?_
    refine w_iload X dX4_invokeNamed_29 rfl ?_
    refine w_iload X dX4_invokeNamed_31 rfl ?_
    refine w_iload X dX4_invokeNamed_33 rfl ?_
    refine w_icmp_ge (tgt := 45) X dX4_invokeNamed_35 (by decide) (fun h35 => absurd h35 (by decide)) (fun h35 => ?_)
    refine w_aload_n X dX4_invokeNamed_38 rfl rfl ?_
    have q2 := (IS_rf (j := 3) (R := 249 + (r + 1)) hh)
    refine w_v0rI X dX4_invokeNamed_39 k4_91 rfl s_247 (c4_popE G hG _ _ (h - 0) q2.2.1 (by omega) (by omega)) (Nat.le_of_ble_eq_true rfl) (fun v2 N2 z2 => ?_)
    refine w_goto (tgt := 46) X dX4_invokeNamed_42 (by decide) ?_
    refine w_iastoreN X dX4_invokeNamed_46 (vr_row _ (by omega)) rfl (⟨by decide, by decide⟩) ?_
    refine w_iinc (v := -1) X dX4_invokeNamed_47 rfl (by decide) (by decide) ?_
    refine w_goto (tgt := 22) X dX4_invokeNamed_50 (by decide) ?_
    refine w_iload X dX4_invokeNamed_22 rfl ?_
    refine w_if_lt (tgt := 53) X dX4_invokeNamed_24 (by decide) (fun h24 => absurd h24 (by decide)) (fun h24 => ?_)
    refine w_aload X dX4_invokeNamed_27 rfl ?_
    refine w_iload X dX4_invokeNamed_29 rfl ?_
    refine w_iload X dX4_invokeNamed_31 rfl ?_
    refine w_iload X dX4_invokeNamed_33 rfl ?_
    refine w_icmp_ge (tgt := 45) X dX4_invokeNamed_35 (by decide) (fun h35 => absurd h35 (by decide)) (fun h35 => ?_)
    refine w_aload_n X dX4_invokeNamed_38 rfl rfl ?_
    have q1 := (IS_p (q := 2) (by omega) (by omega) (by omega) (by omega) q2 z2)
    refine w_v0rI X dX4_invokeNamed_39 k4_91 rfl s_247 (c4_popE G hG _ _ (h - 1) q1.2.1 (by omega) (by omega)) (Nat.le_of_ble_eq_true rfl) (fun v1 N1 z1 => ?_)
    refine w_goto (tgt := 46) X dX4_invokeNamed_42 (by decide) ?_
    rw [show (2 : Int32) + -1 = nI 1 from rfl]
    refine w_iastoreN X dX4_invokeNamed_46 (vr_row _ (by omega)) rfl (⟨by decide, by decide⟩) ?_
    refine w_iinc (v := -1) X dX4_invokeNamed_47 rfl (by decide) (by decide) ?_
    refine w_goto (tgt := 22) X dX4_invokeNamed_50 (by decide) ?_
    refine w_iload X dX4_invokeNamed_22 rfl ?_
    refine w_if_lt (tgt := 53) X dX4_invokeNamed_24 (by decide) (fun h24 => absurd h24 (by decide)) (fun h24 => ?_)
    refine w_aload X dX4_invokeNamed_27 rfl ?_
    refine w_iload X dX4_invokeNamed_29 rfl ?_
    refine w_iload X dX4_invokeNamed_31 rfl ?_
    refine w_iload X dX4_invokeNamed_33 rfl ?_
    refine w_icmp_ge (tgt := 45) X dX4_invokeNamed_35 (by decide) (fun h35 => absurd h35 (by decide)) (fun h35 => ?_)
    refine w_aload_n X dX4_invokeNamed_38 rfl rfl ?_
    have q0 := (IS_p (q := 1) (by omega) (by omega) (by omega) (by omega) q1 z1)
    refine w_v0rI X dX4_invokeNamed_39 k4_91 rfl s_247 (c4_popE G hG _ _ (h - 2) q0.2.1 (by omega) (by omega)) (Nat.le_of_ble_eq_true rfl) (fun v0 N0 z0 => ?_)
    refine w_goto (tgt := 46) X dX4_invokeNamed_42 (by decide) ?_
    rw [show nI 1 + -1 = nI 0 from rfl]
    refine w_iastoreN X dX4_invokeNamed_46 (vr_row _ (by omega)) rfl (⟨by decide, by decide⟩) ?_
    refine w_iinc (v := -1) X dX4_invokeNamed_47 rfl (by decide) (by decide) ?_
    refine w_goto (tgt := 22) X dX4_invokeNamed_50 (by decide) ?_
    refine w_iload X dX4_invokeNamed_22 rfl ?_
    refine w_if_lt (tgt := 53) X dX4_invokeNamed_24 (by decide) (fun h24 => ?_) (fun h24 => absurd (by decide) h24)
    exact t53 _ _ _ _ _ _ (IS_p (q := 0) (by omega) (by omega) (by omega) (by omega) q0 z0)

end
section
/-! Machine: watch and probe, exactly -/
/-- a record more: job K of number j, method m, value v -/
def reX_ (N : mm_) (K r : Nat) (j m v : Int32) : mm_ := if rF_ (cre_ N K) 243 = 0 then rE_ (rP_ (rP_ (rP_ (rP_ (rP_ (cre_ N K) 243 1500 0 j) 243 1500 1 m) 243 1500 2 v) 243 1500 3 (if N.1 247 10 = 0 then 0 else 1)) 243 1500 4 (N.1 (249 + r) 5)) 243 else cre_ N K
/-- behind the condition: the value v -/
def WGX_ (G : gg_) (d r K : Nat) (j m : Int32) (Q : mm_ → Prop) (v : Int32) (N : mm_) : Prop :=
  (v = 0 → N.1 247 10 = 0 → Q N) ∧ (¬ N.1 247 10 = 0 → Q (reX_ N K r j m v)) ∧
  (¬ v = 0 → N.1 247 10 = 0 → ∃ QE : Int32 → mm_ → Prop, cm_ G yX4_run cX4_run 7 (some .int) (d + 3) [.ref (G.1 247), .ref (G.1 (K + 1)), .ref (G.1 (249 + r))] N (rI_ QE) ∧ ∀ v2 N2, QE v2 N2 → Q (reX_ N2 K r j m v2))
set_option maxRecDepth 100000 in
set_option maxHeartbeats 600000 in
theorem c4_watchE (G : gg_) (hG : gd_ G) (d r : Nat) (hr : r ≤ 10) (M : mm_) (J : Nat → Nat) (S : Nat) (hq : jq_ M J S) (j : Nat) (hj : j < 8) (m : Int32) (Q : mm_ → Prop) (h1 : M.1 (135 + 12 * J j) 5 = 0 → WGX_ G d r (135 + 12 * J j) (nI j) m Q 1 (sI_ (sI_ M (249 + r) 6 (M.1 (135 + 12 * J j) 7)) 247 10 0)) (h2 : ¬ M.1 (135 + 12 * J j) 5 = 0 → ∃ QC : Int32 → mm_ → Prop, cm_ G yX4_run cX4_run 7 (some .int) (d + 3) [.ref (G.1 247), .ref (G.1 ((135 + 12 * J j) + 6)), .ref (G.1 (249 + r))] (sI_ (sI_ M (249 + r) 6 (M.1 (135 + 12 * J j) 7)) 247 10 0) (rI_ QC) ∧ ∀ v N, QC v N → WGX_ G d r (135 + 12 * J j) (nI j) m Q v N) : cm_ G yX4_watch cX4_watch 6 none (d + 4) [.ref (G.1 247), .int (nI j), .int m, .ref (G.1 (249 + r))] M (rV_ Q) := by
  refine cm_of hG (by decide) (Nat.le_of_ble_eq_true rfl) (fun C X => ?_)
  have hJ := (hq.1 j hj).1
  have t80 : ∀ (v : Int32) (N : mm_), Q (reX_ N (135 + 12 * J j) r (nI j) m v) → wq_ C G (qe_ C G (rV_ Q)) 80 [some (.ref (G.1 247)), some (.int (nI j)), some (.int m), some (.ref (G.1 (249 + r))), some (.ref (G.1 (135 + 12 * J j))), some (.int v)] [] N := by
    intro v N hQ
    refine w_aload X dX4_watch_80 rfl ?_
    refine w_v0fV X dX4_watch_82 k4_178 rfl (jd_all _ hJ).1 (c2_countRecord G hG _ _ _ (jd_all _ hJ)) (Nat.le_of_ble_eq_true rfl) ?_
    refine w_aload_n X dX4_watch_85 rfl rfl ?_
    refine g4_19 X dX4_watch_86 s_247 rfl ?_
    refine w_v0fI X dX4_watch_89 k4_181 rfl s_243 (c8_isFull G hG _ _ 243 1500 rw_rec) (Nat.le_of_ble_eq_true rfl) ?_
    refine w_if_eq (tgt := 96) X dX4_watch_92 (by decide) (fun h92 => ?_) (fun h92 => ?_)
    · refine w_aload_n X dX4_watch_96 rfl rfl ?_
      refine g4_19 X dX4_watch_97 s_247 rfl ?_
      refine w_iconst (v := 0) X dX4_watch_100 (by decide) ?_
      refine w_iload_n X dX4_watch_101 rfl rfl ?_
      refine w_v2fV X dX4_watch_102 k4_187 rfl s_243 (c8_put G hG _ _ 243 1500 rw_rec _ _) (Nat.le_of_ble_eq_true rfl) ?_
      refine w_aload_n X dX4_watch_105 rfl rfl ?_
      refine g4_19 X dX4_watch_106 s_247 rfl ?_
      refine w_iconst (v := 1) X dX4_watch_109 (by decide) ?_
      refine w_iload_n X dX4_watch_110 rfl rfl ?_
      refine w_v2fV X dX4_watch_111 k4_187 rfl s_243 (c8_put G hG _ _ 243 1500 rw_rec _ _) (Nat.le_of_ble_eq_true rfl) ?_
      refine w_aload_n X dX4_watch_114 rfl rfl ?_
      refine g4_19 X dX4_watch_115 s_247 rfl ?_
      refine w_iconst (v := 2) X dX4_watch_118 (by decide) ?_
      refine w_iload X dX4_watch_119 rfl ?_
      refine w_v2fV X dX4_watch_121 k4_187 rfl s_243 (c8_put G hG _ _ 243 1500 rw_rec _ _) (Nat.le_of_ble_eq_true rfl) ?_
      refine w_aload_n X dX4_watch_124 rfl rfl ?_
      refine g4_19 X dX4_watch_125 s_247 rfl ?_
      refine w_iconst (v := 3) X dX4_watch_128 (by decide) ?_
      refine w_aload_n X dX4_watch_129 rfl rfl ?_
      refine g4_58 X dX4_watch_130 s_247 rfl ?_
      rw [rP_o (by decide), rP_o (by decide), rP_o (by decide), cre_m hJ (by decide)]
      refine w_if_eq (tgt := 140) X dX4_watch_133 (by decide) (fun h133 => ?_) (fun h133 => ?_)
      · refine w_iconst (v := 0) X dX4_watch_140 (by decide) ?_
        refine w_v2fV X dX4_watch_141 k4_187 rfl s_243 (c8_put G hG _ _ 243 1500 rw_rec _ _) (Nat.le_of_ble_eq_true rfl) ?_
        refine w_aload_n X dX4_watch_144 rfl rfl ?_
        refine g4_19 X dX4_watch_145 s_247 rfl ?_
        refine w_iconst (v := 4) X dX4_watch_148 (by decide) ?_
        refine w_aload_n X dX4_watch_149 rfl rfl ?_
        refine w_iconst (v := 5) X dX4_watch_150 (by decide) ?_
        refine w_ialoadN X dX4_watch_151 (vr_row r (by omega)) rfl (⟨by decide, by decide⟩) ?_
        rw [rP_o (by omega), rP_o (by omega), rP_o (by omega), rP_o (by omega), cre_m hJ (by omega)]
        refine w_v2fV X dX4_watch_152 k4_187 rfl s_243 (c8_put G hG _ _ 243 1500 rw_rec _ _) (Nat.le_of_ble_eq_true rfl) ?_
        refine w_aload_n X dX4_watch_155 rfl rfl ?_
        refine g4_19 X dX4_watch_156 s_247 rfl ?_
        refine w_v0fV X dX4_watch_159 k4_191 rfl s_243 (c8_endRow G hG _ _ 243 1500 rw_rec) (Nat.le_of_ble_eq_true rfl) ?_
        refine w_vrR X dX4_watch_162 ?_
        unfold reX_ at hQ
        rw [if_pos h92, if_pos h133] at hQ
        exact hQ
      · refine w_iconst (v := 1) X dX4_watch_136 (by decide) ?_
        refine w_goto (tgt := 141) X dX4_watch_137 (by decide) ?_
        refine w_v2fV X dX4_watch_141 k4_187 rfl s_243 (c8_put G hG _ _ 243 1500 rw_rec _ _) (Nat.le_of_ble_eq_true rfl) ?_
        refine w_aload_n X dX4_watch_144 rfl rfl ?_
        refine g4_19 X dX4_watch_145 s_247 rfl ?_
        refine w_iconst (v := 4) X dX4_watch_148 (by decide) ?_
        refine w_aload_n X dX4_watch_149 rfl rfl ?_
        refine w_iconst (v := 5) X dX4_watch_150 (by decide) ?_
        refine w_ialoadN X dX4_watch_151 (vr_row r (by omega)) rfl (⟨by decide, by decide⟩) ?_
        rw [rP_o (by omega), rP_o (by omega), rP_o (by omega), rP_o (by omega), cre_m hJ (by omega)]
        refine w_v2fV X dX4_watch_152 k4_187 rfl s_243 (c8_put G hG _ _ 243 1500 rw_rec _ _) (Nat.le_of_ble_eq_true rfl) ?_
        refine w_aload_n X dX4_watch_155 rfl rfl ?_
        refine g4_19 X dX4_watch_156 s_247 rfl ?_
        refine w_v0fV X dX4_watch_159 k4_191 rfl s_243 (c8_endRow G hG _ _ 243 1500 rw_rec) (Nat.le_of_ble_eq_true rfl) ?_
        refine w_vrR X dX4_watch_162 ?_
        unfold reX_ at hQ
        rw [if_pos h92, if_neg h133] at hQ
        exact hQ
    · refine w_vrR X dX4_watch_95 ?_
      unfold reX_ at hQ
      rw [if_neg h92] at hQ
      exact hQ
  have t48 : ∀ (v : Int32) (N : mm_), WGX_ G d r (135 + 12 * J j) (nI j) m Q v N → wq_ C G (qe_ C G (rV_ Q)) 48 [some (.ref (G.1 247)), some (.int (nI j)), some (.int m), some (.ref (G.1 (249 + r))), some (.ref (G.1 (135 + 12 * J j))), some (.int v)] [] N := by
    intro v N hW
    refine w_iload X dX4_watch_48 rfl ?_
    refine w_if_ne (tgt := 61) X dX4_watch_50 (by decide) (fun h50 => ?_) (fun h50 => ?_)
    · refine w_aload_n X dX4_watch_61 rfl rfl ?_
      refine g4_58 X dX4_watch_62 s_247 rfl ?_
      refine w_if_ne (tgt := 80) X dX4_watch_65 (by decide) (fun h65 => ?_) (fun h65 => ?_)
      · exact t80 _ _ (hW.2.1 h65)
      · obtain ⟨QE, hE1, hE2⟩ := hW.2.2 h50 h65
        refine w_aload_n X dX4_watch_68 rfl rfl ?_
        refine w_aload X dX4_watch_69 rfl ?_
        refine g4_175 X dX4_watch_71 (jd_all _ hJ).1 rfl ?_
        refine w_aload_n X dX4_watch_74 rfl rfl ?_
        refine w_v2rI X dX4_watch_75 k4_73 rfl s_247 (hE1) (Nat.le_of_ble_eq_true rfl) (fun r75 N75 h75 => ?_)
        refine w_istore X dX4_watch_78 (by decide) ?_
        exact t80 _ _ (hE2 _ _ h75)
    · refine w_aload_n X dX4_watch_53 rfl rfl ?_
      refine g4_58 X dX4_watch_54 s_247 rfl ?_
      refine w_if_ne (tgt := 61) X dX4_watch_57 (by decide) (fun h57 => ?_) (fun h57 => ?_)
      · refine w_aload_n X dX4_watch_61 rfl rfl ?_
        refine g4_58 X dX4_watch_62 s_247 rfl ?_
        refine w_if_ne (tgt := 80) X dX4_watch_65 (by decide) (fun h65 => ?_) (fun h65 => absurd h65 h57)
        exact t80 _ _ (hW.2.1 h65)
      · exact w_vrR X dX4_watch_60 (hW.1 h50 h57)
  refine w_aload_n X dX4_watch_0 rfl rfl ?_
  refine g4_15 X dX4_watch_1 s_247 rfl ?_
  refine w_iload_n X dX4_watch_4 rfl rfl ?_
  refine w_v1fR X dX4_watch_5 k4_141 rfl s_133 (c3_at G hG _ _ J S hq j hj) (Nat.le_of_ble_eq_true rfl) ?_
  refine w_astore X dX4_watch_8 (by decide) ?_
  refine w_aload_n X dX4_watch_10 rfl rfl ?_
  refine w_bipush (v := 6) X dX4_watch_11 (by decide) ?_
  refine w_aload X dX4_watch_13 rfl ?_
  refine g4_165 X dX4_watch_15 (jd_all _ hJ).1 rfl ?_
  refine w_iastoreN X dX4_watch_18 (vr_row r (by omega)) rfl (⟨by decide, by decide⟩) ?_
  refine w_aload_n X dX4_watch_19 rfl rfl ?_
  refine w_iconst (v := 0) X dX4_watch_20 (by decide) ?_
  refine p4_58 X dX4_watch_21 s_247 rfl (by first | exact Or.inl rfl | exact Or.inr rfl | assumption) ?_
  refine w_aload X dX4_watch_24 rfl ?_
  refine g4_168 X dX4_watch_26 (jd_all _ hJ).1 rfl ?_
  rw [gI_sI, if_neg (by omega), gI_sI, if_neg (by omega)]
  refine w_if_eq (tgt := 45) X dX4_watch_29 (by decide) (fun h29 => ?_) (fun h29 => ?_)
  · refine w_iconst (v := 1) X dX4_watch_45 (by decide) ?_
    refine w_istore X dX4_watch_46 (by decide) ?_
    exact t48 _ _ (h1 h29)
  · obtain ⟨QC, hC1, hC2⟩ := h2 h29
    refine w_aload_n X dX4_watch_32 rfl rfl ?_
    refine w_aload X dX4_watch_33 rfl ?_
    refine g4_171 X dX4_watch_35 (jd_all _ hJ).1 rfl ?_
    refine w_aload_n X dX4_watch_38 rfl rfl ?_
    refine w_v2rI X dX4_watch_39 k4_73 rfl s_247 (hC1) (Nat.le_of_ble_eq_true rfl) (fun r39 N39 h39 => ?_)
    refine w_goto (tgt := 46) X dX4_watch_42 (by decide) ?_
    refine w_istore X dX4_watch_46 (by decide) ?_
    exact t48 _ _ (hC2 _ _ h39)
/-- probes from job i on -/
def PWX_ (G : gg_) (d : Nat) (J : Nat → Nat) (S r m p : Nat) (Q : mm_ → Prop) : Nat → Nat → mm_ → Prop
  | 0, _, N => Q N
  | u + 1, i, N => jq_ N J S ∧ (see_ N (135 + 12 * J i) (nI m) = 0 → PWX_ G d J S r m p Q u (i + 1) N) ∧ (¬ see_ N (135 + 12 * J i) (nI m) = 0 →
    (N.1 (135 + 12 * J i) 0 = 2 → PWX_ G d J S r m p Q u (i + 1) (sI_ N (135 + 12 * J i + 11) (m * 3 + p) (N.1 (135 + 12 * J i + 11) (m * 3 + p) + 1))) ∧
    (¬ N.1 (135 + 12 * J i) 0 = 2 → N.1 (135 + 12 * J i) 0 = 3 → PWX_ G d J S r m p Q u (i + 1) (keX_ N (249 + r) (nI i) (nI m) (nI p))) ∧
    (¬ N.1 (135 + 12 * J i) 0 = 2 → ¬ N.1 (135 + 12 * J i) 0 = 3 → (¬ N.1 (135 + 12 * J i) 1 = nI p → PWX_ G d J S r m p Q u (i + 1) N) ∧
      (N.1 (135 + 12 * J i) 1 = nI p → ∃ QW : mm_ → Prop, cm_ G yX4_watch cX4_watch 6 none (d + 4) [.ref (G.1 247), .int (nI i), .int (nI m), .ref (G.1 (249 + r))] N (rV_ QW) ∧ ∀ N2, QW N2 → PWX_ G d J S r m p Q u (i + 1) N2)))
set_option maxRecDepth 100000 in
set_option maxHeartbeats 600000 in
theorem c4_probeE (G : gg_) (hG : gd_ G) (d r : Nat) (hr : r ≤ 10) (M : mm_) (J : Nat → Nat) (S : Nat) (m : Nat) (hm : m < 16) (p : Nat) (hp : p ≤ 2) (Q : mm_ → Prop) (h1 : M.1 247 9 = 0 → Q M) (h2 : ¬ M.1 247 9 = 0 → PWX_ G d J S r m p Q 8 0 M) : cm_ G yX4_probe cX4_probe 6 none (d + 5) [.ref (G.1 247), .int (nI m), .int (nI p), .ref (G.1 (249 + r))] M (rV_ Q) := by
  refine cm_of hG (by decide) (Nat.le_of_ble_eq_true rfl) (fun C X => ?_)
  have lp : ∀ (u i : Nat) (N : mm_) (x : Option Value), i + u = 8 → PWX_ G d J S r m p Q u i N → wq_ C G (qe_ C G (rV_ Q)) 11 [some (.ref (G.1 247)), some (.int (nI m)), some (.int (nI p)), some (.ref (G.1 (249 + r))), some (.int (nI i)), x] [] N := by
    intro u
    induction u with
    | zero =>
      intro i N x hi hP
      refine w_iload X dX4_probe_11 rfl ?_
      refine w_bipush (v := 8) X dX4_probe_13 (by decide) ?_
      refine w_icmp_ge (tgt := 112) X dX4_probe_15 (by decide) (fun h15 => ?_) (fun h15 => absurd (nI_le (a := 8) (b := i) (by omega) (by omega)) h15)
      exact w_vrR X dX4_probe_112 hP
    | succ u ih =>
      intro i N x hi hP
      have hi8 : i < 8 := by omega
      obtain ⟨hqN, hP1, hP2⟩ := hP
      have hJ := (hqN.1 i hi8).1
      refine w_iload X dX4_probe_11 rfl ?_
      refine w_bipush (v := 8) X dX4_probe_13 (by decide) ?_
      refine w_icmp_ge (tgt := 112) X dX4_probe_15 (by decide) (fun h15 => absurd h15 (nI_ge (a := i) (b := 8) (by omega) (by decide))) (fun h15 => ?_)
      refine w_aload_n X dX4_probe_18 rfl rfl ?_
      refine g4_15 X dX4_probe_19 s_247 rfl ?_
      refine w_iload X dX4_probe_22 rfl ?_
      refine w_v1fR X dX4_probe_24 k4_141 rfl s_133 (c3_at G hG _ _ J S hqN i hi8) (Nat.le_of_ble_eq_true rfl) ?_
      refine w_astore X dX4_probe_27 (by decide) ?_
      refine w_aload X dX4_probe_29 rfl ?_
      refine w_iload_n X dX4_probe_31 rfl rfl ?_
      refine w_v1fI X dX4_probe_32 k4_145 rfl (jd_all _ hJ).1 (c2_sees G hG _ _ _ (jd_all _ hJ) _) (Nat.le_of_ble_eq_true rfl) ?_
      refine w_if_ne (tgt := 41) X dX4_probe_35 (by decide) (fun h35 => ?_) (fun h35 => ?_)
      · refine w_aload X dX4_probe_41 rfl ?_
        refine g4_149 X dX4_probe_43 (jd_all _ hJ).1 rfl ?_
        refine w_iconst (v := 2) X dX4_probe_46 (by decide) ?_
        refine w_icmp_ne (tgt := 68) X dX4_probe_47 (by decide) (fun h47 => ?_) (fun h47 => ?_)
        · refine w_aload X dX4_probe_68 rfl ?_
          refine g4_149 X dX4_probe_70 (jd_all _ hJ).1 rfl ?_
          refine w_iconst (v := 3) X dX4_probe_73 (by decide) ?_
          refine w_icmp_ne (tgt := 89) X dX4_probe_74 (by decide) (fun h74 => ?_) (fun h74 => ?_)
          · refine w_aload X dX4_probe_89 rfl ?_
            refine g4_159 X dX4_probe_91 (jd_all _ hJ).1 rfl ?_
            refine w_iload_n X dX4_probe_94 rfl rfl ?_
            refine w_icmp_ne (tgt := 106) X dX4_probe_95 (by decide) (fun h95 => ?_) (fun h95 => ?_)
            · refine w_iinc (v := 1) X dX4_probe_106 rfl (by decide) (by decide) ?_
              refine w_goto (tgt := 11) X dX4_probe_109 (by decide) ?_
              rw [nI_1]
              exact ih (i + 1) _ _ (by omega) (((hP2 h35).2.2 h47 h74).1 h95)
            · obtain ⟨QW, hw1, hw2⟩ := ((hP2 h35).2.2 h47 h74).2 h95
              refine w_aload_n X dX4_probe_98 rfl rfl ?_
              refine w_iload X dX4_probe_99 rfl ?_
              refine w_iload_n X dX4_probe_101 rfl rfl ?_
              refine w_aload_n X dX4_probe_102 rfl rfl ?_
              refine w_v3rV X dX4_probe_103 k4_162 rfl s_247 (hw1) (Nat.le_of_ble_eq_true rfl) (fun N103 h103 => ?_)
              refine w_iinc (v := 1) X dX4_probe_106 rfl (by decide) (by decide) ?_
              refine w_goto (tgt := 11) X dX4_probe_109 (by decide) ?_
              rw [nI_1]
              exact ih (i + 1) _ _ (by omega) (hw2 _ h103)
          · refine w_aload_n X dX4_probe_77 rfl rfl ?_
            refine w_iload X dX4_probe_78 rfl ?_
            refine w_iload_n X dX4_probe_80 rfl rfl ?_
            refine w_iload_n X dX4_probe_81 rfl rfl ?_
            refine w_aload_n X dX4_probe_82 rfl rfl ?_
            refine w_v4fV X dX4_probe_83 k4_155 rfl s_247 (c4_keep G hG _ _ r (by omega) _ _ _) (Nat.le_of_ble_eq_true rfl) ?_
            refine w_goto (tgt := 106) X dX4_probe_86 (by decide) ?_
            refine w_iinc (v := 1) X dX4_probe_106 rfl (by decide) (by decide) ?_
            refine w_goto (tgt := 11) X dX4_probe_109 (by decide) ?_
            rw [nI_1]
            exact ih (i + 1) _ _ (by omega) ((hP2 h35).2.1 h47 h74)
        · refine w_aload X dX4_probe_50 rfl ?_
          refine g4_152 X dX4_probe_52 (jd_all _ hJ).1 rfl ?_
          refine w_iload_n X dX4_probe_55 rfl rfl ?_
          refine w_iconst (v := 3) X dX4_probe_56 (by decide) ?_
          refine w_imul X dX4_probe_57 ?_
          refine w_iload_n X dX4_probe_58 rfl rfl ?_
          refine w_iadd X dX4_probe_59 ?_
          refine w_dup2 X dX4_probe_60 rfl rfl ?_
          rw [nI_mp]
          refine w_ialoadN X dX4_probe_61 (jd_all _ hJ).2.1 rfl (⟨by omega, by decide⟩) ?_
          refine w_iconst (v := 1) X dX4_probe_62 (by decide) ?_
          refine w_iadd X dX4_probe_63 ?_
          try rw [nI_mp]
          refine w_iastoreN X dX4_probe_64 (jd_all _ hJ).2.1 rfl (⟨by omega, by decide⟩) ?_
          refine w_goto (tgt := 106) X dX4_probe_65 (by decide) ?_
          refine w_iinc (v := 1) X dX4_probe_106 rfl (by decide) (by decide) ?_
          refine w_goto (tgt := 11) X dX4_probe_109 (by decide) ?_
          rw [nI_1]
          exact ih (i + 1) _ _ (by omega) ((hP2 h35).1 h47)
      · refine w_goto (tgt := 106) X dX4_probe_38 (by decide) ?_
        refine w_iinc (v := 1) X dX4_probe_106 rfl (by decide) (by decide) ?_
        refine w_goto (tgt := 11) X dX4_probe_109 (by decide) ?_
        rw [nI_1]
        exact ih (i + 1) _ _ (by omega) (hP1 h35)
  refine w_aload_n X dX4_probe_0 rfl rfl ?_
  refine g4_37 X dX4_probe_1 s_247 rfl ?_
  refine w_if_ne (tgt := 8) X dX4_probe_4 (by decide) (fun h4 => ?_) (fun h4 => ?_)
  · refine w_iconst (v := 0) X dX4_probe_8 (by decide) ?_
    refine w_istore X dX4_probe_9 (by decide) ?_
    exact lp 8 0 M _ (by omega) (h2 h4)
  · exact w_vrR X dX4_probe_7 (h1 h4)

end
