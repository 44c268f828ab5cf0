/-! Machine: step and run, exactly -/
theorem pp_8 {M : mm_} {h : Nat} (hh : M.1 247 8 = nI h) : (ppX_ M h).2.1 247 8 = nI (h - 1) := by
  unfold ppX_; split
  · rename_i z; subst z; exact hh
  · exact (gI_sI _ _ _ _ _ _).trans (if_pos ⟨rfl, rfl⟩)
/-- a step that invokes nothing: p its operation, v its operand, the stack h high -/
def sfX_ (M : mm_) (a h r : Nat) (p : Int32) (v : Int64) : Int32 × mm_ :=
  if p = 0 then (nI a + 1, puX_ M h v.toInt32)
  else if p = 1 then (nI a + 1, puX_ M h (if v < 0 ∨ 7 ≤ v then 0 else M.1 (249 + r) v.toInt32.toNatClampNeg))
  else if p = 2 then (nI a + 1, puX_ (ppX_ M h).2 (h - 1) (-(ppX_ M h).1))
  else if p = 3 then (nI a + 1, flX_ (ppX_ M h).2 (ppX_ M h).1)
  else if p = 4 then (if (ppX_ M h).1 = 0 then v.toInt32 else nI a + 1, (ppX_ M h).2)
  else if p = 5 ∨ p = 6 then (v.toInt32, M)
  else if (ppX_ M h).1 = 0 ∧ (p = 47 ∨ p = 37) then (nI a + 1, flX_ (ppX_ (ppX_ M h).2 (h - 1)).2 (-1))
  else (nI a + 1, puX_ (ppX_ (ppX_ M h).2 (h - 1)).2 (h - 1 - 1) (joX_ p (ppX_ (ppX_ M h).2 (h - 1)).1 (ppX_ M h).1))
set_option maxHeartbeats 800000 in
set_option maxRecDepth 100000 in
theorem c4_stepE (G : gg_) (hG : gd_ G) (d r : Nat) (hr : r ≤ 10) (M : mm_) (k : Nat) (hk : cdX_ k) (a : Nat) (ha : a < 26) (p : Int32) (hp : M.1 (k + 1) a = p) (v : Int64) (hv : M.2.1 (k + 2) a = v) (h : Nat) (hh : M.1 247 8 = nI h) (hh2 : h ≤ 220) (hd5 : M.1 (249 + r) 5 = nI r) (QN : mm_ → Prop) (hN : p = 7 → cm_ G yX4_invokeNamed cX4_invokeNamed 8 none (d + 1) [.ref (G.1 247), .long v, .int (nI (r + 1))] M (rV_ QN)) : cm_ G yX4_step cX4_step 9 (some .int) (d + 2) [.ref (G.1 247), .ref (G.1 k), .int (nI a), .ref (G.1 (249 + r))] M (rI_ (fun x N => (¬ p = 7 → (x, N) = sfX_ M a h r p v) ∧ (p = 7 → x = nI a + 1 ∧ QN N))) := by
  refine cm_of hG (by decide) (Nat.le_of_ble_eq_true rfl) (fun C X => ?_)
  refine w_aload_n X dX4_step_0 rfl rfl ?_
  refine g4_95 X dX4_step_1 hk.1 rfl ?_
  refine w_iload_n X dX4_step_4 rfl rfl ?_
  refine w_laloadN X dX4_step_5 hk.2.2.1 rfl (⟨by omega, by decide⟩) ?_
  rw [hv]
  refine w_lstore X dX4_step_6 (by decide) ?_
  refine w_aload_n X dX4_step_8 rfl rfl ?_
  refine g4_99 X dX4_step_9 hk.1 rfl ?_
  refine w_iload_n X dX4_step_12 rfl rfl ?_
  refine w_ialoadN X dX4_step_13 hk.2.1 rfl (⟨by omega, by decide⟩) ?_
  rw [hp]
  refine w_istore X dX4_step_14 (by decide) ?_
  refine w_iload X dX4_step_16 rfl ?_
  by_cases h18_0 : p = 0
  · refine w_tableIn (tgt := 64) (off := 46) X dX4_step_18 (by rw [h18_0]; decide) (by rw [h18_0]; decide) (by rw [h18_0]; decide) (by decide) ?_
    refine w_aload_n X dX4_step_64 rfl rfl ?_
    refine w_lload X dX4_step_65 rfl ?_
    refine w_l2i X dX4_step_67 ?_
    refine w_v1fV X dX4_step_68 k4_102 rfl s_247 (c4_push G hG _ _ h hh hh2 _) (Nat.le_of_ble_eq_true rfl) ?_
    refine w_goto (tgt := 216) X dX4_step_71 (by decide) ?_
    refine w_iload_n X dX4_step_216 rfl rfl ?_
    refine w_iconst (v := 1) X dX4_step_217 (by decide) ?_
    refine w_iadd X dX4_step_218 ?_
    exact w_irR X dX4_step_219 ⟨fun _ => by unfold sfX_; rw [if_pos h18_0], fun z => absurd (h18_0.symm.trans z) (by decide)⟩
  by_cases h18_1 : p = 1
  · refine w_tableIn (tgt := 74) (off := 56) X dX4_step_18 (by rw [h18_1]; decide) (by rw [h18_1]; decide) (by rw [h18_1]; decide) (by decide) ?_
    refine w_aload_n X dX4_step_74 rfl rfl ?_
    refine w_lload X dX4_step_75 rfl ?_
    refine w_lconst (v := 0) X dX4_step_77 (by decide) ?_
    refine w_lcmp X dX4_step_78 ?_
    refine w_if_lt (tgt := 99) X dX4_step_79 (by decide) (fun h79 => ?_) (fun h79 => ?_)
    · refine w_iconst (v := 0) X dX4_step_99 (by decide) ?_
      refine w_v1fV X dX4_step_100 k4_102 rfl s_247 (c4_push G hG _ _ h hh hh2 _) (Nat.le_of_ble_eq_true rfl) ?_
      refine w_goto (tgt := 216) X dX4_step_103 (by decide) ?_
      refine w_iload_n X dX4_step_216 rfl rfl ?_
      refine w_iconst (v := 1) X dX4_step_217 (by decide) ?_
      refine w_iadd X dX4_step_218 ?_
      exact w_irR X dX4_step_219 ⟨fun _ => by unfold sfX_; rw [if_neg h18_0, if_pos h18_1, if_pos (Or.inl (lc_lt.mp h79))], fun z => absurd (h18_1.symm.trans z) (by decide)⟩
    · refine w_lload X dX4_step_82 rfl ?_
      refine w_ldc2 X dX4_step_84 q4_106 ?_
      refine w_lcmp X dX4_step_87 ?_
      refine w_if_ge (tgt := 99) X dX4_step_88 (by decide) (fun h88 => ?_) (fun h88 => ?_)
      · refine w_iconst (v := 0) X dX4_step_99 (by decide) ?_
        refine w_v1fV X dX4_step_100 k4_102 rfl s_247 (c4_push G hG _ _ h hh hh2 _) (Nat.le_of_ble_eq_true rfl) ?_
        refine w_goto (tgt := 216) X dX4_step_103 (by decide) ?_
        refine w_iload_n X dX4_step_216 rfl rfl ?_
        refine w_iconst (v := 1) X dX4_step_217 (by decide) ?_
        refine w_iadd X dX4_step_218 ?_
        exact w_irR X dX4_step_219 ⟨fun _ => by unfold sfX_; rw [if_neg h18_0, if_pos h18_1, if_pos (Or.inr (lc_ge.mp h88))], fun z => absurd (h18_1.symm.trans z) (by decide)⟩
      · refine w_aload_n X dX4_step_91 rfl rfl ?_
        refine w_lload X dX4_step_92 rfl ?_
        refine w_l2i X dX4_step_94 ?_
        obtain ⟨i7, hi7, ei7⟩ := vi7_ h79 h88
        rw [ei7]
        refine w_ialoadN X dX4_step_95 (vr_row r (by omega)) rfl (⟨hi7, by decide⟩) ?_
        refine w_goto (tgt := 100) X dX4_step_96 (by decide) ?_
        refine w_v1fV X dX4_step_100 k4_102 rfl s_247 (c4_push G hG _ _ h hh hh2 _) (Nat.le_of_ble_eq_true rfl) ?_
        refine w_goto (tgt := 216) X dX4_step_103 (by decide) ?_
        refine w_iload_n X dX4_step_216 rfl rfl ?_
        refine w_iconst (v := 1) X dX4_step_217 (by decide) ?_
        refine w_iadd X dX4_step_218 ?_
        exact w_irR X dX4_step_219 ⟨fun _ => by unfold sfX_; rw [if_neg h18_0, if_pos h18_1, if_neg (fun z => z.elim (fun y => h79 (lc_lt.mpr y)) (fun y => h88 (lc_ge.mpr y))), ei7, nI_clamp (by omega)], fun z => absurd (h18_1.symm.trans z) (by decide)⟩
  by_cases h18_2 : p = 2
  · refine w_tableIn (tgt := 106) (off := 88) X dX4_step_18 (by rw [h18_2]; decide) (by rw [h18_2]; decide) (by rw [h18_2]; decide) (by decide) ?_
    refine w_aload_n X dX4_step_106 rfl rfl ?_
    refine w_aload_n X dX4_step_107 rfl rfl ?_
    refine w_v0fI X dX4_step_108 k4_91 rfl s_247 (c4_pop G hG _ _ h hh hh2) (Nat.le_of_ble_eq_true rfl) ?_
    refine w_ineg X dX4_step_111 ?_
    refine w_v1fV X dX4_step_112 k4_102 rfl s_247 (c4_push G hG _ _ (h - 1) (pp_8 hh) (by omega) _) (Nat.le_of_ble_eq_true rfl) ?_
    refine w_goto (tgt := 216) X dX4_step_115 (by decide) ?_
    refine w_iload_n X dX4_step_216 rfl rfl ?_
    refine w_iconst (v := 1) X dX4_step_217 (by decide) ?_
    refine w_iadd X dX4_step_218 ?_
    exact w_irR X dX4_step_219 ⟨fun _ => by unfold sfX_; rw [if_neg h18_0, if_neg h18_1, if_pos h18_2], fun z => absurd (h18_2.symm.trans z) (by decide)⟩
  by_cases h18_3 : p = 3
  · refine w_tableIn (tgt := 118) (off := 100) X dX4_step_18 (by rw [h18_3]; decide) (by rw [h18_3]; decide) (by rw [h18_3]; decide) (by decide) ?_
    refine w_aload_n X dX4_step_118 rfl rfl ?_
    refine w_aload_n X dX4_step_119 rfl rfl ?_
    refine w_v0fI X dX4_step_120 k4_91 rfl s_247 (c4_pop G hG _ _ h hh hh2) (Nat.le_of_ble_eq_true rfl) ?_
    refine w_v1fV X dX4_step_123 k4_108 rfl s_247 (c4_fail G hG _ _ _) (Nat.le_of_ble_eq_true rfl) ?_
    refine w_goto (tgt := 216) X dX4_step_126 (by decide) ?_
    refine w_iload_n X dX4_step_216 rfl rfl ?_
    refine w_iconst (v := 1) X dX4_step_217 (by decide) ?_
    refine w_iadd X dX4_step_218 ?_
    exact w_irR X dX4_step_219 ⟨fun _ => by unfold sfX_; rw [if_neg h18_0, if_neg h18_1, if_neg h18_2, if_pos h18_3], fun z => absurd (h18_3.symm.trans z) (by decide)⟩
  by_cases h18_4 : p = 4
  · refine w_tableIn (tgt := 129) (off := 111) X dX4_step_18 (by rw [h18_4]; decide) (by rw [h18_4]; decide) (by rw [h18_4]; decide) (by decide) ?_
    refine w_aload_n X dX4_step_129 rfl rfl ?_
    refine w_v0fI X dX4_step_130 k4_91 rfl s_247 (c4_pop G hG _ _ h hh hh2) (Nat.le_of_ble_eq_true rfl) ?_
    refine w_if_ne (tgt := 142) X dX4_step_133 (by decide) (fun h133 => ?_) (fun h133 => ?_)
    · refine w_iload_n X dX4_step_142 rfl rfl ?_
      refine w_iconst (v := 1) X dX4_step_143 (by decide) ?_
      refine w_iadd X dX4_step_144 ?_
      exact w_irR X dX4_step_145 ⟨fun _ => by unfold sfX_; rw [if_neg h18_0, if_neg h18_1, if_neg h18_2, if_neg h18_3, if_pos h18_4, if_neg h133], fun z => absurd (h18_4.symm.trans z) (by decide)⟩
    · refine w_lload X dX4_step_136 rfl ?_
      refine w_l2i X dX4_step_138 ?_
      refine w_goto (tgt := 145) X dX4_step_139 (by decide) ?_
      exact w_irR X dX4_step_145 ⟨fun _ => by unfold sfX_; rw [if_neg h18_0, if_neg h18_1, if_neg h18_2, if_neg h18_3, if_pos h18_4, if_pos h133], fun z => absurd (h18_4.symm.trans z) (by decide)⟩
  by_cases h18_5 : p = 5
  · refine w_tableIn (tgt := 146) (off := 128) X dX4_step_18 (by rw [h18_5]; decide) (by rw [h18_5]; decide) (by rw [h18_5]; decide) (by decide) ?_
    refine w_lload X dX4_step_146 rfl ?_
    refine w_l2i X dX4_step_148 ?_
    exact w_irR X dX4_step_149 ⟨fun _ => by unfold sfX_; rw [if_neg h18_0, if_neg h18_1, if_neg h18_2, if_neg h18_3, if_neg h18_4, if_pos (Or.inl h18_5)], fun z => absurd (h18_5.symm.trans z) (by decide)⟩
  by_cases h18_6 : p = 6
  · refine w_tableIn (tgt := 146) (off := 128) X dX4_step_18 (by rw [h18_6]; decide) (by rw [h18_6]; decide) (by rw [h18_6]; decide) (by decide) ?_
    refine w_lload X dX4_step_146 rfl ?_
    refine w_l2i X dX4_step_148 ?_
    exact w_irR X dX4_step_149 ⟨fun _ => by unfold sfX_; rw [if_neg h18_0, if_neg h18_1, if_neg h18_2, if_neg h18_3, if_neg h18_4, if_pos (Or.inr h18_6)], fun z => absurd (h18_6.symm.trans z) (by decide)⟩
  by_cases h18_7 : p = 7
  · refine w_tableIn (tgt := 150) (off := 132) X dX4_step_18 (by rw [h18_7]; decide) (by rw [h18_7]; decide) (by rw [h18_7]; decide) (by decide) ?_
    refine w_aload_n X dX4_step_150 rfl rfl ?_
    refine w_lload X dX4_step_151 rfl ?_
    refine w_aload_n X dX4_step_153 rfl rfl ?_
    refine w_iconst (v := 5) X dX4_step_154 (by decide) ?_
    refine w_ialoadN X dX4_step_155 (vr_row r (by omega)) rfl (⟨by decide, by decide⟩) ?_
    refine w_iconst (v := 1) X dX4_step_156 (by decide) ?_
    rw [hd5]
    refine w_iadd X dX4_step_157 ?_
    rw [nI_1 r]
    refine w_v2rV X dX4_step_158 k4_111 rfl s_247 (hN h18_7) (Nat.le_of_ble_eq_true rfl) (fun N158 h158 => ?_)
    refine w_goto (tgt := 216) X dX4_step_161 (by decide) ?_
    refine w_iload_n X dX4_step_216 rfl rfl ?_
    refine w_iconst (v := 1) X dX4_step_217 (by decide) ?_
    refine w_iadd X dX4_step_218 ?_
    exact w_irR X dX4_step_219 ⟨fun z => absurd h18_7 z, fun _ => ⟨rfl, h158⟩⟩
  have t18_0 : (0 : Int) ≠ (p).toInt := fun q => h18_0 (Int32.toInt_inj.mp (by rw [← q]; decide))
  have t18_1 : (1 : Int) ≠ (p).toInt := fun q => h18_1 (Int32.toInt_inj.mp (by rw [← q]; decide))
  have t18_2 : (2 : Int) ≠ (p).toInt := fun q => h18_2 (Int32.toInt_inj.mp (by rw [← q]; decide))
  have t18_3 : (3 : Int) ≠ (p).toInt := fun q => h18_3 (Int32.toInt_inj.mp (by rw [← q]; decide))
  have t18_4 : (4 : Int) ≠ (p).toInt := fun q => h18_4 (Int32.toInt_inj.mp (by rw [← q]; decide))
  have t18_5 : (5 : Int) ≠ (p).toInt := fun q => h18_5 (Int32.toInt_inj.mp (by rw [← q]; decide))
  have t18_6 : (6 : Int) ≠ (p).toInt := fun q => h18_6 (Int32.toInt_inj.mp (by rw [← q]; decide))
  have t18_7 : (7 : Int) ≠ (p).toInt := fun q => h18_7 (Int32.toInt_inj.mp (by rw [← q]; decide))
  refine w_tableOut (tgt := 164) X dX4_step_18 (by omega) (by decide) ?_
  refine w_aload_n X dX4_step_164 rfl rfl ?_
  refine w_v0fI X dX4_step_165 k4_91 rfl s_247 (c4_pop G hG _ _ h hh hh2) (Nat.le_of_ble_eq_true rfl) ?_
  refine w_istore X dX4_step_168 (by decide) ?_
  refine w_aload_n X dX4_step_170 rfl rfl ?_
  refine w_v0fI X dX4_step_171 k4_91 rfl s_247 (c4_pop G hG _ _ (h - 1) (pp_8 hh) (by omega)) (Nat.le_of_ble_eq_true rfl) ?_
  refine w_istore X dX4_step_174 (by decide) ?_
  refine w_iload X dX4_step_176 rfl ?_
  refine w_if_ne (tgt := 203) X dX4_step_178 (by decide) (fun h178 => ?_) (fun h178 => ?_)
  · refine w_aload_n X dX4_step_203 rfl rfl ?_
    refine w_iload X dX4_step_204 rfl ?_
    refine w_iload X dX4_step_206 rfl ?_
    refine w_iload X dX4_step_208 rfl ?_
    refine w_s3fI X dX4_step_210 k4_115 (c4_joined G hG _ _ _ _ _) (Nat.le_of_ble_eq_true rfl) ?_
    refine w_v1fV X dX4_step_213 k4_102 rfl s_247 (c4_push G hG _ _ (h - 1 - 1) (pp_8 (pp_8 hh)) (by omega) _) (Nat.le_of_ble_eq_true rfl) ?_
    refine w_iload_n X dX4_step_216 rfl rfl ?_
    refine w_iconst (v := 1) X dX4_step_217 (by decide) ?_
    refine w_iadd X dX4_step_218 ?_
    exact w_irR X dX4_step_219 ⟨fun _ => by unfold sfX_; rw [if_neg h18_0, if_neg h18_1, if_neg h18_2, if_neg h18_3, if_neg h18_4, if_neg (fun z => z.elim h18_5 h18_6), if_neg (fun z => h178 z.1)], fun z => absurd z h18_7⟩
  · refine w_iload X dX4_step_181 rfl ?_
    refine w_bipush (v := 47) X dX4_step_183 (by decide) ?_
    refine w_icmp_eq (tgt := 195) X dX4_step_185 (by decide) (fun h185 => ?_) (fun h185 => ?_)
    · refine w_aload_n X dX4_step_195 rfl rfl ?_
      refine w_iconst (v := -1) X dX4_step_196 (by decide) ?_
      refine w_v1fV X dX4_step_197 k4_108 rfl s_247 (c4_fail G hG _ _ _) (Nat.le_of_ble_eq_true rfl) ?_
      refine w_goto (tgt := 216) X dX4_step_200 (by decide) ?_
      refine w_iload_n X dX4_step_216 rfl rfl ?_
      refine w_iconst (v := 1) X dX4_step_217 (by decide) ?_
      refine w_iadd X dX4_step_218 ?_
      exact w_irR X dX4_step_219 ⟨fun _ => by unfold sfX_; rw [if_neg h18_0, if_neg h18_1, if_neg h18_2, if_neg h18_3, if_neg h18_4, if_neg (fun z => z.elim h18_5 h18_6), if_pos ⟨h178, Or.inl h185⟩], fun z => absurd z h18_7⟩
    · refine w_iload X dX4_step_188 rfl ?_
      refine w_bipush (v := 37) X dX4_step_190 (by decide) ?_
      refine w_icmp_ne (tgt := 203) X dX4_step_192 (by decide) (fun h192 => ?_) (fun h192 => ?_)
      · refine w_aload_n X dX4_step_203 rfl rfl ?_
        refine w_iload X dX4_step_204 rfl ?_
        refine w_iload X dX4_step_206 rfl ?_
        refine w_iload X dX4_step_208 rfl ?_
        refine w_s3fI X dX4_step_210 k4_115 (c4_joined G hG _ _ _ _ _) (Nat.le_of_ble_eq_true rfl) ?_
        refine w_v1fV X dX4_step_213 k4_102 rfl s_247 (c4_push G hG _ _ (h - 1 - 1) (pp_8 (pp_8 hh)) (by omega) _) (Nat.le_of_ble_eq_true rfl) ?_
        refine w_iload_n X dX4_step_216 rfl rfl ?_
        refine w_iconst (v := 1) X dX4_step_217 (by decide) ?_
        refine w_iadd X dX4_step_218 ?_
        exact w_irR X dX4_step_219 ⟨fun _ => by unfold sfX_; rw [if_neg h18_0, if_neg h18_1, if_neg h18_2, if_neg h18_3, if_neg h18_4, if_neg (fun z => z.elim h18_5 h18_6), if_neg (fun z => z.2.elim h185 h192)], fun z => absurd z h18_7⟩
      · refine w_aload_n X dX4_step_195 rfl rfl ?_
        refine w_iconst (v := -1) X dX4_step_196 (by decide) ?_
        refine w_v1fV X dX4_step_197 k4_108 rfl s_247 (c4_fail G hG _ _ _) (Nat.le_of_ble_eq_true rfl) ?_
        refine w_goto (tgt := 216) X dX4_step_200 (by decide) ?_
        refine w_iload_n X dX4_step_216 rfl rfl ?_
        refine w_iconst (v := 1) X dX4_step_217 (by decide) ?_
        refine w_iadd X dX4_step_218 ?_
        exact w_irR X dX4_step_219 ⟨fun _ => by unfold sfX_; rw [if_neg h18_0, if_neg h18_1, if_neg h18_2, if_neg h18_3, if_neg h18_4, if_neg (fun z => z.elim h18_5 h18_6), if_pos ⟨h178, Or.inr h192⟩], fun z => absurd z h18_7⟩
/-- behind the loop: what run answers -/
def FNX_ (b : Nat) (Q : Int32 → mm_ → Prop) (N : mm_) : Prop := ∃ h, h ≤ 220 ∧ N.1 247 8 = nI h ∧ (N.1 247 10 = 0 → Q (ppX_ N h).1 (sI_ (ppX_ N h).2 247 8 (nI b))) ∧ (¬ N.1 247 10 = 0 → Q (N.1 247 11) (sI_ N 247 8 (nI b)))
/-- behind a step from a -/
def CTX_ (W : Nat → mm_ → Prop) (k L b a : Nat) (x : Int32) (N : mm_) : Prop := (N.1 247 10 = 0 → ∃ t, t ≤ L ∧ x = nI t ∧ W t N) ∧ (¬ N.1 247 10 = 0 → N.1 k 4 = nI L ∧ W (nxX_ N k L a) (bhX_ N k L a (nI b)))
def WPX_ (G : gg_) (d k L r b : Nat) (Q : Int32 → mm_ → Prop) : Nat → Nat → mm_ → Prop
  | 0, _, N => FNX_ b Q N
  | u + 1, a, N => N.1 k 4 = nI L ∧ (L ≤ a → FNX_ b Q N) ∧ (a < L → N.1 (249 + r) 5 = nI r ∧ ∃ h, h ≤ 220 ∧ N.1 247 8 = nI h ∧
    (¬ N.1 (k + 1) a = 7 → CTX_ (WPX_ G d k L r b Q u) k L b a (sfX_ N a h r (N.1 (k + 1) a) (N.2.1 (k + 2) a)).1 (sfX_ N a h r (N.1 (k + 1) a) (N.2.1 (k + 2) a)).2) ∧
    (N.1 (k + 1) a = 7 → ∃ QN : mm_ → Prop, cm_ G yX4_invokeNamed cX4_invokeNamed 8 none (d + 1) [.ref (G.1 247), .long (N.2.1 (k + 2) a), .int (nI (r + 1))] N (rV_ QN) ∧ ∀ N2, QN N2 → CTX_ (WPX_ G d k L r b Q u) k L b a (nI a + 1) N2))
theorem stE_ {G : gg_} (hG : gd_ G) {d k L r b u a : Nat} {Q : Int32 → mm_ → Prop} {N : mm_} (hk : cdX_ k) (hr : r ≤ 10) (hL : L ≤ 26) (ha : a < L) (h : WPX_ G d k L r b Q (u + 1) a N) : cm_ G yX4_step cX4_step 9 (some .int) (d + 2) [.ref (G.1 247), .ref (G.1 k), .int (nI a), .ref (G.1 (249 + r))] N (rI_ (fun x N2 => CTX_ (WPX_ G d k L r b Q u) k L b a x N2)) := by
  obtain ⟨-, -, h⟩ := h
  obtain ⟨h5, g, g1, g2, g3, g4⟩ := h ha
  by_cases h7 : N.1 (k + 1) a = 7
  · obtain ⟨QN, c1, c2⟩ := g4 h7
    refine cm_post (c4_stepE G hG d r hr N k hk a (by omega) _ rfl _ rfl g g2 g1 h5 QN (fun _ => c1)) (fun v N2 z => ?_)
    obtain ⟨x, z1, z2, z3⟩ := z
    obtain ⟨z4, z5⟩ := z3 h7
    exact ⟨x, z1, by rw [z4]; exact c2 N2 z5⟩
  · refine cm_post (c4_stepE G hG d r hr N k hk a (by omega) _ rfl _ rfl g g2 g1 h5 (fun _ => True) (fun z => absurd z h7)) (fun v N2 z => ?_)
    obtain ⟨x, z1, z2, z3⟩ := z
    have e := z2 h7
    have q := g3 h7
    rw [← e] at q
    exact ⟨x, z1, q⟩
set_option maxRecDepth 100000 in
set_option maxHeartbeats 600000 in
theorem c4_runE (G : gg_) (hG : gd_ G) (d r : Nat) (hr : r ≤ 10) (M : mm_) (k : Nat) (hk : cdX_ k) (L : Nat) (hLL : L ≤ 26) (b : Nat) (hh : M.1 247 8 = nI b) (Q : Int32 → mm_ → Prop) (hW : WPX_ G d k L r b Q 26 0 (sI_ M 247 10 0)) : cm_ G yX4_run cX4_run 7 (some .int) (d + 3) [.ref (G.1 247), .ref (G.1 k), .ref (G.1 (249 + r))] M (rI_ Q) := by
  refine cm_of hG (by decide) (Nat.le_of_ble_eq_true rfl) (fun C X => ?_)
  have t70 : ∀ (a4 a5 a6 : Option Value) (N : mm_), FNX_ b Q N → wq_ C G (qe_ C G (rI_ Q)) 70 [some (.ref (G.1 247)), some (.ref (G.1 k)), some (.ref (G.1 (249 + r))), some (.int (nI b)), a4, a5, a6] [] N := by
    intro a4 a5 a6 N hF
    obtain ⟨h, hh3, hh4, hF1, hF2⟩ := hF
    refine w_aload_n X dX4_run_70 rfl rfl ?_
    refine g4_58 X dX4_run_71 s_247 rfl ?_
    refine w_if_eq (tgt := 84) X dX4_run_74 (by decide) (fun h74 => ?_) (fun h74 => ?_)
    · refine w_aload_n X dX4_run_84 rfl rfl ?_
      refine w_v0fI X dX4_run_85 k4_91 rfl s_247 (c4_pop G hG _ _ h hh4 hh3) (Nat.le_of_ble_eq_true rfl) ?_
      refine w_istore X dX4_run_88 (by decide) ?_
      refine w_aload_n X dX4_run_90 rfl rfl ?_
      refine w_iload_n X dX4_run_91 rfl rfl ?_
      refine p4_48 X dX4_run_92 s_247 rfl ?_
      refine w_iload X dX4_run_95 rfl ?_
      exact w_irR X dX4_run_97 (hF1 h74)
    · refine w_aload_n X dX4_run_77 rfl rfl ?_
      refine g4_88 X dX4_run_78 s_247 rfl ?_
      refine w_goto (tgt := 88) X dX4_run_81 (by decide) ?_
      refine w_istore X dX4_run_88 (by decide) ?_
      refine w_aload_n X dX4_run_90 rfl rfl ?_
      refine w_iload_n X dX4_run_91 rfl rfl ?_
      refine p4_48 X dX4_run_92 s_247 rfl ?_
      refine w_iload X dX4_run_95 rfl ?_
      exact w_irR X dX4_run_97 (hF2 h74)
  have lp : ∀ (u i a : Nat) (N : mm_) (x : Option Value), i + u = 26 → a ≤ L → WPX_ G d k L r b Q u a N → wq_ C G (qe_ C G (rI_ Q)) 16 [some (.ref (G.1 247)), some (.ref (G.1 k)), some (.ref (G.1 (249 + r))), some (.int (nI b)), some (.int (nI a)), some (.int (nI i)), x] [] N := by
    intro u
    induction u with
    | zero =>
      intro i a N x hi ha2 hL
      refine w_iload X dX4_run_16 rfl ?_
      refine w_bipush (v := 26) X dX4_run_18 (by decide) ?_
      refine w_icmp_ge (tgt := 70) X dX4_run_20 (by decide) (fun h20 => ?_) (fun h20 => absurd (nI_le (a := 26) (b := i) (by omega) (by omega)) h20)
      exact t70 _ _ _ N hL
    | succ u ih =>
      intro i a N x hi ha2 hL
      refine w_iload X dX4_run_16 rfl ?_
      refine w_bipush (v := 26) X dX4_run_18 (by decide) ?_
      refine w_icmp_ge (tgt := 70) X dX4_run_20 (by decide) (fun h20 => absurd h20 (nI_ge (a := i) (b := 26) (by omega) (by decide))) (fun h20 => ?_)
      refine w_iload X dX4_run_23 rfl ?_
      refine w_aload_n X dX4_run_25 rfl rfl ?_
      refine g4_77 X dX4_run_26 hk.1 rfl ?_
      rw [hL.1]
      refine w_icmp_ge (tgt := 70) X dX4_run_29 (by decide) (fun h29 => ?_) (fun h29 => ?_)
      · exact t70 _ _ _ N (hL.2.1 (Nat.le_of_not_lt (fun z => absurd h29 (nI_ge (a := a) (b := L) z (by omega)))))
      · have ha : a < L := Nat.lt_of_not_le (fun z => h29 (nI_le (a := L) (b := a) z (by omega)))
        refine w_aload_n X dX4_run_32 rfl rfl ?_
        refine w_aload_n X dX4_run_33 rfl rfl ?_
        refine w_iload X dX4_run_34 rfl ?_
        refine w_aload_n X dX4_run_36 rfl rfl ?_
        refine w_v3rI X dX4_run_37 k4_80 rfl s_247 (stE_ hG hk hr hLL ha hL) (Nat.le_of_ble_eq_true rfl) (fun r37 N37 h37 => ?_)
        refine w_istore X dX4_run_40 (by decide) ?_
        refine w_aload_n X dX4_run_42 rfl rfl ?_
        refine g4_58 X dX4_run_43 s_247 rfl ?_
        refine w_if_eq (tgt := 60) X dX4_run_46 (by decide) (fun h46 => ?_) (fun h46 => ?_)
        · refine w_iload X dX4_run_60 rfl ?_
          refine w_istore X dX4_run_62 (by decide) ?_
          refine w_iinc (v := 1) X dX4_run_64 rfl (by decide) (by decide) ?_
          refine w_goto (tgt := 16) X dX4_run_67 (by decide) ?_
          obtain ⟨t, ht1, ht2, ht3⟩ := h37.1 h46
          rw [nI_1, ht2]
          exact ih (i + 1) t _ _ (by omega) ht1 ht3
        · refine w_aload_n X dX4_run_49 rfl rfl ?_
          refine w_aload_n X dX4_run_50 rfl rfl ?_
          refine w_iload X dX4_run_51 rfl ?_
          refine w_iload_n X dX4_run_53 rfl rfl ?_
          refine w_v3fI X dX4_run_54 k4_84 rfl s_247 (c4_behindThrow G hG _ _ k hk L (h37.2 h46).1 hLL a ha _) (Nat.le_of_ble_eq_true rfl) ?_
          refine w_goto (tgt := 62) X dX4_run_57 (by decide) ?_
          refine w_istore X dX4_run_62 (by decide) ?_
          refine w_iinc (v := 1) X dX4_run_64 rfl (by decide) (by decide) ?_
          refine w_goto (tgt := 16) X dX4_run_67 (by decide) ?_
          rw [nI_1]
          exact ih (i + 1) _ _ _ (by omega) (nxX_le ha).2 (h37.2 h46).2
  refine w_aload_n X dX4_run_0 rfl rfl ?_
  refine g4_48 X dX4_run_1 s_247 rfl ?_
  rw [hh]
  refine w_istore_n X dX4_run_4 rfl (by decide) ?_
  refine w_iconst (v := 0) X dX4_run_5 (by decide) ?_
  refine w_istore X dX4_run_6 (by decide) ?_
  refine w_aload_n X dX4_run_8 rfl rfl ?_
  refine w_iconst (v := 0) X dX4_run_9 (by decide) ?_
  refine p4_58 X dX4_run_10 s_247 rfl (by first | exact Or.inl rfl | exact Or.inr rfl | assumption) ?_
  refine w_iconst (v := 0) X dX4_run_13 (by decide) ?_
  refine w_istore X dX4_run_14 (by decide) ?_
  exact lp 26 0 0 _ _ (by omega) (by omega) hW
