/-! Machine: step -/
theorem lc_lt {x y : Int64} : lg_cmp x y < 0 ↔ x < y := by
  unfold lg_cmp
  by_cases h1 : x > y
  · rw [if_pos h1]
    constructor
    · intro q; exact absurd q (by decide)
    · intro q; exact absurd (Int64.lt_trans q h1) Int64.lt_irrefl
  · rw [if_neg h1]
    by_cases h2 : x = y
    · rw [if_pos h2]; subst h2
      exact ⟨fun q => absurd q (by decide), fun q => absurd q Int64.lt_irrefl⟩
    · rw [if_neg h2]
      exact ⟨fun _ => Int64.lt_of_le_of_ne (Int64.not_lt.mp h1) h2, fun _ => by decide⟩
theorem lc_ge {x y : Int64} : 0 ≤ lg_cmp x y ↔ y ≤ x := by
  rw [← Int32.not_lt, lc_lt, Int64.not_lt]
theorem vi7_ {v : Int64} (h1 : ¬ lg_cmp v 0 < 0) (h2 : ¬ 0 ≤ lg_cmp v 7) : ∃ i, i < 7 ∧ v.toInt32 = nI i := by
  rw [lc_lt, Int64.not_lt, Int64.le_iff_toInt_le] at h1
  rw [lc_ge, Int64.not_le, Int64.lt_iff_toInt_lt] at h2
  have e0 : (0 : Int64).toInt = 0 := by decide
  have e7 : (7 : Int64).toInt = 7 := by decide
  rw [e0] at h1
  rw [e7] at h2
  have e := Int64.ofInt_toInt v
  obtain h | h | h | h | h | h | h : v.toInt = 0 ∨ v.toInt = 1 ∨ v.toInt = 2 ∨ v.toInt = 3 ∨ v.toInt = 4 ∨ v.toInt = 5 ∨ v.toInt = 6 := by omega
  · exact ⟨0, by decide, by rw [← e, h]; decide⟩
  · exact ⟨1, by decide, by rw [← e, h]; decide⟩
  · exact ⟨2, by decide, by rw [← e, h]; decide⟩
  · exact ⟨3, by decide, by rw [← e, h]; decide⟩
  · exact ⟨4, by decide, by rw [← e, h]; decide⟩
  · exact ⟨5, by decide, by rw [← e, h]; decide⟩
  · exact ⟨6, by decide, by rw [← e, h]; decide⟩
def SPX_ (r L : Nat) (H : Nat → Nat) (b : Nat) (M : mm_) (x : Int32) (N : mm_) : Prop := fyX_ r M N ∧ zoX_ (N.1 247 10) ∧ (N.1 247 10 = 0 → ∃ t, t ≤ L ∧ x = nI t ∧ N.1 247 8 = nI (b + H t)) ∧ ∃ h, h ≤ 220 ∧ N.1 247 8 = nI h
theorem SPX_I {r L a b g : Nat} {H : Nat → Nat} {M N : mm_} (h : IMX_ r g M N) (ha : a < L) (e : g = b + H (a + 1)) : SPX_ r L H b M (nI a + 1) N := ⟨h.1, h.2.1, fun z => ⟨a + 1, by omega, nI_1 a, by rw [← e]; exact h.2.2.1 z⟩, h.2.2.2⟩
theorem SPX_J {r L t b g : Nat} {H : Nat → Nat} {M N : mm_} {x : Int32} (hr : r ≤ 11) (hg : g ≤ 220) (h : XP_ g M N) (h0 : M.1 247 10 = 0) (ht : t ≤ L) (ex : x = nI t) (e : g = b + H t) : SPX_ r L H b M x N := ⟨fyX_le h.1 hr, Or.inl (h.2.2.trans h0), fun _ => ⟨t, ht, ex, by rw [← e]; exact h.2.1⟩, g, hg, h.2.1⟩
set_option maxHeartbeats 800000 in
set_option maxRecDepth 100000 in
theorem c4_step (G : gg_) (hG : gd_ G) (e c : Nat) (J : Nat → Nat) (S r w : Nat) (hI : IVX_ G c J S (r + 1) w) (hr1 : 1 ≤ r) (hr : r ≤ 10) (M : mm_) (hM : kmX_ c J S M) (k : Nat) (hk : cdX_ k) (L : Nat) (H : Nat → Nat) (ho : okL_ k L H M) (a : Nat) (ha : a < L) (b : Nat) (hb : b ≤ 20 * (r - 1)) (hh : M.1 247 8 = nI (b + H a)) (h10 : M.1 247 10 = 0) (hd5 : M.1 (249 + r) 5 = nI r) : cm_ G yX4_step cX4_step 9 (some .int) (e + w + 2) [.ref (G.1 247), .ref (G.1 k), .int (nI a), .ref (G.1 (249 + r))] M (rI_ (SPX_ r L H b M)) := by
  refine cm_of hG (by decide) (Nat.le_of_ble_eq_true rfl) (fun C X => ?_)
  have hLL := ho.1
  obtain ⟨p, hp⟩ : ∃ p, M.1 (k + 1) a = p := ⟨_, rfl⟩
  obtain ⟨v, hv⟩ : ∃ v, M.2.1 (k + 2) a = v := ⟨_, rfl⟩
  have hs := (ho.2.2.2.2 a ha).2
  have hH := ho.2.2.2.1 a (by omega)
  have hH1 := ho.2.2.2.1 (a + 1) (by omega)
  rw [hp, hv] at hs
  refine w_aload_n X dX4_step_0 rfl rfl ?_
  refine g4_95 X dX4_step_1 hk.1 rfl ?_
  refine w_iload_n X dX4_step_4 rfl rfl ?_
  refine w_laloadN X dX4_step_5 hk.2.2.1 rfl (⟨by omega, by decide⟩) ?_
  rw [hv]
  refine w_lstore X dX4_step_6 (by decide) ?_
  refine w_aload_n X dX4_step_8 rfl rfl ?_
  refine g4_99 X dX4_step_9 hk.1 rfl ?_
  refine w_iload_n X dX4_step_12 rfl rfl ?_
  refine w_ialoadN X dX4_step_13 hk.2.1 rfl (⟨by omega, by decide⟩) ?_
  rw [hp]
  refine w_istore X dX4_step_14 (by decide) ?_
  refine w_iload X dX4_step_16 rfl ?_
  by_cases h18_0 : p = 0
  · refine w_tableIn (tgt := 64) (off := 46) X dX4_step_18 (by rw [h18_0]; decide) (by rw [h18_0]; decide) (by rw [h18_0]; decide) (by decide) ?_
    have g0 := hs.1 (Or.inl h18_0)
    refine w_aload_n X dX4_step_64 rfl rfl ?_
    refine w_lload X dX4_step_65 rfl ?_
    refine w_l2i X dX4_step_67 ?_
    refine w_v1rV X dX4_step_68 k4_102 rfl s_247 (c4_pushD G hG _ _ (b + H a) hh (by omega) _) (Nat.le_of_ble_eq_true rfl) (fun N68 h68 => ?_)
    refine w_goto (tgt := 216) X dX4_step_71 (by decide) ?_
    refine w_iload_n X dX4_step_216 rfl rfl ?_
    refine w_iconst (v := 1) X dX4_step_217 (by decide) ?_
    refine w_iadd X dX4_step_218 ?_
    exact w_irR X dX4_step_219 (SPX_J (t := a + 1) (by omega) (by omega) h68 h10 (by omega) (nI_1 a) (by have := hs.1 (Or.inl h18_0); omega))
  by_cases h18_1 : p = 1
  · refine w_tableIn (tgt := 74) (off := 56) X dX4_step_18 (by rw [h18_1]; decide) (by rw [h18_1]; decide) (by rw [h18_1]; decide) (by decide) ?_
    have g0 := hs.1 (Or.inr h18_1)
    refine w_aload_n X dX4_step_74 rfl rfl ?_
    refine w_lload X dX4_step_75 rfl ?_
    refine w_lconst (v := 0) X dX4_step_77 (by decide) ?_
    refine w_lcmp X dX4_step_78 ?_
    refine w_if_lt (tgt := 99) X dX4_step_79 (by decide) (fun h79 => ?_) (fun h79 => ?_)
    · refine w_iconst (v := 0) X dX4_step_99 (by decide) ?_
      refine w_v1rV X dX4_step_100 k4_102 rfl s_247 (c4_pushD G hG _ _ (b + H a) hh (by omega) _) (Nat.le_of_ble_eq_true rfl) (fun N100 h100 => ?_)
      refine w_goto (tgt := 216) X dX4_step_103 (by decide) ?_
      refine w_iload_n X dX4_step_216 rfl rfl ?_
      refine w_iconst (v := 1) X dX4_step_217 (by decide) ?_
      refine w_iadd X dX4_step_218 ?_
      exact w_irR X dX4_step_219 (SPX_J (t := a + 1) (by omega) (by omega) h100 h10 (by omega) (nI_1 a) (by have := hs.1 (Or.inr h18_1); omega))
    · refine w_lload X dX4_step_82 rfl ?_
      refine w_ldc2 X dX4_step_84 q4_106 ?_
      refine w_lcmp X dX4_step_87 ?_
      refine w_if_ge (tgt := 99) X dX4_step_88 (by decide) (fun h88 => ?_) (fun h88 => ?_)
      · refine w_iconst (v := 0) X dX4_step_99 (by decide) ?_
        refine w_v1rV X dX4_step_100 k4_102 rfl s_247 (c4_pushD G hG _ _ (b + H a) hh (by omega) _) (Nat.le_of_ble_eq_true rfl) (fun N100 h100 => ?_)
        refine w_goto (tgt := 216) X dX4_step_103 (by decide) ?_
        refine w_iload_n X dX4_step_216 rfl rfl ?_
        refine w_iconst (v := 1) X dX4_step_217 (by decide) ?_
        refine w_iadd X dX4_step_218 ?_
        exact w_irR X dX4_step_219 (SPX_J (t := a + 1) (by omega) (by omega) h100 h10 (by omega) (nI_1 a) (by have := hs.1 (Or.inr h18_1); omega))
      · refine w_aload_n X dX4_step_91 rfl rfl ?_
        refine w_lload X dX4_step_92 rfl ?_
        refine w_l2i X dX4_step_94 ?_
        obtain ⟨i7, hi7, ei7⟩ := vi7_ h79 h88
        rw [ei7]
        refine w_ialoadN X dX4_step_95 (vr_row r (by omega)) rfl (⟨hi7, by decide⟩) ?_
        refine w_goto (tgt := 100) X dX4_step_96 (by decide) ?_
        refine w_v1rV X dX4_step_100 k4_102 rfl s_247 (c4_pushD G hG _ _ (b + H a) hh (by omega) _) (Nat.le_of_ble_eq_true rfl) (fun N100 h100 => ?_)
        refine w_goto (tgt := 216) X dX4_step_103 (by decide) ?_
        refine w_iload_n X dX4_step_216 rfl rfl ?_
        refine w_iconst (v := 1) X dX4_step_217 (by decide) ?_
        refine w_iadd X dX4_step_218 ?_
        exact w_irR X dX4_step_219 (SPX_J (t := a + 1) (by omega) (by omega) h100 h10 (by omega) (nI_1 a) (by have := hs.1 (Or.inr h18_1); omega))
  by_cases h18_2 : p = 2
  · refine w_tableIn (tgt := 106) (off := 88) X dX4_step_18 (by rw [h18_2]; decide) (by rw [h18_2]; decide) (by rw [h18_2]; decide) (by decide) ?_
    have g0 := hs.2.1 h18_2
    refine w_aload_n X dX4_step_106 rfl rfl ?_
    refine w_aload_n X dX4_step_107 rfl rfl ?_
    refine w_v0rI X dX4_step_108 k4_91 rfl s_247 (c4_popD G hG _ _ (b + H a - 1) (by rw [hh]; congr 1; omega) (by omega)) (Nat.le_of_ble_eq_true rfl) (fun r108 N108 h108 => ?_)
    refine w_ineg X dX4_step_111 ?_
    refine w_v1rV X dX4_step_112 k4_102 rfl s_247 (c4_pushD G hG _ _ (b + H a - 1) h108.2.1 (by omega) _) (Nat.le_of_ble_eq_true rfl) (fun N112 h112 => ?_)
    refine w_goto (tgt := 216) X dX4_step_115 (by decide) ?_
    refine w_iload_n X dX4_step_216 rfl rfl ?_
    refine w_iconst (v := 1) X dX4_step_217 (by decide) ?_
    refine w_iadd X dX4_step_218 ?_
    exact w_irR X dX4_step_219 (SPX_J (t := a + 1) (by omega) (by omega) (XP_tr h108 h112) h10 (by omega) (nI_1 a) (by have := hs.2.1 h18_2; omega))
  by_cases h18_3 : p = 3
  · refine w_tableIn (tgt := 118) (off := 100) X dX4_step_18 (by rw [h18_3]; decide) (by rw [h18_3]; decide) (by rw [h18_3]; decide) (by decide) ?_
    have g0 := hs.2.2.1 h18_3
    refine w_aload_n X dX4_step_118 rfl rfl ?_
    refine w_aload_n X dX4_step_119 rfl rfl ?_
    refine w_v0rI X dX4_step_120 k4_91 rfl s_247 (c4_popD G hG _ _ (b + H a - 1) (by rw [hh]; congr 1; omega) (by omega)) (Nat.le_of_ble_eq_true rfl) (fun r120 N120 h120 => ?_)
    refine w_v1rV X dX4_step_123 k4_108 rfl s_247 (c4_failD G hG _ _ _) (Nat.le_of_ble_eq_true rfl) (fun N123 h123 => ?_)
    refine w_goto (tgt := 216) X dX4_step_126 (by decide) ?_
    refine w_iload_n X dX4_step_216 rfl rfl ?_
    refine w_iconst (v := 1) X dX4_step_217 (by decide) ?_
    refine w_iadd X dX4_step_218 ?_
    exact w_irR X dX4_step_219 (SPX_I (g := b + H (a + 1)) (IMX_T (by omega) (by omega) h120 h123) ha rfl)
  by_cases h18_4 : p = 4
  · refine w_tableIn (tgt := 129) (off := 111) X dX4_step_18 (by rw [h18_4]; decide) (by rw [h18_4]; decide) (by rw [h18_4]; decide) (by decide) ?_
    obtain ⟨g0, t, hx, ht1, ht2, ht3⟩ := hs.2.2.2.1 h18_4
    refine w_aload_n X dX4_step_129 rfl rfl ?_
    refine w_v0rI X dX4_step_130 k4_91 rfl s_247 (c4_popD G hG _ _ (b + H a - 1) (by rw [hh]; congr 1; omega) (by omega)) (Nat.le_of_ble_eq_true rfl) (fun r130 N130 h130 => ?_)
    refine w_if_ne (tgt := 142) X dX4_step_133 (by decide) (fun h133 => ?_) (fun h133 => ?_)
    · refine w_iload_n X dX4_step_142 rfl rfl ?_
      refine w_iconst (v := 1) X dX4_step_143 (by decide) ?_
      refine w_iadd X dX4_step_144 ?_
      exact w_irR X dX4_step_145 (SPX_J (t := a + 1) (by omega) (by omega) h130 h10 (by omega) (nI_1 a) (by omega))
    · refine w_lload X dX4_step_136 rfl ?_
      refine w_l2i X dX4_step_138 ?_
      refine w_goto (tgt := 145) X dX4_step_139 (by decide) ?_
      exact w_irR X dX4_step_145 (SPX_J (t := t) (by omega) (by omega) h130 h10 ht1 hx (by omega))
  by_cases h18_5 : p = 5
  · refine w_tableIn (tgt := 146) (off := 128) X dX4_step_18 (by rw [h18_5]; decide) (by rw [h18_5]; decide) (by rw [h18_5]; decide) (by decide) ?_
    obtain ⟨t, hx, ht1, ht2, ht3⟩ := hs.2.2.2.2.1 (Or.inl h18_5)
    refine w_lload X dX4_step_146 rfl ?_
    refine w_l2i X dX4_step_148 ?_
    exact w_irR X dX4_step_149 (SPX_J (t := t) (by omega) (by omega) (XP_rf hh) h10 ht1 hx (by omega))
  by_cases h18_6 : p = 6
  · refine w_tableIn (tgt := 146) (off := 128) X dX4_step_18 (by rw [h18_6]; decide) (by rw [h18_6]; decide) (by rw [h18_6]; decide) (by decide) ?_
    obtain ⟨t, hx, ht1, ht2, ht3⟩ := hs.2.2.2.2.1 (Or.inr h18_6)
    refine w_lload X dX4_step_146 rfl ?_
    refine w_l2i X dX4_step_148 ?_
    exact w_irR X dX4_step_149 (SPX_J (t := t) (by omega) (by omega) (XP_rf hh) h10 ht1 hx (by omega))
  by_cases h18_7 : p = 7
  · refine w_tableIn (tgt := 150) (off := 132) X dX4_step_18 (by rw [h18_7]; decide) (by rw [h18_7]; decide) (by rw [h18_7]; decide) (by decide) ?_
    obtain ⟨j, hj1, hj2, hj3, hj4⟩ := hs.2.2.2.2.2.1 h18_7
    refine w_aload_n X dX4_step_150 rfl rfl ?_
    refine w_lload X dX4_step_151 rfl ?_
    refine w_aload_n X dX4_step_153 rfl rfl ?_
    refine w_iconst (v := 5) X dX4_step_154 (by decide) ?_
    refine w_ialoadN X dX4_step_155 (vr_row r (by omega)) rfl (⟨by decide, by decide⟩) ?_
    refine w_iconst (v := 1) X dX4_step_156 (by decide) ?_
    rw [hd5]
    refine w_iadd X dX4_step_157 ?_
    rw [nI_1]
    refine w_v2rV X dX4_step_158 k4_111 rfl s_247 (c4_invokeNamed G hG e c J S r w hI hr M hM _ j hj1 hj2 (b + H a) hh (by omega) (by omega) h10) (Nat.le_of_ble_eq_true rfl) (fun N158 h158 => ?_)
    refine w_goto (tgt := 216) X dX4_step_161 (by decide) ?_
    refine w_iload_n X dX4_step_216 rfl rfl ?_
    refine w_iconst (v := 1) X dX4_step_217 (by decide) ?_
    refine w_iadd X dX4_step_218 ?_
    exact w_irR X dX4_step_219 (SPX_I h158 ha (by omega))
  have t18_0 : (0 : Int) ≠ (p).toInt := fun q => h18_0 (Int32.toInt_inj.mp (by rw [← q]; decide))
  have t18_1 : (1 : Int) ≠ (p).toInt := fun q => h18_1 (Int32.toInt_inj.mp (by rw [← q]; decide))
  have t18_2 : (2 : Int) ≠ (p).toInt := fun q => h18_2 (Int32.toInt_inj.mp (by rw [← q]; decide))
  have t18_3 : (3 : Int) ≠ (p).toInt := fun q => h18_3 (Int32.toInt_inj.mp (by rw [← q]; decide))
  have t18_4 : (4 : Int) ≠ (p).toInt := fun q => h18_4 (Int32.toInt_inj.mp (by rw [← q]; decide))
  have t18_5 : (5 : Int) ≠ (p).toInt := fun q => h18_5 (Int32.toInt_inj.mp (by rw [← q]; decide))
  have t18_6 : (6 : Int) ≠ (p).toInt := fun q => h18_6 (Int32.toInt_inj.mp (by rw [← q]; decide))
  have t18_7 : (7 : Int) ≠ (p).toInt := fun q => h18_7 (Int32.toInt_inj.mp (by rw [← q]; decide))
  refine w_tableOut (tgt := 164) X dX4_step_18 (by omega) (by decide) ?_
  obtain ⟨g0, g1⟩ := hs.2.2.2.2.2.2 h18_0 h18_1 h18_2 h18_3 h18_4 h18_5 h18_6 h18_7
  refine w_aload_n X dX4_step_164 rfl rfl ?_
  refine w_v0rI X dX4_step_165 k4_91 rfl s_247 (c4_popD G hG _ _ (b + H a - 1) (by rw [hh]; congr 1; omega) (by omega)) (Nat.le_of_ble_eq_true rfl) (fun r165 N165 h165 => ?_)
  refine w_istore X dX4_step_168 (by decide) ?_
  refine w_aload_n X dX4_step_170 rfl rfl ?_
  refine w_v0rI X dX4_step_171 k4_91 rfl s_247 (c4_popD G hG _ _ (b + H a - 2) (by rw [h165.2.1]; congr 1; omega) (by omega)) (Nat.le_of_ble_eq_true rfl) (fun r171 N171 h171 => ?_)
  refine w_istore X dX4_step_174 (by decide) ?_
  refine w_iload X dX4_step_176 rfl ?_
  refine w_if_ne (tgt := 203) X dX4_step_178 (by decide) (fun h178 => ?_) (fun h178 => ?_)
  · refine w_aload_n X dX4_step_203 rfl rfl ?_
    refine w_iload X dX4_step_204 rfl ?_
    refine w_iload X dX4_step_206 rfl ?_
    refine w_iload X dX4_step_208 rfl ?_
    refine w_s3fI X dX4_step_210 k4_115 (c4_joined G hG _ _ _ _ _) (Nat.le_of_ble_eq_true rfl) ?_
    refine w_v1rV X dX4_step_213 k4_102 rfl s_247 (c4_pushD G hG _ _ (b + H a - 2) h171.2.1 (by omega) _) (Nat.le_of_ble_eq_true rfl) (fun N213 h213 => ?_)
    refine w_iload_n X dX4_step_216 rfl rfl ?_
    refine w_iconst (v := 1) X dX4_step_217 (by decide) ?_
    refine w_iadd X dX4_step_218 ?_
    exact w_irR X dX4_step_219 (SPX_J (t := a + 1) (by omega) (by omega) (XP_tr (XP_tr h165 h171) h213) h10 (by omega) (nI_1 a) (by omega))
  · refine w_iload X dX4_step_181 rfl ?_
    refine w_bipush (v := 47) X dX4_step_183 (by decide) ?_
    refine w_icmp_eq (tgt := 195) X dX4_step_185 (by decide) (fun h185 => ?_) (fun h185 => ?_)
    · refine w_aload_n X dX4_step_195 rfl rfl ?_
      refine w_iconst (v := -1) X dX4_step_196 (by decide) ?_
      refine w_v1rV X dX4_step_197 k4_108 rfl s_247 (c4_failD G hG _ _ _) (Nat.le_of_ble_eq_true rfl) (fun N197 h197 => ?_)
      refine w_goto (tgt := 216) X dX4_step_200 (by decide) ?_
      refine w_iload_n X dX4_step_216 rfl rfl ?_
      refine w_iconst (v := 1) X dX4_step_217 (by decide) ?_
      refine w_iadd X dX4_step_218 ?_
      exact w_irR X dX4_step_219 (SPX_I (g := b + H (a + 1)) (IMX_T (by omega) (by omega) (XP_tr h165 h171) h197) ha rfl)
    · refine w_iload X dX4_step_188 rfl ?_
      refine w_bipush (v := 37) X dX4_step_190 (by decide) ?_
      refine w_icmp_ne (tgt := 203) X dX4_step_192 (by decide) (fun h192 => ?_) (fun h192 => ?_)
      · refine w_aload_n X dX4_step_203 rfl rfl ?_
        refine w_iload X dX4_step_204 rfl ?_
        refine w_iload X dX4_step_206 rfl ?_
        refine w_iload X dX4_step_208 rfl ?_
        refine w_s3fI X dX4_step_210 k4_115 (c4_joined G hG _ _ _ _ _) (Nat.le_of_ble_eq_true rfl) ?_
        refine w_v1rV X dX4_step_213 k4_102 rfl s_247 (c4_pushD G hG _ _ (b + H a - 2) h171.2.1 (by omega) _) (Nat.le_of_ble_eq_true rfl) (fun N213 h213 => ?_)
        refine w_iload_n X dX4_step_216 rfl rfl ?_
        refine w_iconst (v := 1) X dX4_step_217 (by decide) ?_
        refine w_iadd X dX4_step_218 ?_
        exact w_irR X dX4_step_219 (SPX_J (t := a + 1) (by omega) (by omega) (XP_tr (XP_tr h165 h171) h213) h10 (by omega) (nI_1 a) (by omega))
      · refine w_aload_n X dX4_step_195 rfl rfl ?_
        refine w_iconst (v := -1) X dX4_step_196 (by decide) ?_
        refine w_v1rV X dX4_step_197 k4_108 rfl s_247 (c4_failD G hG _ _ _) (Nat.le_of_ble_eq_true rfl) (fun N197 h197 => ?_)
        refine w_goto (tgt := 216) X dX4_step_200 (by decide) ?_
        refine w_iload_n X dX4_step_216 rfl rfl ?_
        refine w_iconst (v := 1) X dX4_step_217 (by decide) ?_
        refine w_iadd X dX4_step_218 ?_
        exact w_irR X dX4_step_219 (SPX_I (g := b + H (a + 1)) (IMX_T (by omega) (by omega) (XP_tr h165 h171) h197) ha rfl)
