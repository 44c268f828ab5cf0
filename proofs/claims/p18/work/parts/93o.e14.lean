section
/-! Machine: invoke and start, exactly -/
def CP_ (G : gg_) (d r m p : Nat) (N : mm_) (Q : mm_ → Prop) : Prop := cm_ G yX4_probe cX4_probe 6 none (d + 5) [.ref (G.1 247), .int (nI m), .int (nI p), .ref (G.1 (249 + r))] N (rV_ Q)
def CRn_ (G : gg_) (d r k : Nat) (N : mm_) (Q : Int32 → mm_ → Prop) : Prop := cm_ G yX4_run cX4_run 7 (some .int) (d + 5) [.ref (G.1 247), .ref (G.1 k), .ref (G.1 (249 + r))] N (rI_ Q)
/-- behind the body: v what it returned or threw -/
def IVB_ (G : gg_) (d r m : Nat) (Q : Int32 → mm_ → Prop) (v : Int32) (N : mm_) : Prop := zoX_ (N.1 247 10) ∧
  (N.1 247 10 = 0 → ∃ QP : mm_ → Prop, CP_ G d r m 1 (sI_ N (249 + r) 3 v) QP ∧ ∀ N4, QP N4 → Q v (sI_ N4 247 10 0)) ∧
  (¬ N.1 247 10 = 0 → ∃ QP : mm_ → Prop, CP_ G d r m 2 (sI_ N (249 + r) 4 v) QP ∧ ∀ N4, QP N4 → Q v (sI_ N4 247 10 1))
/-- as an invocation begins -/
def IVA_ (M : mm_) (r : Nat) : mm_ := sI_ (sI_ (sI_ (sI_ M 247 1 (M.1 247 1 + 1)) (249 + r) 3 0) (249 + r) 4 0) (249 + r) 5 (nI r)
set_option maxRecDepth 100000 in
set_option maxHeartbeats 600000 in
theorem c4_invokeTE (G : gg_) (hG : gd_ G) (d : Nat) (M : mm_) (m : Nat) : cm_ G yX4_invoke cX4_invoke 6 (some .int) (d) [.ref (G.1 247), .int (nI m), .int (nI 11)] M (fI_ (-2) (sI_ M 247 10 1)) := by
  refine cm_of hG (by decide) (Nat.le_of_ble_eq_true rfl) (fun C X => ?_)
  refine w_iload_n X dX4_invoke_0 rfl rfl ?_
  refine w_bipush (v := 10) X dX4_invoke_1 (by decide) ?_
  refine w_icmp_le (tgt := 14) X dX4_invoke_3 (by decide) (fun h3 => absurd h3 (by decide)) (fun h3 => ?_)
  refine w_aload_n X dX4_invoke_6 rfl rfl ?_
  refine w_iconst (v := 1) X dX4_invoke_7 (by decide) ?_
  refine p4_58 X dX4_invoke_8 s_247 rfl (by first | exact Or.inl rfl | exact Or.inr rfl | assumption) ?_
  refine w_bipush (v := -2) X dX4_invoke_11 (by decide) ?_
  exact w_irF X dX4_invoke_13 rfl rfl
set_option maxRecDepth 100000 in
set_option maxHeartbeats 600000 in
theorem c4_invokeE (G : gg_) (hG : gd_ G) (d c r : Nat) (hr1 : 1 ≤ r) (hr : r ≤ 10) (M : mm_) (hc : mt_ M c) (hb : mb2_ M) (hV : vq_ M) (m : Nat) (hm : m < c) (Q : Int32 → mm_ → Prop) (h1 : 1000 ≤ M.1 247 1 → Q (-3) (sI_ (sI_ M 247 10 1) 247 12 1)) (h2 : ¬ 1000 ≤ M.1 247 1 → ∃ QP : mm_ → Prop, CP_ G d r m 0 (IVA_ M r) QP ∧ ∀ N, QP N → mt_ N c ∧ mb2_ N ∧ ∃ QR : Int32 → mm_ → Prop, CRn_ G d r (48 + 5 * m) N QR ∧ ∀ v N2, QR v N2 → IVB_ G d r m Q v N2) : cm_ G yX4_invoke cX4_invoke 6 (some .int) (d + 6) [.ref (G.1 247), .int (nI m), .int (nI r)] M (rI_ Q) := by
  refine cm_of hG (by decide) (Nat.le_of_ble_eq_true rfl) (fun C X => ?_)
  refine w_iload_n X dX4_invoke_0 rfl rfl ?_
  refine w_bipush (v := 10) X dX4_invoke_1 (by decide) ?_
  refine w_icmp_le (tgt := 14) X dX4_invoke_3 (by decide) (fun h3 => ?_) (fun h3 => absurd (nI_le (a := r) (b := 10) hr (by decide)) h3)
  refine w_aload_n X dX4_invoke_14 rfl rfl ?_
  refine g4_41 X dX4_invoke_15 s_247 rfl ?_
  refine w_sipush (v := 1000) X dX4_invoke_18 (by decide) ?_
  refine w_icmp_lt (tgt := 37) X dX4_invoke_21 (by decide) (fun h21 => ?_) (fun h21 => ?_)
  · obtain ⟨QP, hP1, hP2⟩ := h2 (fun z => absurd h21 (Int32.not_lt.mpr z))
    refine w_aload_n X dX4_invoke_37 rfl rfl ?_
    refine w_dup X dX4_invoke_38 rfl ?_
    refine g4_41 X dX4_invoke_39 s_247 rfl ?_
    refine w_iconst (v := 1) X dX4_invoke_42 (by decide) ?_
    refine w_iadd X dX4_invoke_43 ?_
    refine p4_41 X dX4_invoke_44 s_247 rfl ?_
    refine w_aload_n X dX4_invoke_47 rfl rfl ?_
    refine g4_28 X dX4_invoke_48 s_247 rfl ?_
    refine w_iload_n X dX4_invoke_51 rfl rfl ?_
    refine w_aaload X dX4_invoke_52 s_248 rfl rfl (⟨by omega, by decide⟩) (hV r (by omega)) ?_
    refine w_astore_n X dX4_invoke_53 rfl (by decide) ?_
    refine w_aload_n X dX4_invoke_54 rfl rfl ?_
    refine w_iconst (v := 3) X dX4_invoke_55 (by decide) ?_
    refine w_iconst (v := 0) X dX4_invoke_56 (by decide) ?_
    refine w_iastoreN X dX4_invoke_57 (vr_row r (by omega)) rfl (⟨by decide, by decide⟩) ?_
    refine w_aload_n X dX4_invoke_58 rfl rfl ?_
    refine w_iconst (v := 4) X dX4_invoke_59 (by decide) ?_
    refine w_iconst (v := 0) X dX4_invoke_60 (by decide) ?_
    refine w_iastoreN X dX4_invoke_61 (vr_row r (by omega)) rfl (⟨by decide, by decide⟩) ?_
    refine w_aload_n X dX4_invoke_62 rfl rfl ?_
    refine w_iconst (v := 5) X dX4_invoke_63 (by decide) ?_
    refine w_iload_n X dX4_invoke_64 rfl rfl ?_
    refine w_iastoreN X dX4_invoke_65 (vr_row r (by omega)) rfl (⟨by decide, by decide⟩) ?_
    refine w_aload_n X dX4_invoke_66 rfl rfl ?_
    refine w_iload_n X dX4_invoke_67 rfl rfl ?_
    refine w_iconst (v := 0) X dX4_invoke_68 (by decide) ?_
    refine w_aload_n X dX4_invoke_69 rfl rfl ?_
    refine w_v3rV X dX4_invoke_70 k4_63 rfl s_247 (hP1) (Nat.le_of_ble_eq_true rfl) (fun N70 h70 => ?_)
    obtain ⟨hcN, hbN, QR, hR1, hR2⟩ := hP2 _ h70
    refine w_aload_n X dX4_invoke_73 rfl rfl ?_
    refine w_aload_n X dX4_invoke_74 rfl rfl ?_
    refine g4_9 X dX4_invoke_75 s_247 rfl ?_
    refine w_iload_n X dX4_invoke_78 rfl rfl ?_
    refine w_v1fR X dX4_invoke_79 k4_67 rfl s_45 (c5_body G hG _ _ c hcN hbN m hm) (Nat.le_of_ble_eq_true rfl) ?_
    refine w_aload_n X dX4_invoke_82 rfl rfl ?_
    refine w_v2rI X dX4_invoke_83 k4_73 rfl s_247 (hR1) (Nat.le_of_ble_eq_true rfl) (fun r83 N83 h83 => ?_)
    refine w_istore X dX4_invoke_86 (by decide) ?_
    obtain ⟨hB1, hB2, hB3⟩ := hR2 _ _ h83
    refine w_aload_n X dX4_invoke_88 rfl rfl ?_
    refine g4_58 X dX4_invoke_89 s_247 rfl ?_
    refine w_istore X dX4_invoke_92 (by decide) ?_
    refine w_aload_n X dX4_invoke_94 rfl rfl ?_
    refine w_iload X dX4_invoke_95 rfl ?_
    refine w_if_eq (tgt := 104) X dX4_invoke_97 (by decide) (fun h97 => ?_) (fun h97 => ?_)
    · refine w_iconst (v := 3) X dX4_invoke_104 (by decide) ?_
      refine w_iload X dX4_invoke_105 rfl ?_
      refine w_iastoreN X dX4_invoke_107 (vr_row r (by omega)) rfl (⟨by decide, by decide⟩) ?_
      obtain ⟨QP2, hP5, hP6⟩ := hB2 h97
      refine w_aload_n X dX4_invoke_108 rfl rfl ?_
      refine w_iload_n X dX4_invoke_109 rfl rfl ?_
      refine w_iload X dX4_invoke_110 rfl ?_
      refine w_if_eq (tgt := 119) X dX4_invoke_112 (by decide) (fun h112 => ?_) (fun h112 => absurd (h97) h112)
      refine w_iconst (v := 1) X dX4_invoke_119 (by decide) ?_
      refine w_aload_n X dX4_invoke_120 rfl rfl ?_
      refine w_v3rV X dX4_invoke_121 k4_63 rfl s_247 (hP5) (Nat.le_of_ble_eq_true rfl) (fun N121 h121 => ?_)
      refine w_aload_n X dX4_invoke_124 rfl rfl ?_
      refine w_iload X dX4_invoke_125 rfl ?_
      refine p4_58 X dX4_invoke_127 s_247 rfl (hB1) ?_
      refine w_iload X dX4_invoke_130 rfl ?_
      have z3 := hP6 _ h121
      rw [h97]
      exact w_irR X dX4_invoke_132 z3
    · refine w_iconst (v := 4) X dX4_invoke_100 (by decide) ?_
      refine w_goto (tgt := 105) X dX4_invoke_101 (by decide) ?_
      refine w_iload X dX4_invoke_105 rfl ?_
      refine w_iastoreN X dX4_invoke_107 (vr_row r (by omega)) rfl (⟨by decide, by decide⟩) ?_
      obtain ⟨QP2, hP5, hP6⟩ := hB3 h97
      have hz1 := hB1.resolve_left h97
      refine w_aload_n X dX4_invoke_108 rfl rfl ?_
      refine w_iload_n X dX4_invoke_109 rfl rfl ?_
      refine w_iload X dX4_invoke_110 rfl ?_
      refine w_if_eq (tgt := 119) X dX4_invoke_112 (by decide) (fun h112 => absurd h112 h97) (fun h112 => ?_)
      refine w_iconst (v := 2) X dX4_invoke_115 (by decide) ?_
      refine w_goto (tgt := 120) X dX4_invoke_116 (by decide) ?_
      refine w_aload_n X dX4_invoke_120 rfl rfl ?_
      refine w_v3rV X dX4_invoke_121 k4_63 rfl s_247 (hP5) (Nat.le_of_ble_eq_true rfl) (fun N121 h121 => ?_)
      refine w_aload_n X dX4_invoke_124 rfl rfl ?_
      refine w_iload X dX4_invoke_125 rfl ?_
      refine p4_58 X dX4_invoke_127 s_247 rfl (hB1) ?_
      refine w_iload X dX4_invoke_130 rfl ?_
      have z3 := hP6 _ h121
      rw [hz1]
      exact w_irR X dX4_invoke_132 z3
  · refine w_aload_n X dX4_invoke_24 rfl rfl ?_
    refine w_iconst (v := 1) X dX4_invoke_25 (by decide) ?_
    refine p4_58 X dX4_invoke_26 s_247 rfl (by first | exact Or.inl rfl | exact Or.inr rfl | assumption) ?_
    refine w_aload_n X dX4_invoke_29 rfl rfl ?_
    refine w_iconst (v := 1) X dX4_invoke_30 (by decide) ?_
    refine p4_45 X dX4_invoke_31 s_247 rfl (by first | exact Or.inl rfl | exact Or.inr rfl | assumption) ?_
    refine w_bipush (v := -3) X dX4_invoke_34 (by decide) ?_
    exact w_irR X dX4_invoke_36 (h1 (Int32.not_lt.mp h21))
set_option maxRecDepth 100000 in
set_option maxHeartbeats 600000 in
theorem c4_startE (G : gg_) (hG : gd_ G) (d : Nat) (M : mm_) (m : Nat) (z : Int32) (hz : zoX_ z) (QI : Int32 → mm_ → Prop) (h1 : cm_ G yX4_invoke cX4_invoke 6 (some .int) (d + 6) [.ref (G.1 247), .int (nI m), .int (nI 1)] (sI_ (sI_ (sI_ (sI_ M 247 9 z) 247 1 0) 247 12 0) 247 8 0) (rI_ QI)) : cm_ G yX4_start cX4_start 3 (some .int) (d + 7) [.ref (G.1 247), .int (nI m), .int z] M (rI_ (fun q N => ∃ v N0, QI v N0 ∧ N = sI_ N0 247 0 v ∧ q = if N0.1 247 10 = 0 then 0 else 1)) := by
  refine cm_of hG (by decide) (Nat.le_of_ble_eq_true rfl) (fun C X => ?_)
  refine w_aload_n X dX4_start_0 rfl rfl ?_
  refine w_iload_n X dX4_start_1 rfl rfl ?_
  refine p4_37 X dX4_start_2 s_247 rfl (hz) ?_
  refine w_aload_n X dX4_start_5 rfl rfl ?_
  refine w_iconst (v := 0) X dX4_start_6 (by decide) ?_
  refine p4_41 X dX4_start_7 s_247 rfl ?_
  refine w_aload_n X dX4_start_10 rfl rfl ?_
  refine w_iconst (v := 0) X dX4_start_11 (by decide) ?_
  refine p4_45 X dX4_start_12 s_247 rfl (by first | exact Or.inl rfl | exact Or.inr rfl | assumption) ?_
  refine w_aload_n X dX4_start_15 rfl rfl ?_
  refine w_iconst (v := 0) X dX4_start_16 (by decide) ?_
  refine p4_48 X dX4_start_17 s_247 rfl ?_
  refine w_aload_n X dX4_start_20 rfl rfl ?_
  refine w_aload_n X dX4_start_21 rfl rfl ?_
  refine w_iload_n X dX4_start_22 rfl rfl ?_
  refine w_iconst (v := 1) X dX4_start_23 (by decide) ?_
  refine w_v2rI X dX4_start_24 k4_51 rfl s_247 (h1) (Nat.le_of_ble_eq_true rfl) (fun r24 N24 h24 => ?_)
  refine p4_55 X dX4_start_27 s_247 rfl ?_
  refine w_aload_n X dX4_start_30 rfl rfl ?_
  refine g4_58 X dX4_start_31 s_247 rfl ?_
  rw [gI_sI, if_neg (by omega)]
  refine w_if_eq (tgt := 41) X dX4_start_34 (by decide) (fun h34 => ?_) (fun h34 => ?_)
  · refine w_iconst (v := 0) X dX4_start_41 (by decide) ?_
    exact w_irR X dX4_start_42 ⟨_, _, h24, rfl, by rw [if_pos h34]⟩
  · refine w_iconst (v := 1) X dX4_start_37 (by decide) ?_
    refine w_goto (tgt := 42) X dX4_start_38 (by decide) ?_
    exact w_irR X dX4_start_42 ⟨_, _, h24, rfl, by rw [if_neg h34]⟩

end
section
/-! The class's Machine runs the code of a tree as ES_ says -/
def st_ (b : Nat) : List Int32 → mm_ → Prop
  | [], _ => True
  | x :: t, N => N.1 261 (b + t.length) = x ∧ st_ b t N
theorem st_cg {b : Nat} : ∀ {t : List Int32} {M N : mm_}, (∀ i, i < b + t.length → N.1 261 i = M.1 261 i) → st_ b t M → st_ b t N
  | [], _, _, _, _ => trivial
  | x :: t, M, N, h, g => ⟨by rw [h _ (by rw [List.length_cons]; omega)]; exact g.1, st_cg (fun i hi => h i (by rw [List.length_cons]; omega)) g.2⟩
/-- what a run at depth r, the stack b high, leaves alone -/
def XF_ (r b : Nat) (M N : mm_) : Prop := N.2 = M.2 ∧ (∀ a i, faX_ a i → N.1 a i = M.1 a i) ∧ (∀ q i, q ≤ r → N.1 (249 + q) i = M.1 (249 + q) i) ∧ (∀ i, i < b → N.1 261 i = M.1 261 i) ∧ N.1 247 9 = M.1 247 9 ∧ ∀ t, t < 9 → (N.1 (135 + 12 * t) 0 = M.1 (135 + 12 * t) 0 ∨ N.1 (135 + 12 * t) 0 = 0)
theorem XF_rf {r b : Nat} {M : mm_} : XF_ r b M M := ⟨rfl, fun _ _ _ => rfl, fun _ _ _ => rfl, fun _ _ => rfl, rfl, fun _ _ => Or.inl rfl⟩
theorem XF_tr {r b : Nat} {A B D : mm_} (h : XF_ r b A B) (g : XF_ r b B D) : XF_ r b A D := ⟨g.1.trans h.1, fun a i z => (g.2.1 a i z).trans (h.2.1 a i z), fun q i z => (g.2.2.1 q i z).trans (h.2.2.1 q i z), fun i z => (g.2.2.2.1 i z).trans (h.2.2.2.1 i z), g.2.2.2.2.1.trans h.2.2.2.2.1, fun t ht => by
  rcases g.2.2.2.2.2 t ht with y | y
  · rw [y]; exact h.2.2.2.2.2 t ht
  · exact Or.inr y⟩
theorem XF_le {r b r2 b2 : Nat} {M N : mm_} (h : XF_ r b M N) (hr : r2 ≤ r) (hb : b2 ≤ b) : XF_ r2 b2 M N := ⟨h.1, h.2.1, fun q i z => h.2.2.1 q i (by omega), fun i z => h.2.2.2.1 i (by omega), h.2.2.2.2⟩
/-- one place changes -/
theorem XF_I {r b a i : Nat} {M N : mm_} {v : Int32} (ha : ¬ faX_ a i) (h1 : ∀ q, q ≤ r → ¬ a = 249 + q) (h2 : a = 261 → b ≤ i) (h3 : ¬ (a = 247 ∧ i = 9)) (h4 : ∀ t, t < 9 → a = 135 + 12 * t → i = 0 → v = 0) (h : XF_ r b M N) : XF_ r b M (sI_ N a i v) := ⟨h.1, fun a2 j z => by rw [gI_sI, if_neg (fun y => ha (by rw [← y.1, ← y.2]; exact z))]; exact h.2.1 a2 j z, fun q j z => by rw [gI_sI, if_neg (fun y => h1 q z y.1.symm)]; exact h.2.2.1 q j z, fun j z => by rw [gI_sI, if_neg (fun y => by have := h2 y.1.symm; omega)]; exact h.2.2.2.1 j z, by rw [gI_sI, if_neg (fun y => h3 ⟨y.1.symm, y.2.symm⟩)]; exact h.2.2.2.2.1, fun t ht => by
  rw [gI_sI]
  split
  · rename_i y; exact Or.inr (h4 t ht y.1.symm y.2.symm)
  · exact h.2.2.2.2.2 t ht⟩
theorem XF_247 {r b i : Nat} {M N : mm_} {v : Int32} (hr : r ≤ 11) (h9 : ¬ i = 9) (h : XF_ r b M N) : XF_ r b M (sI_ N 247 i v) := XF_I (by unfold faX_; omega) (fun q _ => by omega) (fun y => by omega) (by omega) (fun t ht y => by omega) h
theorem XF_261 {r b i : Nat} {M N : mm_} {v : Int32} (hr : r ≤ 11) (hi : b ≤ i) (h : XF_ r b M N) : XF_ r b M (sI_ N 261 i v) := XF_I (by unfold faX_; omega) (fun q _ => by omega) (fun _ => hi) (by omega) (fun t ht y => by omega) h
/-- the moving state, in the class -/
def DX_ (J : Nat → Nat) (s : sgA_) (N : mm_) : Prop := (∀ j, j < 8 → N.1 (135 + 12 * J j) 0 = s.1 j ∧ N.1 (135 + 12 * J j) 7 = s.2.1 j ∧ ∀ i, i < 48 → N.1 (135 + 12 * J j + 11) i = s.2.2.1 j i) ∧
  (N.1 243 0 = 300 ∧ N.1 243 1 = 5 ∧ N.1 243 3 = nI s.2.2.2.1.1 ∧ s.2.2.2.1.1 ≤ 300 ∧ ∀ i, i < s.2.2.2.1.1 * 5 → N.1 244 i = s.2.2.2.1.2 i) ∧
  (N.1 245 0 = 40 ∧ N.1 245 1 = 7 ∧ N.1 245 3 = nI s.2.2.2.2.1.1 ∧ s.2.2.2.2.1.1 ≤ 40 ∧ ∀ i, i < s.2.2.2.2.1.1 * 7 → N.1 246 i = s.2.2.2.2.1.2 i) ∧ N.1 247 1 = nI s.2.2.2.2.2 ∧ s.2.2.2.2.2 ≤ 1000
theorem DX_cg {J : Nat → Nat} {s : sgA_} {M N : mm_} (hJ : ∀ j, j < 8 → J j < 9) (h : ∀ a i, (135 ≤ a ∧ a ≤ 246) ∨ (a = 247 ∧ i = 1) → N.1 a i = M.1 a i) (g : DX_ J s M) : DX_ J s N := by
  obtain ⟨g1, ⟨a1, a2, a3, a4, a5⟩, ⟨b1, b2, b3, b4, b5⟩, g4, g5⟩ := g
  refine ⟨fun j hj => ?_, ⟨by rw [h _ _ (by omega)]; exact a1, by rw [h _ _ (by omega)]; exact a2, by rw [h _ _ (by omega)]; exact a3, a4, fun i hi => by rw [h _ _ (by omega)]; exact a5 i hi⟩, ⟨by rw [h _ _ (by omega)]; exact b1, by rw [h _ _ (by omega)]; exact b2, by rw [h _ _ (by omega)]; exact b3, b4, fun i hi => by rw [h _ _ (by omega)]; exact b5 i hi⟩, by rw [h _ _ (by omega)]; exact g4, g5⟩
  have := hJ j hj
  obtain ⟨c1, c2, c3⟩ := g1 j hj
  exact ⟨by rw [h _ _ (by omega)]; exact c1, by rw [h _ _ (by omega)]; exact c2, fun i hi => by rw [h _ _ (by omega)]; exact c3 i hi⟩
theorem DX_m {J : Nat → Nat} {s : sgA_} {M : mm_} {a i : Nat} {v : Int32} (hJ : ∀ j, j < 8 → J j < 9) (ha : 247 ≤ a) (hi : ¬ (a = 247 ∧ i = 1)) (g : DX_ J s M) : DX_ J s (sI_ M a i v) := DX_cg hJ (fun b j z => by rw [gI_sI, if_neg (by omega)]) g
/-- within a run: the values t on the stack -/
def ZX_ (J : Nat → Nat) (r b : Nat) (M0 : mm_) (z : Int32) (t : List Int32) (s : sgA_) (N : mm_) : Prop := XF_ r b M0 N ∧ N.1 247 8 = nI (b + t.length) ∧ st_ b t N ∧ N.1 247 10 = 0 ∧ N.1 247 12 = z ∧ DX_ J s N
/-- something is thrown; the values t are still below -/
def TX_ (J : Nat → Nat) (r b : Nat) (M0 : mm_) (z : Int32) (t : List Int32) (q : Nat × Int32) (s : sgA_) (N : mm_) : Prop := XF_ r b M0 N ∧ (∃ h, h ≤ 220 ∧ N.1 247 8 = nI h) ∧ st_ b t N ∧ N.1 247 10 = 1 ∧ N.1 247 11 = q.2 ∧ N.1 247 12 = (if q.1 = 2 then 1 else z) ∧ DX_ J s N
section ZX
variable {J : Nat → Nat} {r b : Nat} {M0 : mm_} {z : Int32} {t : List Int32} {s : sgA_} {N : mm_} {q : Nat × Int32}
theorem ZX_push (hJ : ∀ j, j < 8 → J j < 9) (hr : r ≤ 11) (hb : b + t.length < 220) (v : Int32) (h : ZX_ J r b M0 z t s N) : ZX_ J r b M0 z (v :: t) s (puX_ N (b + t.length) v) := by
  obtain ⟨h1, h2, h3, h4, h5, h6⟩ := h
  unfold puX_
  rw [if_pos hb]
  refine ⟨XF_247 hr (by omega) (XF_261 hr (by omega) h1), by rw [gI_sI, if_pos ⟨rfl, rfl⟩, List.length_cons, Nat.add_assoc], ⟨by rw [gI_sI, if_neg (by omega), gI_sI, if_pos ⟨rfl, rfl⟩], st_cg (fun i hi => by rw [gI_sI, if_neg (by omega), gI_sI, if_neg (by omega)]) h3⟩, by rw [gI_sI, if_neg (by omega), gI_sI, if_neg (by omega)]; exact h4, by rw [gI_sI, if_neg (by omega), gI_sI, if_neg (by omega)]; exact h5, DX_m hJ (by omega) (by omega) (DX_m hJ (by omega) (by omega) h6)⟩
theorem ZX_pop (hJ : ∀ j, j < 8 → J j < 9) (hr : r ≤ 11) {x : Int32} (h : ZX_ J r b M0 z (x :: t) s N) : (ppX_ N (b + (x :: t).length)).1 = x ∧ ZX_ J r b M0 z t s (ppX_ N (b + (x :: t).length)).2 := by
  obtain ⟨h1, h2, h3, h4, h5, h6⟩ := h
  rw [List.length_cons, pp_pos (by omega), show b + (t.length + 1) - 1 = b + t.length by omega]
  exact ⟨h3.1, XF_247 hr (by omega) h1, by rw [gI_sI, if_pos ⟨rfl, rfl⟩], st_cg (fun i hi => by rw [gI_sI, if_neg (by omega)]) h3.2, by rw [gI_sI, if_neg (by omega)]; exact h4, by rw [gI_sI, if_neg (by omega)]; exact h5, DX_m hJ (by omega) (by omega) h6⟩
theorem ZX_fl (hJ : ∀ j, j < 8 → J j < 9) (hr : r ≤ 11) (hb : b + t.length ≤ 220) (v : Int32) (h : ZX_ J r b M0 z t s N) : TX_ J r b M0 z t (1, v) s (flX_ N v) := by
  obtain ⟨h1, h2, h3, h4, h5, h6⟩ := h
  unfold flX_
  refine ⟨XF_247 hr (by omega) (XF_247 hr (by omega) h1), ⟨b + t.length, hb, by rw [gI_sI, if_neg (by omega), gI_sI, if_neg (by omega)]; exact h2⟩, st_cg (fun i hi => by rw [gI_sI, if_neg (by omega), gI_sI, if_neg (by omega)]) h3, by rw [gI_sI, if_neg (by omega), gI_sI, if_pos ⟨rfl, rfl⟩], by rw [gI_sI, if_pos ⟨rfl, rfl⟩], by rw [gI_sI, if_neg (by omega), gI_sI, if_neg (by omega), if_neg (by simp)]; exact h5, DX_m hJ (by omega) (by omega) (DX_m hJ (by omega) (by omega) h6)⟩
theorem TX_dn {x : Int32} (h : TX_ J r b M0 z (x :: t) q s N) : TX_ J r b M0 z t q s N := ⟨h.1, h.2.1, h.2.2.1.2, h.2.2.2⟩
end ZX
theorem st_ap {b : Nat} {N : mm_} : ∀ {u t : List Int32}, st_ b (u ++ t) N → st_ b t N
  | [], _, h => h
  | _ :: _, _, h => st_ap h.2
/-! codes in a code -/
def SG_ (C0 C : List cq2_) (L : Nat) : Prop := ∀ (i : Nat) (q : cq2_), C[i]? = some q → C0[L + i]? = some q
theorem SG_l {C0 A B : List cq2_} {L : Nat} (h : SG_ C0 (A ++ B) L) : SG_ C0 A L := fun i q hq => h i q (by rw [List.getElem?_append_left (List.getElem?_eq_some_iff.mp hq).1]; exact hq)
theorem SG_r {C0 A B : List cq2_} {L : Nat} (h : SG_ C0 (A ++ B) L) : SG_ C0 B (L + A.length) := fun i q hq => by
  rw [Nat.add_assoc]
  exact h _ q (by rw [List.getElem?_append_right (by omega), Nat.add_sub_cancel_left]; exact hq)
theorem SG_h {C0 B : List cq2_} {x : cq2_} {L : Nat} (h : SG_ C0 (x :: B) L) : C0[L]? = some x := h 0 x rfl
theorem SG_t {C0 B : List cq2_} {x : cq2_} {L : Nat} (h : SG_ C0 (x :: B) L) : SG_ C0 B (L + 1) := fun i q hq => by
  rw [Nat.add_assoc, Nat.add_comm 1]
  exact h (i + 1) q (by rw [List.getElem?_cons_succ]; exact hq)
/-- a # in the code of a tree begins within it -/
theorem st6_ : ∀ (g : Bool) (e : Term), wfX_ g e → ∀ (L : Nat) (H : Int32) (i : Nat) (q : cq2_), (cqX_ e L H)[i]? = some q → q.1 = 6 → ∃ m, q.2.2.1 = nI m ∧ L ≤ m ∧ m ≤ L + i
  | true, .int v, _, L, H, i, q, h, h6 => by
    rw [cqX_] at h
    cases i with
    | zero => cases h; exact absurd h6 (by simp only; decide)
    | succ i => cases h
  | true, .index v, _, L, H, i, q, h, h6 => by
    rw [cqX_] at h
    cases i with
    | zero => cases h; exact absurd h6 (by simp only; decide)
    | succ i => cases h
  | true, .length e, w, L, H, i, q, h, h6 => by
    rw [cqX_] at h
    rcases Nat.lt_or_ge i (cqX_ e L H).length with z | z
    · rw [List.getElem?_append_left z] at h; exact st6_ true e w L H i q h h6
    · rw [List.getElem?_append_right z] at h
      cases hk : i - (cqX_ e L H).length with
      | zero => rw [hk] at h; cases h; exact absurd h6 (by simp only; decide)
      | succ j => rw [hk] at h; cases h
  | true, .sum e, w, L, H, i, q, h, h6 => by
    rw [cqX_] at h
    rcases Nat.lt_or_ge i (cqX_ e L H).length with z | z
    · rw [List.getElem?_append_left z] at h; exact st6_ true e w L H i q h h6
    · rw [List.getElem?_append_right z] at h
      cases hk : i - (cqX_ e L H).length with
      | zero => rw [hk] at h; cases h; exact absurd h6 (by simp only; decide)
      | succ j => rw [hk] at h; cases h
  | true, .elem s (.add a b), w, L, H, i, q, h, h6 => by
    rw [cqX_, cqX_] at h
    rcases Nat.lt_or_ge i (cqX_ a L H ++ cqX_ b (L + snX_ a) (H + 1)).length with z | z
    · rw [List.getElem?_append_left z] at h
      rcases Nat.lt_or_ge i (cqX_ a L H).length with y | y
      · rw [List.getElem?_append_left y] at h; exact st6_ true a w.2.1 L H i q h h6
      · rw [List.getElem?_append_right y] at h
        obtain ⟨m, m1, m2, m3⟩ := st6_ true b w.2.2 _ _ _ q h h6
        rw [cq_len] at y m3
        exact ⟨m, m1, by omega, by omega⟩
    · rw [List.getElem?_append_right z] at h
      cases hk : i - (cqX_ a L H ++ cqX_ b (L + snX_ a) (H + 1)).length with
      | zero =>
        rw [hk] at h; cases h
        exact absurd (show kd_ (sg2_ s) = 0 by rw [show sg2_ s = 6 from h6]; decide) w.1
      | succ j => rw [hk] at h; cases h
  | true, .mul a (.div b c), w, L, H, i, q, h, h6 => by
    rw [cqX_] at h
    rcases Nat.lt_or_ge i (cqX_ a L H).length with y | y
    · rw [List.getElem?_append_left y] at h; exact st6_ true a w.1 L H i q h h6
    · rw [List.getElem?_append_right y] at h
      cases hk : i - (cqX_ a L H).length with
      | zero => rw [hk] at h; cases h; exact absurd h6 (by simp only; decide)
      | succ j =>
        rw [hk, List.getElem?_cons_succ] at h
        rw [cq_len] at y hk
        rcases Nat.lt_or_ge j (cqX_ b (L + snX_ a + 1) H).length with x | x
        · rw [List.getElem?_append_left x] at h
          obtain ⟨m, m1, m2, m3⟩ := st6_ true b w.2.1 _ _ _ q h h6
          exact ⟨m, m1, by omega, by omega⟩
        · rw [List.getElem?_append_right x] at h
          cases hk2 : j - (cqX_ b (L + snX_ a + 1) H).length with
          | zero => rw [hk2] at h; cases h; exact absurd h6 (by simp only; decide)
          | succ j2 =>
            rw [hk2, List.getElem?_cons_succ] at h
            rw [cq_len] at x hk2
            obtain ⟨m, m1, m2, m3⟩ := st6_ true c w.2.2 _ _ _ q h h6
            exact ⟨m, m1, by omega, by omega⟩
  | true, .rem a b, w, L, H, i, q, h, h6 => by
    rw [cqX_] at h
    rcases Nat.lt_or_ge i (cqX_ a L H).length with y | y
    · rw [List.getElem?_append_left y] at h; exact st6_ true a w.1 L H i q h h6
    · rw [List.getElem?_append_right y] at h
      cases hk : i - (cqX_ a L H).length with
      | zero => rw [hk] at h; cases h; exact ⟨L, rfl, by omega, by omega⟩
      | succ j =>
        rw [hk, List.getElem?_cons_succ] at h
        rw [cq_len] at y hk
        obtain ⟨m, m1, m2, m3⟩ := st6_ true b w.2 _ _ _ q h h6
        exact ⟨m, m1, by omega, by omega⟩
  | true, .sub k x, w, L, H, i, q, h, h6 => by
    rw [cqX_] at h
    rcases Nat.lt_or_ge i (cqX_ x L H).length with z | z
    · rw [List.getElem?_append_left z] at h; exact st6_ false x w.1 L H i q h h6
    · rw [List.getElem?_append_right z] at h
      cases hk : i - (cqX_ x L H).length with
      | zero => rw [hk] at h; cases h; exact absurd h6 (by simp only; decide)
      | succ j => rw [hk] at h; cases h
  | false, .null, _, L, H, i, q, h, h6 => by cases h
  | false, .add a b, w, L, H, i, q, h, h6 => by
    rw [cqX_] at h
    rcases Nat.lt_or_ge i (cqX_ a L H).length with y | y
    · rw [List.getElem?_append_left y] at h; exact st6_ true a w.1 L H i q h h6
    · rw [List.getElem?_append_right y] at h
      obtain ⟨m, m1, m2, m3⟩ := st6_ false b w.2 _ _ _ q h h6
      rw [cq_len] at y m3
      exact ⟨m, m1, by omega, by omega⟩
/-- what comes of a tree on the stack t: one value more; of arguments: so many -/
theorem ES_sh (I : Int64 → List Int32 → sgA_ → io2_) (V : Nat → Int32) : ∀ (g : Bool) (e : Term), wfX_ g e → ∀ (t : List Int32) (s : sgA_) (u : List Int32) (s2 : sgA_), ES_ I V e t s = (.inl u, s2) → (g = true → ∃ x, u = x :: t) ∧ (g = false → ∃ y, u = y ++ t ∧ y.length = an_ e)
  | true, .int v, _, t, s, u, s2, h => ⟨fun _ => by rw [ES_] at h; cases h; exact ⟨_, rfl⟩, fun z => Bool.noConfusion z⟩
  | true, .index i, _, t, s, u, s2, h => ⟨fun _ => by rw [ES_] at h; cases h; exact ⟨_, rfl⟩, fun z => Bool.noConfusion z⟩
  | true, .length e, w, t, s, u, s2, h => ⟨fun _ => by
      rw [ES_] at h
      cases hx : ES_ I V e t s with
      | mk o s3 =>
        rw [hx] at h
        cases o with
        | inr q => cases h
        | inl y =>
          obtain ⟨x, rfl⟩ := (ES_sh I V true e w t s y s3 hx).1 rfl
          cases h; exact ⟨_, rfl⟩, fun z => Bool.noConfusion z⟩
  | true, .sum e, w, t, s, u, s2, h => ⟨fun _ => by
      rw [ES_] at h
      cases hx : ES_ I V e t s with
      | mk o s3 =>
        rw [hx] at h
        cases o with
        | inr q => cases h
        | inl y =>
          obtain ⟨x, rfl⟩ := (ES_sh I V true e w t s y s3 hx).1 rfl
          (cases h), fun z => Bool.noConfusion z⟩
  | true, .elem c (.add a b), w, t, s, u, s2, h => ⟨fun _ => by
      rw [ES_, ES_] at h
      cases hx : ES_ I V a t s with
      | mk o s3 =>
        rw [hx] at h
        cases o with
        | inr q => cases h
        | inl y =>
          obtain ⟨x, rfl⟩ := (ES_sh I V true a w.2.1 t s y s3 hx).1 rfl
          simp only at h
          cases hx2 : ES_ I V b (x :: t) s3 with
          | mk o2 s4 =>
            rw [hx2] at h
            cases o2 with
            | inr q => cases h
            | inl y2 =>
              obtain ⟨x2, rfl⟩ := (ES_sh I V true b w.2.2 (x :: t) s3 y2 s4 hx2).1 rfl
              unfold o2_ at h
              simp only at h
              split at h
              · cases h
              · cases h; exact ⟨_, rfl⟩, fun z => Bool.noConfusion z⟩
  | true, .mul a (.div b c), w, t, s, u, s2, h => ⟨fun _ => by
      rw [ES_] at h
      cases hx : ES_ I V a t s with
      | mk o s3 =>
        rw [hx] at h
        cases o with
        | inr q => cases h
        | inl y =>
          obtain ⟨x, rfl⟩ := (ES_sh I V true a w.1 t s y s3 hx).1 rfl
          unfold o1_ at h
          simp only at h
          split at h
          · exact (ES_sh I V true c w.2.2 t s3 u s2 h).1 rfl
          · exact (ES_sh I V true b w.2.1 t s3 u s2 h).1 rfl, fun z => Bool.noConfusion z⟩
  | true, .rem a b, w, t, s, u, s2, h => ⟨fun _ => by
      rw [ES_] at h
      split at h
      · exact (ES_sh I V true b w.2 t _ u s2 h).1 rfl
      · exact (ES_sh I V true a w.1 t s u s2 h).1 rfl, fun z => Bool.noConfusion z⟩
  | true, .sub k x, w, t, s, u, s2, h => ⟨fun _ => by
      rw [ES_] at h
      cases hx : ES_ I V x t s with
      | mk o s3 =>
        rw [hx] at h
        cases o with
        | inr q => cases h
        | inl y =>
          obtain ⟨y2, rfl, hl⟩ := (ES_sh I V false x w.1 t s y s3 hx).2 rfl
          simp only at h
          rw [List.drop_left' hl] at h
          unfold oi_ at h
          split at h
          · cases h; exact ⟨_, rfl⟩
          · (cases h), fun z => Bool.noConfusion z⟩
  | false, .null, _, t, s, u, s2, h => ⟨fun z => Bool.noConfusion z, fun _ => by rw [ES_] at h <;> first | (cases h; exact ⟨[], rfl, rfl⟩) | simp⟩
  | false, .add a r, w, t, s, u, s2, h => ⟨fun z => Bool.noConfusion z, fun _ => by
      rw [ES_] at h
      cases hx : ES_ I V a t s with
      | mk o s3 =>
        rw [hx] at h
        cases o with
        | inr q => cases h
        | inl y =>
          obtain ⟨x, rfl⟩ := (ES_sh I V true a w.1 t s y s3 hx).1 rfl
          obtain ⟨y2, rfl, hl⟩ := (ES_sh I V false r w.2 (x :: t) s3 u s2 h).2 rfl
          exact ⟨y2 ++ [x], by simp, by rw [List.length_append, hl, an_]; rfl⟩⟩

end
section
/-! the code of a tree, run -/
def ix7_ : Term → Prop
  | .index i => i < 7
  | .length e => ix7_ e
  | .sum e => ix7_ e
  | .elem _ x => ix7_ x
  | .mul a (.div b c) => ix7_ a ∧ ix7_ b ∧ ix7_ c
  | .rem a b => ix7_ a ∧ ix7_ b
  | .sub _ x => ix7_ x
  | .add a r => ix7_ a ∧ ix7_ r
  | _ => True
/-- what comes of an invocation over the values t -/
def RI9_ (J : Nat → Nat) (r b : Nat) (M0 : mm_) (z : Int32) (t : List Int32) (o : io2_) (N : mm_) : Prop := match o with
  | (.inl v, s) => ZX_ J r b M0 z (v :: t) s N
  | (.inr q, s) => TX_ J r b M0 z t q s N ∧ (q.1 = 1 ∨ q.1 = 2)
/-- a run of the code C0 in the Code k, of L steps, at depth r, the stack b high -/
def RG_ (G : gg_) (d : Nat) (J : Nat → Nat) (k L r b : Nat) (M0 : mm_) (z : Int32) (C0 : List cq2_) (I : Int64 → List Int32 → sgA_ → io2_) (V : Nat → Int32) : Prop :=
  (∀ j, j < 8 → J j < 9) ∧ kcX_ k ∧ hd_ k M0 C0 ∧ C0.length = L ∧ L ≤ 26 ∧ M0.1 (249 + r) 5 = nI r ∧ r ≤ 10 ∧ b ≤ 180 ∧ (∀ i, i < 7 → M0.1 (249 + r) i = V i) ∧ (z = 0 ∨ ∀ (i : Nat) (q : cq2_), C0[i]? = some q → ¬ q.1 = 7) ∧
  (∀ (N : mm_) (t : List Int32) (s : sgA_) (K : Int64) (j : Nat), ZX_ J r b M0 z t s N → poX_ K = nI j → j ≤ 3 → j ≤ t.length → t.length ≤ 26 → t.length ≤ j + 20 → z = 0 → (∃ (i : Nat) (q : cq2_), C0[i]? = some q ∧ q.1 = 7) → ∃ QN : mm_ → Prop, cm_ G yX4_invokeNamed cX4_invokeNamed 8 none (d + 1) [.ref (G.1 247), .long K, .int (nI (r + 1))] N (rV_ QN) ∧ ∀ N2, QN N2 → RI9_ J r b M0 z (t.drop j) (I K (t.take j) s) N2) ∧
  ∀ (i : Nat) (q : cq2_), C0[i]? = some q → ∃ h, h ≤ 20 ∧ q.2.2.2 = nI h
/-- a throw at a, between lo and hi, that no # there holds -/
def TA_ (C0 : List cq2_) (lo hi a q : Nat) : Prop := lo ≤ a ∧ a < hi ∧ ((q = 2 ∧ ∃ x, C0[a]? = some x ∧ x.1 = 7) ∨ (q = 1 ∧ ∀ (i : Nat) (x : cq2_), a < i → i < hi → C0[i]? = some x → x.1 = 6 → ¬ x.2.2.1 ≤ nI a))
def KO_ (G : gg_) (d : Nat) (J : Nat → Nat) (k L r b : Nat) (M0 : mm_) (z : Int32) (C0 : List cq2_) (Q : Int32 → mm_ → Prop) (lo hi : Nat) (t : List Int32) (o : eo_) : Prop := match o with
  | (.inl t2, s2) => ∀ (N : mm_) (u : Nat), ZX_ J r b M0 z t2 s2 N → L ≤ hi + u → WPX_ G d k L r b Q u hi N
  | (.inr q, s2) => ∀ (N : mm_) (a u : Nat), TX_ J r b M0 z t q s2 N → TA_ C0 lo hi a q.1 → L ≤ a + 1 + u → WPX_ G d k L r b Q u (nxX_ N k L a) (bhX_ N k L a (nI b))
theorem hd_XF {k r b : Nat} {M N : mm_} {C : List cq2_} (hk : kcX_ k) (h : XF_ r b M N) (g : hd_ k M C) : hd_ k N C := by
  unfold kcX_ at hk
  exact hd_cg (fun a i z1 z2 => h.2.1 a i (by unfold faX_; omega)) (fun i => by rw [h.1]) g
theorem CT_n {W : Nat → mm_ → Prop} {k L b a t : Nat} {x : Int32} {N : mm_} (h10 : N.1 247 10 = 0) (hx : x = nI t) (ht : t ≤ L) (hW : W t N) : CTX_ W k L b a x N := ⟨fun _ => ⟨t, ht, hx, hW⟩, fun y => absurd h10 y⟩
theorem CT_t {W : Nat → mm_ → Prop} {k L b a : Nat} {x : Int32} {N : mm_} (h10 : N.1 247 10 = 1) (hk : N.1 k 4 = nI L) (hW : W (nxX_ N k L a) (bhX_ N k L a (nI b))) : CTX_ W k L b a x N := ⟨fun y => absurd (h10.symm.trans y) (by decide), fun _ => ⟨hk, hW⟩⟩
theorem i7_f : ∀ i, i < 7 → ¬ ((nI i).toInt64 < 0 ∨ 7 ≤ (nI i).toInt64) ∧ (nI i).toInt64.toInt32.toNatClampNeg = i := by decide
theorem kd_n7 {c : Int32} (h : ¬ kd_ c = 0) : ¬ c = 0 ∧ ¬ c = 1 ∧ ¬ c = 2 ∧ ¬ c = 3 ∧ ¬ c = 4 ∧ ¬ c = 5 ∧ ¬ c = 6 ∧ ¬ c = 7 := by
  refine ⟨?_, ?_, ?_, ?_, ?_, ?_, ?_, ?_⟩ <;> (intro y; rw [y] at h; exact h (by decide))
theorem jo_jn {c x y : Int32} (h : ¬ (y = 0 ∧ (c = 47 ∨ c = 37))) : joX_ c x y = jn_ c x y := by
  unfold joX_ jn_
  by_cases h1 : c = 43
  · rw [if_pos h1, if_pos h1]
  rw [if_neg h1, if_neg h1]
  by_cases h2 : c = 45
  · rw [if_pos h2, if_pos h2]
  rw [if_neg h2, if_neg h2]
  by_cases h3 : c = 42
  · rw [if_pos h3, if_pos h3]
  rw [if_neg h3, if_neg h3]
  by_cases h4 : c = 47
  · rw [if_pos h4, if_pos h4, if_neg (fun q => h ⟨q, Or.inl h4⟩)]
  rw [if_neg h4, if_neg h4]
  by_cases h5 : c = 37
  · rw [if_pos h5, if_pos h5, if_neg (fun q => h ⟨q, Or.inr h5⟩)]
  rw [if_neg h5, if_neg h5]
theorem bt1_hi {N : mm_} {k a hi : Nat} : ∀ (u i : Nat), i ≤ hi → hi < i + u → (∀ j, i ≤ j → j < hi → ¬ (N.1 (k + 1) j = 6 ∧ N.1 (k + 3) j ≤ nI a)) → (N.1 (k + 1) hi = 6 ∧ N.1 (k + 3) hi ≤ nI a) → bt1_ N k a u i = hi + 1
  | 0, i, h1, h2, _, _ => by omega
  | u + 1, i, h1, h2, h3, h4 => by
    rw [bt1_]
    by_cases e : i = hi
    · subst e; rw [if_pos h4]
    · rw [if_neg (h3 i (Nat.le_refl _) (by omega))]
      exact bt1_hi u (i + 1) (by omega) (by omega) (fun j z1 z2 => h3 j (by omega) z2) h4
theorem bt1_no {N : mm_} {k a : Nat} : ∀ (u i : Nat), (∀ j, i ≤ j → j < i + u → ¬ (N.1 (k + 1) j = 6 ∧ N.1 (k + 3) j ≤ nI a)) → bt1_ N k a u i = i + u
  | 0, i, _ => rfl
  | u + 1, i, h => by
    rw [bt1_, if_neg (h i (Nat.le_refl _) (by omega)), bt1_no u (i + 1) (fun j z1 z2 => h j (by omega) (by omega))]
    omega
theorem an_le : ∀ x : Term, wfX_ false x → an_ x ≤ snX_ x
  | .null, _ => Nat.zero_le _
  | .add a r, w => by
    have := sn_pos a w.1
    have := an_le r w.2
    rw [an_, snX_]; omega
section TRX
variable {G : gg_} {d : Nat} {J : Nat → Nat} {k L r b : Nat} {M0 : mm_} {z : Int32} {C0 : List cq2_} {I : Int64 → List Int32 → sgA_ → io2_} {V : Nat → Int32} {Q : Int32 → mm_ → Prop}
theorem RG_op (hR : RG_ G d J k L r b M0 z C0 I V) {N : mm_} (h : XF_ r b M0 N) {a : Nat} {x : cq2_} (hx : C0[a]? = some x) : N.1 k 4 = nI L ∧ a < L ∧ N.1 (k + 1) a = x.1 ∧ N.2.1 (k + 2) a = x.2.1 ∧ (x.1 = 6 → N.1 (k + 3) a = x.2.2.1) ∧ N.1 (k + 4) a = x.2.2.2 := by
  have g := hd_XF hR.2.1 h hR.2.2.1
  refine ⟨by rw [← hR.2.2.2.1]; exact g.1, by rw [← hR.2.2.2.1]; exact (List.getElem?_eq_some_iff.mp hx).1, g.2 a x hx⟩
theorem RG_len (hR : RG_ G d J k L r b M0 z C0 I V) {N : mm_} (h : XF_ r b M0 N) : N.1 k 4 = nI L := by
  have g := hd_XF hR.2.1 h hR.2.2.1
  rw [← hR.2.2.2.1]; exact g.1
/-- a step that invokes nothing -/
theorem WPX_st (hR : RG_ G d J k L r b M0 z C0 I V) {a u : Nat} {t : List Int32} {s : sgA_} {N : mm_} {x : cq2_} (hZ : ZX_ J r b M0 z t s N) (hx : C0[a]? = some x) (h7 : ¬ x.1 = 7) (ht : t.length ≤ 30) (hu : L ≤ a + u) (hc : ∀ u2, u = u2 + 1 → CTX_ (WPX_ G d k L r b Q u2) k L b a (sfX_ N a (b + t.length) r x.1 x.2.1).1 (sfX_ N a (b + t.length) r x.1 x.2.1).2) : WPX_ G d k L r b Q u a N := by
  obtain ⟨e1, e2, e3, e4, -⟩ := RG_op hR hZ.1 hx
  have hr := hR.2.2.2.2.2.2.1
  have hb := hR.2.2.2.2.2.2.2.1
  obtain ⟨u, rfl⟩ : ∃ v, u = v + 1 := ⟨u - 1, by omega⟩
  refine ⟨e1, fun y => by omega, fun _ => ⟨by rw [hZ.1.2.2.1 r 5 (Nat.le_refl _)]; exact hR.2.2.2.2.2.1, b + t.length, by omega, hZ.2.1, fun _ => ?_, fun y => absurd (e3.symm.trans y) h7⟩⟩
  rw [e3, e4]
  exact hc u rfl
theorem TA_up {lo hi hi2 a q : Nat} (h : TA_ C0 lo hi a q) (hh : hi ≤ hi2) (hn : q = 1 → ∀ (i : Nat) (x : cq2_), hi ≤ i → i < hi2 → C0[i]? = some x → x.1 = 6 → ¬ x.2.2.1 ≤ nI a) : TA_ C0 lo hi2 a q := by
  obtain ⟨h1, h2, h3⟩ := h
  refine ⟨h1, by omega, h3.imp id (fun y => ⟨y.1, fun i x z1 z2 z3 z4 => ?_⟩)⟩
  rcases Nat.lt_or_ge i hi with w | w
  · exact y.2 i x z1 w z3 z4
  · exact hn y.1 i x w z2 z3 z4
theorem TA_lo {lo lo2 hi a q : Nat} (h : TA_ C0 lo hi a q) (hh : lo2 ≤ lo) : TA_ C0 lo2 hi a q := ⟨by have := h.1; omega, h.2⟩
theorem TA_one {lo a q : Nat} {x : cq2_} (hl : lo ≤ a) (hx : C0[a]? = some x) (h : q = 1 ∨ (q = 2 ∧ x.1 = 7)) : TA_ C0 lo (a + 1) a q := by
  refine ⟨hl, by omega, ?_⟩
  rcases h with h | h
  · exact Or.inr ⟨h, fun i x2 z1 z2 => by omega⟩
  · exact Or.inl ⟨h.1, x, hx, h.2⟩
/-- a step more behind, which is no # -/
theorem TA_s {lo a q hi : Nat} {x : cq2_} (h : TA_ C0 lo hi a q) (hx : C0[hi]? = some x) (h6 : ¬ x.1 = 6) : TA_ C0 lo (hi + 1) a q := TA_up h (by omega) (fun _ i x2 z1 z2 z3 z4 => by
  obtain rfl : i = hi := by omega
  rw [hx] at z3; cases z3; exact absurd z4 h6)
/-- a tree more behind -/
theorem TA_t {lo a q hi : Nat} {g : Bool} {e : Term} {H : Int32} (h : TA_ C0 lo hi a q) (hw : wfX_ g e) (hs : SG_ C0 (cqX_ e hi H) hi) (hl : C0.length ≤ 26) (hc : hi + snX_ e ≤ C0.length) : TA_ C0 lo (hi + snX_ e) a q := TA_up h (by omega) (fun _ i x z1 z2 z3 z4 => by
  have ha := h.2.1
  have hi2 : i - hi < (cqX_ e hi H).length := by rw [cq_len]; omega
  obtain ⟨y, hy⟩ : ∃ y, (cqX_ e hi H)[i - hi]? = some y := ⟨_, List.getElem?_eq_getElem hi2⟩
  have h3 := hs _ y hy
  rw [show hi + (i - hi) = i by omega, z3] at h3
  cases h3
  obtain ⟨m, m1, m2, m3⟩ := st6_ g e hw hi H _ _ hy z4
  rw [m1]
  exact fun q => absurd ((nI_leI (by omega) (by omega)).mp q) (by omega))
/-- a throw in a step -/
theorem CT_K (hR : RG_ G d J k L r b M0 z C0 I V) {lo a u : Nat} {t : List Int32} {s : sgA_} {N : mm_} {v : Int32} {x : Int32} {y : cq2_} (hx : C0[a]? = some y) (hl : lo ≤ a) (hT : TX_ J r b M0 z t (1, v) s N) (hu : L ≤ a + (u + 1)) (K : KO_ G d J k L r b M0 z C0 Q lo (a + 1) t (.inr (1, v), s)) : CTX_ (WPX_ G d k L r b Q u) k L b a x N := CT_t hT.2.2.2.1 (RG_len hR hT.1) (K N a u hT (TA_one hl hx (Or.inl rfl)) (by omega))
/-- a step more, over one value -/
theorem KO_1 (hR : RG_ G d J k L r b M0 z C0 I V) {lo hi : Nat} {t : List Int32} {o : eo_} {f : Int32 → List Int32 → sgA_ → eo_} {x : cq2_} (hx : C0[hi]? = some x) (h6 : ¬ x.1 = 6) (hsh : ∀ u s, o = (.inl u, s) → ∃ y, u = y :: t) (hv : ∀ y s (N : mm_) (u : Nat), o = (.inl (y :: t), s) → ZX_ J r b M0 z (y :: t) s N → L ≤ hi + u → KO_ G d J k L r b M0 z C0 Q lo (hi + 1) t (f y t s) → WPX_ G d k L r b Q u hi N) (K : KO_ G d J k L r b M0 z C0 Q lo (hi + 1) t (o1_ f o)) : KO_ G d J k L r b M0 z C0 Q lo hi t o := by
  obtain ⟨o, s⟩ := o
  cases o with
  | inr q => exact fun N a u h1 h2 h3 => K N a u h1 (TA_s h2 hx h6) h3
  | inl u2 =>
    obtain ⟨y, rfl⟩ := hsh u2 s rfl
    exact fun N u h1 h2 => hv y s N u rfl h1 h2 K
theorem TRX_ (hR : RG_ G d J k L r b M0 z C0 I V) : ∀ (g : Bool) (e : Term), wfX_ g e → ix7_ e → ∀ (L0 u : Nat) (t : List Int32) (s : sgA_) (N : mm_), SG_ C0 (cqX_ e L0 (nI t.length)) L0 → t.length ≤ L0 → L ≤ L0 + u → L0 + snX_ e ≤ L → ZX_ J r b M0 z t s N → KO_ G d J k L r b M0 z C0 Q L0 (L0 + snX_ e) t (ES_ I V e t s) → WPX_ G d k L r b Q u L0 N
  | true, .int v, w, hi, L0, u, t, s, N, hS, ht, hu, hL, hZ, K => by
    rw [cqX_] at hS
    have hx := SG_h hS
    have hb := hR.2.2.2.2.2.2.2.1
    have hLL := hR.2.2.2.2.1
    refine WPX_st hR hZ hx (by first | decide | (simp only; decide)) (by omega) hu (fun u2 e => ?_)
    rw [ES_] at K
    have zp := ZX_push hR.1 (by have := hR.2.2.2.2.2.2.1; omega) (by omega) v hZ
    unfold sfX_
    rw [if_pos rfl, show v.toInt64.toInt32 = v from Int32.toInt32_toInt64 v]
    rw [snX_] at hL K
    exact CT_n zp.2.2.2.1 (nI_1 L0) (by omega) (K _ u2 zp (by omega))
  | true, .index i, w, hi, L0, u, t, s, N, hS, ht, hu, hL, hZ, K => by
    rw [cqX_] at hS
    have hx := SG_h hS
    have hb := hR.2.2.2.2.2.2.2.1
    have hLL := hR.2.2.2.2.1
    have hi7 : i < 7 := hi
    obtain ⟨f1, f2⟩ := i7_f i hi7
    refine WPX_st hR hZ hx (by first | decide | (simp only; decide)) (by omega) hu (fun u2 e => ?_)
    rw [ES_] at K
    have zp := ZX_push hR.1 (by have := hR.2.2.2.2.2.2.1; omega) (by omega) (V i) hZ
    unfold sfX_
    rw [if_neg (by first | decide | (simp only; decide)), if_pos rfl, if_neg f1, f2, hZ.1.2.2.1 r i (Nat.le_refl _), hR.2.2.2.2.2.2.2.2.1 i hi7]
    rw [snX_] at hL K
    exact CT_n zp.2.2.2.1 (nI_1 L0) (by omega) (K _ u2 zp (by omega))
  | true, .length e, w, hi, L0, u, t, s, N, hS, ht, hu, hL, hZ, K => by
    rw [cqX_] at hS
    rw [ES_] at K
    rw [snX_] at hL K
    have hx := SG_h (SG_r hS)
    rw [cq_len] at hx
    have hr : r ≤ 11 := by have := hR.2.2.2.2.2.2.1; omega
    have hb := hR.2.2.2.2.2.2.2.1
    have hLL := hR.2.2.2.2.1
    refine TRX_ hR true e w hi L0 u t s N (SG_l hS) ht hu (by omega) hZ (KO_1 hR hx (by first | decide | (simp only; decide)) (fun u s2 h => (ES_sh I V true e w t s u s2 h).1 rfl) (fun y s2 N2 u2 _ hz hu2 K2 => ?_) K)
    obtain ⟨p1, p2⟩ := ZX_pop hR.1 hr hz
    have zp := ZX_push hR.1 hr (by omega) (-y) p2
    refine WPX_st hR hz hx (by first | decide | (simp only; decide)) (by rw [List.length_cons]; omega) hu2 (fun u3 e3 => ?_)
    unfold sfX_
    rw [if_neg (by first | decide | (simp only; decide)), if_neg (by first | decide | (simp only; decide)), if_pos rfl, p1, show b + (y :: t).length - 1 = b + t.length by rw [List.length_cons]; omega]
    exact CT_n zp.2.2.2.1 (nI_1 _) (by omega) (K2 _ u3 zp (by omega))
  | true, .sum e, w, hi, L0, u, t, s, N, hS, ht, hu, hL, hZ, K => by
    rw [cqX_] at hS
    rw [ES_] at K
    rw [snX_] at hL K
    have hx := SG_h (SG_r hS)
    rw [cq_len] at hx
    have hr : r ≤ 11 := by have := hR.2.2.2.2.2.2.1; omega
    have hb := hR.2.2.2.2.2.2.2.1
    have hLL := hR.2.2.2.2.1
    refine TRX_ hR true e w hi L0 u t s N (SG_l hS) ht hu (by omega) hZ (KO_1 hR hx (by first | decide | (simp only; decide)) (fun u s2 h => (ES_sh I V true e w t s u s2 h).1 rfl) (fun y s2 N2 u2 _ hz hu2 K2 => ?_) K)
    obtain ⟨p1, p2⟩ := ZX_pop hR.1 hr hz
    have zp := ZX_fl hR.1 hr (by omega) y p2
    refine WPX_st hR hz hx (by first | decide | (simp only; decide)) (by rw [List.length_cons]; omega) hu2 (fun u3 e3 => ?_)
    unfold sfX_
    rw [if_neg (by first | decide | (simp only; decide)), if_neg (by first | decide | (simp only; decide)), if_neg (by first | decide | (simp only; decide)), if_pos rfl, p1]
    exact CT_K hR hx (by omega) zp (by omega) K2
  | true, .elem c (.add a bb), w, hi, L0, u, t, s, N, hS, ht, hu, hL, hZ, K => by
    rw [cqX_] at hS
    rw [ES_] at K
    rw [snX_] at hL K
    have hx := SG_h (SG_r hS)
    rw [cq_len] at hx
    have hS2 := SG_l hS
    rw [cqX_] at hS2
    have hSa := SG_l hS2
    have hSb := SG_r hS2
    rw [cq_len, nI_1] at hSb
    rw [snX_] at hL K hx
    have hr : r ≤ 11 := by have := hR.2.2.2.2.2.2.1; omega
    have hb := hR.2.2.2.2.2.2.2.1
    have hLL := hR.2.2.2.2.1
    have hC := hR.2.2.2.1
    have pa := sn_pos a w.2.1
    have pb := sn_pos bb w.2.2
    obtain ⟨n0, n1, n2, n3, n4, n5, n6, n7⟩ := kd_n7 w.1
    have hx6 : ¬ (sg2_ c, (0 : Int64), (0 : Int32), nI t.length + 1).1 = 6 := n6
    rw [show L0 + (snX_ a + snX_ bb + 1) = L0 + snX_ a + snX_ bb + 1 by omega] at K hL
    rw [show L0 + (snX_ a + snX_ bb) = L0 + snX_ a + snX_ bb by omega] at hx
    rw [ES_] at K
    refine TRX_ hR true a w.2.1 hi.1 L0 u t s N hSa ht hu (by omega) hZ ?_
    cases ha : ES_ I V a t s with
    | mk o s2 =>
      rw [ha] at K
      cases o with
      | inr q => exact fun N2 a2 u2 h1 h2 h3 => K N2 a2 u2 h1 (TA_s (TA_t h2 w.2.2 hSb (by omega) (by omega)) hx hx6) h3
      | inl u1 =>
        obtain ⟨x1, rfl⟩ := (ES_sh I V true a w.2.1 t s u1 s2 ha).1 rfl
        simp only at K
        intro N2 u2 hz2 hu2
        refine TRX_ hR true bb w.2.2 hi.2 (L0 + snX_ a) u2 (x1 :: t) s2 N2 (by rw [List.length_cons]; exact hSb) (by rw [List.length_cons]; omega) hu2 (by omega) hz2 ?_
        cases hbb : ES_ I V bb (x1 :: t) s2 with
        | mk o2 s3 =>
          rw [hbb] at K
          cases o2 with
          | inr q => exact fun N3 a3 u3 h1 h2 h3 => K N3 a3 u3 (TX_dn h1) (TA_lo (TA_s h2 hx hx6) (by omega)) h3
          | inl u4 =>
            obtain ⟨y1, rfl⟩ := (ES_sh I V true bb w.2.2 (x1 :: t) s2 u4 s3 hbb).1 rfl
            intro N3 u3 hz3 hu3
            obtain ⟨p1, p2⟩ := ZX_pop hR.1 hr hz3
            obtain ⟨p3, p4⟩ := ZX_pop hR.1 hr p2
            refine WPX_st hR hz3 hx n7 (by rw [List.length_cons, List.length_cons]; omega) hu3 (fun u5 e5 => ?_)
            have e1 : b + (y1 :: x1 :: t).length - 1 = b + (x1 :: t).length := by rw [List.length_cons]; omega
            have e2 : b + (x1 :: t).length - 1 = b + t.length := by rw [List.length_cons]; omega
            unfold o2_ at K
            simp only at K
            unfold sfX_
            simp only
            rw [if_neg n0, if_neg n1, if_neg n2, if_neg n3, if_neg n4, if_neg (fun y => y.elim n5 n6), p1, e1, p3, e2]
            by_cases hd : y1 = 0 ∧ (sg2_ c = 47 ∨ sg2_ c = 37)
            · rw [if_pos hd]
              rw [if_pos hd] at K
              exact CT_K hR hx (by omega) (ZX_fl hR.1 hr (by omega) (-1) p4) (by omega) K
            · rw [if_neg hd]
              rw [if_neg hd] at K
              rw [jo_jn hd]
              have zp := ZX_push hR.1 hr (by omega) (jn_ (sg2_ c) x1 y1) p4
              exact CT_n zp.2.2.2.1 (nI_1 _) (by omega) (K _ u5 zp (by omega))
  | true, .mul a (.div bb c), w, hi, L0, u, t, s, N, hS, ht, hu, hL, hZ, K => by
    rw [cqX_] at hS
    rw [ES_] at K
    rw [snX_] at hL K
    have hSa := SG_l hS
    have hS2 := SG_r hS
    rw [cq_len] at hS2
    have hx := SG_h hS2
    have hS3 := SG_t hS2
    have hSb := SG_l hS3
    have hS4 := SG_r hS3
    rw [cq_len] at hS4
    have hx2 := SG_h hS4
    have hSc := SG_t hS4
    have hr : r ≤ 11 := by have := hR.2.2.2.2.2.2.1; omega
    have hb := hR.2.2.2.2.2.2.2.1
    have hLL := hR.2.2.2.2.1
    have hC := hR.2.2.2.1
    have pa := sn_pos a w.1
    have pb := sn_pos bb w.2.1
    have pc := sn_pos c w.2.2
    rw [show L0 + (snX_ a + snX_ bb + snX_ c + 2) = L0 + snX_ a + 1 + snX_ bb + 1 + snX_ c by omega] at K hL
    refine TRX_ hR true a w.1 hi.1 L0 u t s N hSa ht hu (by omega) hZ ?_
    cases ha : ES_ I V a t s with
    | mk o s2 =>
      rw [ha] at K
      cases o with
      | inr q => exact fun N2 a2 u2 h1 h2 h3 => K N2 a2 u2 h1 (TA_t (TA_s (TA_t (TA_s h2 hx (by first | decide | (simp only; decide))) w.2.1 hSb (by omega) (by omega)) hx2 (by first | decide | (simp only; decide))) w.2.2 hSc (by omega) (by omega)) h3
      | inl u1 =>
        obtain ⟨x1, rfl⟩ := (ES_sh I V true a w.1 t s u1 s2 ha).1 rfl
        unfold o1_ at K
        simp only at K
        intro N2 u2 hz2 hu2
        obtain ⟨p1, p2⟩ := ZX_pop hR.1 hr hz2
        refine WPX_st hR hz2 hx (by first | decide | (simp only; decide)) (by rw [List.length_cons]; omega) hu2 (fun u3 e3 => ?_)
        unfold sfX_
        rw [if_neg (by first | decide | (simp only; decide)), if_neg (by first | decide | (simp only; decide)), if_neg (by first | decide | (simp only; decide)), if_neg (by first | decide | (simp only; decide)), if_pos rfl, p1]
        by_cases hz : x1 = 0
        · rw [if_pos hz] at K ⊢
          refine CT_n p2.2.2.2.1 (lN_i _) (by omega) ?_
          refine TRX_ hR true c w.2.2 hi.2.2 _ u3 t s2 _ hSc (by omega) (by omega) (by omega) p2 ?_
          cases hc : ES_ I V c t s2 with
          | mk o3 s3 =>
            rw [hc] at K
            cases o3 with
            | inr q => exact fun N3 a3 u4 h1 h2 h3 => K N3 a3 u4 h1 (TA_lo h2 (by omega)) h3
            | inl u4 => exact K
        · rw [if_neg hz] at K ⊢
          refine CT_n p2.2.2.2.1 (nI_1 _) (by omega) ?_
          refine TRX_ hR true bb w.2.1 hi.2.1 _ u3 t s2 _ hSb (by omega) (by omega) (by omega) p2 ?_
          cases hc : ES_ I V bb t s2 with
          | mk o3 s3 =>
            rw [hc] at K
            cases o3 with
            | inr q => exact fun N3 a3 u4 h1 h2 h3 => K N3 a3 u4 h1 (TA_lo (TA_t (TA_s h2 hx2 (by first | decide | (simp only; decide))) w.2.2 hSc (by omega) (by omega)) (by omega)) h3
            | inl u4 =>
              obtain ⟨y1, rfl⟩ := (ES_sh I V true bb w.2.1 t s2 u4 s3 hc).1 rfl
              intro N3 u5 hz3 hu5
              refine WPX_st hR hz3 hx2 (by first | decide | (simp only; decide)) (by rw [List.length_cons]; omega) hu5 (fun u6 e6 => ?_)
              unfold sfX_
              rw [if_neg (by first | decide | (simp only; decide)), if_neg (by first | decide | (simp only; decide)), if_neg (by first | decide | (simp only; decide)), if_neg (by first | decide | (simp only; decide)), if_neg (by first | decide | (simp only; decide)), if_pos (Or.inl rfl)]
              exact CT_n hz3.2.2.2.1 (lN_i _) (by omega) (K _ u6 hz3 (by omega))
  | true, .rem a bb, w, hi, L0, u, t, s, N, hS, ht, hu, hL, hZ, K => by
    rw [cqX_] at hS
    rw [ES_] at K
    rw [snX_] at hL K
    have hSa := SG_l hS
    have hS2 := SG_r hS
    rw [cq_len] at hS2
    have hx := SG_h hS2
    have hSb := SG_t hS2
    have hr : r ≤ 11 := by have := hR.2.2.2.2.2.2.1; omega
    have hb := hR.2.2.2.2.2.2.2.1
    have hLL := hR.2.2.2.2.1
    have hC := hR.2.2.2.1
    have pa := sn_pos a w.1
    have pb := sn_pos bb w.2
    rw [show L0 + (snX_ a + snX_ bb + 1) = L0 + snX_ a + 1 + snX_ bb by omega] at K hL
    refine TRX_ hR true a w.1 hi.1 L0 u t s N hSa ht hu (by omega) hZ ?_
    cases ha : ES_ I V a t s with
    | mk o s2 =>
      rw [ha] at K
      cases o with
      | inl u1 =>
        obtain ⟨x1, rfl⟩ := (ES_sh I V true a w.1 t s u1 s2 ha).1 rfl
        simp only at K
        intro N2 u2 hz2 hu2
        refine WPX_st hR hz2 hx (by first | decide | (simp only; decide)) (by rw [List.length_cons]; omega) hu2 (fun u3 e3 => ?_)
        unfold sfX_
        rw [if_neg (by first | decide | (simp only; decide)), if_neg (by first | decide | (simp only; decide)), if_neg (by first | decide | (simp only; decide)), if_neg (by first | decide | (simp only; decide)), if_neg (by first | decide | (simp only; decide)), if_pos (Or.inr rfl)]
        exact CT_n hz2.2.2.2.1 (lN_i _) (by omega) (K _ u3 hz2 (by omega))
      | inr q =>
        obtain ⟨q1, q2⟩ := q
        intro N2 a2 u2 h1 h2 h3
        by_cases hq : q1 = 1
        · subst hq
          simp only at K
          obtain ⟨e1, -⟩ := RG_op hR h1.1 hx
          have h12 : ¬ (¬ N2.1 247 12 = 0 ∧ N2.1 (k + 1) a2 = 7) := by
            rintro ⟨y1, y2⟩
            rw [h1.2.2.2.2.2.1, if_neg (by first | decide | (simp only; decide))] at y1
            rcases hR.2.2.2.2.2.2.2.2.2.1 with y | y
            · exact y1 y
            · obtain ⟨y3, hy3⟩ : ∃ y3, C0[a2]? = some y3 := ⟨_, List.getElem?_eq_getElem (by have := h2.2.1; omega)⟩
              obtain ⟨-, -, e3, -⟩ := RG_op hR h1.1 hy3
              exact y a2 y3 hy3 (e3.symm.trans y2)
          have hnx : nxX_ N2 k L a2 = L0 + snX_ a + 1 := by
            unfold nxX_
            rw [if_neg h12]
            have ha2 := h2.2.1
            refine bt1_hi _ _ (by omega) (by omega) (fun j z1 z2 => ?_) ?_
            · rintro ⟨y1, y2⟩
              obtain ⟨y3, hy3⟩ : ∃ y3, C0[j]? = some y3 := ⟨_, List.getElem?_eq_getElem (by omega)⟩
              obtain ⟨-, -, e3, -, e5, -⟩ := RG_op hR h1.1 hy3
              rw [e3] at y1
              rw [e5 y1] at y2
              rcases h2.2.2 with ⟨y4, -⟩ | ⟨-, y4⟩
              · exact absurd y4 (by first | decide | (simp only; decide))
              · exact y4 j y3 (by omega) (by omega) hy3 y1 y2
            · obtain ⟨-, -, e3, -, e5, -⟩ := RG_op hR h1.1 hx
              rw [e3, e5 rfl]
              exact ⟨rfl, nI_le (a := L0) (b := a2) h2.1 (by omega)⟩
          have hbh : bhX_ N2 k L a2 (nI b) = sI_ (sI_ N2 247 8 (nI (b + t.length))) 247 10 0 := by
            unfold bhX_
            rw [hnx, if_pos (by omega)]
            obtain ⟨-, -, -, -, -, e6⟩ := RG_op hR h1.1 hx
            rw [show L0 + snX_ a + 1 - 1 = L0 + snX_ a by omega, e6, nI_add]
          rw [hnx, hbh]
          have hz4 : ZX_ J r b M0 z t s2 (sI_ (sI_ N2 247 8 (nI (b + t.length))) 247 10 0) := by
            obtain ⟨g1, g2, g3, g4, g5, g6, g7⟩ := h1
            refine ⟨XF_247 hr (by omega) (XF_247 hr (by omega) g1), by rw [gI_sI, if_neg (by omega), gI_sI, if_pos ⟨rfl, rfl⟩], st_cg (fun i hi => by rw [gI_sI, if_neg (by omega), gI_sI, if_neg (by omega)]) g3, by rw [gI_sI, if_pos ⟨rfl, rfl⟩], by rw [gI_sI, if_neg (by omega), gI_sI, if_neg (by omega), g6, if_neg (by first | decide | (simp only; decide))], DX_m hR.1 (by omega) (by omega) (DX_m hR.1 (by omega) (by omega) g7)⟩
          have ha2 := h2.2.1
          refine TRX_ hR true bb w.2 hi.2 _ u2 t s2 _ hSb (by omega) (by omega) (by omega) hz4 ?_
          cases hbb : ES_ I V bb t s2 with
          | mk o3 s3 =>
            rw [hbb] at K
            cases o3 with
            | inr q => exact fun N3 a3 u4 g1 g2 g3 => K N3 a3 u4 g1 (TA_lo g2 (by omega)) g3
            | inl u4 => exact K
        · have K2 : KO_ G d J k L r b M0 z C0 Q L0 (L0 + snX_ a + 1 + snX_ bb) t (.inr (q1, q2), s2) := by
            have e : (match ((.inr (q1, q2), s2) : eo_) with | (.inr (1, _), s) => ES_ I V bb t s | r => r) = (.inr (q1, q2), s2) := by
              split
              · rename_i y; cases y; exact absurd rfl hq
              · rfl
            rw [← e]; exact K
          have hq2 : q1 = 2 := by
            rcases h2.2.2 with y | y
            · exact y.1
            · exact absurd y.1 hq
          refine K2 N2 a2 u2 h1 ⟨h2.1, by have := h2.2.1; omega, h2.2.2.imp id (fun y => absurd y.1 hq)⟩ h3
  | true, .sub key x, w, hi, L0, u, t, s, N, hS, ht, hu, hL, hZ, K => by
    rw [cqX_] at hS
    rw [ES_] at K
    rw [snX_] at hL K
    have hx := SG_h (SG_r hS)
    rw [cq_len] at hx
    have hr : r ≤ 11 := by have := hR.2.2.2.2.2.2.1; omega
    have hb := hR.2.2.2.2.2.2.2.1
    have hLL := hR.2.2.2.2.1
    have hC := hR.2.2.2.1
    refine TRX_ hR false x w.1 hi L0 u t s N (SG_l hS) ht hu (by omega) hZ ?_
    cases ha : ES_ I V x t s with
    | mk o s2 =>
      rw [ha] at K
      cases o with
      | inr q => exact fun N2 a2 u2 h1 h2 h3 => K N2 a2 u2 h1 (TA_s h2 hx (by first | decide | (simp only; decide))) h3
      | inl u1 =>
        obtain ⟨ys, rfl, hl⟩ := (ES_sh I V false x w.1 t s u1 s2 ha).2 rfl
        simp only at K
        intro N2 u2 hz2 hu2
        obtain ⟨e1, e2, e3, e4, -⟩ := RG_op hR hz2.1 hx
        obtain ⟨u2, rfl⟩ : ∃ v, u2 = v + 1 := ⟨u2 - 1, by omega⟩
        have hz0 : z = 0 := by
          rcases hR.2.2.2.2.2.2.2.2.2.1 with y | y
          · exact y
          · exact absurd rfl (y _ _ hx)
        have han : an_ x ≤ snX_ x := an_le x w.1
        have hlen : (ys ++ t).length ≤ 26 := by rw [List.length_append, hl]; omega
        have h20 : t.length ≤ 20 := by
          obtain ⟨h9, h91, h92⟩ := hR.2.2.2.2.2.2.2.2.2.2.2 _ _ hx
          have h93 : nI t.length + 1 = nI h9 := h92
          rw [nI_1] at h93
          have := (nI_eq (by omega) (by omega)).mp h93
          omega
        obtain ⟨QN, c1, c2⟩ := hR.2.2.2.2.2.2.2.2.2.2.1 N2 (ys ++ t) s2 (kv2_ key) (an_ x) hz2 w.2.2 w.2.1 (by rw [List.length_append]; omega) hlen (by rw [List.length_append, hl]; omega) hz0 ⟨_, _, hx, rfl⟩
        rw [List.drop_left' hl] at K c2
        refine ⟨e1, fun y => by omega, fun _ => ⟨by rw [hz2.1.2.2.1 r 5 (Nat.le_refl _)]; exact hR.2.2.2.2.2.1, b + (ys ++ t).length, by omega, hz2.2.1, fun y => absurd e3 y, fun _ => ⟨QN, by rw [e4]; exact c1, fun N3 h3 => ?_⟩⟩⟩
        have h4 := c2 N3 h3
        cases hI : I (kv2_ key) ((ys ++ t).take (an_ x)) s2 with
        | mk o3 s3 =>
          rw [hI] at h4 K
          cases o3 with
          | inl v =>
            have h5 : ZX_ J r b M0 z (v :: t) s3 N3 := h4
            exact CT_n h5.2.2.2.1 (nI_1 _) (by omega) (K N3 u2 h5 (by omega))
          | inr q =>
            obtain ⟨h5, h6⟩ : TX_ J r b M0 z t q s3 N3 ∧ (q.1 = 1 ∨ q.1 = 2) := h4
            exact CT_t h5.2.2.2.1 (RG_len hR h5.1) (K N3 (L0 + snX_ x) u2 h5 (TA_one (Nat.le_add_right _ _) hx (h6.imp id (fun y => ⟨y, rfl⟩))) (by omega))
  | false, .null, w, hi, L0, u, t, s, N, hS, ht, hu, hL, hZ, K => K N u hZ hu
  | false, .add a rr, w, hi, L0, u, t, s, N, hS, ht, hu, hL, hZ, K => by
    rw [cqX_] at hS
    rw [ES_] at K
    rw [snX_] at hL K
    have hSa := SG_l hS
    have hSb := SG_r hS
    rw [cq_len, nI_1] at hSb
    have hLL := hR.2.2.2.2.1
    have hC := hR.2.2.2.1
    have pa := sn_pos a w.1
    rw [← Nat.add_assoc] at K hL
    refine TRX_ hR true a w.1 hi.1 L0 u t s N hSa ht hu (by omega) hZ ?_
    cases ha : ES_ I V a t s with
    | mk o s2 =>
      rw [ha] at K
      cases o with
      | inr q => exact fun N2 a2 u2 h1 h2 h3 => K N2 a2 u2 h1 (TA_t h2 w.2 hSb (by omega) (by omega)) h3
      | inl u1 =>
        obtain ⟨x1, rfl⟩ := (ES_sh I V true a w.1 t s u1 s2 ha).1 rfl
        simp only at K
        intro N2 u2 hz2 hu2
        refine TRX_ hR false rr w.2 hi.2 (L0 + snX_ a) u2 (x1 :: t) s2 N2 (by rw [List.length_cons]; exact hSb) (by rw [List.length_cons]; omega) hu2 (by omega) hz2 ?_
        cases hbb : ES_ I V rr (x1 :: t) s2 with
        | mk o2 s3 =>
          rw [hbb] at K
          cases o2 with
          | inr q => exact fun N3 a3 u3 h1 h2 h3 => K N3 a3 u3 (TX_dn h1) (TA_lo h2 (by omega)) h3
          | inl u4 => exact K
end TRX
end
