/-! Machine: push, pop, fail described; behindThrow; invokeNamed -/
/-- the stack is h high now, and nothing is thrown or held by it -/
def XP_ (h : Nat) (M N : mm_) : Prop := fyX_ 11 M N ∧ N.1 247 8 = nI h ∧ N.1 247 10 = M.1 247 10
theorem XP_tr {h g : Nat} {A B D : mm_} (a : XP_ h A B) (b : XP_ g B D) : XP_ g A D := ⟨fyX_tr a.1 b.1, b.2.1, b.2.2.trans a.2.2⟩
theorem XP_rf {h : Nat} {M : mm_} (a : M.1 247 8 = nI h) : XP_ h M M := ⟨fyX_rf, a, rfl⟩
theorem XP_row {h q i : Nat} {A B : mm_} {v : Int32} (a : XP_ h A B) (hq : q < 12) (hi : ¬ i = 5) : XP_ h A (sI_ B (249 + q) i v) := ⟨fyX_tr a.1 (fyX_m (by omega) (by omega) (by omega)), by rw [gI_sI, if_neg (by omega)]; exact a.2.1, by rw [gI_sI, if_neg (by omega)]; exact a.2.2⟩
theorem c4_popD (G : gg_) (hG : gd_ G) (d : Nat) (M : mm_) (h : Nat) (hh : M.1 247 8 = nI (h + 1)) (h2 : h + 1 ≤ 220) : cm_ G yX4_pop cX4_pop 1 (some .int) d [.ref (G.1 247)] M (rI_ (fun _ N => XP_ h M N)) := by
  refine cm_post (c4_pop G hG d M (h + 1) hh h2) (fun v N z => ?_)
  obtain ⟨z1, z2⟩ := z
  subst z2
  refine ⟨_, z1, fyX_pp, ?_, ?_⟩
  · unfold ppX_; rw [if_neg (by omega)]; exact (gI_sI _ _ _ _ _ _).trans (if_pos ⟨rfl, rfl⟩)
  · unfold ppX_; rw [if_neg (by omega)]; exact (gI_sI _ _ _ _ _ _).trans (if_neg (by omega))
theorem c4_pushD (G : gg_) (hG : gd_ G) (d : Nat) (M : mm_) (h : Nat) (hh : M.1 247 8 = nI h) (h2 : h < 220) (v : Int32) : cm_ G yX4_push cX4_push 2 none d [.ref (G.1 247), .int v] M (rV_ (fun N => XP_ (h + 1) M N)) := by
  refine cm_post (c4_push G hG d M h hh (by omega) v) (fun v N z => ?_)
  obtain ⟨z1, z2⟩ := z
  subst z2
  refine ⟨z1, fyX_pu (by omega), ?_, ?_⟩
  · unfold puX_; rw [if_pos h2]; exact (gI_sI _ _ _ _ _ _).trans (if_pos ⟨rfl, rfl⟩)
  · unfold puX_; rw [if_pos h2, gI_sI, if_neg (by omega), gI_sI, if_neg (by omega)]
/-- it has thrown; the stack stayed as it was -/
def XT_ (M N : mm_) : Prop := fyX_ 11 M N ∧ N.1 247 8 = M.1 247 8 ∧ N.1 247 10 = 1
theorem c4_failD (G : gg_) (hG : gd_ G) (d : Nat) (M : mm_) (v : Int32) : cm_ G yX4_fail cX4_fail 2 none d [.ref (G.1 247), .int v] M (rV_ (fun N => XT_ M N)) := by
  refine cm_post (c4_fail G hG d M v) (fun v N z => ?_)
  obtain ⟨z1, z2⟩ := z
  subst z2
  refine ⟨z1, fyX_fl, ?_, ?_⟩
  · unfold flX_; rw [gI_sI, if_neg (by omega), gI_sI, if_neg (by omega)]
  · unfold flX_; rw [gI_sI, if_neg (by omega), gI_sI, if_pos ⟨rfl, rfl⟩]
theorem bt1_le {M : mm_} {k a : Nat} : ∀ u i, i ≤ bt1_ M k a u i ∧ bt1_ M k a u i ≤ i + u := by
  intro u
  induction u with
  | zero => intro i; rw [bt1_]; omega
  | succ u ih =>
    intro i
    rw [bt1_]
    split
    · omega
    · have := ih (i + 1); omega
def nxX_ (M : mm_) (k L a : Nat) : Nat := if ¬ M.1 247 12 = 0 ∧ M.1 (k + 1) a = 7 then L else bt1_ M k a (L - (a + 1)) (a + 1)
theorem nxX_le {M : mm_} {k L a : Nat} (h : a < L) : a + 1 ≤ nxX_ M k L a ∧ nxX_ M k L a ≤ L := by
  unfold nxX_
  have := bt1_le (M := M) (k := k) (a := a) (L - (a + 1)) (a + 1)
  split <;> omega
def bhX_ (M : mm_) (k L a : Nat) (b : Int32) : mm_ := if nxX_ M k L a < L then sI_ (sI_ M 247 8 (b + M.1 (k + 4) (nxX_ M k L a - 1))) 247 10 0 else M
theorem nI_ne1 : ∀ m, m < 16 → ¬ nI m = -1 := by decide
theorem fd1_in {M : mm_} {c : Nat} {y : Int64} : ∀ u i, fd1_ M c y u i = -1 ∨ ∃ m, m < i + u ∧ fd1_ M c y u i = nI m := by
  intro u
  induction u with
  | zero => intro i; rw [fd1_]; exact Or.inl rfl
  | succ u ih =>
    intro i
    rw [fd1_]
    split
    · exact Or.inr ⟨i, by omega, rfl⟩
    · rcases ih (i + 1) with z | ⟨m, h1, h2⟩
      · exact Or.inl z
      · exact Or.inr ⟨m, by omega, h2⟩
set_option maxRecDepth 100000 in
set_option maxHeartbeats 600000 in
theorem c4_behindThrow (G : gg_) (hG : gd_ G) (d : Nat) (M : mm_) (k : Nat) (hk : cdX_ k) (L : Nat) (hl : M.1 k 4 = nI L) (hn : L ≤ 26) (a : Nat) (ha : a < L) (b : Int32) : cm_ G yX4_behindThrow cX4_behindThrow 6 (some .int) (d + 1) [.ref (G.1 247), .ref (G.1 k), .int (nI a), .int b] M (fI_ (nI (nxX_ M k L a)) (bhX_ M k L a b)) := by
  refine cm_of hG (by decide) (Nat.le_of_ble_eq_true rfl) (fun C X => ?_)
  have hle := nxX_le (M := M) (k := k) ha
  refine w_aload_n X dX4_behindThrow_0 rfl rfl ?_
  refine g4_45 X dX4_behindThrow_1 s_247 rfl ?_
  refine w_if_eq (tgt := 22) X dX4_behindThrow_4 (by decide) (fun h4 => ?_) (fun h4 => ?_)
  · refine w_iconst (v := 0) X dX4_behindThrow_22 (by decide) ?_
    have hx : nxX_ M k L a = bt1_ M k a (L - (a + 1)) (a + 1) := if_neg (fun z => z.1 h4)
    refine w_istore X dX4_behindThrow_23 (by decide) ?_
    refine w_iload X dX4_behindThrow_25 rfl ?_
    refine w_if_eq (tgt := 37) X dX4_behindThrow_27 (by decide) (fun h27 => ?_) (fun h27 => absurd (rfl) h27)
    refine w_aload_n X dX4_behindThrow_37 rfl rfl ?_
    refine w_iload_n X dX4_behindThrow_38 rfl rfl ?_
    refine w_v1fI X dX4_behindThrow_39 k4_119 rfl hk.1 (c0_behindThrow G hG _ _ k hk L hl hn a ha) (Nat.le_of_ble_eq_true rfl) ?_
    rw [← hx]
    refine w_istore X dX4_behindThrow_42 (by decide) ?_
    refine w_iload X dX4_behindThrow_44 rfl ?_
    refine w_aload_n X dX4_behindThrow_46 rfl rfl ?_
    refine g4_77 X dX4_behindThrow_47 hk.1 rfl ?_
    rw [hl]
    refine w_icmp_ge (tgt := 73) X dX4_behindThrow_50 (by decide) (fun h50 => ?_) (fun h50 => ?_)
    · refine w_iload X dX4_behindThrow_73 rfl ?_
      refine w_irF X dX4_behindThrow_75 rfl ?_
      unfold bhX_
      rw [if_neg (fun z => absurd h50 (nI_ge (a := nxX_ M k L a) (b := L) z (by omega)))]
    · have hlt : nxX_ M k L a < L := Nat.lt_of_not_le (fun z => h50 (nI_le (a := L) (b := nxX_ M k L a) z (by omega)))
      refine w_aload_n X dX4_behindThrow_53 rfl rfl ?_
      refine w_iload_n X dX4_behindThrow_54 rfl rfl ?_
      refine w_aload_n X dX4_behindThrow_55 rfl rfl ?_
      refine g4_122 X dX4_behindThrow_56 hk.1 rfl ?_
      refine w_iload X dX4_behindThrow_59 rfl ?_
      refine w_iconst (v := 1) X dX4_behindThrow_61 (by decide) ?_
      refine w_isub X dX4_behindThrow_62 ?_
      rw [nI_p _ (by omega)]
      refine w_ialoadN X dX4_behindThrow_63 hk.2.2.2.2 rfl (⟨by omega, by decide⟩) ?_
      refine w_iadd X dX4_behindThrow_64 ?_
      refine p4_48 X dX4_behindThrow_65 s_247 rfl ?_
      refine w_aload_n X dX4_behindThrow_68 rfl rfl ?_
      refine w_iconst (v := 0) X dX4_behindThrow_69 (by decide) ?_
      refine p4_58 X dX4_behindThrow_70 s_247 rfl (by first | exact Or.inl rfl | exact Or.inr rfl | assumption) ?_
      refine w_iload X dX4_behindThrow_73 rfl ?_
      refine w_irF X dX4_behindThrow_75 rfl ?_
      unfold bhX_
      rw [if_pos hlt]
  · refine w_aload_n X dX4_behindThrow_7 rfl rfl ?_
    refine g4_99 X dX4_behindThrow_8 hk.1 rfl ?_
    refine w_iload_n X dX4_behindThrow_11 rfl rfl ?_
    refine w_ialoadN X dX4_behindThrow_12 hk.2.1 rfl (⟨by omega, by decide⟩) ?_
    refine w_bipush (v := 7) X dX4_behindThrow_13 (by decide) ?_
    refine w_icmp_ne (tgt := 22) X dX4_behindThrow_15 (by decide) (fun h15 => ?_) (fun h15 => ?_)
    · refine w_iconst (v := 0) X dX4_behindThrow_22 (by decide) ?_
      have hx : nxX_ M k L a = bt1_ M k a (L - (a + 1)) (a + 1) := if_neg (fun z => h15 z.2)
      refine w_istore X dX4_behindThrow_23 (by decide) ?_
      refine w_iload X dX4_behindThrow_25 rfl ?_
      refine w_if_eq (tgt := 37) X dX4_behindThrow_27 (by decide) (fun h27 => ?_) (fun h27 => absurd (rfl) h27)
      refine w_aload_n X dX4_behindThrow_37 rfl rfl ?_
      refine w_iload_n X dX4_behindThrow_38 rfl rfl ?_
      refine w_v1fI X dX4_behindThrow_39 k4_119 rfl hk.1 (c0_behindThrow G hG _ _ k hk L hl hn a ha) (Nat.le_of_ble_eq_true rfl) ?_
      rw [← hx]
      refine w_istore X dX4_behindThrow_42 (by decide) ?_
      refine w_iload X dX4_behindThrow_44 rfl ?_
      refine w_aload_n X dX4_behindThrow_46 rfl rfl ?_
      refine g4_77 X dX4_behindThrow_47 hk.1 rfl ?_
      rw [hl]
      refine w_icmp_ge (tgt := 73) X dX4_behindThrow_50 (by decide) (fun h50 => ?_) (fun h50 => ?_)
      · refine w_iload X dX4_behindThrow_73 rfl ?_
        refine w_irF X dX4_behindThrow_75 rfl ?_
        unfold bhX_
        rw [if_neg (fun z => absurd h50 (nI_ge (a := nxX_ M k L a) (b := L) z (by omega)))]
      · have hlt : nxX_ M k L a < L := Nat.lt_of_not_le (fun z => h50 (nI_le (a := L) (b := nxX_ M k L a) z (by omega)))
        refine w_aload_n X dX4_behindThrow_53 rfl rfl ?_
        refine w_iload_n X dX4_behindThrow_54 rfl rfl ?_
        refine w_aload_n X dX4_behindThrow_55 rfl rfl ?_
        refine g4_122 X dX4_behindThrow_56 hk.1 rfl ?_
        refine w_iload X dX4_behindThrow_59 rfl ?_
        refine w_iconst (v := 1) X dX4_behindThrow_61 (by decide) ?_
        refine w_isub X dX4_behindThrow_62 ?_
        rw [nI_p _ (by omega)]
        refine w_ialoadN X dX4_behindThrow_63 hk.2.2.2.2 rfl (⟨by omega, by decide⟩) ?_
        refine w_iadd X dX4_behindThrow_64 ?_
        refine p4_48 X dX4_behindThrow_65 s_247 rfl ?_
        refine w_aload_n X dX4_behindThrow_68 rfl rfl ?_
        refine w_iconst (v := 0) X dX4_behindThrow_69 (by decide) ?_
        refine p4_58 X dX4_behindThrow_70 s_247 rfl (by first | exact Or.inl rfl | exact Or.inr rfl | assumption) ?_
        refine w_iload X dX4_behindThrow_73 rfl ?_
        refine w_irF X dX4_behindThrow_75 rfl ?_
        unfold bhX_
        rw [if_pos hlt]
    · refine w_iconst (v := 1) X dX4_behindThrow_18 (by decide) ?_
      refine w_goto (tgt := 23) X dX4_behindThrow_19 (by decide) ?_
      have hx : nxX_ M k L a = L := if_pos ⟨h4, h15⟩
      refine w_istore X dX4_behindThrow_23 (by decide) ?_
      refine w_iload X dX4_behindThrow_25 rfl ?_
      refine w_if_eq (tgt := 37) X dX4_behindThrow_27 (by decide) (fun h27 => absurd h27 (by decide)) (fun h27 => ?_)
      refine w_aload_n X dX4_behindThrow_30 rfl rfl ?_
      refine g4_77 X dX4_behindThrow_31 hk.1 rfl ?_
      refine w_goto (tgt := 42) X dX4_behindThrow_34 (by decide) ?_
      rw [hl, show nI L = nI (nxX_ M k L a) by rw [hx]]
      refine w_istore X dX4_behindThrow_42 (by decide) ?_
      refine w_iload X dX4_behindThrow_44 rfl ?_
      refine w_aload_n X dX4_behindThrow_46 rfl rfl ?_
      refine g4_77 X dX4_behindThrow_47 hk.1 rfl ?_
      rw [hl]
      refine w_icmp_ge (tgt := 73) X dX4_behindThrow_50 (by decide) (fun h50 => ?_) (fun h50 => ?_)
      · refine w_iload X dX4_behindThrow_73 rfl ?_
        refine w_irF X dX4_behindThrow_75 rfl ?_
        unfold bhX_
        rw [if_neg (fun z => absurd h50 (nI_ge (a := nxX_ M k L a) (b := L) z (by omega)))]
      · have hlt : nxX_ M k L a < L := Nat.lt_of_not_le (fun z => h50 (nI_le (a := L) (b := nxX_ M k L a) z (by omega)))
        refine w_aload_n X dX4_behindThrow_53 rfl rfl ?_
        refine w_iload_n X dX4_behindThrow_54 rfl rfl ?_
        refine w_aload_n X dX4_behindThrow_55 rfl rfl ?_
        refine g4_122 X dX4_behindThrow_56 hk.1 rfl ?_
        refine w_iload X dX4_behindThrow_59 rfl ?_
        refine w_iconst (v := 1) X dX4_behindThrow_61 (by decide) ?_
        refine w_isub X dX4_behindThrow_62 ?_
        rw [nI_p _ (by omega)]
        refine w_ialoadN X dX4_behindThrow_63 hk.2.2.2.2 rfl (⟨by omega, by decide⟩) ?_
        refine w_iadd X dX4_behindThrow_64 ?_
        refine p4_48 X dX4_behindThrow_65 s_247 rfl ?_
        refine w_aload_n X dX4_behindThrow_68 rfl rfl ?_
        refine w_iconst (v := 0) X dX4_behindThrow_69 (by decide) ?_
        refine p4_58 X dX4_behindThrow_70 s_247 rfl (by first | exact Or.inl rfl | exact Or.inr rfl | assumption) ?_
        refine w_iload X dX4_behindThrow_73 rfl ?_
        refine w_irF X dX4_behindThrow_75 rfl ?_
        unfold bhX_
        rw [if_pos hlt]
def zoX_ (x : Int32) : Prop := x = 0 ∨ x = 1
/-- what comes of an invocation at depth r, the stack h high -/
def INX_ (r h : Nat) (M : mm_) (_ : Int32) (N : mm_) : Prop := fyX_ (r - 1) M N ∧ N.1 247 8 = nI h ∧ zoX_ (N.1 247 10)
def IVX_ (G : gg_) (c : Nat) (J : Nat → Nat) (S r w : Nat) : Prop := ∀ (e : Nat) (M : mm_) (m h : Nat), kmX_ c J S M → m < c → M.1 247 8 = nI h → h ≤ 20 * (r - 1) → zoX_ (M.1 247 10) → cm_ G yX4_invoke cX4_invoke 6 (some .int) (e + w) [.ref (G.1 247), .int (nI m), .int (nI r)] M (rI_ (INX_ r h M))
/-- what comes of a step: it has thrown, or the stack is g high -/
def IMX_ (r g : Nat) (M N : mm_) : Prop := fyX_ r M N ∧ zoX_ (N.1 247 10) ∧ (N.1 247 10 = 0 → N.1 247 8 = nI g) ∧ ∃ h, h ≤ 220 ∧ N.1 247 8 = nI h
theorem IMX_P {r g : Nat} {M N : mm_} (hr : r ≤ 11) (hg : g ≤ 220) (h : XP_ g M N) (h0 : M.1 247 10 = 0) : IMX_ r g M N := ⟨fyX_le h.1 hr, Or.inl (h.2.2.trans h0), fun _ => h.2.1, g, hg, h.2.1⟩
theorem IMX_T {r g h : Nat} {M N A : mm_} (hr : r ≤ 11) (hh : h ≤ 220) (a : XP_ h M A) (b : XT_ A N) : IMX_ r g M N := ⟨fyX_le (fyX_tr a.1 b.1) hr, Or.inr b.2.2, fun z => absurd (b.2.2.symm.trans z) (by decide), h, hh, b.2.1.trans a.2.1⟩
set_option maxRecDepth 100000 in
set_option maxHeartbeats 800000 in
theorem c4_invokeNamed (G : gg_) (hG : gd_ G) (e c : Nat) (J : Nat → Nat) (S r w : Nat) (hI : IVX_ G c J S (r + 1) w) (hr : r ≤ 10) (M : mm_) (hM : kmX_ c J S M) (key : Int64) (j : Nat) (hj : poX_ key = nI j) (hj3 : j ≤ 3) (h : Nat) (hh : M.1 247 8 = nI h) (hjh : j ≤ h) (hh2 : h ≤ 20 * r) (h10 : M.1 247 10 = 0) : cm_ G yX4_invokeNamed cX4_invokeNamed 8 none (e + w + 1) [.ref (G.1 247), .long key, .int (nI (r + 1))] M (rV_ (IMX_ r (h - j + 1) M)) := by
  refine cm_of hG (by decide) (Nat.le_of_ble_eq_true rfl) (fun C X => ?_)
  have t53 : ∀ (a0 a1 a2 a3 a4 : Option Value) (N : mm_), XP_ (h - j) M N → wq_ C G (qe_ C G (rV_ (IMX_ r (h - j + 1) M))) 53 [some (.ref (G.1 247)), some (.long key), a0, some (.int (nI (r + 1))), a1, a2, a3, a4] [] N := by
    intro a0 a1 a2 a3 a4 N hP
    have hN := kmX_fz hP.1.1 hM
    refine w_aload_n X dX4_invokeNamed_53 rfl rfl ?_
    refine g4_9 X dX4_invokeNamed_54 s_247 rfl ?_
    refine w_lload_n X dX4_invokeNamed_57 rfl rfl ?_
    refine w_v1fI X dX4_invokeNamed_58 k4_136 rfl s_45 (c5_find G hG _ _ c hN.1 _) (Nat.le_of_ble_eq_true rfl) ?_
    refine w_istore X dX4_invokeNamed_61 (by decide) ?_
    rcases fd1_in (M := N) (c := c) (y := key) c 0 with hf | ⟨m, hm, hf⟩
    · refine w_iload X dX4_invokeNamed_63 rfl ?_
      refine w_iconst (v := -1) X dX4_invokeNamed_65 (by decide) ?_
      rw [hf]
      refine w_icmp_ne (tgt := 76) X dX4_invokeNamed_66 (by decide) (fun h66 => absurd rfl h66) (fun h66 => ?_)
      refine w_aload_n X dX4_invokeNamed_69 rfl rfl ?_
      refine w_bipush (v := -4) X dX4_invokeNamed_70 (by decide) ?_
      refine w_v1rV X dX4_invokeNamed_72 k4_108 rfl s_247 (c4_failD G hG _ _ _) (Nat.le_of_ble_eq_true rfl) (fun N72 h72 => ?_)
      exact w_vrR X dX4_invokeNamed_75 (IMX_T (by omega) (by omega) hP h72)
    · refine w_iload X dX4_invokeNamed_63 rfl ?_
      refine w_iconst (v := -1) X dX4_invokeNamed_65 (by decide) ?_
      rw [hf]
      refine w_icmp_ne (tgt := 76) X dX4_invokeNamed_66 (by decide) (fun h66 => ?_) (fun h66 => absurd h66 (nI_ne1 m (by have := hM.1.1; omega)))
      refine w_aload_n X dX4_invokeNamed_76 rfl rfl ?_
      refine w_iload X dX4_invokeNamed_77 rfl ?_
      refine w_iload_n X dX4_invokeNamed_79 rfl rfl ?_
      refine w_v2rI X dX4_invokeNamed_80 k4_51 rfl s_247 (hI e N m (h - j) hN (by omega) hP.2.1 (by omega) (Or.inl (hP.2.2.trans h10))) (Nat.le_of_ble_eq_true rfl) (fun r80 N80 h80 => ?_)
      refine w_istore X dX4_invokeNamed_83 (by decide) ?_
      refine w_aload_n X dX4_invokeNamed_85 rfl rfl ?_
      refine g4_58 X dX4_invokeNamed_86 s_247 rfl ?_
      refine w_if_eq (tgt := 101) X dX4_invokeNamed_89 (by decide) (fun h89 => ?_) (fun h89 => ?_)
      · refine w_aload_n X dX4_invokeNamed_101 rfl rfl ?_
        refine w_iload X dX4_invokeNamed_102 rfl ?_
        refine w_v1rV X dX4_invokeNamed_104 k4_102 rfl s_247 (c4_pushD G hG _ _ (h - j) h80.2.1 (by omega) _) (Nat.le_of_ble_eq_true rfl) (fun N104 h104 => ?_)
        refine w_vrR X dX4_invokeNamed_107 ⟨fyX_tr (fyX_le hP.1 (by omega)) (fyX_tr h80.1 (fyX_le h104.1 (by omega))), ?_, fun _ => h104.2.1, h - j + 1, by omega, h104.2.1⟩
        rw [h104.2.2]; exact Or.inl h89
      · refine w_aload_n X dX4_invokeNamed_92 rfl rfl ?_
        refine w_iload X dX4_invokeNamed_93 rfl ?_
        refine p4_88 X dX4_invokeNamed_95 s_247 rfl ?_
        refine w_goto (tgt := 107) X dX4_invokeNamed_98 (by decide) ?_
        refine w_vrR X dX4_invokeNamed_107 ⟨fyX_tr (fyX_le hP.1 (by omega)) (fyX_tr h80.1 (fyX_m (by omega) (by omega) (by omega))), ?_, ?_, h - j, by omega, ?_⟩
        · rw [gI_sI, if_neg (by omega)]; exact h80.2.2
        · intro z; rw [gI_sI, if_neg (by omega)] at z; exact absurd z h89
        · rw [gI_sI, if_neg (by omega)]; exact h80.2.1
  have hmin : (if (11 : Int32) < nI (r + 1) then 11 else nI (r + 1)) = nI (r + 1) := if_neg (fun z => absurd z (Int32.not_lt.mpr (nI_le (a := r + 1) (b := 11) (by omega) (by decide))))
  refine w_aload_n X dX4_invokeNamed_0 rfl rfl ?_
  refine g4_28 X dX4_invokeNamed_1 s_247 rfl ?_
  refine w_iload_n X dX4_invokeNamed_4 rfl rfl ?_
  refine w_bipush (v := 11) X dX4_invokeNamed_5 (by decide) ?_
  refine w_minI X dX4_invokeNamed_7 mw4_125 (Nat.le_of_ble_eq_true rfl) ?_
  rw [hmin]
  refine w_aaload X dX4_invokeNamed_10 s_248 rfl rfl (⟨by omega, by decide⟩) (hM.2.2.2.1 (r + 1) (by omega)) ?_
  refine w_astore X dX4_invokeNamed_11 (by decide) ?_
  refine w_lload_n X dX4_invokeNamed_13 rfl rfl ?_
  refine w_s1fI X dX4_invokeNamed_14 k4_130 (c6_parametersOf G hG _ _ _) (Nat.le_of_ble_eq_true rfl) ?_
  rw [hj]
  refine w_istore X dX4_invokeNamed_17 (by decide) ?_
  obtain rfl | rfl | rfl | rfl : j = 0 ∨ j = 1 ∨ j = 2 ∨ j = 3 := by omega
  · refine w_iconst (v := 2) X dX4_invokeNamed_19 (by decide) ?_
    refine w_istore X dX4_invokeNamed_20 (by decide) ?_
    refine w_iload X dX4_invokeNamed_22 rfl ?_
    refine w_if_lt (tgt := 53) X dX4_invokeNamed_24 (by decide) (fun h24 => absurd h24 (by decide)) (fun h24 => ?_)
    refine w_aload X dX4_invokeNamed_27 rfl ?_
    refine w_iload X dX4_invokeNamed_29 rfl ?_
    refine w_iload X dX4_invokeNamed_31 rfl ?_
    refine w_iload X dX4_invokeNamed_33 rfl ?_
    refine w_icmp_ge (tgt := 45) X dX4_invokeNamed_35 (by decide) (fun h35 => ?_) (fun h35 => absurd (by decide) h35)
    refine w_iconst (v := 0) X dX4_invokeNamed_45 (by decide) ?_
    refine w_iastoreN X dX4_invokeNamed_46 (vr_row _ (by omega)) rfl (⟨by decide, by decide⟩) ?_
    refine w_iinc (v := -1) X dX4_invokeNamed_47 rfl (by decide) (by decide) ?_
    refine w_goto (tgt := 22) X dX4_invokeNamed_50 (by decide) ?_
    refine w_iload X dX4_invokeNamed_22 rfl ?_
    refine w_if_lt (tgt := 53) X dX4_invokeNamed_24 (by decide) (fun h24 => absurd h24 (by decide)) (fun h24 => ?_)
    refine w_aload X dX4_invokeNamed_27 rfl ?_
    refine w_iload X dX4_invokeNamed_29 rfl ?_
    refine w_iload X dX4_invokeNamed_31 rfl ?_
    refine w_iload X dX4_invokeNamed_33 rfl ?_
    refine w_icmp_ge (tgt := 45) X dX4_invokeNamed_35 (by decide) (fun h35 => ?_) (fun h35 => absurd (by decide) h35)
    refine w_iconst (v := 0) X dX4_invokeNamed_45 (by decide) ?_
    rw [show (2 : Int32) + -1 = nI 1 from rfl]
    refine w_iastoreN X dX4_invokeNamed_46 (vr_row _ (by omega)) rfl (⟨by decide, by decide⟩) ?_
    refine w_iinc (v := -1) X dX4_invokeNamed_47 rfl (by decide) (by decide) ?_
    refine w_goto (tgt := 22) X dX4_invokeNamed_50 (by decide) ?_
    refine w_iload X dX4_invokeNamed_22 rfl ?_
    refine w_if_lt (tgt := 53) X dX4_invokeNamed_24 (by decide) (fun h24 => absurd h24 (by decide)) (fun h24 => ?_)
    refine w_aload X dX4_invokeNamed_27 rfl ?_
    refine w_iload X dX4_invokeNamed_29 rfl ?_
    refine w_iload X dX4_invokeNamed_31 rfl ?_
    refine w_iload X dX4_invokeNamed_33 rfl ?_
    refine w_icmp_ge (tgt := 45) X dX4_invokeNamed_35 (by decide) (fun h35 => ?_) (fun h35 => absurd (by decide) h35)
    refine w_iconst (v := 0) X dX4_invokeNamed_45 (by decide) ?_
    rw [show nI 1 + -1 = nI 0 from rfl]
    refine w_iastoreN X dX4_invokeNamed_46 (vr_row _ (by omega)) rfl (⟨by decide, by decide⟩) ?_
    refine w_iinc (v := -1) X dX4_invokeNamed_47 rfl (by decide) (by decide) ?_
    refine w_goto (tgt := 22) X dX4_invokeNamed_50 (by decide) ?_
    refine w_iload X dX4_invokeNamed_22 rfl ?_
    refine w_if_lt (tgt := 53) X dX4_invokeNamed_24 (by decide) (fun h24 => ?_) (fun h24 => absurd (by decide) h24)
    exact t53 _ _ _ _ _ _ (by exact (XP_row (q := r + 1) (i := 0) (v := 0) (XP_row (q := r + 1) (i := 1) (v := 0) (XP_row (q := r + 1) (i := 2) (v := 0) (XP_rf hh) (by omega) (by decide)) (by omega) (by decide)) (by omega) (by decide)))
  · refine w_iconst (v := 2) X dX4_invokeNamed_19 (by decide) ?_
    refine w_istore X dX4_invokeNamed_20 (by decide) ?_
    refine w_iload X dX4_invokeNamed_22 rfl ?_
    refine w_if_lt (tgt := 53) X dX4_invokeNamed_24 (by decide) (fun h24 => absurd h24 (by decide)) (fun h24 => ?_)
    refine w_aload X dX4_invokeNamed_27 rfl ?_
    refine w_iload X dX4_invokeNamed_29 rfl ?_
    refine w_iload X dX4_invokeNamed_31 rfl ?_
    refine w_iload X dX4_invokeNamed_33 rfl ?_
    refine w_icmp_ge (tgt := 45) X dX4_invokeNamed_35 (by decide) (fun h35 => ?_) (fun h35 => absurd (by decide) h35)
    refine w_iconst (v := 0) X dX4_invokeNamed_45 (by decide) ?_
    refine w_iastoreN X dX4_invokeNamed_46 (vr_row _ (by omega)) rfl (⟨by decide, by decide⟩) ?_
    refine w_iinc (v := -1) X dX4_invokeNamed_47 rfl (by decide) (by decide) ?_
    refine w_goto (tgt := 22) X dX4_invokeNamed_50 (by decide) ?_
    refine w_iload X dX4_invokeNamed_22 rfl ?_
    refine w_if_lt (tgt := 53) X dX4_invokeNamed_24 (by decide) (fun h24 => absurd h24 (by decide)) (fun h24 => ?_)
    refine w_aload X dX4_invokeNamed_27 rfl ?_
    refine w_iload X dX4_invokeNamed_29 rfl ?_
    refine w_iload X dX4_invokeNamed_31 rfl ?_
    refine w_iload X dX4_invokeNamed_33 rfl ?_
    refine w_icmp_ge (tgt := 45) X dX4_invokeNamed_35 (by decide) (fun h35 => ?_) (fun h35 => absurd (by decide) h35)
    refine w_iconst (v := 0) X dX4_invokeNamed_45 (by decide) ?_
    rw [show (2 : Int32) + -1 = nI 1 from rfl]
    refine w_iastoreN X dX4_invokeNamed_46 (vr_row _ (by omega)) rfl (⟨by decide, by decide⟩) ?_
    refine w_iinc (v := -1) X dX4_invokeNamed_47 rfl (by decide) (by decide) ?_
    refine w_goto (tgt := 22) X dX4_invokeNamed_50 (by decide) ?_
    refine w_iload X dX4_invokeNamed_22 rfl ?_
    refine w_if_lt (tgt := 53) X dX4_invokeNamed_24 (by decide) (fun h24 => absurd h24 (by decide)) (fun h24 => ?_)
    refine w_aload X dX4_invokeNamed_27 rfl ?_
    refine w_iload X dX4_invokeNamed_29 rfl ?_
    refine w_iload X dX4_invokeNamed_31 rfl ?_
    refine w_iload X dX4_invokeNamed_33 rfl ?_
    refine w_icmp_ge (tgt := 45) X dX4_invokeNamed_35 (by decide) (fun h35 => absurd h35 (by decide)) (fun h35 => ?_)
    refine w_aload_n X dX4_invokeNamed_38 rfl rfl ?_
    have q0 := (XP_row (q := r + 1) (i := 1) (v := 0) (XP_row (q := r + 1) (i := 2) (v := 0) (XP_rf hh) (by omega) (by decide)) (by omega) (by decide))
    refine w_v0rI X dX4_invokeNamed_39 k4_91 rfl s_247 (c4_popD G hG _ _ (h - 1) (by rw [q0.2.1]; congr 1; omega) (by omega)) (Nat.le_of_ble_eq_true rfl) (fun v0 N0 z0 => ?_)
    refine w_goto (tgt := 46) X dX4_invokeNamed_42 (by decide) ?_
    rw [show nI 1 + -1 = nI 0 from rfl]
    refine w_iastoreN X dX4_invokeNamed_46 (vr_row _ (by omega)) rfl (⟨by decide, by decide⟩) ?_
    refine w_iinc (v := -1) X dX4_invokeNamed_47 rfl (by decide) (by decide) ?_
    refine w_goto (tgt := 22) X dX4_invokeNamed_50 (by decide) ?_
    refine w_iload X dX4_invokeNamed_22 rfl ?_
    refine w_if_lt (tgt := 53) X dX4_invokeNamed_24 (by decide) (fun h24 => ?_) (fun h24 => absurd (by decide) h24)
    exact t53 _ _ _ _ _ _ (by exact (XP_row (q := r + 1) (i := 0) (v := v0) (XP_tr q0 z0) (by omega) (by decide)))
  · refine w_iconst (v := 2) X dX4_invokeNamed_19 (by decide) ?_
    refine w_istore X dX4_invokeNamed_20 (by decide) ?_
    refine w_iload X dX4_invokeNamed_22 rfl ?_
    refine w_if_lt (tgt := 53) X dX4_invokeNamed_24 (by decide) (fun h24 => absurd h24 (by decide)) (fun h24 => ?_)
    refine w_aload X dX4_invokeNamed_27 rfl ?_
    refine w_iload X dX4_invokeNamed_29 rfl ?_
    refine w_iload X dX4_invokeNamed_31 rfl ?_
    refine w_iload X dX4_invokeNamed_33 rfl ?_
    refine w_icmp_ge (tgt := 45) X dX4_invokeNamed_35 (by decide) (fun h35 => ?_) (fun h35 => absurd (by decide) h35)
    refine w_iconst (v := 0) X dX4_invokeNamed_45 (by decide) ?_
    refine w_iastoreN X dX4_invokeNamed_46 (vr_row _ (by omega)) rfl (⟨by decide, by decide⟩) ?_
    refine w_iinc (v := -1) X dX4_invokeNamed_47 rfl (by decide) (by decide) ?_
    refine w_goto (tgt := 22) X dX4_invokeNamed_50 (by decide) ?_
    refine w_iload X dX4_invokeNamed_22 rfl ?_
    refine w_if_lt (tgt := 53) X dX4_invokeNamed_24 (by decide) (fun h24 => absurd h24 (by decide)) (fun h24 => ?_)
    refine w_aload X dX4_invokeNamed_27 rfl ?_
    refine w_iload X dX4_invokeNamed_29 rfl ?_
    refine w_iload X dX4_invokeNamed_31 rfl ?_
    refine w_iload X dX4_invokeNamed_33 rfl ?_
    refine w_icmp_ge (tgt := 45) X dX4_invokeNamed_35 (by decide) (fun h35 => absurd h35 (by decide)) (fun h35 => ?_)
    refine w_aload_n X dX4_invokeNamed_38 rfl rfl ?_
    have q1 := (XP_row (q := r + 1) (i := 2) (v := 0) (XP_rf hh) (by omega) (by decide))
    refine w_v0rI X dX4_invokeNamed_39 k4_91 rfl s_247 (c4_popD G hG _ _ (h - 1) (by rw [q1.2.1]; congr 1; omega) (by omega)) (Nat.le_of_ble_eq_true rfl) (fun v1 N1 z1 => ?_)
    refine w_goto (tgt := 46) X dX4_invokeNamed_42 (by decide) ?_
    rw [show (2 : Int32) + -1 = nI 1 from rfl]
    refine w_iastoreN X dX4_invokeNamed_46 (vr_row _ (by omega)) rfl (⟨by decide, by decide⟩) ?_
    refine w_iinc (v := -1) X dX4_invokeNamed_47 rfl (by decide) (by decide) ?_
    refine w_goto (tgt := 22) X dX4_invokeNamed_50 (by decide) ?_
    refine w_iload X dX4_invokeNamed_22 rfl ?_
    refine w_if_lt (tgt := 53) X dX4_invokeNamed_24 (by decide) (fun h24 => absurd h24 (by decide)) (fun h24 => ?_)
    refine w_aload X dX4_invokeNamed_27 rfl ?_
    refine w_iload X dX4_invokeNamed_29 rfl ?_
    refine w_iload X dX4_invokeNamed_31 rfl ?_
    refine w_iload X dX4_invokeNamed_33 rfl ?_
    refine w_icmp_ge (tgt := 45) X dX4_invokeNamed_35 (by decide) (fun h35 => absurd h35 (by decide)) (fun h35 => ?_)
    refine w_aload_n X dX4_invokeNamed_38 rfl rfl ?_
    have q0 := (XP_row (q := r + 1) (i := 1) (v := v1) (XP_tr q1 z1) (by omega) (by decide))
    refine w_v0rI X dX4_invokeNamed_39 k4_91 rfl s_247 (c4_popD G hG _ _ (h - 2) (by rw [q0.2.1]; congr 1; omega) (by omega)) (Nat.le_of_ble_eq_true rfl) (fun v0 N0 z0 => ?_)
    refine w_goto (tgt := 46) X dX4_invokeNamed_42 (by decide) ?_
    rw [show nI 1 + -1 = nI 0 from rfl]
    refine w_iastoreN X dX4_invokeNamed_46 (vr_row _ (by omega)) rfl (⟨by decide, by decide⟩) ?_
    refine w_iinc (v := -1) X dX4_invokeNamed_47 rfl (by decide) (by decide) ?_
    refine w_goto (tgt := 22) X dX4_invokeNamed_50 (by decide) ?_
    refine w_iload X dX4_invokeNamed_22 rfl ?_
    refine w_if_lt (tgt := 53) X dX4_invokeNamed_24 (by decide) (fun h24 => ?_) (fun h24 => absurd (by decide) h24)
    exact t53 _ _ _ _ _ _ (by exact (XP_row (q := r + 1) (i := 0) (v := v0) (XP_tr q0 z0) (by omega) (by decide)))
  · refine w_iconst (v := 2) X dX4_invokeNamed_19 (by decide) ?_
    refine w_istore X dX4_invokeNamed_20 (by decide) ?_
    refine w_iload X dX4_invokeNamed_22 rfl ?_
    refine w_if_lt (tgt := 53) X dX4_invokeNamed_24 (by decide) (fun h24 => absurd h24 (by decide)) (fun h24 => ?_)
    refine w_aload X dX4_invokeNamed_27 rfl ?_
    refine w_iload X dX4_invokeNamed_29 rfl ?_
    refine w_iload X dX4_invokeNamed_31 rfl ?_
    refine w_iload X dX4_invokeNamed_33 rfl ?_
    refine w_icmp_ge (tgt := 45) X dX4_invokeNamed_35 (by decide) (fun h35 => absurd h35 (by decide)) (fun h35 => ?_)
    refine w_aload_n X dX4_invokeNamed_38 rfl rfl ?_
    have q2 := (XP_rf hh)
    refine w_v0rI X dX4_invokeNamed_39 k4_91 rfl s_247 (c4_popD G hG _ _ (h - 1) (by rw [q2.2.1]; congr 1; omega) (by omega)) (Nat.le_of_ble_eq_true rfl) (fun v2 N2 z2 => ?_)
    refine w_goto (tgt := 46) X dX4_invokeNamed_42 (by decide) ?_
    refine w_iastoreN X dX4_invokeNamed_46 (vr_row _ (by omega)) rfl (⟨by decide, by decide⟩) ?_
    refine w_iinc (v := -1) X dX4_invokeNamed_47 rfl (by decide) (by decide) ?_
    refine w_goto (tgt := 22) X dX4_invokeNamed_50 (by decide) ?_
    refine w_iload X dX4_invokeNamed_22 rfl ?_
    refine w_if_lt (tgt := 53) X dX4_invokeNamed_24 (by decide) (fun h24 => absurd h24 (by decide)) (fun h24 => ?_)
    refine w_aload X dX4_invokeNamed_27 rfl ?_
    refine w_iload X dX4_invokeNamed_29 rfl ?_
    refine w_iload X dX4_invokeNamed_31 rfl ?_
    refine w_iload X dX4_invokeNamed_33 rfl ?_
    refine w_icmp_ge (tgt := 45) X dX4_invokeNamed_35 (by decide) (fun h35 => absurd h35 (by decide)) (fun h35 => ?_)
    refine w_aload_n X dX4_invokeNamed_38 rfl rfl ?_
    have q1 := (XP_row (q := r + 1) (i := 2) (v := v2) (XP_tr q2 z2) (by omega) (by decide))
    refine w_v0rI X dX4_invokeNamed_39 k4_91 rfl s_247 (c4_popD G hG _ _ (h - 2) (by rw [q1.2.1]; congr 1; omega) (by omega)) (Nat.le_of_ble_eq_true rfl) (fun v1 N1 z1 => ?_)
    refine w_goto (tgt := 46) X dX4_invokeNamed_42 (by decide) ?_
    rw [show (2 : Int32) + -1 = nI 1 from rfl]
    refine w_iastoreN X dX4_invokeNamed_46 (vr_row _ (by omega)) rfl (⟨by decide, by decide⟩) ?_
    refine w_iinc (v := -1) X dX4_invokeNamed_47 rfl (by decide) (by decide) ?_
    refine w_goto (tgt := 22) X dX4_invokeNamed_50 (by decide) ?_
    refine w_iload X dX4_invokeNamed_22 rfl ?_
    refine w_if_lt (tgt := 53) X dX4_invokeNamed_24 (by decide) (fun h24 => absurd h24 (by decide)) (fun h24 => ?_)
    refine w_aload X dX4_invokeNamed_27 rfl ?_
    refine w_iload X dX4_invokeNamed_29 rfl ?_
    refine w_iload X dX4_invokeNamed_31 rfl ?_
    refine w_iload X dX4_invokeNamed_33 rfl ?_
    refine w_icmp_ge (tgt := 45) X dX4_invokeNamed_35 (by decide) (fun h35 => absurd h35 (by decide)) (fun h35 => ?_)
    refine w_aload_n X dX4_invokeNamed_38 rfl rfl ?_
    have q0 := (XP_row (q := r + 1) (i := 1) (v := v1) (XP_tr q1 z1) (by omega) (by decide))
    refine w_v0rI X dX4_invokeNamed_39 k4_91 rfl s_247 (c4_popD G hG _ _ (h - 3) (by rw [q0.2.1]; congr 1; omega) (by omega)) (Nat.le_of_ble_eq_true rfl) (fun v0 N0 z0 => ?_)
    refine w_goto (tgt := 46) X dX4_invokeNamed_42 (by decide) ?_
    rw [show nI 1 + -1 = nI 0 from rfl]
    refine w_iastoreN X dX4_invokeNamed_46 (vr_row _ (by omega)) rfl (⟨by decide, by decide⟩) ?_
    refine w_iinc (v := -1) X dX4_invokeNamed_47 rfl (by decide) (by decide) ?_
    refine w_goto (tgt := 22) X dX4_invokeNamed_50 (by decide) ?_
    refine w_iload X dX4_invokeNamed_22 rfl ?_
    refine w_if_lt (tgt := 53) X dX4_invokeNamed_24 (by decide) (fun h24 => ?_) (fun h24 => absurd (by decide) h24)
    exact t53 _ _ _ _ _ _ (by exact (XP_row (q := r + 1) (i := 0) (v := v0) (XP_tr q0 z0) (by omega) (by decide)))
