/-! Machine: run -/
/-- what comes of a run: the stack is as high as it was -/
def PBX_ (r b : Nat) (M N : mm_) : Prop := fyX_ r M N ∧ N.1 247 8 = nI b ∧ zoX_ (N.1 247 10)
theorem PBX_tr {r b : Nat} {A B D : mm_} (h : fyX_ r A B) (g : PBX_ r b B D) : PBX_ r b A D := ⟨fyX_tr h g.1, g.2⟩
def LHX_ (L : Nat) (H : Nat → Nat) (b a : Nat) (N : mm_) : Prop := a ≤ L ∧ ((N.1 247 10 = 0 ∧ N.1 247 8 = nI (b + H a)) ∨ (N.1 247 10 = 1 ∧ a = L ∧ ∃ h, h ≤ 220 ∧ N.1 247 8 = nI h))
theorem bhX_fy {r k L a : Nat} {b : Int32} {M : mm_} : fyX_ r M (bhX_ M k L a b) := by
  unfold bhX_; split
  · exact fyX_tr (fyX_m (by omega) (by omega) (by omega)) (fyX_m (by omega) (by omega) (by omega))
  · exact fyX_rf
theorem bhX_st {k L a b : Nat} {H : Nat → Nat} {M : mm_} (ho : okL_ k L H M) (ha : a < L) (h10 : M.1 247 10 = 1) (hh : ∃ h, h ≤ 220 ∧ M.1 247 8 = nI h) : LHX_ L H b (nxX_ M k L a) (bhX_ M k L a (nI b)) := by
  have hle := nxX_le (M := M) (k := k) ha
  refine ⟨hle.2, ?_⟩
  unfold bhX_
  by_cases hlt : nxX_ M k L a < L
  · rw [if_pos hlt]
    refine Or.inl ⟨by rw [gI_sI, if_pos ⟨rfl, rfl⟩], ?_⟩
    rw [gI_sI, if_neg (by omega), gI_sI, if_pos ⟨rfl, rfl⟩, (ho.2.2.2.2 (nxX_ M k L a - 1) (by omega)).1, nI_add, show nxX_ M k L a - 1 + 1 = nxX_ M k L a by omega]
  · rw [if_neg hlt]
    exact Or.inr ⟨h10, by omega, hh⟩
theorem ppX_10 {M : mm_} {h : Nat} : (ppX_ M h).2.1 247 10 = M.1 247 10 := by
  unfold ppX_; split
  · rfl
  · rw [gI_sI, if_neg (by omega)]
set_option maxRecDepth 100000 in
set_option maxHeartbeats 600000 in
theorem c4_run (G : gg_) (hG : gd_ G) (e c : Nat) (J : Nat → Nat) (S r w : Nat) (hI : IVX_ G c J S (r + 1) w) (hr1 : 1 ≤ r) (hr : r ≤ 10) (M : mm_) (hM : kmX_ c J S M) (k : Nat) (hk : cdX_ k) (hkc : kcX_ k) (L : Nat) (H : Nat → Nat) (ho : okL_ k L H M) (b : Nat) (hb : b ≤ 20 * (r - 1)) (hh : M.1 247 8 = nI b) (hd5 : M.1 (249 + r) 5 = nI r) : cm_ G yX4_run cX4_run 7 (some .int) (e + w + 3) [.ref (G.1 247), .ref (G.1 k), .ref (G.1 (249 + r))] M (rI_ (fun _ N => PBX_ r b M N)) := by
  refine cm_of hG (by decide) (Nat.le_of_ble_eq_true rfl) (fun C X => ?_)
  have t70 : ∀ (a4 a5 a6 : Option Value) (N : mm_), fyX_ r M N → zoX_ (N.1 247 10) → (∃ h, h ≤ 220 ∧ N.1 247 8 = nI h) → wq_ C G (qe_ C G (rI_ (fun _ N => PBX_ r b M N))) 70 [some (.ref (G.1 247)), some (.ref (G.1 k)), some (.ref (G.1 (249 + r))), some (.int (nI b)), a4, a5, a6] [] N := by
    intro a4 a5 a6 N hF hz hh2
    obtain ⟨h, hh3, hh4⟩ := hh2
    refine w_aload_n X dX4_run_70 rfl rfl ?_
    refine g4_58 X dX4_run_71 s_247 rfl ?_
    refine w_if_eq (tgt := 84) X dX4_run_74 (by decide) (fun h74 => ?_) (fun h74 => ?_)
    · refine w_aload_n X dX4_run_84 rfl rfl ?_
      refine w_v0fI X dX4_run_85 k4_91 rfl s_247 (c4_pop G hG _ _ h hh4 hh3) (Nat.le_of_ble_eq_true rfl) ?_
      refine w_istore X dX4_run_88 (by decide) ?_
      refine w_aload_n X dX4_run_90 rfl rfl ?_
      refine w_iload_n X dX4_run_91 rfl rfl ?_
      refine p4_48 X dX4_run_92 s_247 rfl ?_
      refine w_iload X dX4_run_95 rfl ?_
      refine w_irR X dX4_run_97 ⟨fyX_tr hF (fyX_tr fyX_pp (fyX_m (by omega) (by omega) (by omega))), by rw [gI_sI, if_pos ⟨rfl, rfl⟩], by rw [gI_sI, if_neg (by omega), ppX_10]; exact hz⟩
    · refine w_aload_n X dX4_run_77 rfl rfl ?_
      refine g4_88 X dX4_run_78 s_247 rfl ?_
      refine w_goto (tgt := 88) X dX4_run_81 (by decide) ?_
      refine w_istore X dX4_run_88 (by decide) ?_
      refine w_aload_n X dX4_run_90 rfl rfl ?_
      refine w_iload_n X dX4_run_91 rfl rfl ?_
      refine p4_48 X dX4_run_92 s_247 rfl ?_
      refine w_iload X dX4_run_95 rfl ?_
      refine w_irR X dX4_run_97 ⟨fyX_tr hF (fyX_m (by omega) (by omega) (by omega)), by rw [gI_sI, if_pos ⟨rfl, rfl⟩], by rw [gI_sI, if_neg (by omega)]; exact hz⟩
  have lp : ∀ (u i a : Nat) (N : mm_) (x : Option Value), i + u = 26 → fyX_ r M N → LHX_ L H b a N → wq_ C G (qe_ C G (rI_ (fun _ N => PBX_ r b M N))) 16 [some (.ref (G.1 247)), some (.ref (G.1 k)), some (.ref (G.1 (249 + r))), some (.int (nI b)), some (.int (nI a)), some (.int (nI i)), x] [] N := by
    intro u
    induction u with
    | zero =>
      intro i a N x hi hF hL
      have hNk := kmX_fz hF.1 hM
      have hoN := okL_fz hkc hF.1 ho
      have hLL := ho.1
      have ha26 := hL.1
      have hz : zoX_ (N.1 247 10) := hL.2.elim (fun z => Or.inl z.1) (fun z => Or.inr z.1)
      have hHa := ho.2.2.2.1 a hL.1
      have hhe : ∃ h, h ≤ 220 ∧ N.1 247 8 = nI h := hL.2.elim (fun z => ⟨b + H a, by omega, z.2⟩) (fun z => z.2.2)
      refine w_iload X dX4_run_16 rfl ?_
      refine w_bipush (v := 26) X dX4_run_18 (by decide) ?_
      refine w_icmp_ge (tgt := 70) X dX4_run_20 (by decide) (fun h20 => ?_) (fun h20 => absurd (nI_le (a := 26) (b := i) (by omega) (by omega)) h20)
      exact t70 _ _ _ N hF hz hhe
    | succ u ih =>
      intro i a N x hi hF hL
      have hNk := kmX_fz hF.1 hM
      have hoN := okL_fz hkc hF.1 ho
      have hLL := ho.1
      have ha26 := hL.1
      have hz : zoX_ (N.1 247 10) := hL.2.elim (fun z => Or.inl z.1) (fun z => Or.inr z.1)
      have hHa := ho.2.2.2.1 a hL.1
      have hhe : ∃ h, h ≤ 220 ∧ N.1 247 8 = nI h := hL.2.elim (fun z => ⟨b + H a, by omega, z.2⟩) (fun z => z.2.2)
      refine w_iload X dX4_run_16 rfl ?_
      refine w_bipush (v := 26) X dX4_run_18 (by decide) ?_
      refine w_icmp_ge (tgt := 70) X dX4_run_20 (by decide) (fun h20 => absurd h20 (nI_ge (a := i) (b := 26) (by omega) (by decide))) (fun h20 => ?_)
      refine w_iload X dX4_run_23 rfl ?_
      refine w_aload_n X dX4_run_25 rfl rfl ?_
      refine g4_77 X dX4_run_26 hk.1 rfl ?_
      rw [hoN.2.1]
      refine w_icmp_ge (tgt := 70) X dX4_run_29 (by decide) (fun h29 => ?_) (fun h29 => ?_)
      · exact t70 _ _ _ N hF hz hhe
      · have ha : a < L := Nat.lt_of_not_le (fun z => h29 (nI_le (a := L) (b := a) z (by omega)))
        have hg : N.1 247 10 = 0 ∧ N.1 247 8 = nI (b + H a) := hL.2.resolve_right (fun z => by omega)
        refine w_aload_n X dX4_run_32 rfl rfl ?_
        refine w_aload_n X dX4_run_33 rfl rfl ?_
        refine w_iload X dX4_run_34 rfl ?_
        refine w_aload_n X dX4_run_36 rfl rfl ?_
        refine w_v3rI X dX4_run_37 k4_80 rfl s_247 (c4_step G hG e c J S r w hI hr1 hr N hNk k hk L H hoN a ha b hb hg.2 hg.1 (by rw [hF.2 r (by omega)]; exact hd5)) (Nat.le_of_ble_eq_true rfl) (fun r37 N37 h37 => ?_)
        refine w_istore X dX4_run_40 (by decide) ?_
        refine w_aload_n X dX4_run_42 rfl rfl ?_
        refine g4_58 X dX4_run_43 s_247 rfl ?_
        refine w_if_eq (tgt := 60) X dX4_run_46 (by decide) (fun h46 => ?_) (fun h46 => ?_)
        · refine w_iload X dX4_run_60 rfl ?_
          refine w_istore X dX4_run_62 (by decide) ?_
          refine w_iinc (v := 1) X dX4_run_64 rfl (by decide) (by decide) ?_
          refine w_goto (tgt := 16) X dX4_run_67 (by decide) ?_
          obtain ⟨t, ht1, ht2, ht3⟩ := h37.2.2.1 h46
          rw [nI_1, ht2]
          exact ih (i + 1) t _ _ (by omega) (fyX_tr hF h37.1) ⟨ht1, Or.inl ⟨h46, ht3⟩⟩
        · refine w_aload_n X dX4_run_49 rfl rfl ?_
          refine w_aload_n X dX4_run_50 rfl rfl ?_
          refine w_iload X dX4_run_51 rfl ?_
          refine w_iload_n X dX4_run_53 rfl rfl ?_
          refine w_v3fI X dX4_run_54 k4_84 rfl s_247 (c4_behindThrow G hG _ _ k hk L (okL_fz hkc h37.1.1 hoN).2.1 hLL a ha _) (Nat.le_of_ble_eq_true rfl) ?_
          refine w_goto (tgt := 62) X dX4_run_57 (by decide) ?_
          refine w_istore X dX4_run_62 (by decide) ?_
          refine w_iinc (v := 1) X dX4_run_64 rfl (by decide) (by decide) ?_
          refine w_goto (tgt := 16) X dX4_run_67 (by decide) ?_
          rw [nI_1]
          exact ih (i + 1) _ _ _ (by omega) (fyX_tr (fyX_tr hF h37.1) bhX_fy) (bhX_st (okL_fz hkc h37.1.1 hoN) ha (h37.2.1.resolve_left h46) h37.2.2.2)
  refine w_aload_n X dX4_run_0 rfl rfl ?_
  refine g4_48 X dX4_run_1 s_247 rfl ?_
  rw [hh]
  refine w_istore_n X dX4_run_4 rfl (by decide) ?_
  refine w_iconst (v := 0) X dX4_run_5 (by decide) ?_
  refine w_istore X dX4_run_6 (by decide) ?_
  refine w_aload_n X dX4_run_8 rfl rfl ?_
  refine w_iconst (v := 0) X dX4_run_9 (by decide) ?_
  refine p4_58 X dX4_run_10 s_247 rfl (by first | exact Or.inl rfl | exact Or.inr rfl | assumption) ?_
  refine w_iconst (v := 0) X dX4_run_13 (by decide) ?_
  refine w_istore X dX4_run_14 (by decide) ?_
  exact lp 26 0 0 _ _ (by omega) (fyX_m (by omega) (by omega) (by omega)) ⟨by omega, Or.inl ⟨by rw [gI_sI, if_pos ⟨rfl, rfl⟩], by rw [gI_sI, if_neg (by omega), ho.2.2.1]; exact hh⟩⟩
