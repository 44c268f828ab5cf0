/-! the reference: watchOne, probe -/
def ckR_ (M : mm_) : Prop := (∃ c, c ≤ 300 ∧ M.1 0 35 = nI c) ∧ ∃ c z, c ≤ 16 ∧ M.1 0 9 = nI c ∧ z ≤ 40 ∧ M.1 0 37 = nI z ∧ ∀ i, i < z → ∃ m, m < c ∧ M.1 22 (7 * i + 1) = nI m
def fbR_ (M N : mm_) : Prop := N.2 = M.2 ∧ (∀ a i, a ≠ 12 → a ≠ 15 → a ≠ 20 → a ≠ 21 → a ≠ 22 → a ≠ 30 → a ≠ 31 → a ≠ 32 → a ≠ 33 → ¬ (a = 0 ∧ (i = 35 ∨ i = 37 ∨ i = 58 ∨ i = 59)) → N.1 a i = M.1 a i) ∧ (∀ i, N.1 12 i = M.1 12 i ∨ N.1 12 i = 0) ∧ (ckR_ M → ckR_ N)
theorem fbR_rf {M : mm_} : fbR_ M M := ⟨rfl, fun _ _ _ _ _ _ _ _ _ _ _ _ => rfl, fun _ => Or.inl rfl, id⟩
theorem fbR_tr {A B D : mm_} (h : fbR_ A B) (g : fbR_ B D) : fbR_ A D := by
  refine ⟨g.1.trans h.1, fun a i h1 h2 h3 h4 h5 h6 h7 h8 h9 h10 => (g.2.1 a i h1 h2 h3 h4 h5 h6 h7 h8 h9 h10).trans (h.2.1 a i h1 h2 h3 h4 h5 h6 h7 h8 h9 h10), fun i => ?_, fun z => g.2.2.2 (h.2.2.2 z)⟩
  rcases g.2.2.1 i with z | z
  · rw [z]; exact h.2.2.1 i
  · exact Or.inr z
theorem ckR_s {M N : mm_} (h0 : ∀ i, i = 35 ∨ i = 37 ∨ i = 9 → N.1 0 i = M.1 0 i) (h22 : ∀ i, N.1 22 i = M.1 22 i) (h : ckR_ M) : ckR_ N := by
  obtain ⟨⟨c, a1, a2⟩, c2, z, b1, b2, b3, b4, b5⟩ := h
  exact ⟨⟨c, a1, by rw [h0 _ (Or.inl rfl)]; exact a2⟩, c2, z, b1, by rw [h0 _ (Or.inr (Or.inr rfl))]; exact b2, b3, by rw [h0 _ (Or.inr (Or.inl rfl))]; exact b4, fun i hi => by rw [h22]; exact b5 i hi⟩
theorem fbR_I {M : mm_} {a i : Nat} {v : Int32} (ha : a = 15 ∨ a = 20 ∨ a = 21 ∨ a = 30 ∨ a = 31 ∨ a = 32 ∨ a = 33 ∨ (a = 0 ∧ (i = 58 ∨ i = 59)) ∨ (a = 12 ∧ v = 0)) : fbR_ M (sI_ M a i v) := by
  refine ⟨rfl, fun b j h1 h2 h3 h4 h5 h6 h7 h8 h9 h10 => by rw [gI_sI, if_neg (by omega)], fun j => ?_, ckR_s (fun j hj => by rw [gI_sI, if_neg (by omega)]) (fun j => by rw [gI_sI, if_neg (by omega)])⟩
  rw [gI_sI]
  split
  · rename_i w
    right
    rcases ha with h | h | h | h | h | h | h | h | h
    · omega
    · omega
    · omega
    · omega
    · omega
    · omega
    · omega
    · omega
    · exact h.2
  · exact Or.inl rfl
theorem fbR_E {M N : mm_} (h : fpE_ M N) : fbR_ M N := ⟨h.1, fun a i h1 h2 h3 h4 h5 h6 h7 h8 h9 h10 => h.2 a i h7 h8 h9 (by omega), fun i => Or.inl (h.2 12 i (by decide) (by decide) (by decide) (by omega)), ckR_s (fun i hi => h.2 0 i (by decide) (by decide) (by decide) (by omega)) (fun i => h.2 22 i (by decide) (by decide) (by decide) (by omega))⟩
theorem fbR_35 {M : mm_} {c : Nat} (hc : c ≤ 300) : fbR_ M (sI_ M 0 35 (nI c)) := by
  refine ⟨rfl, fun b j h1 h2 h3 h4 h5 h6 h7 h8 h9 h10 => by rw [gI_sI, if_neg (by omega)], fun j => Or.inl (by rw [gI_sI, if_neg (by omega)]), fun h => ?_⟩
  obtain ⟨-, c2, z, b1, b2, b3, b4, b5⟩ := h
  exact ⟨⟨c, hc, by rw [gI_sI, if_pos ⟨rfl, rfl⟩]⟩, c2, z, b1, by rw [gI_sI, if_neg (by omega)]; exact b2, b3, by rw [gI_sI, if_neg (by omega)]; exact b4, fun i hi => by rw [gI_sI, if_neg (by omega)]; exact b5 i hi⟩
theorem fbR_rc {M : mm_} {c : Nat} {j m e : Int32} (hc : c ≤ 300) : fbR_ M (rc_ M c j m e) := by
  unfold rc_
  split
  · have i21 : ∀ {A : mm_} {i : Nat} {v : Int32}, fbR_ A (sI_ A 21 i v) := fbR_I (Or.inr (Or.inr (Or.inl rfl)))
    exact fbR_tr (fbR_tr (fbR_tr (fbR_tr (fbR_tr i21 i21) i21) i21) i21) (fbR_35 (by omega))
  · exact fbR_rf
theorem fbR_rd {M : mm_} {c b : Nat} {m e : Int32} (hc : c ≤ 300) : fbR_ M (rd_ M c b m e) := by
  unfold rd_
  split
  · exact fbR_tr (fbR_tr (fbR_rc hc) (fbR_I (Or.inl rfl))) (fbR_I (Or.inr (Or.inr (Or.inr (Or.inr (Or.inr (Or.inr (Or.inr (Or.inr ⟨rfl, rfl⟩)))))))))
  · exact fbR_tr (fbR_rc hc) (fbR_I (Or.inl rfl))
theorem fbR_ko {M : mm_} {c e m : Nat} {j pt v : Int32} (hc : M.1 0 37 = nI c) (hc2 : c ≤ 40) (hm : M.1 23 e = nI m) (hk : ∀ c9, M.1 0 9 = nI c9 → c9 ≤ 16 → m < c9) : fbR_ M (ko_ M c e j pt v) := by
  unfold ko_
  split
  · exact fbR_rf
  rename_i h40
  have kI : ∀ (A : mm_) (u a i : Nat), a ≠ 22 → (kp_ A c e u).1 a i = A.1 a i := fun A u a i h => kp_I u a i h
  refine ⟨?_, fun b i h1 h2 h3 h4 h5 h6 h7 h8 h9 h10 => ?_, fun i => Or.inl ?_, fun h => ?_⟩
  · show (sI_ (sI_ (sI_ (kp_ _ c e 3) 22 _ _) 22 _ _) 0 37 _).2 = M.2
    rfl
  · rw [gI_sI, if_neg (by omega), gI_sI, if_neg (by omega), gI_sI, if_neg (by omega), kI _ _ _ _ h5, gI_sI, if_neg (by omega), gI_sI, if_neg (by omega)]
  · rw [gI_sI, if_neg (by omega), gI_sI, if_neg (by omega), gI_sI, if_neg (by omega), kI _ _ _ _ (by decide), gI_sI, if_neg (by omega), gI_sI, if_neg (by omega)]
  · obtain ⟨⟨c3, a1, a2⟩, c2, z, b1, b2, b3, b4, b5⟩ := h
    obtain rfl : z = c := (nI_eq (by omega) (by omega)).mp (b4.symm.trans hc)
    have hz : z < 40 := by omega
    have f0 : ∀ i, ¬ i = 37 → (sI_ (sI_ (sI_ (kp_ (sI_ (sI_ M 22 (7 * z) j) 22 (7 * z + 1) (M.1 23 e)) z e 3) 22 (7 * z + 5) (pt - 1)) 22 (7 * z + 6) v) 0 37 (nI (z + 1))).1 0 i = M.1 0 i := fun i hi => by
      rw [gI_sI, if_neg (by omega), gI_sI, if_neg (by omega), gI_sI, if_neg (by omega), kI _ _ _ _ (by decide), gI_sI, if_neg (by omega), gI_sI, if_neg (by omega)]
    have f22 : ∀ i, i < 7 * z + 2 → (kp_ (sI_ (sI_ M 22 (7 * z) j) 22 (7 * z + 1) (M.1 23 e)) z e 3).1 22 i = (sI_ (sI_ M 22 (7 * z) j) 22 (7 * z + 1) (M.1 23 e)).1 22 i := fun i hi => by
      simp only [kp_]
      rw [gI_sI, if_neg (by omega), gI_sI, if_neg (by omega), gI_sI, if_neg (by omega)]
    refine ⟨⟨c3, a1, by rw [f0 _ (by decide)]; exact a2⟩, c2, z + 1, b1, by rw [f0 _ (by decide)]; exact b2, by omega, by rw [gI_sI, if_pos ⟨rfl, rfl⟩], fun i hi => ?_⟩
    rw [gI_sI, if_neg (by omega), gI_sI, if_neg (by omega), gI_sI, if_neg (by omega), f22 _ (by omega)]
    by_cases hiz : i = z
    · subst hiz
      exact ⟨m, hk c2 b2 b1, by rw [gI_sI, if_pos ⟨rfl, rfl⟩]; exact hm⟩
    · obtain ⟨m2, d1, d2⟩ := b5 i (by omega)
      exact ⟨m2, d1, by rw [gI_sI, if_neg (by omega), gI_sI, if_neg (by omega)]; exact d2⟩
/-- what jobs have -/
def jbR_ (M : mm_) : Prop := ∀ j, j < 8 → (∃ z, z ≤ 12 ∧ M.1 18 j = nI z) ∧ (M.1 12 j = 1 → okT_ 7 (16 + 2 * j) M ∧ (¬ M.1 16 j = 0 → okT_ 7 (17 + 2 * j) M))
theorem okT_fb {V t : Nat} {M N : mm_} (h : fbR_ M N) (g : okT_ V t M) : okT_ V t N := okT_fr (fun i => h.2.1 4 i (by decide) (by decide) (by decide) (by decide) (by decide) (by decide) (by decide) (by decide) (by decide) (by omega)) (fun i => h.2.1 2 i (by decide) (by decide) (by decide) (by decide) (by decide) (by decide) (by decide) (by decide) (by decide) (by omega)) (fun i => by rw [h.1]) g
theorem jbR_fb {M N : mm_} (h : fbR_ M N) (g : jbR_ M) : jbR_ N := by
  intro j hj
  obtain ⟨⟨z, a1, a2⟩, a3⟩ := g j hj
  refine ⟨⟨z, a1, by rw [h.2.1 18 j (by decide) (by decide) (by decide) (by decide) (by decide) (by decide) (by decide) (by decide) (by decide) (by omega)]; exact a2⟩, fun k => ?_⟩
  rcases h.2.2.1 j with e | e
  · rw [e] at k
    obtain ⟨b1, b2⟩ := a3 k
    refine ⟨okT_fb h b1, fun q => okT_fb h (b2 ?_)⟩
    rw [h.2.1 16 j (by decide) (by decide) (by decide) (by decide) (by decide) (by decide) (by decide) (by decide) (by decide) (by omega)] at q
    exact q
  · rw [e] at k; exact absurd k (by decide)
theorem fb_at {M N : mm_} (h : fbR_ M N) {a i : Nat} (ha : a ≠ 12 ∧ a ≠ 15 ∧ a ≠ 20 ∧ a ≠ 21 ∧ a ≠ 22 ∧ a ≠ 30 ∧ a ≠ 31 ∧ a ≠ 32 ∧ a ≠ 33 ∧ ¬ (a = 0 ∧ (i = 35 ∨ i = 37 ∨ i = 58 ∨ i = 59))) : N.1 a i = M.1 a i := h.2.1 a i ha.1 ha.2.1 ha.2.2.1 ha.2.2.2.1 ha.2.2.2.2.1 ha.2.2.2.2.2.1 ha.2.2.2.2.2.2.1 ha.2.2.2.2.2.2.2.1 ha.2.2.2.2.2.2.2.2.1 ha.2.2.2.2.2.2.2.2.2
set_option maxRecDepth 100000 in
set_option maxHeartbeats 4000000 in
theorem c12_watchOne (G : gg_) (hG : gd_ G) (d : Nat) (M : mm_) (hk : ckR_ M) (j : Nat) (hj : j < 8) (ha : okT_ 7 (16 + 2 * j) M) (hb : ¬ M.1 16 j = 0 → okT_ 7 (17 + 2 * j) M) (q : Nat) (hq : q ≤ 10) : cm_ G yX12_watchOne cX12_watchOne 3 none (d + 2) [.ref (G.1 0), .int (nI j), .int (nI q)] M (rV_ (fbR_ M)) := by
  refine cm_of hG (by decide) (Nat.le_of_ble_eq_true rfl) (fun C X => ?_)
  refine w_aload_n X dX12_watchOne_0 rfl rfl ?_
  refine g12_seen X dX12_watchOne_1 ?_
  refine w_bipush (v := 6) X dX12_watchOne_4 (by decide) ?_
  refine w_aload_n X dX12_watchOne_6 rfl rfl ?_
  refine g12_mades X dX12_watchOne_7 ?_
  refine w_iload_n X dX12_watchOne_10 rfl rfl ?_
  refine w_ialoadN X dX12_watchOne_11 rfl rfl (⟨by omega, by decide⟩) ?_
  refine w_iastoreN X dX12_watchOne_12 rfl rfl (⟨by decide, by decide⟩) ?_
  have f0 : fbR_ M (sI_ M 30 6 (M.1 15 j)) := fbR_I (by omega)
  generalize sI_ M 30 6 (M.1 15 j) = A at f0 ⊢
  refine w_aload_n X dX12_watchOne_13 rfl rfl ?_
  refine g12_conditioned X dX12_watchOne_14 ?_
  refine w_iload_n X dX12_watchOne_17 rfl rfl ?_
  refine w_baloadN X dX12_watchOne_18 rfl rfl (⟨by omega, by decide⟩) ?_
  rw [fb_at f0 (by omega)]
  refine w_if_eq (tgt := 60) X dX12_watchOne_19 (by decide) (fun h19 => ?_) (fun h19 => ?_)
  · refine w_aload_n X dX12_watchOne_60 rfl rfl ?_
    refine w_bipush (v := 16) X dX12_watchOne_61 (by decide) ?_
    refine w_iconst (v := 2) X dX12_watchOne_63 (by decide) ?_
    refine w_iload_n X dX12_watchOne_64 rfl rfl ?_
    refine w_imul X dX12_watchOne_65 ?_
    refine w_iadd X dX12_watchOne_66 ?_
    rw [nI_16]
    refine w_v1rV X dX12_watchOne_67 k12_probeExpression rfl rfl (c12_probeExpression G hG _ _ (16 + 2 * j) (by omega) (okT_fb f0 ha)) (Nat.le_of_ble_eq_true rfl) (fun N67 h67 => ?_)
    have f1 := fbR_tr f0 (fbR_E h67)
    obtain ⟨⟨c9, hc10, hc9⟩, -⟩ := f1.2.2.2 hk
    refine w_aload_n X dX12_watchOne_70 rfl rfl ?_
    refine w_iload_n X dX12_watchOne_71 rfl rfl ?_
    refine w_aload_n X dX12_watchOne_72 rfl rfl ?_
    refine g12_runMethods X dX12_watchOne_73 ?_
    refine w_iload_n X dX12_watchOne_76 rfl rfl ?_
    refine w_ialoadN X dX12_watchOne_77 rfl rfl (⟨by omega, by decide⟩) ?_
    refine w_iload_n X dX12_watchOne_78 rfl rfl ?_
    refine w_v3fV X dX12_watchOne_79 k12_record rfl rfl (c12_record G hG _ _ c9 _ hc9 hc10 hj _ _) (Nat.le_of_ble_eq_true rfl) ?_
    exact w_vrR X dX12_watchOne_82 (fbR_tr f1 (fbR_rd hc10))
  · refine w_aload_n X dX12_watchOne_22 rfl rfl ?_
    refine w_bipush (v := 17) X dX12_watchOne_23 (by decide) ?_
    refine w_iconst (v := 2) X dX12_watchOne_25 (by decide) ?_
    refine w_iload_n X dX12_watchOne_26 rfl rfl ?_
    refine w_imul X dX12_watchOne_27 ?_
    refine w_iadd X dX12_watchOne_28 ?_
    rw [nI_17]
    refine w_v1rV X dX12_watchOne_29 k12_probeExpression rfl rfl (c12_probeExpression G hG _ _ (17 + 2 * j) (by omega) (okT_fb f0 (hb h19))) (Nat.le_of_ble_eq_true rfl) (fun N29 h29 => ?_)
    refine w_aload_n X dX12_watchOne_32 rfl rfl ?_
    refine g12_probeThrew X dX12_watchOne_33 ?_
    refine w_if_eq (tgt := 52) X dX12_watchOne_36 (by decide) (fun h36 => ?_) (fun h36 => ?_)
    · refine w_aload_n X dX12_watchOne_52 rfl rfl ?_
      refine g12_probeValue X dX12_watchOne_53 ?_
      refine w_if_ne (tgt := 60) X dX12_watchOne_56 (by decide) (fun h56 => ?_) (fun h56 => ?_)
      · refine w_aload_n X dX12_watchOne_60 rfl rfl ?_
        refine w_bipush (v := 16) X dX12_watchOne_61 (by decide) ?_
        refine w_iconst (v := 2) X dX12_watchOne_63 (by decide) ?_
        refine w_iload_n X dX12_watchOne_64 rfl rfl ?_
        refine w_imul X dX12_watchOne_65 ?_
        refine w_iadd X dX12_watchOne_66 ?_
        rw [nI_16]
        refine w_v1rV X dX12_watchOne_67 k12_probeExpression rfl rfl (c12_probeExpression G hG _ _ (16 + 2 * j) (by omega) (okT_fb (fbR_tr f0 (fbR_E h29)) ha)) (Nat.le_of_ble_eq_true rfl) (fun N67 h67 => ?_)
        have f1 := fbR_tr f0 (fbR_tr (fbR_E h29) (fbR_E h67))
        obtain ⟨⟨c9, hc10, hc9⟩, -⟩ := f1.2.2.2 hk
        refine w_aload_n X dX12_watchOne_70 rfl rfl ?_
        refine w_iload_n X dX12_watchOne_71 rfl rfl ?_
        refine w_aload_n X dX12_watchOne_72 rfl rfl ?_
        refine g12_runMethods X dX12_watchOne_73 ?_
        refine w_iload_n X dX12_watchOne_76 rfl rfl ?_
        refine w_ialoadN X dX12_watchOne_77 rfl rfl (⟨by omega, by decide⟩) ?_
        refine w_iload_n X dX12_watchOne_78 rfl rfl ?_
        refine w_v3fV X dX12_watchOne_79 k12_record rfl rfl (c12_record G hG _ _ c9 _ hc9 hc10 hj _ _) (Nat.le_of_ble_eq_true rfl) ?_
        exact w_vrR X dX12_watchOne_82 (fbR_tr f1 (fbR_rd hc10))
      · exact w_vrR X dX12_watchOne_59 (fbR_tr f0 (fbR_E h29))
    · obtain ⟨⟨c9, hc10, hc9⟩, -⟩ := (fbR_tr f0 (fbR_E h29)).2.2.2 hk
      refine w_aload_n X dX12_watchOne_39 rfl rfl ?_
      refine w_iload_n X dX12_watchOne_40 rfl rfl ?_
      refine w_aload_n X dX12_watchOne_41 rfl rfl ?_
      refine g12_runMethods X dX12_watchOne_42 ?_
      refine w_iload_n X dX12_watchOne_45 rfl rfl ?_
      refine w_ialoadN X dX12_watchOne_46 rfl rfl (⟨by omega, by decide⟩) ?_
      refine w_iload_n X dX12_watchOne_47 rfl rfl ?_
      refine w_v3fV X dX12_watchOne_48 k12_record rfl rfl (c12_record G hG _ _ c9 _ hc9 hc10 hj _ _) (Nat.le_of_ble_eq_true rfl) ?_
      exact w_vrR X dX12_watchOne_51 (fbR_tr (fbR_tr f0 (fbR_E h29)) (fbR_rd hc10))
