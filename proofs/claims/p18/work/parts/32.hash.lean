section
/-- the last j steps of ln moved up by one -/
def sh_ (N : mm_) (ln : Nat) : Nat → mm_
  | 0 => N
  | j + 1 => sL_ (sI_ (sh_ N ln j) 2 (2048 + (ln - j)) (N.1 2 (2048 + (ln - j) - 1))) 3 (2048 + (ln - j)) (N.2.1 3 (2048 + (ln - j) - 1))
theorem sh_I {N : mm_} {ln : Nat} : ∀ (j : Nat), j ≤ ln → ∀ (a i : Nat), (sh_ N ln j).1 a i = if a = 2 ∧ 2048 + ln - j < i ∧ i ≤ 2048 + ln then N.1 2 (i - 1) else N.1 a i
  | 0, _, a, i => by rw [if_neg (by omega)]; rfl
  | j + 1, hj, a, i => by
    simp only [sh_, gI_sL, gI_sI]
    rw [sh_I j (by omega) a i]
    by_cases h : a = 2 ∧ i = 2048 + (ln - j)
    · obtain ⟨rfl, rfl⟩ := h
      rw [if_pos ⟨rfl, rfl⟩, if_pos ⟨rfl, by omega, by omega⟩]
    · rw [if_neg h]
      by_cases h2 : a = 2 ∧ 2048 + ln - j < i ∧ i ≤ 2048 + ln
      · rw [if_pos h2, if_pos ⟨h2.1, by omega, h2.2.2⟩]
      · rw [if_neg h2, if_neg (fun q => h2 ⟨q.1, by have : ¬ i = 2048 + (ln - j) := fun z => h ⟨q.1, z⟩; omega, q.2.2⟩)]
theorem sh_L {N : mm_} {ln : Nat} : ∀ (j : Nat), j ≤ ln → ∀ (a i : Nat), (sh_ N ln j).2.1 a i = if a = 3 ∧ 2048 + ln - j < i ∧ i ≤ 2048 + ln then N.2.1 3 (i - 1) else N.2.1 a i
  | 0, _, a, i => by rw [if_neg (by omega)]; rfl
  | j + 1, hj, a, i => by
    simp only [sh_, gL_sL, gL_sI]
    rw [sh_L j (by omega) a i]
    by_cases h : a = 3 ∧ i = 2048 + (ln - j)
    · obtain ⟨rfl, rfl⟩ := h
      rw [if_pos ⟨rfl, rfl⟩, if_pos ⟨rfl, by omega, by omega⟩]
    · rw [if_neg h]
      by_cases h2 : a = 3 ∧ 2048 + ln - j < i ∧ i ≤ 2048 + ln
      · rw [if_pos h2, if_pos ⟨h2.1, by omega, h2.2.2⟩]
      · rw [if_neg h2, if_neg (fun q => h2 ⟨q.1, by have : ¬ i = 2048 + (ln - j) := fun z => h ⟨q.1, z⟩; omega, q.2.2⟩)]
theorem pf_sh {M N : mm_} {ln : Nat} (h : pf_ M N) : ∀ (j : Nat), pf_ M (sh_ N ln j)
  | 0 => h
  | j + 1 => pf_sL (pf_sI (pf_sh h j) (by first | omega | exact at5_ (by omega))) (by first | omega | exact at5_ (by omega))
theorem cd_ins {N : mm_} {A B : List sv_} {v : Int64} (h : cd_ N (A ++ B)) : cd_ (sL_ (sI_ (sI_ (sh_ N (A ++ B).length B.length) 0 12 (nI ((A ++ B).length + 1))) 2 (2048 + A.length) 7) 3 (2048 + A.length) v) (A ++ (7, v) :: B) := by
  have hB : B.length ≤ (A ++ B).length := by simp
  have hAB : (A ++ B).length = A.length + B.length := by simp
  refine ⟨by simp [sI_, sL_, Nat.add_assoc], fun i z hi => ?_⟩
  rw [mid_get] at hi
  simp only [gI_sL, gI_sI, gL_sL, gL_sI]
  by_cases h1 : i < A.length
  · rw [if_pos h1] at hi
    rw [if_neg (by omega), if_neg (by omega), if_neg (by omega), sh_I _ hB, sh_L _ hB, if_neg (by omega), if_neg (by omega)]
    exact h.2 i z (by rw [List.getElem?_append_left h1]; exact hi)
  · rw [if_neg h1] at hi
    by_cases h2 : i = A.length
    · rw [if_pos h2] at hi
      cases hi
      rw [if_pos (by simp [h2]), if_pos (by simp [h2])]
      exact ⟨rfl, rfl⟩
    · rw [if_neg h2] at hi
      have h3 := (List.getElem?_eq_some_iff.mp hi).1
      rw [if_neg (by omega), if_neg (by omega), if_neg (by omega), sh_I _ hB, sh_L _ hB, if_pos ⟨rfl, by omega, by omega⟩, if_pos ⟨rfl, by omega, by omega⟩]
      have := h.2 (i - 1) z (by rw [List.getElem?_append_right (by omega), show i - 1 - A.length = i - A.length - 1 by omega]; exact hi)
      rw [show 2048 + i - 1 = 2048 + (i - 1) by omega]
      exact this
def ha_ (k : Nat) (W : List fr_) (e : Term) (nd op : Nat) : ss_ ⊕ (Int32 × Nat) := if nd = 20 then .inr (3, k) else .inl (k + 1, (1, 0, (rt_ 1 W e).2, .null, 0) :: (rt_ 1 W e).1, none, nd + 1, op)
set_option maxRecDepth 100000 in
set_option maxHeartbeats 4000000 in
theorem c12_close_0 (G : gg_) (hG : gd_ G) (d : Nat) (M : mm_) (n k nd op : Nat) (r : List fr_) (c : Int32) (b : Term) (x : Int64) (h : pr_ M n k ((8, c, .null, b, x) :: r) none nd op) (hf : M.1 0 3 = 0) (hk : k < 268435456) : cm_ G yX12_close cX12_close 3 none (d + 5) [.ref (G.1 0)] M (rV_ (px_ M n (.inl (k + 1, r, some (.sub (.long x) .null), nd, op - 1)))) := by
  refine cm_of hG (by decide) (Nat.le_of_ble_eq_true rfl) (fun C X => ?_)
  have hle := pr_len h
  have hos := pr_os h
  have h5 := h.2.1
  have e1 : cs_ r ++ tc_ .null = cs_ ((8, c, .null, b, x) :: r) ++ cu_ none := by simp [cs_, fc_, cu_, tc_]
  have h20 : M.1 0 20 = nI (r.length + 1) := by have := h.2.2.2.1; simpa using this
  have h23 := h.2.2.2.2.2.2.2.1
  have hop1 : no_ r + 1 = op := by have := h.2.2.2.2.2.2.2.2.2.2.1; simpa [no_] using this
  have hop2 := h.2.2.2.2.2.2.2.2.2.2.2.1
  have hk8 : M.1 8 r.length = nI (cs_ r).length := h.2.2.2.2.1.2.2.2.1
  have hk10 : M.2.1 10 r.length = x := h.2.2.2.2.1.2.2.2.2.2 rfl
  have h12 : M.1 0 12 = nI (cs_ r).length := by have := h.2.2.1.1; rw [← e1] at this; simpa [tc_] using this
  have h22 : M.1 0 22 = nI (os_ r).length := by have := h.2.2.2.2.2.1.1; rw [this]; simp [os_, ff_, co_, oa_]
  rw [← e1] at hle
  simp [tc_] at hle
  simp [os_, ff_, oa_] at hos
  refine w_aload_n X dX12_close_0 rfl rfl ?_
  refine w_v0fV X dX12_close_1 k12_reduceAll rfl rfl (c12_reduceAll_0 G hG _ M n k nd op _ none (Or.inr ⟨_, r, rfl, Or.inr (by simp)⟩) h) (Nat.le_of_ble_eq_true rfl) ?_
  refine w_aload_n X dX12_close_4 rfl rfl ?_
  refine w_v0fI X dX12_close_5 k12_last rfl rfl (c12_last G hG _ _ (r.length + 1) h20 (by omega)) (Nat.le_of_ble_eq_true rfl) ?_
  rw [show la_ M (r.length + 1) = 8 from la_pr h]
  refine w_if_ne (tgt := 44) X dX12_close_8 (by decide) (fun h8 => ?_) (fun h8 => absurd h8 (by decide))
  refine w_aload_n X dX12_close_44 rfl rfl ?_
  refine w_v0fI X dX12_close_45 k12_last rfl rfl (c12_last G hG _ _ (r.length + 1) h20 (by omega)) (Nat.le_of_ble_eq_true rfl) ?_
  rw [show la_ M (r.length + 1) = 8 from la_pr h]
  refine w_bipush (v := 8) X dX12_close_48 (by decide) ?_
  refine w_icmp_ne (tgt := 155) X dX12_close_50 (by decide) (fun h50 => absurd rfl h50) (fun h50 => ?_)
  refine w_aload_n X dX12_close_53 rfl rfl ?_
  refine w_dup X dX12_close_54 rfl ?_
  refine g12_waiting X dX12_close_55 ?_
  try simp only [gI_sI, gI_sL, gL_sI, gL_sL, false_and, and_false, and_self, if_false, if_true, reduceIte, Nat.reduceEqDiff, h5, h20, h23, hk8, hk10, h12, h22, gI_wa, gL_wa, gI_pu, gL_pu, gI_op, gL_op]
  refine w_iconst (v := 1) X dX12_close_58 (by decide) ?_
  refine w_isub X dX12_close_59 ?_
  rw [nI_s1]
  refine p12_waiting X dX12_close_60 ?_
  refine w_aload_n X dX12_close_63 rfl rfl ?_
  refine w_dup X dX12_close_64 rfl ?_
  refine g12_opened X dX12_close_65 ?_
  try simp only [gI_sI, gI_sL, gL_sI, gL_sL, false_and, and_false, and_self, if_false, if_true, reduceIte, Nat.reduceEqDiff, h5, h20, h23, hk8, hk10, h12, h22, gI_wa, gL_wa, gI_pu, gL_pu, gI_op, gL_op]
  refine w_iconst (v := 1) X dX12_close_68 (by decide) ?_
  refine w_isub X dX12_close_69 ?_
  rw [nI_p op (by omega)]
  refine p12_opened X dX12_close_70 ?_
  refine w_aload_n X dX12_close_73 rfl rfl ?_
  refine g12_waitPlaces X dX12_close_74 ?_
  refine w_aload_n X dX12_close_77 rfl rfl ?_
  refine g12_waiting X dX12_close_78 ?_
  try simp only [gI_sI, gI_sL, gL_sI, gL_sL, false_and, and_false, and_self, if_false, if_true, reduceIte, Nat.reduceEqDiff, h5, h20, h23, hk8, hk10, h12, h22, gI_wa, gL_wa, gI_pu, gL_pu, gI_op, gL_op]
  refine w_ialoadN X dX12_close_81 rfl rfl (by omega) ?_
  try simp only [gI_sI, gI_sL, gL_sI, gL_sL, false_and, and_false, and_self, if_false, if_true, reduceIte, Nat.reduceEqDiff, h5, h20, h23, hk8, hk10, h12, h22, gI_wa, gL_wa, gI_pu, gL_pu, gI_op, gL_op]
  refine w_istore_n X dX12_close_82 rfl (by decide) ?_
  refine w_aload_n X dX12_close_83 rfl rfl ?_
  refine g12_length X dX12_close_84 ?_
  try simp only [gI_sI, gI_sL, gL_sI, gL_sL, false_and, and_false, and_self, if_false, if_true, reduceIte, Nat.reduceEqDiff, h5, h20, h23, hk8, hk10, h12, h22, gI_wa, gL_wa, gI_pu, gL_pu, gI_op, gL_op]
  refine w_iload_n X dX12_close_87 rfl rfl ?_
  refine w_icmp_ne (tgt := 95) X dX12_close_88 (by decide) (fun h88 => absurd rfl h88) (fun h88 => ?_)
  refine w_iconst (v := 0) X dX12_close_91 (by decide) ?_
  refine w_goto (tgt := 106) X dX12_close_92 (by decide) ?_
  refine w_istore_n X dX12_close_106 rfl (by decide) ?_
  refine w_aload_n X dX12_close_107 rfl rfl ?_
  refine w_aload_n X dX12_close_108 rfl rfl ?_
  refine g12_operandCount X dX12_close_109 ?_
  try simp only [gI_sI, gI_sL, gL_sI, gL_sL, false_and, and_false, and_self, if_false, if_true, reduceIte, Nat.reduceEqDiff, h5, h20, h23, hk8, hk10, h12, h22, gI_wa, gL_wa, gI_pu, gL_pu, gI_op, gL_op]
  refine w_iload_n X dX12_close_112 rfl rfl ?_
  refine w_isub X dX12_close_113 ?_
  rw [show nI (os_ r).length - 0 = nI (os_ r).length by simp]
  refine p12_operandCount X dX12_close_114 ?_
  refine w_aload_n X dX12_close_117 rfl rfl ?_
  refine w_iload_n X dX12_close_118 rfl rfl ?_
  refine w_v1fV X dX12_close_119 k12_operand rfl rfl (c12_operand G hG _ _ (os_ r).length (by simp [sI_, h22]) (by omega) _) (Nat.le_of_ble_eq_true rfl) ?_
  refine w_aload_n X dX12_close_122 rfl rfl ?_
  refine w_bipush (v := 9) X dX12_close_123 (by decide) ?_
  refine w_aload_n X dX12_close_125 rfl rfl ?_
  refine g12_waitNames X dX12_close_126 ?_
  refine w_aload_n X dX12_close_129 rfl rfl ?_
  refine g12_waiting X dX12_close_130 ?_
  try simp only [gI_sI, gI_sL, gL_sI, gL_sL, false_and, and_false, and_self, if_false, if_true, reduceIte, Nat.reduceEqDiff, h5, h20, h23, hk8, hk10, h12, h22, gI_wa, gL_wa, gI_pu, gL_pu, gI_op, gL_op]
  refine w_laloadN X dX12_close_133 rfl rfl (by omega) ?_
  try simp only [gI_sI, gI_sL, gL_sI, gL_sL, false_and, and_false, and_self, if_false, if_true, reduceIte, Nat.reduceEqDiff, h5, h20, h23, hk8, hk10, h12, h22, gI_wa, gL_wa, gI_pu, gL_pu, gI_op, gL_op]
  refine w_iconst (v := 2) X dX12_close_134 (by decide) ?_
  refine w_lshl X dX12_close_135 ?_
  refine w_iload_n X dX12_close_136 rfl rfl ?_
  refine w_i2l X dX12_close_137 ?_
  refine w_lor X dX12_close_138 ?_
  refine w_v2fV X dX12_close_139 k12_put rfl rfl (c12_put G hG _ _ (cs_ r).length (by simp [op_, sI_, h12]) (by omega) _ _) (Nat.le_of_ble_eq_true rfl) ?_
  refine w_aload_n X dX12_close_142 rfl rfl ?_
  refine w_dup X dX12_close_143 rfl ?_
  refine g12_at X dX12_close_144 ?_
  try simp only [gI_sI, gI_sL, gL_sI, gL_sL, false_and, and_false, and_self, if_false, if_true, reduceIte, Nat.reduceEqDiff, h5, h20, h23, hk8, hk10, h12, h22, gI_wa, gL_wa, gI_pu, gL_pu, gI_op, gL_op]
  refine w_iconst (v := 1) X dX12_close_147 (by decide) ?_
  refine w_iadd X dX12_close_148 ?_
  rw [nI_1]
  refine p12_at X dX12_close_149 ?_
  refine w_goto (tgt := 164) X dX12_close_152 (by decide) ?_
  refine w_vrR X dX12_close_164 ?_
  have hh := px_iv (ps2_rf h) hf hk e1 (by simp [nt_, cn_])
  simp only [tc_, List.append_nil] at hh
  exact hh
set_option maxRecDepth 100000 in
set_option maxHeartbeats 4000000 in
theorem c12_hash (G : gg_) (hG : gd_ G) (d : Nat) (M : mm_) (n k nd op : Nat) (W : List fr_) (e : Term) (h : pr_ M n k W (some e) nd op) (hf : M.1 0 3 = 0) (hk : k < 268435456) : cm_ G yX12_hash cX12_hash 4 none (d + 4) [.ref (G.1 0)] M (rV_ (px_ M n (ha_ k W e nd op))) := by
  refine cm_of hG (by decide) (Nat.le_of_ble_eq_true rfl) (fun C X => ?_)
  have lq : ∀ (N : mm_) (V : List fr_) (t : Term), ps2_ M n k V (some t) nd op N → nd < 20 → px_ M n (.inl (k + 1, (1, 0, t, .null, 0) :: V, none, nd + 1, op)) (sI_ (pu_ (wa_ (sL_ (sI_ (sI_ (sh_ (sI_ N 0 13 (nI (nd + 1))) (cs_ V ++ tc_ t).length (tc_ t).length) 0 12 (nI ((cs_ V ++ tc_ t).length + 1))) 2 (2048 + (cs_ V).length) 7) 3 (2048 + (cs_ V).length) (nI ((cs_ V ++ tc_ t).length + 1 - (cs_ V).length)).toInt64) V.length 1 (nI ((cs_ V ++ tc_ t).length + 1)) 0) ((cs_ V ++ tc_ t).length + 1) 8 0) 0 5 (nI (k + 1))) := by
    intro N V t hN hn
    have hl := pr_len hN.1
    have hf3 : N.1 0 3 = 0 := hN.2.2.1.trans hf
    obtain ⟨⟨h0, h5, hc, h20, hw, ho, h13, h23, hn1, hn2, hop, hop2, hcq⟩, hpf, -, -⟩ := hN
    simp only [cu_] at hc hl
    have hj : (tc_ t).length ≤ (cs_ V ++ tc_ t).length := by simp
    have sI2 : ∀ a i, a ≠ 2 → ((sh_ (sI_ N 0 13 (nI (nd + 1))) (cs_ V ++ tc_ t).length (tc_ t).length)).1 a i = ((sI_ N 0 13 (nI (nd + 1)))).1 a i := fun a i ha => by rw [sh_I _ hj, if_neg (fun q => ha q.1)]
    have sL3 : ∀ a i, a ≠ 3 → ((sh_ (sI_ N 0 13 (nI (nd + 1))) (cs_ V ++ tc_ t).length (tc_ t).length)).2.1 a i = ((sI_ N 0 13 (nI (nd + 1)))).2.1 a i := fun a i ha => by rw [sh_L _ hj, if_neg (fun q => ha q.1)]
    have e9 : (nI ((cs_ V ++ tc_ t).length + 1 - (cs_ V).length)).toInt64 = lN ((tc_ t).length + 1) := by
      rw [show (cs_ V ++ tc_ t).length + 1 - (cs_ V).length = (tc_ t).length + 1 by simp; omega]
      refine nI_l ?_
      simp at hl
      omega
    rw [e9]
    have hz : tz_ ((sh_ (sI_ N 0 13 (nI (nd + 1))) (cs_ V ++ tc_ t).length (tc_ t).length)) n := ⟨by rw [sI2 0 2 (by omega), sI_ne _ _ _ _ (by omega)]; exact h0.1, h0.2⟩
    have hws : wr_ ((sh_ (sI_ N 0 13 (nI (nd + 1))) (cs_ V ++ tc_ t).length (tc_ t).length)) V := wr_eq (M := N) (fun a i ha hi => by rw [sI2 a i (by omega), sI_ne _ _ _ _ (by omega)]) (fun i hi => by rw [sL3 10 i (by omega)]; rfl) hw
    have hos : od_ ((sh_ (sI_ N 0 13 (nI (nd + 1))) (cs_ V ++ tc_ t).length (tc_ t).length)) (os_ V ++ co_ (cs_ V).length (some t)) := ⟨by rw [sI2 0 22 (by omega), sI_ne _ _ _ _ (by omega)]; exact ho.1, fun i z hi => by rw [sI2 11 i (by omega), sI_ne _ _ _ _ (by omega)]; exact ho.2 i z hi⟩
    refine ⟨pf_sI (pf_pu (pf_wa (pf_sL (pf_sI (pf_sI (pf_sh (pf_sI hpf (by first | omega | exact at5_ (by omega))) _) (by first | omega | exact at5_ (by omega))) (by first | omega | exact at5_ (by omega))) (by first | omega | exact at5_ (by omega))))) (by first | omega | exact at5_ (by omega)), ⟨tz_sI (tz_pu (tz_wa (tz_sL (tz_sI (tz_sI hz (by first | omega | exact at5_ (by omega))) (by first | omega | exact at5_ (by omega)))))) (by first | omega | exact at5_ (by omega)), by simp [sI_], ?_, by simp [pu_, wa_, sI_, sL_], ?_, ?_, ?_, ?_, ?_, by omega, ?_, hop2, trivial⟩, ?_⟩
    · have e1 : cs_ ((1, 0, t, .null, 0) :: V) ++ cu_ none = (cs_ V ++ (7, lN ((tc_ t).length + 1)) :: tc_ t) ++ [(8, 0)] := by simp [cs_, fc_, cu_]
      rw [e1]
      have hp := cd_pu (t := 8) (v := 0) (cd_wa (w := V.length) (a := 1) (b := nI ((cs_ V ++ tc_ t).length + 1)) (c := 0) (cd_ins (v := lN ((tc_ t).length + 1)) (cd_sI (a := 0) (i := 13) (v := nI (nd + 1)) hc (by omega) (by omega))))
      have e2 : (cs_ V ++ (7, lN ((tc_ t).length + 1)) :: tc_ t).length = (cs_ V ++ tc_ t).length + 1 := by simp; omega
      rw [e2] at hp
      exact cd_sI hp (by omega) (by omega)
    · refine ⟨wr_sI (wr_pu (wr_wa (wr_sL (wr_sI (wr_sI hws (Or.inl (by omega))) (Or.inl (by omega))) (Or.inl (by omega))) (Nat.le_refl _))) (Or.inl (by omega)), ⟨by simp, fun q => by simp at q⟩, by simp [pu_, wa_, sI_, sL_]; rfl, ?_, by simp [pu_, wa_, sI_, sL_, fu_], fun q => by simp at q⟩
      simp [pu_, wa_, sI_, sL_, fp_]
      congr 1
      omega
    · have e2 : os_ ((1, 0, t, .null, 0) :: V) ++ co_ (cs_ ((1, 0, t, .null, 0) :: V)).length none = os_ V ++ co_ (cs_ V).length (some t) := by simp [os_, ff_, co_]
      rw [e2]
      exact od_sI (od_pu (od_wa (od_sL (od_sI (od_sI hos (by omega) (by omega)) (by omega) (by omega))))) (by omega) (by omega)
    · simp only [gI_sI, gI_pu, gI_wa, gI_sL, Nat.reduceEqDiff, false_and, and_false, and_self, if_false, if_true, reduceIte]
      rw [sI2 0 13 (by omega), sI_at]
    · simp only [gI_sI, gI_pu, gI_wa, gI_sL, Nat.reduceEqDiff, false_and, and_false, and_self, if_false, if_true, reduceIte]
      rw [sI2 0 23 (by omega), sI_ne _ _ _ _ (by omega)]
      exact h23
    · simp only [nw_, cn_] at hn1 ⊢
      simp [nf_]
      omega
    · simp only [no_]
      rw [if_neg (by simp)]
      simpa using hop
    · simp only [gI_sI, gI_pu, gI_wa, gI_sL, Nat.reduceEqDiff, false_and, and_false, and_self, if_false, if_true, reduceIte]
      rw [sI2 0 3 (by omega), sI_ne _ _ _ _ (by omega)]
      exact hf3
  by_cases hd20 : nd = 20
  · refine w_aload_n X dX12_hash_0 rfl rfl ?_
    refine w_iconst (v := 1) X dX12_hash_1 (by decide) ?_
    refine w_v1rV X dX12_hash_2 k12_reduceTo rfl rfl (c12_reduceTo G hG _ M n k nd op 1 (by omega) (by omega) W e h) (Nat.le_of_ble_eq_true rfl) (fun N2 h2 => ?_)
    have hle := pr_len h2.1
    have hos := pr_os h2.1
    have h20 := h2.1.2.2.2.1
    have h5 := h2.1.2.1
    have h13 := h2.1.2.2.2.2.2.2.1
    have hf3 : N2.1 0 3 = 0 := h2.2.2.1.trans hf
    have hnd := h.2.2.2.2.2.2.2.2.2.1
    have h12 : N2.1 0 12 = nI (cs_ (rt_ 1 W e).1 ++ tc_ (rt_ 1 W e).2).length := h2.1.2.2.1.1
    have h22 : N2.1 0 22 = nI ((os_ (rt_ 1 W e).1).length + 1) := by have := h2.1.2.2.2.2.2.1.1; simpa [co_] using this
    have h11 : N2.1 11 (os_ (rt_ 1 W e).1).length = nI (cs_ (rt_ 1 W e).1).length := h2.1.2.2.2.2.2.1.2 _ _ (by simp [co_])
    simp only [cu_] at hle
    have e20 : N2.1 0 13 = 20 := by rw [h13, hd20]; rfl
    refine w_aload_n X dX12_hash_5 rfl rfl ?_
    refine w_aload_n X dX12_hash_6 rfl rfl ?_
    refine g12_at X dX12_hash_7 ?_
    try simp only [gI_sI, gI_sL, gL_sI, gL_sL, false_and, and_false, and_self, if_false, if_true, reduceIte, Nat.reduceEqDiff, h5, h13]
    refine w_v1fI X dX12_hash_10 k12_count rfl rfl (c12_count G hG _ _ _) (Nat.le_of_ble_eq_true rfl) ?_
    refine w_if_ne (tgt := 17) X dX12_hash_13 (by decide) (fun h13x => absurd (if_pos e20) h13x) (fun h13x => ?_)
    refine w_vrR X dX12_hash_16 ?_
    rw [show ha_ k W e nd op = _ from if_pos hd20, if_pos e20]
    exact px_fa h2.2.1 hf3
  · refine w_aload_n X dX12_hash_0 rfl rfl ?_
    refine w_iconst (v := 1) X dX12_hash_1 (by decide) ?_
    refine w_v1rV X dX12_hash_2 k12_reduceTo rfl rfl (c12_reduceTo G hG _ M n k nd op 1 (by omega) (by omega) W e h) (Nat.le_of_ble_eq_true rfl) (fun N2 h2 => ?_)
    have hle := pr_len h2.1
    have hos := pr_os h2.1
    have h20 := h2.1.2.2.2.1
    have h5 := h2.1.2.1
    have h13 := h2.1.2.2.2.2.2.2.1
    have hf3 : N2.1 0 3 = 0 := h2.2.2.1.trans hf
    have hnd := h.2.2.2.2.2.2.2.2.2.1
    have h12 : N2.1 0 12 = nI (cs_ (rt_ 1 W e).1 ++ tc_ (rt_ 1 W e).2).length := h2.1.2.2.1.1
    have h22 : N2.1 0 22 = nI ((os_ (rt_ 1 W e).1).length + 1) := by have := h2.1.2.2.2.2.2.1.1; simpa [co_] using this
    have h11 : N2.1 11 (os_ (rt_ 1 W e).1).length = nI (cs_ (rt_ 1 W e).1).length := h2.1.2.2.2.2.2.1.2 _ _ (by simp [co_])
    simp only [cu_] at hle
    have e20 : ¬ N2.1 0 13 = 20 := fun q => hd20 ((nI_eq (b := 20) (by omega) (by omega)).mp (h13.symm.trans q))
    have hbt : ha_ k W e nd op = .inl (k + 1, (1, 0, (rt_ 1 W e).2, .null, 0) :: (rt_ 1 W e).1, none, nd + 1, op) := if_neg hd20
    generalize (rt_ 1 W e).1 = V at h2 hbt hle hos h20 h12 h22 h11
    generalize (rt_ 1 W e).2 = t at h2 hbt hle h12
    refine w_aload_n X dX12_hash_5 rfl rfl ?_
    refine w_aload_n X dX12_hash_6 rfl rfl ?_
    refine g12_at X dX12_hash_7 ?_
    try simp only [gI_sI, gI_sL, gL_sI, gL_sL, false_and, and_false, and_self, if_false, if_true, reduceIte, Nat.reduceEqDiff, h5, h13, h12, h22, h11]
    refine w_v1fI X dX12_hash_10 k12_count rfl rfl (c12_count G hG _ _ _) (Nat.le_of_ble_eq_true rfl) ?_
    rw [if_neg e20, if_neg e20]
    simp only [h13, nI_1]
    refine w_if_ne (tgt := 17) X dX12_hash_13 (by decide) (fun h13x => ?_) (fun h13x => absurd h13x (by decide))
    refine w_aload_n X dX12_hash_17 rfl rfl ?_
    refine g12_operands X dX12_hash_18 ?_
    refine w_aload_n X dX12_hash_21 rfl rfl ?_
    refine g12_operandCount X dX12_hash_22 ?_
    try simp only [gI_sI, gI_sL, gL_sI, gL_sL, false_and, and_false, and_self, if_false, if_true, reduceIte, Nat.reduceEqDiff, h5, h13, h12, h22, h11]
    refine w_iconst (v := 1) X dX12_hash_25 (by decide) ?_
    refine w_isub X dX12_hash_26 ?_
    rw [nI_s1]
    refine w_ialoadN X dX12_hash_27 rfl rfl (by omega) ?_
    try simp only [gI_sI, gI_sL, gL_sI, gL_sL, false_and, and_false, and_self, if_false, if_true, reduceIte, Nat.reduceEqDiff, h5, h13, h12, h22, h11]
    refine w_istore_n X dX12_hash_28 rfl (by decide) ?_
    refine w_bipush (v := 32) X dX12_hash_29 (by decide) ?_
    refine w_s1fI X dX12_hash_31 k12_rowOf (c12_rowOf G hG _ _ _) (Nat.le_of_ble_eq_true rfl) ?_
    refine w_istore_n X dX12_hash_34 rfl (by decide) ?_
    refine w_aload_n X dX12_hash_35 rfl rfl ?_
    refine g12_length X dX12_hash_36 ?_
    try simp only [gI_sI, gI_sL, gL_sI, gL_sL, false_and, and_false, and_self, if_false, if_true, reduceIte, Nat.reduceEqDiff, h5, h13, h12, h22, h11]
    refine w_istore_n X dX12_hash_39 rfl (by decide) ?_
    have hj : (tc_ t).length ≤ (cs_ V ++ tc_ t).length := by simp
    have hp : (cs_ V).length + (tc_ t).length = (cs_ V ++ tc_ t).length := by simp
    have s2 : ∀ j, j < (tc_ t).length → (sh_ (sI_ N2 0 13 (nI (nd + 1))) (cs_ V ++ tc_ t).length j).1 2 (2048 + ((cs_ V ++ tc_ t).length - j) - 1) = (sI_ N2 0 13 (nI (nd + 1))).1 2 (2048 + ((cs_ V ++ tc_ t).length - j) - 1) := fun j q => by rw [sh_I j (by omega), if_neg (by omega)]
    have s3 : ∀ j, j < (tc_ t).length → (sh_ (sI_ N2 0 13 (nI (nd + 1))) (cs_ V ++ tc_ t).length j).2.1 3 (2048 + ((cs_ V ++ tc_ t).length - j) - 1) = (sI_ N2 0 13 (nI (nd + 1))).2.1 3 (2048 + ((cs_ V ++ tc_ t).length - j) - 1) := fun j q => by rw [sh_L j (by omega), if_neg (by omega)]
    have s12 : ∀ j, j ≤ (tc_ t).length → (sh_ (sI_ N2 0 13 (nI (nd + 1))) (cs_ V ++ tc_ t).length j).1 0 12 = nI (cs_ V ++ tc_ t).length := fun j q => by rw [sh_I j (by omega), if_neg (by omega)]; simp [sI_, h12]
    have s20 : (sh_ (sI_ N2 0 13 (nI (nd + 1))) (cs_ V ++ tc_ t).length (tc_ t).length).1 0 20 = nI V.length := by rw [sh_I _ hj, if_neg (by omega)]; simp [sI_, h20]
    have s5 : (sh_ (sI_ N2 0 13 (nI (nd + 1))) (cs_ V ++ tc_ t).length (tc_ t).length).1 0 5 = nI k := by rw [sh_I _ hj, if_neg (by omega)]; simp [sI_, h5]
    have lp : ∀ (u j : Nat), j + u = (tc_ t).length → wq_ C G (qe_ C G (rV_ (px_ M n (ha_ k W e nd op)))) 40 [some (.ref (G.1 0)), some (.int (nI (cs_ V).length)), some (.int (64 * 32)), some (.int (nI ((cs_ V ++ tc_ t).length - j)))] [] (sh_ (sI_ N2 0 13 (nI (nd + 1))) (cs_ V ++ tc_ t).length j) := by
      intro u
      induction u with
      | zero =>
        intro j hu
        obtain rfl : j = (tc_ t).length := by omega
        rw [show (cs_ V ++ tc_ t).length - (tc_ t).length = (cs_ V).length by omega]
        refine w_iload_n X dX12_hash_40 rfl rfl ?_
        refine w_iload_n X dX12_hash_41 rfl rfl ?_
        refine w_icmp_le (tgt := 87) X dX12_hash_42 (by decide) (fun h42 => ?_) (fun h42 => absurd (Int32.le_refl _) h42)
        refine w_aload_n X dX12_hash_87 rfl rfl ?_
        refine w_dup X dX12_hash_88 rfl ?_
        refine g12_length X dX12_hash_89 ?_
        try simp only [gI_sI, gI_sL, gL_sI, gL_sL, false_and, and_false, and_self, if_false, if_true, reduceIte, Nat.reduceEqDiff, s12 _ (Nat.le_refl _), s20, s5, gI_wa, gL_wa, gI_pu, gL_pu, gI_op, gL_op]
        refine w_iconst (v := 1) X dX12_hash_92 (by decide) ?_
        refine w_iadd X dX12_hash_93 ?_
        rw [nI_1]
        refine p12_length X dX12_hash_94 ?_
        refine w_aload_n X dX12_hash_97 rfl rfl ?_
        refine g12_steps X dX12_hash_98 ?_
        refine w_iload_n X dX12_hash_101 rfl rfl ?_
        refine w_iload_n X dX12_hash_102 rfl rfl ?_
        refine w_iadd X dX12_hash_103 ?_
        rw [nI_2048]
        refine w_bipush (v := 7) X dX12_hash_104 (by decide) ?_
        refine w_iastoreN X dX12_hash_106 rfl rfl (by omega) ?_
        refine w_aload_n X dX12_hash_107 rfl rfl ?_
        refine g12_values X dX12_hash_108 ?_
        refine w_iload_n X dX12_hash_111 rfl rfl ?_
        refine w_iload_n X dX12_hash_112 rfl rfl ?_
        refine w_iadd X dX12_hash_113 ?_
        rw [nI_2048]
        refine w_aload_n X dX12_hash_114 rfl rfl ?_
        refine g12_length X dX12_hash_115 ?_
        try simp only [gI_sI, gI_sL, gL_sI, gL_sL, false_and, and_false, and_self, if_false, if_true, reduceIte, Nat.reduceEqDiff, s12 _ (Nat.le_refl _), s20, s5, gI_wa, gL_wa, gI_pu, gL_pu, gI_op, gL_op]
        refine w_iload_n X dX12_hash_118 rfl rfl ?_
        refine w_isub X dX12_hash_119 ?_
        rw [pk_sub (by omega)]
        refine w_i2l X dX12_hash_120 ?_
        refine w_lastoreN X dX12_hash_121 rfl rfl (by omega) ?_
        refine w_aload_n X dX12_hash_122 rfl rfl ?_
        refine w_iconst (v := 1) X dX12_hash_123 (by decide) ?_
        refine w_aload_n X dX12_hash_124 rfl rfl ?_
        refine g12_length X dX12_hash_125 ?_
        try simp only [gI_sI, gI_sL, gL_sI, gL_sL, false_and, and_false, and_self, if_false, if_true, reduceIte, Nat.reduceEqDiff, s12 _ (Nat.le_refl _), s20, s5, gI_wa, gL_wa, gI_pu, gL_pu, gI_op, gL_op]
        refine w_iconst (v := 0) X dX12_hash_128 (by decide) ?_
        refine w_v3fV X dX12_hash_129 k12_wait rfl rfl (c12_wait G hG _ _ V.length (by simp only [gI_sL, gI_sI, Nat.reduceEqDiff, false_and, and_false, if_false, reduceIte]; exact s20) (by omega) _ _ _) (Nat.le_of_ble_eq_true rfl) ?_
        refine w_aload_n X dX12_hash_132 rfl rfl ?_
        refine w_bipush (v := 8) X dX12_hash_133 (by decide) ?_
        refine w_lconst (v := 0) X dX12_hash_135 (by decide) ?_
        refine w_v2fV X dX12_hash_136 k12_put rfl rfl (c12_put G hG _ _ ((cs_ V ++ tc_ t).length + 1) (by simp [wa_, sI_, sL_]) (by omega) _ _) (Nat.le_of_ble_eq_true rfl) ?_
        refine w_aload_n X dX12_hash_139 rfl rfl ?_
        refine w_dup X dX12_hash_140 rfl ?_
        refine g12_at X dX12_hash_141 ?_
        try simp only [gI_sI, gI_sL, gL_sI, gL_sL, false_and, and_false, and_self, if_false, if_true, reduceIte, Nat.reduceEqDiff, s12 _ (Nat.le_refl _), s20, s5, gI_wa, gL_wa, gI_pu, gL_pu, gI_op, gL_op]
        refine w_iconst (v := 1) X dX12_hash_144 (by decide) ?_
        refine w_iadd X dX12_hash_145 ?_
        rw [nI_1]
        refine p12_at X dX12_hash_146 ?_
        refine w_vrR X dX12_hash_149 ?_
        rw [hbt]
        exact lq N2 V t h2 (by omega)
      | succ u ih =>
        intro j hu
        refine w_iload_n X dX12_hash_40 rfl rfl ?_
        refine w_iload_n X dX12_hash_41 rfl rfl ?_
        refine w_icmp_le (tgt := 87) X dX12_hash_42 (by decide) (fun h42 => absurd h42 (nI_ge (by omega) (by omega))) (fun h42 => ?_)
        refine w_aload_n X dX12_hash_45 rfl rfl ?_
        refine g12_steps X dX12_hash_46 ?_
        refine w_iload_n X dX12_hash_49 rfl rfl ?_
        refine w_iload_n X dX12_hash_50 rfl rfl ?_
        refine w_iadd X dX12_hash_51 ?_
        rw [nI_2048]
        refine w_aload_n X dX12_hash_52 rfl rfl ?_
        refine g12_steps X dX12_hash_53 ?_
        refine w_iload_n X dX12_hash_56 rfl rfl ?_
        refine w_iload_n X dX12_hash_57 rfl rfl ?_
        refine w_iadd X dX12_hash_58 ?_
        refine w_iconst (v := 1) X dX12_hash_59 (by decide) ?_
        refine w_isub X dX12_hash_60 ?_
        rw [nI_2048, nI_p _ (by omega)]
        refine w_ialoadN X dX12_hash_61 rfl rfl (by omega) ?_
        try simp only [gI_sI, gI_sL, gL_sI, gL_sL, false_and, and_false, and_self, if_false, if_true, reduceIte, Nat.reduceEqDiff, s2 j (by omega), s3 j (by omega)]
        refine w_iastoreN X dX12_hash_62 rfl rfl (by omega) ?_
        refine w_aload_n X dX12_hash_63 rfl rfl ?_
        refine g12_values X dX12_hash_64 ?_
        refine w_iload_n X dX12_hash_67 rfl rfl ?_
        refine w_iload_n X dX12_hash_68 rfl rfl ?_
        refine w_iadd X dX12_hash_69 ?_
        rw [nI_2048]
        refine w_aload_n X dX12_hash_70 rfl rfl ?_
        refine g12_values X dX12_hash_71 ?_
        refine w_iload_n X dX12_hash_74 rfl rfl ?_
        refine w_iload_n X dX12_hash_75 rfl rfl ?_
        refine w_iadd X dX12_hash_76 ?_
        refine w_iconst (v := 1) X dX12_hash_77 (by decide) ?_
        refine w_isub X dX12_hash_78 ?_
        rw [nI_2048, nI_p _ (by omega)]
        refine w_laloadN X dX12_hash_79 rfl rfl (by omega) ?_
        try simp only [gI_sI, gI_sL, gL_sI, gL_sL, false_and, and_false, and_self, if_false, if_true, reduceIte, Nat.reduceEqDiff, s2 j (by omega), s3 j (by omega)]
        refine w_lastoreN X dX12_hash_80 rfl rfl (by omega) ?_
        refine w_iinc (v := -1) X dX12_hash_81 rfl (by decide) (by decide) ?_
        refine w_goto (tgt := 40) X dX12_hash_84 (by decide) ?_
        have e8 : nI ((cs_ V ++ tc_ t).length - j) + (-1) = nI ((cs_ V ++ tc_ t).length - (j + 1)) := by
          obtain ⟨q, hq⟩ : ∃ q, (cs_ V ++ tc_ t).length - j = q + 1 := ⟨(cs_ V ++ tc_ t).length - j - 1, by omega⟩
          rw [hq, show (cs_ V ++ tc_ t).length - (j + 1) = q by omega]
          exact pk_m1 q
        rw [e8]
        exact ih (j + 1) (by omega)
    exact lp (tc_ t).length 0 (by omega)

end
section
theorem ig_e {c : Int32} (h : ig_ c = 1) : ∃ e : Nat, e ≤ 9 ∧ c = nI (48 + e) := by
  unfold ig_ at h
  split at h
  · rename_i q
    have h0 : ¬ c < 0 := fun z => by
      have a := Int32.le_iff_toInt_le.mp q.1
      have b := Int32.lt_iff_toInt_lt.mp z
      simp at a b
      omega
    obtain ⟨j, hj, rfl⟩ := nI_of h0
    have a := (nI_leI (a := 48) (by omega) hj).mp q.1
    have b := (nI_leI (b := 57) hj (by omega)).mp q.2
    exact ⟨j - 48, by omega, by rw [show 48 + (j - 48) = j by omega]⟩
  · exact absurd h (by decide)
def dg_ (c : Int32) : Nat := c.toNatClampNeg - 48
theorem dg_nI {e : Nat} (h : e ≤ 9) : dg_ (nI (48 + e)) = e := by unfold dg_; rw [pk_cl (48 + e) rfl (by omega)]; omega
def dn_ (w e : Nat) : Nat := if w * 10 + e ≤ 9999999999 then w * 10 + e else 9999999999
theorem dn_le (w e : Nat) : dn_ w e ≤ 9999999999 := by unfold dn_; split <;> omega
def nv_ (f : Nat → Int32) : Nat → Nat → Nat → Nat × Nat
  | 0, k, w => (k, w)
  | u + 1, k, w => if ig_ (f k) = 1 then nv_ f u (k + 1) (dn_ w (dg_ (f k))) else (k, w)
theorem nv_le (f : Nat → Int32) : ∀ u k w, w ≤ 9999999999 → k ≤ (nv_ f u k w).1 ∧ (nv_ f u k w).1 ≤ k + u ∧ (nv_ f u k w).2 ≤ 9999999999
  | 0, k, w, h => ⟨Nat.le_refl _, Nat.le_refl _, h⟩
  | u + 1, k, w, h => by
    unfold nv_
    split
    · have := nv_le f u (k + 1) (dn_ w (dg_ (f k))) (dn_le _ _); omega
    · simp; exact h
theorem lN_st {w e : Nat} (hw : w ≤ 9999999999) (he : e ≤ 9) : lN w * 10 + (nI (48 + e)).toInt64 - 48 = lN (w * 10 + e) := by
  rw [show (10 : Int64) = lN 10 from rfl, show (48 : Int64) = lN 48 from rfl, lN_mul, nI_l (by omega), lN_add, lN_sub (by omega)]
  congr 1
  omega
def rn2_ (f : Nat → Int32) (n k : Nat) (W : List fr_) (nd op : Nat) : ss_ ⊕ (Int32 × Nat) := if nd = 20 then .inr (3, k) else if 2147483647 < (nv_ f (n - k) k 0).2 then .inr (2, k) else .inl ((nv_ f (n - k) k 0).1, W, some (.int (nI (nv_ f (n - k) k 0).2)), nd + 1, op)
theorem pr_leaf {M N : mm_} {n k k2 nd op : Nat} {W : List fr_} {e : Term} {t : Int32} {v : Int64} (h : pr_ M n k W none nd op) (hn : nd < 20) (he : tc_ e = [(t, v)]) (he2 : nt_ e = 1) (h0 : tz_ N n) (h5 : N.1 0 5 = nI k2) (hc : cd_ N (cs_ W ++ [(t, v)])) (h20 : N.1 0 20 = nI W.length) (hw : wr_ N W) (ho : od_ N (os_ W ++ [(cs_ W).length])) (h13 : N.1 0 13 = nI (nd + 1)) (h23 : N.1 0 23 = nI op) : pr_ N n k2 W (some e) (nd + 1) op := by
  obtain ⟨-, -, -, -, -, -, -, -, a1, a2, a3, a4, -⟩ := h
  refine ⟨h0, h5, by rw [cu_, he]; exact hc, h20, hw, ho, h13, h23, ?_, by omega, a3, a4, ?_⟩
  · simp only [cn_] at a1 ⊢; omega
  · show 1 ≤ nt_ e; omega
set_option maxRecDepth 100000 in
set_option maxHeartbeats 4000000 in
theorem c12_readNumber (G : gg_) (hG : gd_ G) (d : Nat) (M : mm_) (n k nd op : Nat) (W : List fr_) (h : pr_ M n k W none nd op) (hf : M.1 0 3 = 0) (hk : k < 536870912) : cm_ G yX12_readNumber cX12_readNumber 4 none (d + 3) [.ref (G.1 0)] M (rV_ (px_ M n (rn2_ (bf_ M n) n k W nd op))) := by
  refine cm_of hG (by decide) (Nat.le_of_ble_eq_true rfl) (fun C X => ?_)
  have hle := pr_len h
  have hos := pr_os h
  have hh := id h
  obtain ⟨h0, h5, hc, h20, hw, ho, h13, h23, hn1, hn2, hop, hop2, hcq⟩ := hh
  simp only [cu_, List.append_nil, co_] at hc ho hle
  have hn := h0.2
  have h12 := hc.1
  have h22 := ho.1
  by_cases hd20 : nd = 20
  · have e20 : M.1 0 13 = 20 := by rw [h13, hd20]; rfl
    refine w_aload_n X dX12_readNumber_0 rfl rfl ?_
    refine g12_at X dX12_readNumber_1 ?_
    try simp only [gI_sI, gI_sL, gL_sI, gL_sL, false_and, and_false, and_self, if_false, if_true, reduceIte, Nat.reduceEqDiff, h5]
    refine w_istore_n X dX12_readNumber_4 rfl (by decide) ?_
    refine w_aload_n X dX12_readNumber_5 rfl rfl ?_
    refine w_iload_n X dX12_readNumber_6 rfl rfl ?_
    refine w_v1fI X dX12_readNumber_7 k12_count rfl rfl (c12_count G hG _ _ _) (Nat.le_of_ble_eq_true rfl) ?_
    refine w_if_ne (tgt := 14) X dX12_readNumber_10 (by decide) (fun h10 => absurd (if_pos e20) h10) (fun h10 => ?_)
    refine w_vrR X dX12_readNumber_13 ?_
    rw [show rn2_ (bf_ M n) n k W nd op = _ from if_pos hd20, if_pos e20]
    exact px_fa (pf_rf M) hf
  have e20 : ¬ M.1 0 13 = 20 := fun q => hd20 ((nI_eq (b := 20) (by omega) (by omega)).mp (h13.symm.trans q))
  have lp : ∀ (u q w : Nat), u = n - q → q < 1073741824 → w ≤ 9999999999 → nv_ (bf_ M n) (n - k) k 0 = nv_ (bf_ M n) u q w → wq_ C G (qe_ C G (rV_ (px_ M n (rn2_ (bf_ M n) n k W nd op)))) 16 [some (.ref (G.1 0)), some (.int (nI k)), some (.long (lN w)), none] [] (sI_ (sI_ M 0 13 (nI (nd + 1))) 0 5 (nI q)) := by
    intro u
    have j79 : ∀ q w : Nat, q < 1073741824 → w ≤ 9999999999 → nv_ (bf_ M n) (n - k) k 0 = (q, w) → wq_ C G (qe_ C G (rV_ (px_ M n (rn2_ (bf_ M n) n k W nd op)))) 79 [some (.ref (G.1 0)), some (.int (nI k)), some (.long (lN w)), none] [] (sI_ (sI_ M 0 13 (nI (nd + 1))) 0 5 (nI q)) := by
      intro q w hq hw2 hr
      refine w_lload_n X dX12_readNumber_79 rfl rfl ?_
      refine w_ldc2 X dX12_readNumber_80 q12_190 ?_
      refine w_lcmp X dX12_readNumber_83 ?_
      refine w_if_le (tgt := 93) X dX12_readNumber_84 (by decide) (fun h84 => ?_) (fun h84 => ?_)
      · have e84 : ¬ 2147483647 < w := fun z => by
          have q1 := lc_le.mp h84
          have q2 := (pk_lLE (a := w) (b := 2147483647) (by omega) (by omega)).mp q1
          omega
        refine w_aload_n X dX12_readNumber_93 rfl rfl ?_
        refine w_aload_n X dX12_readNumber_94 rfl rfl ?_
        refine g12_length X dX12_readNumber_95 ?_
        try simp only [gI_sI, gI_sL, gL_sI, gL_sL, false_and, and_false, and_self, if_false, if_true, reduceIte, Nat.reduceEqDiff, h12, h22, gI_wa, gL_wa, gI_pu, gL_pu, gI_op, gL_op]
        refine w_v1fV X dX12_readNumber_98 k12_operand rfl rfl (c12_operand G hG _ _ (os_ W).length (by simp [sI_, h22]) (by omega) _) (Nat.le_of_ble_eq_true rfl) ?_
        refine w_aload_n X dX12_readNumber_101 rfl rfl ?_
        refine w_iconst (v := 0) X dX12_readNumber_102 (by decide) ?_
        refine w_lload_n X dX12_readNumber_103 rfl rfl ?_
        refine w_v2fV X dX12_readNumber_104 k12_put rfl rfl (c12_put G hG _ _ (cs_ W).length (by simp [op_, sI_, h12]) (by omega) _ _) (Nat.le_of_ble_eq_true rfl) ?_
        refine w_vrR X dX12_readNumber_107 ?_
        have hbt : rn2_ (bf_ M n) n k W nd op = _ := if_neg hd20
        rw [hr] at hbt
        simp only at hbt
        rw [hbt]
        first
          | (rw [if_pos e84]
             exact ⟨pf_pu (pf_op (pf_f2 (pf_sI (pf_sI (pf_rf M) (by first | omega | exact at5_ (by omega))) (by first | omega | exact at5_ (by omega))))), by simp [pu_, op_, sI_, sL_], by simp [pu_, op_, sI_, sL_]⟩)
          | (rw [if_neg e84]
             refine ⟨pf_pu (pf_op (pf_sI (pf_sI (pf_rf M) (by first | omega | exact at5_ (by omega))) (by first | omega | exact at5_ (by omega)))), pr_leaf (t := 0) (v := lN w) h (by first | omega | exact at5_ (by omega)) (by simp only [tc_]; rw [nI_l (by first | omega | exact at5_ (by omega))]) (by simp [nt_]) (tz_pu (tz_op (tz_sI (tz_sI h0 (by first | omega | exact at5_ (by omega))) (by first | omega | exact at5_ (by omega))))) (by simp [pu_, op_, sI_, sL_]) (cd_pu (cd_op (cd_sI (cd_sI hc (by first | omega | exact at5_ (by omega)) (by first | omega | exact at5_ (by omega))) (by first | omega | exact at5_ (by omega)) (by first | omega | exact at5_ (by omega))))) (by simp [pu_, op_, sI_, sL_, h20]) (wr_pu (wr_op (wr_sI (wr_sI hw (Or.inl (by first | omega | exact at5_ (by omega)))) (Or.inl (by first | omega | exact at5_ (by omega)))))) (od_pu (od_op (od_sI (od_sI (by simpa using ho) (by first | omega | exact at5_ (by omega)) (by first | omega | exact at5_ (by omega))) (by first | omega | exact at5_ (by omega)) (by first | omega | exact at5_ (by omega))))) (by simp [pu_, op_, sI_, sL_]) (by simp [pu_, op_, sI_, sL_, h23]), by simp [pu_, op_, sI_, sL_, hf]⟩)
      · have e84 : 2147483647 < w := Nat.not_le.mp (fun z => h84 (lc_le.mpr ((pk_lLE (a := w) (b := 2147483647) (by omega) (by omega)).mpr z)))
        refine w_aload_n X dX12_readNumber_87 rfl rfl ?_
        refine w_iconst (v := 2) X dX12_readNumber_88 (by decide) ?_
        refine w_iload_n X dX12_readNumber_89 rfl rfl ?_
        refine w_v2fV X dX12_readNumber_90 k12_fail rfl rfl (c12_fail G hG _ _ _ _) (Nat.le_of_ble_eq_true rfl) ?_
        rw [fa_0 (by simp [sI_, hf])]
        refine w_aload_n X dX12_readNumber_93 rfl rfl ?_
        refine w_aload_n X dX12_readNumber_94 rfl rfl ?_
        refine g12_length X dX12_readNumber_95 ?_
        try simp only [gI_sI, gI_sL, gL_sI, gL_sL, false_and, and_false, and_self, if_false, if_true, reduceIte, Nat.reduceEqDiff, h12, h22, gI_wa, gL_wa, gI_pu, gL_pu, gI_op, gL_op]
        refine w_v1fV X dX12_readNumber_98 k12_operand rfl rfl (c12_operand G hG _ _ (os_ W).length (by simp [sI_, h22]) (by omega) _) (Nat.le_of_ble_eq_true rfl) ?_
        refine w_aload_n X dX12_readNumber_101 rfl rfl ?_
        refine w_iconst (v := 0) X dX12_readNumber_102 (by decide) ?_
        refine w_lload_n X dX12_readNumber_103 rfl rfl ?_
        refine w_v2fV X dX12_readNumber_104 k12_put rfl rfl (c12_put G hG _ _ (cs_ W).length (by simp [op_, sI_, h12]) (by omega) _ _) (Nat.le_of_ble_eq_true rfl) ?_
        refine w_vrR X dX12_readNumber_107 ?_
        have hbt : rn2_ (bf_ M n) n k W nd op = _ := if_neg hd20
        rw [hr] at hbt
        simp only at hbt
        rw [hbt]
        first
          | (rw [if_pos e84]
             exact ⟨pf_pu (pf_op (pf_f2 (pf_sI (pf_sI (pf_rf M) (by first | omega | exact at5_ (by omega))) (by first | omega | exact at5_ (by omega))))), by simp [pu_, op_, sI_, sL_], by simp [pu_, op_, sI_, sL_]⟩)
          | (rw [if_neg e84]
             refine ⟨pf_pu (pf_op (pf_sI (pf_sI (pf_rf M) (by first | omega | exact at5_ (by omega))) (by first | omega | exact at5_ (by omega)))), pr_leaf (t := 0) (v := lN w) h (by first | omega | exact at5_ (by omega)) (by simp only [tc_]; rw [nI_l (by first | omega | exact at5_ (by omega))]) (by simp [nt_]) (tz_pu (tz_op (tz_sI (tz_sI h0 (by first | omega | exact at5_ (by omega))) (by first | omega | exact at5_ (by omega))))) (by simp [pu_, op_, sI_, sL_]) (cd_pu (cd_op (cd_sI (cd_sI hc (by first | omega | exact at5_ (by omega)) (by first | omega | exact at5_ (by omega))) (by first | omega | exact at5_ (by omega)) (by first | omega | exact at5_ (by omega))))) (by simp [pu_, op_, sI_, sL_, h20]) (wr_pu (wr_op (wr_sI (wr_sI hw (Or.inl (by first | omega | exact at5_ (by omega)))) (Or.inl (by first | omega | exact at5_ (by omega)))))) (od_pu (od_op (od_sI (od_sI (by simpa using ho) (by first | omega | exact at5_ (by omega)) (by first | omega | exact at5_ (by omega))) (by first | omega | exact at5_ (by omega)) (by first | omega | exact at5_ (by omega))))) (by simp [pu_, op_, sI_, sL_]) (by simp [pu_, op_, sI_, sL_, h23]), by simp [pu_, op_, sI_, sL_, hf]⟩)
    induction u with
    | zero =>
      intro q w hu hq hw2 hr
      have e27 : ig_ (bf_ M n q) = 0 := ig_bf (by omega)
      refine w_aload_n X dX12_readNumber_16 rfl rfl ?_
      refine w_aload_n X dX12_readNumber_17 rfl rfl ?_
      refine g12_at X dX12_readNumber_18 ?_
      try simp only [gI_sI, gI_sL, gL_sI, gL_sL, false_and, and_false, and_self, if_false, if_true, reduceIte, Nat.reduceEqDiff]
      refine w_v1fI X dX12_readNumber_21 k12_byteAt rfl rfl (c12_byteAt G hG _ _ (nI q) (fun z => tz_in (tz_sI (tz_sI h0 (by omega)) (by omega)) (by omega) z)) (Nat.le_of_ble_eq_true rfl) ?_
      rw [ba_bf (tz_sI (tz_sI h0 (by omega)) (by omega)) (by omega), bf_sI (by omega), bf_sI (by omega)]
      refine w_s1fI X dX12_readNumber_24 k12_isFigure (c12_isFigure G hG _ _ _) (Nat.le_of_ble_eq_true rfl) ?_
      refine w_if_eq (tgt := 79) X dX12_readNumber_27 (by decide) (fun h27 => ?_) (fun h27 => absurd (e27) h27)
      exact j79 q w hq hw2 hr
    | succ u ih =>
      intro q w hu hq hw2 hr
      refine w_aload_n X dX12_readNumber_16 rfl rfl ?_
      refine w_aload_n X dX12_readNumber_17 rfl rfl ?_
      refine g12_at X dX12_readNumber_18 ?_
      try simp only [gI_sI, gI_sL, gL_sI, gL_sL, false_and, and_false, and_self, if_false, if_true, reduceIte, Nat.reduceEqDiff]
      refine w_v1fI X dX12_readNumber_21 k12_byteAt rfl rfl (c12_byteAt G hG _ _ (nI q) (fun z => tz_in (tz_sI (tz_sI h0 (by omega)) (by omega)) (by omega) z)) (Nat.le_of_ble_eq_true rfl) ?_
      rw [ba_bf (tz_sI (tz_sI h0 (by omega)) (by omega)) (by omega), bf_sI (by omega), bf_sI (by omega)]
      refine w_s1fI X dX12_readNumber_24 k12_isFigure (c12_isFigure G hG _ _ _) (Nat.le_of_ble_eq_true rfl) ?_
      refine w_if_eq (tgt := 79) X dX12_readNumber_27 (by decide) (fun h27 => ?_) (fun h27 => ?_)
      · refine j79 q w hq hw2 ?_
        rw [hr]
        simp only [nv_]
        rw [if_neg (by rw [h27]; decide)]
      · have e27 : ig_ (bf_ M n q) = 1 := (ig_01 _).resolve_left h27
        obtain ⟨e, he, ee⟩ := ig_e e27
        have hr2 : nv_ (bf_ M n) (n - k) k 0 = nv_ (bf_ M n) u (q + 1) (dn_ w e) := by rw [hr]; simp only [nv_]; rw [if_pos e27, ee, dg_nI he]
        refine w_lload_n X dX12_readNumber_30 rfl rfl ?_
        refine w_ldc2 X dX12_readNumber_31 q12_184 ?_
        refine w_lmul X dX12_readNumber_34 ?_
        refine w_aload_n X dX12_readNumber_35 rfl rfl ?_
        refine w_aload_n X dX12_readNumber_36 rfl rfl ?_
        refine g12_at X dX12_readNumber_37 ?_
        try simp only [gI_sI, gI_sL, gL_sI, gL_sL, false_and, and_false, and_self, if_false, if_true, reduceIte, Nat.reduceEqDiff]
        refine w_v1fI X dX12_readNumber_40 k12_byteAt rfl rfl (c12_byteAt G hG _ _ (nI q) (fun z => tz_in (tz_sI (tz_sI h0 (by omega)) (by omega)) (by omega) z)) (Nat.le_of_ble_eq_true rfl) ?_
        rw [ba_bf (tz_sI (tz_sI h0 (by omega)) (by omega)) (by omega), bf_sI (by omega), bf_sI (by omega)]
        rw [ee]
        refine w_i2l X dX12_readNumber_43 ?_
        refine w_ladd X dX12_readNumber_44 ?_
        refine w_ldc2 X dX12_readNumber_45 q12_186 ?_
        refine w_lsub X dX12_readNumber_48 ?_
        rw [lN_st hw2 he]
        refine w_lstore_n X dX12_readNumber_49 rfl (by decide) ?_
        refine w_lload_n X dX12_readNumber_50 rfl rfl ?_
        refine w_ldc2 X dX12_readNumber_51 q12_188 ?_
        refine w_lcmp X dX12_readNumber_54 ?_
        refine w_if_le (tgt := 64) X dX12_readNumber_55 (by decide) (fun h55 => ?_) (fun h55 => ?_)
        · refine w_lload_n X dX12_readNumber_64 rfl rfl ?_
          refine w_lstore_n X dX12_readNumber_65 rfl (by decide) ?_
          refine w_aload_n X dX12_readNumber_66 rfl rfl ?_
          refine w_dup X dX12_readNumber_67 rfl ?_
          refine g12_at X dX12_readNumber_68 ?_
          try simp only [gI_sI, gI_sL, gL_sI, gL_sL, false_and, and_false, and_self, if_false, if_true, reduceIte, Nat.reduceEqDiff]
          refine w_iconst (v := 1) X dX12_readNumber_71 (by decide) ?_
          refine w_iadd X dX12_readNumber_72 ?_
          refine p12_at X dX12_readNumber_73 ?_
          refine w_goto (tgt := 16) X dX12_readNumber_76 (by decide) ?_
          rw [sI_sI, nI_1]
          have e55 : w * 10 + e ≤ 9999999999 := (pk_lLE (b := 9999999999) (by omega) (by omega)).mp (lc_le.mp h55)
          have hd : dn_ w e = w * 10 + e := if_pos e55
          refine ih (q + 1) (w * 10 + e) (by omega) (by omega) e55 ?_
          rw [hr2, hd]
        · refine w_ldc2 X dX12_readNumber_58 q12_188 ?_
          refine w_goto (tgt := 65) X dX12_readNumber_61 (by decide) ?_
          refine w_lstore_n X dX12_readNumber_65 rfl (by decide) ?_
          refine w_aload_n X dX12_readNumber_66 rfl rfl ?_
          refine w_dup X dX12_readNumber_67 rfl ?_
          refine g12_at X dX12_readNumber_68 ?_
          try simp only [gI_sI, gI_sL, gL_sI, gL_sL, false_and, and_false, and_self, if_false, if_true, reduceIte, Nat.reduceEqDiff]
          refine w_iconst (v := 1) X dX12_readNumber_71 (by decide) ?_
          refine w_iadd X dX12_readNumber_72 ?_
          refine p12_at X dX12_readNumber_73 ?_
          refine w_goto (tgt := 16) X dX12_readNumber_76 (by decide) ?_
          rw [sI_sI, nI_1]
          have e55 : ¬ w * 10 + e ≤ 9999999999 := fun z => h55 (lc_le.mpr ((pk_lLE (b := 9999999999) (by omega) (by omega)).mpr z))
          have hd : dn_ w e = 9999999999 := if_neg e55
          refine ih (q + 1) 9999999999 (by omega) (by omega) (by omega) ?_
          rw [hr2, hd]
  refine w_aload_n X dX12_readNumber_0 rfl rfl ?_
  refine g12_at X dX12_readNumber_1 ?_
  try simp only [gI_sI, gI_sL, gL_sI, gL_sL, false_and, and_false, and_self, if_false, if_true, reduceIte, Nat.reduceEqDiff, h5]
  refine w_istore_n X dX12_readNumber_4 rfl (by decide) ?_
  refine w_aload_n X dX12_readNumber_5 rfl rfl ?_
  refine w_iload_n X dX12_readNumber_6 rfl rfl ?_
  refine w_v1fI X dX12_readNumber_7 k12_count rfl rfl (c12_count G hG _ _ _) (Nat.le_of_ble_eq_true rfl) ?_
  rw [if_neg e20, if_neg e20]
  simp only [h13, nI_1]
  refine w_if_ne (tgt := 14) X dX12_readNumber_10 (by decide) (fun h10 => ?_) (fun h10 => absurd h10 (by decide))
  refine w_lconst (v := 0) X dX12_readNumber_14 (by decide) ?_
  refine w_lstore_n X dX12_readNumber_15 rfl (by decide) ?_
  have e5 : sI_ (sI_ M 0 13 (nI (nd + 1))) 0 5 (nI k) = sI_ M 0 13 (nI (nd + 1)) := by
    have := sI_self (sI_ M 0 13 (nI (nd + 1))) 0 5
    rw [show (sI_ M 0 13 (nI (nd + 1))).1 0 5 = nI k by simp [sI_, h5]] at this
    exact this
  have hh := lp (n - k) k 0 rfl (by omega) (by omega) rfl
  rw [e5] at hh
  exact hh

end
