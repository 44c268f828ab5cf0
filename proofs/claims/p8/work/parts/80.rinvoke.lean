/-! the reference's machine: invoke -/
theorem fm_in {M : mm_} {a : Int64} {b : Int32} : ∀ u i, fm_ M a b u i = -1 ∨ ∃ m, m < i + u ∧ fm_ M a b u i = nI m := by
  intro u
  induction u with
  | zero => intro i; exact Or.inl rfl
  | succ u ih =>
    intro i
    rw [fm_]
    split
    · exact Or.inr ⟨i, by omega, rfl⟩
    · rcases ih (i + 1) with z | ⟨m, h1, h2⟩
      · exact Or.inl z
      · exact Or.inr ⟨m, by omega, h2⟩
/-- the machine has gone on: a state with fewer steps left -/
def g2R_ (c : Nat) (nn : Nat → Nat) (FF : Nat → Nat → Nat × List Nat) (U : Nat) (N : mm_) : Prop := ∃ L k, RS_ c nn FF L k N ∧ (1000 - k) * 42 + muR_ nn L < U
theorem g2_go {c : Nat} {nn : Nat → Nat} {FF : Nat → Nat → Nat × List Nat} {k u U : Nat} {N : mm_} (h : goR_ c nn FF k u N) (hU : (1000 - k) * 42 + u ≤ U) : g2R_ c nn FF U N := by
  obtain ⟨L, h1, h2⟩ := h
  exact ⟨L, k, h1, by omega⟩
def c24_ (M N : mm_) : Prop := N.2 = M.2 ∧ (∀ a i, a ≠ 24 → N.1 a i = M.1 a i)
theorem c24_fr {M N : mm_} (h : c24_ M N) : frR_ mR_ M N := ⟨h.1, fun a i _ z => h.2 a i (by unfold mR_ at z; omega), fun i => Or.inl (h.2 12 i (by decide)), ckR_s (fun i _ => h.2 0 i (by decide)) (fun i => h.2 22 i (by decide))⟩
theorem c24_I {M N : mm_} {i : Nat} {v : Int32} (h : c24_ M N) : c24_ M (sI_ N 24 i v) := ⟨h.1, fun a j z => by rw [gI_sI, if_neg (by omega)]; exact h.2 a j z⟩
set_option maxRecDepth 100000 in
set_option maxHeartbeats 4000000 in
theorem c12_invoke (G : gg_) (hG : gd_ G) (d : Nat) (M : mm_) (c : Nat) (nn : Nat → Nat) (FF : Nat → Nat → Nat × List Nat) (hE : EV_ c nn FF M) (f : fs4_) (r : List fs4_) (k : Nat) (h39 : M.1 0 39 = nI (r.length + 1)) (hl10 : r.length + 1 ≤ 10) (hf : f1R_ c nn FF M f r) (hr : FS_ c nn FF M r) (h25 : M.1 25 (r.length + 1) = nI (f.2.1 + 1)) (hp : f.2.1 < nn f.1) (h47 : M.1 0 47 = nI (f.2.2.1 + (FF f.1 f.2.1).1)) (h51 : M.1 0 51 = nI (f.2.2.2 + (FF f.1 f.2.1).2.length)) (h40 : M.1 0 40 = nI k) (hk2 : k ≤ 1000) (what : Int64) (j : Nat) (hj3 : j ≤ 3) (hj : (what &&& 3).toInt32 = nI j) (hjh : j ≤ (FF f.1 f.2.1).1) (hF1 : FF f.1 (f.2.1 + 1) = ((FF f.1 f.2.1).1 + 1 - j, (FF f.1 f.2.1).2)) (U : Nat) (hU : (1000 - k) * 42 + muR_ nn (f :: r) ≤ U) : cm_ G yX12_invoke cX12_invoke 6 none (d + 5) [.ref (G.1 0), .long what] M (rV_ (fun N => frR_ mR_ M N ∧ g2R_ c nn FF U N)) := by
  obtain ⟨a1, a2, a3, a4, a5, a6, a7⟩ := hf
  obtain ⟨okF, -⟩ := hE.2.2.2.2 f.1 a1
  obtain ⟨b1, b2, b3⟩ := okF.2.2.2.2.1 f.2.1 a3
  have hU2 : (1000 - k) * 42 + (muR_ nn r + (nn f.1 - f.2.1 + 1)) ≤ U := hU
  have hnn := okF.2.1
  have hEA := EV_fr (frR_I (P := mR_) (M := M) (a := 0) (i := 47) (v := nI (f.2.2.1 + (FF f.1 f.2.1).1 - j)) (by unfold mR_; omega) (by unfold mR_; omega)) hE
  have fA : frR_ mR_ M (sI_ M 0 47 (nI (f.2.2.1 + (FF f.1 f.2.1).1 - j))) := frR_I (by unfold mR_; omega) (by unfold mR_; omega)
  have eA : ∀ a i, ¬ (a = 0 ∧ i = 47) → (sI_ M 0 47 (nI (f.2.2.1 + (FF f.1 f.2.1).1 - j))).1 a i = M.1 a i := fun a i z => by rw [gI_sI, if_neg z]
  have e47 : (sI_ M 0 47 (nI (f.2.2.1 + (FF f.1 f.2.1).1 - j))).1 0 47 = nI (f.2.2.1 + (FF f.1 f.2.1).1 - j) := by rw [gI_sI, if_pos ⟨rfl, rfl⟩]
  obtain ⟨A, hA⟩ : ∃ A, (sI_ M 0 47 (nI (f.2.2.1 + (FF f.1 f.2.1).1 - j))) = A := ⟨_, rfl⟩
  rw [hA] at hEA fA eA e47
  have A39 : A.1 0 39 = nI (r.length + 1) := by rw [eA _ _ (by omega)]; exact h39
  have A40 : A.1 0 40 = nI k := by rw [eA _ _ (by omega)]; exact h40
  have A51 : A.1 0 51 = nI (f.2.2.2 + (FF f.1 f.2.1).2.length) := by rw [eA _ _ (by omega)]; exact h51
  have f1 : f1R_ c nn FF A (f.1, f.2.1 + 1, f.2.2.1, f.2.2.2) r := ⟨a1, by rw [eA _ _ (by omega)]; exact a2, hp, a4, a5, fun k x hx => by rw [eA _ _ (by omega), eA _ _ (by omega), eA _ _ (by omega)]; exact a6 k x (by rw [hF1] at hx; exact hx), a7⟩
  have fr : FS_ c nn FF A r := FS_cg r _ (Nat.le_refl _) hr (fun q _ _ => ⟨eA _ _ (by omega), eA _ _ (by omega)⟩) (fun a k ha _ => eA _ _ (by omega))
  have fto : A.1 0 51 = nI (toR_ FF ((f.1, f.2.1 + 1, f.2.2.1, f.2.2.2) :: r)) := by rw [A51]; show _ = nI (f.2.2.2 + (FF f.1 (f.2.1 + 1)).2.length); rw [hF1]
  have hmu1 : muR_ nn ((f.1, f.2.1 + 1, f.2.2.1, f.2.2.2) :: r) = muR_ nn r + (nn f.1 - (f.2.1 + 1) + 1) := rfl
  refine cm_of hG (by decide) (Nat.le_of_ble_eq_true rfl) (fun C X => ?_)
  have t27 : ∀ (x5 : Option Value) (w : Int32), (w = -1 ∨ ∃ m, m < c ∧ w = nI m) → wq_ C G (qe_ C G (rV_ (fun N => frR_ mR_ M N ∧ g2R_ c nn FF U N))) 27 [some (.ref (G.1 0)), some (.long what), none, some (.int (nI j)), some (.int w), x5] [] A := by
    intro x5 w hw
    refine w_iload X dX12_invoke_27 rfl ?_
    refine w_if_ge (tgt := 41) X dX12_invoke_29 (by decide) (fun h29 => ?_) (fun h29 => ?_)
    · have h29n : ¬ w < 0 := Int32.not_lt.mpr h29
      refine w_aload_n X dX12_invoke_41 rfl rfl ?_
      refine g12_depth X dX12_invoke_42 ?_
      rw [A39]
      refine w_bipush (v := 10) X dX12_invoke_45 (by decide) ?_
      refine w_icmp_ne (tgt := 59) X dX12_invoke_47 (by decide) (fun h47 => ?_) (fun h47 => ?_)
      · refine w_aload_n X dX12_invoke_59 rfl rfl ?_
        refine g12_invoked X dX12_invoke_60 ?_
        rw [A40]
        refine w_sipush (v := 1000) X dX12_invoke_63 (by decide) ?_
        refine w_icmp_ne (tgt := 78) X dX12_invoke_66 (by decide) (fun h66 => ?_) (fun h66 => ?_)
        · refine w_iconst (v := 0) X dX12_invoke_78 (by decide) ?_
          refine w_istore X dX12_invoke_79 (by decide) ?_
          obtain ⟨m, hm, em⟩ : ∃ m, m < c ∧ w = nI m := hw.resolve_left (fun z => h29n (by rw [z]; decide))
          have hk3 : k < 1000 := by
            rcases Nat.lt_or_ge k 1000 with z | z
            · exact z
            · exact absurd (show nI k = 1000 by rw [show k = 1000 by omega]; rfl) h66
          have hd9 : r.length + 1 ≤ 9 := by
            rcases Nat.lt_or_ge (r.length + 1) 10 with z | z
            · omega
            · exact absurd (show nI (r.length + 1) = 10 by rw [show r.length + 1 = 10 by omega]; rfl) h47
          subst em
          have lp : ∀ (u q : Nat) (N : mm_), q + u = j → c24_ A N → wq_ C G (qe_ C G (rV_ (fun N => frR_ mR_ M N ∧ g2R_ c nn FF U N))) 81 [some (.ref (G.1 0)), some (.long what), none, some (.int (nI j)), some (.int (nI m)), some (.int (nI q))] [] N := by
            intro u
            induction u with
            | zero =>
              intro q N hu hN
              have hEN := EV_fr (c24_fr hN) hEA
              have N39 : N.1 0 39 = nI (r.length + 1) := by rw [hN.2 0 39 (by decide)]; exact A39
              have N40 : N.1 0 40 = nI k := by rw [hN.2 0 40 (by decide)]; exact A40
              refine w_iload X dX12_invoke_81 rfl ?_
              refine w_iload_n X dX12_invoke_83 rfl rfl ?_
              refine w_icmp_ge (tgt := 121) X dX12_invoke_84 (by decide) (fun h84 => ?_) (fun h84 => absurd (nI_le (a := j) (b := q) (by omega) (by omega)) h84)
              refine w_aload_n X dX12_invoke_121 rfl rfl ?_
              refine w_iload X dX12_invoke_122 rfl ?_
              refine w_v1rV X dX12_invoke_124 k12_enter rfl rfl (c12_enter G hG _ _ c nn FF hEN (r.length + 1) k m N39 (by omega) N40 hm) (Nat.le_of_ble_eq_true rfl) (fun N124 h124 => ?_)
              have g24 : ∀ a i, ¬ pzR_ a i → ¬ eR_ (r.length + 1) a i → N124.1 a i = A.1 a i := fun a i z1 z2 => (h124.1.2.1 a i z1 z2).trans (hN.2 a i (fun y => z2 (Or.inl y)))
              refine w_vrR X dX12_invoke_127 ⟨frR_tr fA (frR_tr (c24_fr hN) (frR_mo h124.1 (fun a i => eR_m))), (m, 0, f.2.2.1 + (FF f.1 f.2.1).1 - j, f.2.2.2 + (FF f.1 f.2.1).2.length) :: (f.1, f.2.1 + 1, f.2.2.1, f.2.2.2) :: r, k + 1, ⟨?_, ?_, ⟨⟨hm, ?_, Nat.zero_le _, ?_, ?_, ?_, ?_⟩, ?_, ?_⟩, ⟨?_, ?_⟩, h124.2.2.1, by omega⟩, ?_⟩
              · exact h124.2.1
              · show r.length + 1 + 1 ≤ 10; omega
              · exact h124.2.2.2.1
              · show f.2.2.1 + (FF f.1 f.2.1).1 - j ≤ 20 * (r.length + 1); omega
              · show f.2.2.2 + (FF f.1 f.2.1).2.length ≤ 20 * (r.length + 1); omega
              · intro k2 x hx
                have e0 : FF m 0 = (0, []) := (hE.2.2.2.2 m hm).1.2.2.1
                have hx2 : (FF m 0).2[k2]? = some x := hx
                rw [e0] at hx2
                cases hx2
              · refine ⟨?_, ?_⟩
                · show f.2.2.1 + (FF f.1 f.2.1).1 - j + 1 = f.2.2.1 + (FF f.1 (f.2.1 + 1)).1; rw [hF1]; show _ = f.2.2.1 + ((FF f.1 f.2.1).1 + 1 - j); omega
                · show f.2.2.2 + (FF f.1 f.2.1).2.length = f.2.2.2 + (FF f.1 (f.2.1 + 1)).2.length; rw [hF1]
              · exact h124.2.2.2.2
              · refine FS_cg ((f.1, f.2.1 + 1, f.2.2.1, f.2.2.2) :: r) _ (Nat.le_refl _) (M := A) ⟨f1, by rw [eA _ _ (by omega)]; exact h25, fr⟩ (fun q h1 h2 => ?_) (fun a k2 ha _ => g24 _ _ (by unfold pzR_; omega) (by unfold eR_; omega))
                have h3 : q ≤ r.length + 1 := h2
                exact ⟨g24 _ _ (by unfold pzR_; omega) (by unfold eR_; omega), g24 _ _ (by unfold pzR_; omega) (by unfold eR_; omega)⟩
              · rw [g24 0 47 (by unfold pzR_; omega) (by unfold eR_; omega), e47]; show _ = nI (f.2.2.1 + (FF f.1 f.2.1).1 - j + (FF m 0).1); rw [(hE.2.2.2.2 m hm).1.2.2.1]; rfl
              · rw [g24 0 51 (by unfold pzR_; omega) (by unfold eR_; omega), A51]; show _ = nI (f.2.2.2 + (FF f.1 f.2.1).2.length + (FF m 0).2.length); rw [(hE.2.2.2.2 m hm).1.2.2.1]; rfl
              · have hm40 := (hE.2.2.2.2 m hm).1.2.1
                show (1000 - (k + 1)) * 42 + (muR_ nn r + (nn f.1 - (f.2.1 + 1) + 1) + (nn m - 0 + 1)) < U
                omega
            | succ u ih =>
              intro q N hu hN
              have N39 : N.1 0 39 = nI (r.length + 1) := by rw [hN.2 0 39 (by decide)]; exact A39
              have N47 : N.1 0 47 = nI (f.2.2.1 + (FF f.1 f.2.1).1 - j) := by rw [hN.2 0 47 (by decide)]; exact e47
              refine w_iload X dX12_invoke_81 rfl ?_
              refine w_iload_n X dX12_invoke_83 rfl rfl ?_
              refine w_icmp_ge (tgt := 121) X dX12_invoke_84 (by decide) (fun h84 => absurd h84 (nI_ge (a := q) (b := j) (by omega) (by omega))) (fun h84 => ?_)
              refine w_aload_n X dX12_invoke_87 rfl rfl ?_
              refine g12_runParameters X dX12_invoke_88 ?_
              refine w_iconst (v := 3) X dX12_invoke_91 (by decide) ?_
              refine w_aload_n X dX12_invoke_92 rfl rfl ?_
              refine g12_depth X dX12_invoke_93 ?_
              rw [N39]
              refine w_imul X dX12_invoke_96 ?_
              refine w_iconst (v := 3) X dX12_invoke_97 (by decide) ?_
              refine w_iadd X dX12_invoke_98 ?_
              refine w_iload X dX12_invoke_99 rfl ?_
              refine w_iadd X dX12_invoke_101 ?_
              rw [show (3 : Int32) * nI (r.length + 1) + 3 + nI q = nI (3 * (r.length + 1) + 3 + q) by rw [show (3 : Int32) * nI (r.length + 1) + 3 = nI (3 * (r.length + 1) + 3) from nI_m 3 (r.length + 1) 3, nI_add]]
              refine w_aload_n X dX12_invoke_102 rfl rfl ?_
              refine g12_stack X dX12_invoke_103 ?_
              refine w_aload_n X dX12_invoke_106 rfl rfl ?_
              refine g12_height X dX12_invoke_107 ?_
              refine w_iload X dX12_invoke_110 rfl ?_
              rw [N47]
              refine w_iadd X dX12_invoke_112 ?_
              rw [nI_add]
              refine w_ialoadN X dX12_invoke_113 rfl rfl (⟨by omega, by decide⟩) ?_
              refine w_iastoreN X dX12_invoke_114 rfl rfl (⟨by omega, by decide⟩) ?_
              refine w_iinc (v := 1) X dX12_invoke_115 rfl (by decide) (by decide) ?_
              refine w_goto (tgt := 81) X dX12_invoke_118 (by decide) ?_
              rw [nI_1]
              exact ih (q + 1) _ (by omega) (c24_I hN)
          exact lp j 0 A (by omega) ⟨rfl, fun _ _ _ => rfl⟩
        · refine w_aload_n X dX12_invoke_69 rfl rfl ?_
          refine w_bipush (v := -3) X dX12_invoke_70 (by decide) ?_
          refine w_v1rV X dX12_invoke_72 k12_throwAll rfl rfl (c12_throwAll G hG _ _ c nn FF hEA (r.length + 1) A39 hl10 (fun q h1 h2 => by by_cases z : q = r.length + 1; (rw [z]; exact ⟨f.1, a1, by rw [eA _ _ (by omega)]; exact a2⟩); exact FS_23 r fr q h1 (by omega)) _) (Nat.le_of_ble_eq_true rfl) (fun N72 h72 => ?_)
          refine w_goto (tgt := 127) X dX12_invoke_75 (by decide) ?_
          refine w_vrR X dX12_invoke_127 ⟨frR_tr fA (frR_mo h72.1 (fun a i => tR_m)), [], k, ⟨by rw [h72.2]; rfl, by simp, trivial, trivial, by rw [h72.1.2.1 0 40 (by unfold pzR_; omega) (by unfold tR_; omega)]; exact A40, hk2⟩, ?_⟩
          show (1000 - k) * 42 + 0 < U
          omega
      · refine w_aload_n X dX12_invoke_50 rfl rfl ?_
        refine w_bipush (v := -2) X dX12_invoke_51 (by decide) ?_
        refine w_v1rV X dX12_invoke_53 k12_throwUp rfl rfl (c12_throwUp G hG _ _ c nn FF hEA ((f.1, f.2.1 + 1, f.2.2.1, f.2.2.2) :: r) hl10 ⟨f1, fr⟩ A39 fto k (muR_ nn ((f.1, f.2.1 + 1, f.2.2.1, f.2.2.2) :: r)) A40 hk2 (by rw [hmu1]; omega) (Nat.le_refl _) _) (Nat.le_of_ble_eq_true rfl) (fun N53 h53 => ?_)
        refine w_goto (tgt := 127) X dX12_invoke_56 (by decide) ?_
        refine w_vrR X dX12_invoke_127 ⟨frR_tr fA (frR_mo h53.1 (fun a i => uR_m)), g2_go h53.2 (by rw [hmu1]; omega)⟩
    · refine w_aload_n X dX12_invoke_32 rfl rfl ?_
      refine w_bipush (v := -4) X dX12_invoke_33 (by decide) ?_
      refine w_v1rV X dX12_invoke_35 k12_throwUp rfl rfl (c12_throwUp G hG _ _ c nn FF hEA ((f.1, f.2.1 + 1, f.2.2.1, f.2.2.2) :: r) hl10 ⟨f1, fr⟩ A39 fto k (muR_ nn ((f.1, f.2.1 + 1, f.2.2.1, f.2.2.2) :: r)) A40 hk2 (by rw [hmu1]; omega) (Nat.le_refl _) _) (Nat.le_of_ble_eq_true rfl) (fun N35 h35 => ?_)
      refine w_goto (tgt := 127) X dX12_invoke_38 (by decide) ?_
      refine w_vrR X dX12_invoke_127 ⟨frR_tr fA (frR_mo h35.1 (fun a i => uR_m)), g2_go h35.2 (by rw [hmu1]; omega)⟩
  refine w_lload_n X dX12_invoke_0 rfl rfl ?_
  refine w_ldc2 X dX12_invoke_1 q12_405 ?_
  refine w_land X dX12_invoke_4 ?_
  refine w_l2i X dX12_invoke_5 ?_
  rw [hj]
  refine w_istore_n X dX12_invoke_6 rfl (by decide) ?_
  refine w_aload_n X dX12_invoke_7 rfl rfl ?_
  refine w_aload_n X dX12_invoke_8 rfl rfl ?_
  refine g12_height X dX12_invoke_9 ?_
  rw [h47]
  refine w_iload_n X dX12_invoke_12 rfl rfl ?_
  refine w_isub X dX12_invoke_13 ?_
  rw [pk_sub (by omega)]
  refine p12_height X dX12_invoke_14 ?_
  rw [hA]
  refine w_aload_n X dX12_invoke_17 rfl rfl ?_
  refine w_lload_n X dX12_invoke_18 rfl rfl ?_
  refine w_iconst (v := 2) X dX12_invoke_19 (by decide) ?_
  refine w_lshr X dX12_invoke_20 ?_
  refine w_iload_n X dX12_invoke_21 rfl rfl ?_
  refine w_v2fI X dX12_invoke_22 k12_findMethod rfl rfl (c12_findMethod G hG _ _ c hEA.1 hE.2.1 _ _) (Nat.le_of_ble_eq_true rfl) ?_
  refine w_istore X dX12_invoke_25 (by decide) ?_
  exact t27 _ _ (fm_in c 0 |>.imp id (fun ⟨m, z1, z2⟩ => ⟨m, by omega, z2⟩))
