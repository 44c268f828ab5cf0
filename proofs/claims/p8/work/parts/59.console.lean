/-! ProbeConsole's own methods that throw nothing -/
/-- what method() comes to: r the answer, N the memory -/
def MR_ (n c S : Nat) (J : Nat → Nat) (M : mm_) (r : Int32) (N : mm_) : Prop := ∃ (key : Int64) (A : mm_), RM_ (48 + 5 * c) n M key A ∧ ((¬ (c < 16 ∧ fd1_ A c key c 0 = -1) ∧ r = -1 ∧ N = fiX_ A 5 (A.1 35 1)) ∨ (c < 16 ∧ fd1_ A c key c 0 = -1 ∧ ¬ A.1 37 2 = 0 ∧ r = -1 ∧ N = A) ∨ (c < 16 ∧ fd1_ A c key c 0 = -1 ∧ A.1 37 2 = 0 ∧ r = nI c ∧ N = jm1_ J (nI c) key 8 0 (ma_ A c key)))
theorem mt_cr {k c : Nat} {M N : mm_} (hk : 48 ≤ k) (h : cr_ k M N) (hc : mt_ M c) : mt_ N c := ⟨hc.1, by rw [h.2.1 45 2 (by decide) (by decide) (by omega)]; exact hc.2⟩
theorem jq_R {M N : mm_} {J : Nat → Nat} {S : Nat} (h : ∀ a i, a ≠ 39 → N.2.2 a i = M.2.2 a i) (hq : jq_ M J S) : jq_ N J S := ⟨fun i hi => ⟨(hq.1 i hi).1, by rw [h 134 i (by decide)]; exact (hq.1 i hi).2⟩, hq.2.1, by rw [h 133 1 (by decide)]; exact hq.2.2⟩
theorem fi_ne {M : mm_} {w : Int32} : ¬ (fiX_ M 5 w).1 37 2 = 0 := by
  unfold fiX_
  by_cases h : M.1 37 2 = 0
  · rw [if_pos h]; exact (by decide : ¬ (5 : Int32) = 0)
  · rw [if_neg h]; exact h
/-- what a begun or ended job comes to: x the number, B the memory behind it -/
def CE_ (x : Int32) (B : mm_) (r : Int32) (N : mm_) : Prop := (¬ x = -1 ∧ r = x ∧ N = B) ∨ (x = -1 ∧ r = x ∧ N = fiX_ B 5 (B.1 35 1))
def CR_ (n c S : Nat) (J : Nat → Nat) (M : mm_) (r : Int32) (N : mm_) : Prop := ∃ (v : Int32) (A : mm_), RC_ (135 + 12 * S) M v A ∧ ((¬ A.1 37 2 = 0 ∧ r = -1 ∧ N = A) ∨ (A.1 37 2 = 0 ∧ ((v = 5 ∧ r = (ea1_ J 8 0 0 A).1 ∧ N = (ea1_ J 8 0 0 A).2) ∨ (v = 4 ∧ ∃ (x : Int32) (B : mm_), ((A.1 38 0 < 0 ∨ 8 ≤ A.1 38 0) ∧ x = -1 ∧ B = A ∨ ∃ i, i < 8 ∧ A.1 38 0 = nI i ∧ x = (if A.1 (135 + 12 * J i) 0 = 0 then -1 else nI i) ∧ B = (if A.1 (135 + 12 * J i) 0 = 0 then A else sI_ A (135 + 12 * J i) 0 0)) ∧ CE_ x B r N) ∨ ((¬ v = 5 ∧ ¬ v = 4) ∧ ∃ (x : Int32) (B : mm_), (x = (match fj1_ A J 8 0 with | none => (-1 : Int32) | some i => nI i) ∧ B = (match fj1_ A J 8 0 with | none => A | some i => bgn_ A J S c i)) ∧ CE_ x B r N))))
set_option maxRecDepth 100000 in
set_option maxHeartbeats 600000 in
theorem c11_wipe (G : gg_) (hG : gd_ G) (d : Nat) (M : mm_) : cm_ G yX11_wipe cX11_wipe 2 (some .int) (d) [.ref (G.1 34)] M (fI_ (M.1 35 1) (sI_ M 35 1 0)) := by
  refine cm_of hG (by decide) (Nat.le_of_ble_eq_true rfl) (fun C X => ?_)
  refine w_aload_n X dX11_wipe_0 rfl rfl ?_
  refine g11_10 X dX11_wipe_1 s_34 rfl ?_
  refine g11_72 X dX11_wipe_4 s_35 rfl ?_
  refine w_istore_n X dX11_wipe_7 rfl (by decide) ?_
  refine w_aload_n X dX11_wipe_8 rfl rfl ?_
  refine g11_10 X dX11_wipe_9 s_34 rfl ?_
  refine w_iconst (v := 0) X dX11_wipe_12 (by decide) ?_
  refine p11_72 X dX11_wipe_13 s_35 rfl ?_
  refine w_iload_n X dX11_wipe_16 rfl rfl ?_
  exact w_irF X dX11_wipe_17 rfl rfl
set_option maxRecDepth 100000 in
set_option maxHeartbeats 600000 in
theorem c11_fault (G : gg_) (hG : gd_ G) (d : Nat) (M : mm_) : cm_ G yX11_fault cX11_fault 1 (some .int) (d) [.ref (G.1 34)] M (fI_ (M.1 37 2) (M)) := by
  refine cm_of hG (by decide) (Nat.le_of_ble_eq_true rfl) (fun C X => ?_)
  refine w_aload_n X dX11_fault_0 rfl rfl ?_
  refine g11_21 X dX11_fault_1 s_34 rfl ?_
  refine g11_99 X dX11_fault_4 s_37 rfl ?_
  exact w_irF X dX11_fault_7 rfl rfl
set_option maxRecDepth 100000 in
set_option maxHeartbeats 600000 in
theorem c11_place (G : gg_) (hG : gd_ G) (d : Nat) (M : mm_) : cm_ G yX11_place cX11_place 1 (some .int) (d) [.ref (G.1 34)] M (fI_ (M.1 37 3) (M)) := by
  refine cm_of hG (by decide) (Nat.le_of_ble_eq_true rfl) (fun C X => ?_)
  refine w_aload_n X dX11_place_0 rfl rfl ?_
  refine g11_21 X dX11_place_1 s_34 rfl ?_
  refine g11_132 X dX11_place_4 s_37 rfl ?_
  exact w_irF X dX11_place_7 rfl rfl
set_option maxRecDepth 100000 in
set_option maxHeartbeats 600000 in
theorem c11_value (G : gg_) (hG : gd_ G) (d : Nat) (M : mm_) : cm_ G yX11_value cX11_value 1 (some .int) (d) [.ref (G.1 34)] M (fI_ (M.1 247 0) (M)) := by
  refine cm_of hG (by decide) (Nat.le_of_ble_eq_true rfl) (fun C X => ?_)
  refine w_aload_n X dX11_value_0 rfl rfl ?_
  refine g11_65 X dX11_value_1 s_34 rfl ?_
  refine g11_153 X dX11_value_4 s_247 rfl ?_
  exact w_irF X dX11_value_7 rfl rfl
set_option maxRecDepth 100000 in
set_option maxHeartbeats 600000 in
theorem c11_invoked (G : gg_) (hG : gd_ G) (d : Nat) (M : mm_) : cm_ G yX11_invoked cX11_invoked 1 (some .int) (d) [.ref (G.1 34)] M (fI_ (M.1 247 1) (M)) := by
  refine cm_of hG (by decide) (Nat.le_of_ble_eq_true rfl) (fun C X => ?_)
  refine w_aload_n X dX11_invoked_0 rfl rfl ?_
  refine g11_65 X dX11_invoked_1 s_34 rfl ?_
  refine g11_156 X dX11_invoked_4 s_247 rfl ?_
  exact w_irF X dX11_invoked_7 rfl rfl
set_option maxRecDepth 100000 in
set_option maxHeartbeats 600000 in
theorem c11_records (G : gg_) (hG : gd_ G) (d : Nat) (M : mm_) : cm_ G yX11_records cX11_records 1 (some .int) (d) [.ref (G.1 34)] M (fI_ (M.1 243 3) (M)) := by
  refine cm_of hG (by decide) (Nat.le_of_ble_eq_true rfl) (fun C X => ?_)
  refine w_aload_n X dX11_records_0 rfl rfl ?_
  refine g11_53 X dX11_records_1 s_34 rfl ?_
  refine g11_159 X dX11_records_4 s_243 rfl ?_
  exact w_irF X dX11_records_7 rfl rfl
set_option maxRecDepth 100000 in
set_option maxHeartbeats 600000 in
theorem c11_keeps (G : gg_) (hG : gd_ G) (d : Nat) (M : mm_) : cm_ G yX11_keeps cX11_keeps 1 (some .int) (d) [.ref (G.1 34)] M (fI_ (M.1 245 3) (M)) := by
  refine cm_of hG (by decide) (Nat.le_of_ble_eq_true rfl) (fun C X => ?_)
  refine w_aload_n X dX11_keeps_0 rfl rfl ?_
  refine g11_57 X dX11_keeps_1 s_34 rfl ?_
  refine g11_159 X dX11_keeps_4 s_245 rfl ?_
  exact w_irF X dX11_keeps_7 rfl rfl
set_option maxRecDepth 100000 in
set_option maxHeartbeats 600000 in
theorem c11_clear (G : gg_) (hG : gd_ G) (d : Nat) (M : mm_) : cm_ G yX11_clear cX11_clear 2 (some .int) (d) [.ref (G.1 34)] M (fI_ (M.1 243 3) (sI_ (sI_ M 243 3 0) 245 3 0)) := by
  refine cm_of hG (by decide) (Nat.le_of_ble_eq_true rfl) (fun C X => ?_)
  refine w_aload_n X dX11_clear_0 rfl rfl ?_
  refine g11_53 X dX11_clear_1 s_34 rfl ?_
  refine g11_159 X dX11_clear_4 s_243 rfl ?_
  refine w_istore_n X dX11_clear_7 rfl (by decide) ?_
  refine w_aload_n X dX11_clear_8 rfl rfl ?_
  refine g11_53 X dX11_clear_9 s_34 rfl ?_
  refine w_iconst (v := 0) X dX11_clear_12 (by decide) ?_
  refine p11_159 X dX11_clear_13 s_243 rfl ?_
  refine w_aload_n X dX11_clear_16 rfl rfl ?_
  refine g11_57 X dX11_clear_17 s_34 rfl ?_
  refine w_iconst (v := 0) X dX11_clear_20 (by decide) ?_
  refine p11_159 X dX11_clear_21 s_245 rfl ?_
  refine w_iload_n X dX11_clear_24 rfl rfl ?_
  exact w_irF X dX11_clear_25 rfl rfl
set_option maxRecDepth 100000 in
set_option maxHeartbeats 600000 in
theorem c11_method (G : gg_) (hG : gd_ G) (d : Nat) (M : mm_) (n : Nat) (ht : tpX_ M n) (c : Nat) (hc : mt_ M c) (hb : mb2_ M) (J : Nat → Nat) (S : Nat) (hq : jq_ M J S) : cm_ G yX11_method cX11_method 4 (some .int) (d + 907) [.ref (G.1 34)] M (rI_ (MR_ n c S J M)) := by
  refine cm_of hG (by decide) (Nat.le_of_ble_eq_true rfl) (fun C X => ?_)
  have hcb := cd_body c (by have := hc.1; omega)
  refine w_aload_n X dX11_method_0 rfl rfl ?_
  refine g11_30 X dX11_method_1 s_34 rfl ?_
  refine w_aload_n X dX11_method_4 rfl rfl ?_
  refine g11_37 X dX11_method_5 s_34 rfl ?_
  refine w_v0fR X dX11_method_8 k11_80 rfl s_45 (c5_spareBody G hG (d + 906) _ c hc hb) (Nat.le_of_ble_eq_true rfl) ?_
  refine w_v1rL X dX11_method_11 k11_84 rfl s_38 (c10_readMethod G hG d _ n ht (48 + 5 * c) hcb) (Nat.le_of_ble_eq_true rfl) (fun r11 N11 h11 => ?_)
  have hcr := h11.1
  have hcN := mt_cr (by omega) hcr hc
  refine w_lstore_n X dX11_method_14 rfl (by decide) ?_
  refine w_aload_n X dX11_method_15 rfl rfl ?_
  refine g11_37 X dX11_method_16 s_34 rfl ?_
  refine w_v0fI X dX11_method_19 k11_88 rfl s_45 (c5_isFull G hG (d + 906) _ c hcN) (Nat.le_of_ble_eq_true rfl) ?_
  refine w_if_ne (tgt := 37) X dX11_method_22 (by decide) (fun h22 => ?_) (fun h22 => ?_)
  · refine w_aload_n X dX11_method_37 rfl rfl ?_
    refine g11_21 X dX11_method_38 s_34 rfl ?_
    refine w_v0fV X dX11_method_41 k11_96 rfl s_37 (c7_failAtEnd G hG (d + 905) _) (Nat.le_of_ble_eq_true rfl) ?_
    refine w_aload_n X dX11_method_44 rfl rfl ?_
    refine g11_21 X dX11_method_45 s_34 rfl ?_
    refine g11_99 X dX11_method_48 s_37 rfl ?_
    refine w_if_eq (tgt := 56) X dX11_method_51 (by decide) (fun h51 => absurd h51 fi_ne) (fun h51 => ?_)
    refine w_iconst (v := -1) X dX11_method_54 (by decide) ?_
    exact w_irR X dX11_method_55 ⟨r11, N11, h11, Or.inl ⟨fun z => h22 (by rw [if_pos z.1]), rfl, rfl⟩⟩
  · have hc16 : c < 16 := Nat.lt_of_not_le (fun z => absurd h22 (by rw [if_neg (Nat.not_lt.mpr z)]; decide))
    refine w_aload_n X dX11_method_25 rfl rfl ?_
    refine g11_37 X dX11_method_26 s_34 rfl ?_
    refine w_lload_n X dX11_method_29 rfl rfl ?_
    refine w_v1fI X dX11_method_30 k11_92 rfl s_45 (c5_find G hG (d + 906) _ c hcN _) (Nat.le_of_ble_eq_true rfl) ?_
    refine w_iconst (v := -1) X dX11_method_33 (by decide) ?_
    refine w_icmp_eq (tgt := 44) X dX11_method_34 (by decide) (fun h34 => ?_) (fun h34 => ?_)
    · refine w_aload_n X dX11_method_44 rfl rfl ?_
      refine g11_21 X dX11_method_45 s_34 rfl ?_
      refine g11_99 X dX11_method_48 s_37 rfl ?_
      refine w_if_eq (tgt := 56) X dX11_method_51 (by decide) (fun h51 => ?_) (fun h51 => ?_)
      · refine w_aload_n X dX11_method_56 rfl rfl ?_
        refine g11_37 X dX11_method_57 s_34 rfl ?_
        refine w_lload_n X dX11_method_60 rfl rfl ?_
        refine w_v1fI X dX11_method_61 k11_102 rfl s_45 (c5_add G hG (d + 905) _ c hcN hc16 _) (Nat.le_of_ble_eq_true rfl) ?_
        refine w_istore_n X dX11_method_64 rfl (by decide) ?_
        refine w_aload_n X dX11_method_65 rfl rfl ?_
        refine g11_44 X dX11_method_66 s_34 rfl ?_
        refine w_iload_n X dX11_method_69 rfl rfl ?_
        refine w_lload_n X dX11_method_70 rfl rfl ?_
        refine w_v2fV X dX11_method_71 k11_105 rfl s_133 (c3_meet G hG (d + 902) (ma_ N11 c r11) J S (jq_R (M := M) (fun a i ha => hcr.1 a i ha) hq) _ _) (Nat.le_of_ble_eq_true rfl) ?_
        refine w_iload_n X dX11_method_74 rfl rfl ?_
        exact w_irR X dX11_method_75 ⟨r11, N11, h11, Or.inr (Or.inr ⟨hc16, h34, h51, rfl, rfl⟩)⟩
      · refine w_iconst (v := -1) X dX11_method_54 (by decide) ?_
        exact w_irR X dX11_method_55 ⟨r11, N11, h11, Or.inr (Or.inl ⟨hc16, h34, h51, rfl, rfl⟩)⟩
    · refine w_aload_n X dX11_method_37 rfl rfl ?_
      refine g11_21 X dX11_method_38 s_34 rfl ?_
      refine w_v0fV X dX11_method_41 k11_96 rfl s_37 (c7_failAtEnd G hG (d + 905) _) (Nat.le_of_ble_eq_true rfl) ?_
      refine w_aload_n X dX11_method_44 rfl rfl ?_
      refine g11_21 X dX11_method_45 s_34 rfl ?_
      refine g11_99 X dX11_method_48 s_37 rfl ?_
      refine w_if_eq (tgt := 56) X dX11_method_51 (by decide) (fun h51 => absurd h51 fi_ne) (fun h51 => ?_)
      refine w_iconst (v := -1) X dX11_method_54 (by decide) ?_
      exact w_irR X dX11_method_55 ⟨r11, N11, h11, Or.inl ⟨fun z => h34 z.2, rfl, rfl⟩⟩
set_option maxRecDepth 100000 in
set_option maxHeartbeats 600000 in
theorem c11_command (G : gg_) (hG : gd_ G) (d : Nat) (M : mm_) (n : Nat) (ht : tpX_ M n) (c : Nat) (hc : mt_ M c) (J : Nat → Nat) (S : Nat) (hq : jq_ M J S) : cm_ G yX11_command cX11_command 3 (some .int) (d + 908) [.ref (G.1 34)] M (rI_ (CR_ n c S J M)) := by
  refine cm_of hG (by decide) (Nat.le_of_ble_eq_true rfl) (fun C X => ?_)
  have hjS := jd_all S hq.2.1
  have hkS := jd_kb hjS
  refine w_aload_n X dX11_command_0 rfl rfl ?_
  refine g11_30 X dX11_command_1 s_34 rfl ?_
  refine w_aload_n X dX11_command_4 rfl rfl ?_
  refine g11_44 X dX11_command_5 s_34 rfl ?_
  refine r11_109 X dX11_command_8 s_133 rfl (hq.2.2) ?_
  refine w_v1rI X dX11_command_11 k11_113 rfl s_38 (c10_readCommand G hG d _ n ht (135 + 12 * S) hjS) (Nat.le_of_ble_eq_true rfl) (fun r11 N11 h11 => ?_)
  have hcz := h11.1
  have hqN := jq_R hcz.1 hq
  have hcN : mt_ N11 c := ⟨hc.1, by rw [hcz.2.1 45 2 (by decide) (by decide) (by decide) (by omega)]; exact hc.2⟩
  refine w_istore_n X dX11_command_14 rfl (by decide) ?_
  refine w_aload_n X dX11_command_15 rfl rfl ?_
  refine g11_21 X dX11_command_16 s_34 rfl ?_
  refine g11_99 X dX11_command_19 s_37 rfl ?_
  refine w_if_eq (tgt := 27) X dX11_command_22 (by decide) (fun h22 => ?_) (fun h22 => ?_)
  · refine w_iload_n X dX11_command_27 rfl rfl ?_
    refine w_iconst (v := 5) X dX11_command_28 (by decide) ?_
    refine w_icmp_ne (tgt := 40) X dX11_command_29 (by decide) (fun h29 => ?_) (fun h29 => ?_)
    · refine w_iload_n X dX11_command_40 rfl rfl ?_
      refine w_iconst (v := 4) X dX11_command_41 (by decide) ?_
      refine w_icmp_ne (tgt := 62) X dX11_command_42 (by decide) (fun h42 => ?_) (fun h42 => ?_)
      · refine w_aload_n X dX11_command_62 rfl rfl ?_
        refine g11_44 X dX11_command_63 s_34 rfl ?_
        refine w_aload_n X dX11_command_66 rfl rfl ?_
        refine g11_37 X dX11_command_67 s_34 rfl ?_
        refine w_v1fI X dX11_command_70 k11_128 rfl s_133 (c3_begun G hG (d + 903) _ J S hqN c hcN) (Nat.le_of_ble_eq_true rfl) ?_
        refine w_istore_n X dX11_command_73 rfl (by decide) ?_
        refine w_iload_n X dX11_command_74 rfl rfl ?_
        refine w_iconst (v := -1) X dX11_command_75 (by decide) ?_
        refine w_icmp_ne (tgt := 86) X dX11_command_76 (by decide) (fun h76 => ?_) (fun h76 => ?_)
        · refine w_iload_n X dX11_command_86 rfl rfl ?_
          exact w_irR X dX11_command_87 ⟨r11, N11, h11, Or.inr ⟨h22, Or.inr (Or.inr ⟨⟨h29, h42⟩, _, _, ⟨rfl, rfl⟩, Or.inl ⟨h76, rfl, rfl⟩⟩)⟩⟩
        · refine w_aload_n X dX11_command_79 rfl rfl ?_
          refine g11_21 X dX11_command_80 s_34 rfl ?_
          refine w_v0fV X dX11_command_83 k11_96 rfl s_37 (c7_failAtEnd G hG (d + 906) _) (Nat.le_of_ble_eq_true rfl) ?_
          refine w_iload_n X dX11_command_86 rfl rfl ?_
          exact w_irR X dX11_command_87 ⟨r11, N11, h11, Or.inr ⟨h22, Or.inr (Or.inr ⟨⟨h29, h42⟩, _, _, ⟨rfl, rfl⟩, Or.inr ⟨h76, rfl, rfl⟩⟩)⟩⟩
      · have h42b := h42
        by_cases hx : N11.1 38 0 < 0 ∨ 8 ≤ N11.1 38 0
        · refine w_aload_n X dX11_command_45 rfl rfl ?_
          refine g11_44 X dX11_command_46 s_34 rfl ?_
          refine w_aload_n X dX11_command_49 rfl rfl ?_
          refine g11_30 X dX11_command_50 s_34 rfl ?_
          refine g11_121 X dX11_command_53 s_38 rfl ?_
          refine w_v1fI X dX11_command_56 k11_124 rfl s_133 (c3_endedO G hG (d + 906) _ J S hqN _ hx) (Nat.le_of_ble_eq_true rfl) ?_
          refine w_goto (tgt := 73) X dX11_command_59 (by decide) ?_
          refine w_istore_n X dX11_command_73 rfl (by decide) ?_
          refine w_iload_n X dX11_command_74 rfl rfl ?_
          refine w_iconst (v := -1) X dX11_command_75 (by decide) ?_
          refine w_icmp_ne (tgt := 86) X dX11_command_76 (by decide) (fun h76 => ?_) (fun h76 => ?_)
          · refine w_iload_n X dX11_command_86 rfl rfl ?_
            exact w_irR X dX11_command_87 ⟨r11, N11, h11, Or.inr ⟨h22, Or.inr (Or.inl ⟨h42, _, _, Or.inl ⟨hx, rfl, rfl⟩, Or.inl ⟨h76, rfl, rfl⟩⟩)⟩⟩
          · refine w_aload_n X dX11_command_79 rfl rfl ?_
            refine g11_21 X dX11_command_80 s_34 rfl ?_
            refine w_v0fV X dX11_command_83 k11_96 rfl s_37 (c7_failAtEnd G hG (d + 906) _) (Nat.le_of_ble_eq_true rfl) ?_
            refine w_iload_n X dX11_command_86 rfl rfl ?_
            exact w_irR X dX11_command_87 ⟨r11, N11, h11, Or.inr ⟨h22, Or.inr (Or.inl ⟨h42, _, _, Or.inl ⟨hx, rfl, rfl⟩, Or.inr ⟨h76, rfl, rfl⟩⟩)⟩⟩
        · obtain ⟨i9, hi9, e9⟩ : ∃ i, i < 8 ∧ N11.1 38 0 = nI i := by
            rcases pk_ix (N11.1 38 0) (n := 8) (by decide) with z | z | ⟨j, hj, e⟩
            · exact absurd (Or.inl z) hx
            · exact absurd (Or.inr z) hx
            · exact ⟨j, hj, e⟩
          refine w_aload_n X dX11_command_45 rfl rfl ?_
          refine g11_44 X dX11_command_46 s_34 rfl ?_
          refine w_aload_n X dX11_command_49 rfl rfl ?_
          refine g11_30 X dX11_command_50 s_34 rfl ?_
          refine g11_121 X dX11_command_53 s_38 rfl ?_
          rw [e9]
          refine w_v1fI X dX11_command_56 k11_124 rfl s_133 (c3_ended G hG (d + 906) _ J S hqN i9 hi9) (Nat.le_of_ble_eq_true rfl) ?_
          refine w_goto (tgt := 73) X dX11_command_59 (by decide) ?_
          refine w_istore_n X dX11_command_73 rfl (by decide) ?_
          refine w_iload_n X dX11_command_74 rfl rfl ?_
          refine w_iconst (v := -1) X dX11_command_75 (by decide) ?_
          refine w_icmp_ne (tgt := 86) X dX11_command_76 (by decide) (fun h76 => ?_) (fun h76 => ?_)
          · refine w_iload_n X dX11_command_86 rfl rfl ?_
            exact w_irR X dX11_command_87 ⟨r11, N11, h11, Or.inr ⟨h22, Or.inr (Or.inl ⟨h42, _, _, Or.inr ⟨i9, hi9, e9, rfl, rfl⟩, Or.inl ⟨h76, rfl, rfl⟩⟩)⟩⟩
          · refine w_aload_n X dX11_command_79 rfl rfl ?_
            refine g11_21 X dX11_command_80 s_34 rfl ?_
            refine w_v0fV X dX11_command_83 k11_96 rfl s_37 (c7_failAtEnd G hG (d + 906) _) (Nat.le_of_ble_eq_true rfl) ?_
            refine w_iload_n X dX11_command_86 rfl rfl ?_
            exact w_irR X dX11_command_87 ⟨r11, N11, h11, Or.inr ⟨h22, Or.inr (Or.inl ⟨h42, _, _, Or.inr ⟨i9, hi9, e9, rfl, rfl⟩, Or.inr ⟨h76, rfl, rfl⟩⟩)⟩⟩
    · refine w_aload_n X dX11_command_32 rfl rfl ?_
      refine g11_44 X dX11_command_33 s_34 rfl ?_
      refine w_v0fI X dX11_command_36 k11_117 rfl s_133 (c3_endAll G hG (d + 907) _ J S hqN) (Nat.le_of_ble_eq_true rfl) ?_
      exact w_irR X dX11_command_39 ⟨r11, N11, h11, Or.inr ⟨h22, Or.inl ⟨h29, rfl, rfl⟩⟩⟩
  · refine w_iconst (v := -1) X dX11_command_25 (by decide) ?_
    exact w_irR X dX11_command_26 ⟨r11, N11, h11, Or.inl ⟨h22, rfl, rfl⟩⟩
