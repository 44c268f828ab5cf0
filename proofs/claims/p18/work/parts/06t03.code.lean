/-! Code, Rows, Methods -/
section FR
variable {C : mc_} {G : gg_} {Q : State → Prop} {pc : Nat} {lv : List (Option Value)} {st : List Value} {M : mm_} {own : String} {cc : ByteArray} {nL : Nat} {ry : Option FieldType} {d : Nat}
theorem w_v0fR {x : Nat} {N : mm_} {y : MethodName} {cy : ByteArray} {ny idx a ci n : Nat} {fs : List Nat} {T : u_T} {ry2 : Option FieldType} (X : cx_ C G own cc nL ry (d + 1)) (hd : decode cc pc = .ok (.invokevirtual idx, 3)) (hk : lk_ own idx y cy ny ry2 0) (hc : vwCl[ci]? = some (y.cls, T, n)) (ha : ds_[a]? = some (.inr (ci, fs))) (hM : cm_ G y cy ny ry2 d (.ref (G.1 a) :: []) M (fR_ G x N)) (hr : (st.map fun v => v.category).sum ≤ 8) (k : wq_ C G Q (pc + 3) lv (.ref (G.1 x) :: st) N) : wq_ C G Q pc lv (.ref (G.1 a) :: st) M := w_v0 X hd hk hc ha hM hr (fun v N2 h => by obtain ⟨rfl, rfl⟩ := h; exact k)
theorem w_v1fR {a1 : Value} {x : Nat} {N : mm_} {y : MethodName} {cy : ByteArray} {ny idx a ci n : Nat} {fs : List Nat} {T : u_T} {ry2 : Option FieldType} (X : cx_ C G own cc nL ry (d + 1)) (hd : decode cc pc = .ok (.invokevirtual idx, 3)) (hk : lk_ own idx y cy ny ry2 1) (hc : vwCl[ci]? = some (y.cls, T, n)) (ha : ds_[a]? = some (.inr (ci, fs))) (hM : cm_ G y cy ny ry2 d (.ref (G.1 a) :: [a1]) M (fR_ G x N)) (hr : (st.map fun v => v.category).sum ≤ 8) (k : wq_ C G Q (pc + 3) lv (.ref (G.1 x) :: st) N) : wq_ C G Q pc lv (a1 :: .ref (G.1 a) :: st) M := w_v1 X hd hk hc ha hM hr (fun v N2 h => by obtain ⟨rfl, rfl⟩ := h; exact k)
end FR
theorem k_1 (k : Nat) : (k = k + 1) = False := by simp
theorem k_2 (k : Nat) : (k = k + 2) = False := by simp
theorem k_3 (k : Nat) : (k = k + 3) = False := by simp
theorem k_4 (k : Nat) : (k = k + 4) = False := by simp
def rsX_ (p : Int32) (_ : Int64) : Int32 := if p = 0 ∨ p = 1 then 1 else if p = 2 ∨ p = 3 then 0 else if p = 7 then 1 else -1
/-- a step more -/
def ad_ (M : mm_) (k n : Nat) (p : Int32) (o : Int64) : mm_ := if n < 26 then sI_ (sI_ (sL_ (sI_ (sI_ M k 5 (M.1 k 5 + rsX_ p o)) (k + 1) n p) (k + 2) n o) (k + 4) n (M.1 k 5 + rsX_ p o)) k 4 (nI (n + 1)) else sI_ M k 5 (M.1 k 5 + rsX_ p o)
def ae_ (M : mm_) (k n : Nat) (x : Int32) : mm_ := if n < 26 then sI_ (ad_ M k n 6 0) (k + 3) n x else ad_ M k n 6 0
def lh2_ (M : mm_) (k n : Nat) : mm_ := if n < 26 then sL_ M (k + 2) n (M.1 k 4).toInt64 else M
def bt1_ (M : mm_) (k a : Nat) : Nat → Nat → Nat
  | 0, i => i
  | u + 1, i => if M.1 (k + 1) i = 6 ∧ M.1 (k + 3) i ≤ nI a then i + 1 else bt1_ M k a u (i + 1)
set_option maxRecDepth 100000 in
set_option maxHeartbeats 600000 in
theorem c0_empty (G : gg_) (hG : gd_ G) (d : Nat) (M : mm_) (k : Nat) (hk : cdX_ k) : cm_ G yX0_empty cX0_empty 1 none (d) [.ref (G.1 k)] M (fV_ (sI_ (sI_ M k 4 0) k 5 0)) := by
  refine cm_of hG (by decide) (Nat.le_of_ble_eq_true rfl) (fun C X => ?_)
  refine w_aload_n X dX0_empty_0 rfl rfl ?_
  refine w_iconst (v := 0) X dX0_empty_1 (by decide) ?_
  refine p0_23 X dX0_empty_2 hk.1 rfl ?_
  refine w_aload_n X dX0_empty_5 rfl rfl ?_
  refine w_iconst (v := 0) X dX0_empty_6 (by decide) ?_
  refine p0_27 X dX0_empty_7 hk.1 rfl ?_
  exact w_vrF X dX0_empty_10 rfl
set_option maxRecDepth 100000 in
set_option maxHeartbeats 600000 in
theorem c0_rise (G : gg_) (hG : gd_ G) (d : Nat) (M : mm_) (p : Int32) (o : Int64) : cm_ G yX0_rise cX0_rise 1 (some .int) (d + 1) [.int p] M (fI_ (rsX_ p o) M) := by
  refine cm_of hG (by decide) (Nat.le_of_ble_eq_true rfl) (fun C X => ?_)
  refine w_iload_n X dX0_rise_0 rfl rfl ?_
  by_cases h1_0 : p = 0
  · refine w_tableIn (tgt := 48) (off := 47) X dX0_rise_1 (by rw [h1_0]; decide) (by rw [h1_0]; decide) (by rw [h1_0]; decide) (by decide) ?_
    refine w_iconst (v := 1) X dX0_rise_48 (by decide) ?_
    refine w_irF X dX0_rise_49 ?_ rfl
    unfold rsX_
    simp [h1_0]
  by_cases h1_1 : p = 1
  · refine w_tableIn (tgt := 48) (off := 47) X dX0_rise_1 (by rw [h1_1]; decide) (by rw [h1_1]; decide) (by rw [h1_1]; decide) (by decide) ?_
    refine w_iconst (v := 1) X dX0_rise_48 (by decide) ?_
    refine w_irF X dX0_rise_49 ?_ rfl
    unfold rsX_
    simp [h1_1]
  by_cases h1_2 : p = 2
  · refine w_tableIn (tgt := 50) (off := 49) X dX0_rise_1 (by rw [h1_2]; decide) (by rw [h1_2]; decide) (by rw [h1_2]; decide) (by decide) ?_
    refine w_iconst (v := 0) X dX0_rise_50 (by decide) ?_
    refine w_irF X dX0_rise_51 ?_ rfl
    unfold rsX_
    simp [h1_2]
  by_cases h1_3 : p = 3
  · refine w_tableIn (tgt := 50) (off := 49) X dX0_rise_1 (by rw [h1_3]; decide) (by rw [h1_3]; decide) (by rw [h1_3]; decide) (by decide) ?_
    refine w_iconst (v := 0) X dX0_rise_50 (by decide) ?_
    refine w_irF X dX0_rise_51 ?_ rfl
    unfold rsX_
    simp [h1_3]
  by_cases h1_4 : p = 4
  · refine w_tableIn (tgt := 52) (off := 51) X dX0_rise_1 (by rw [h1_4]; decide) (by rw [h1_4]; decide) (by rw [h1_4]; decide) (by decide) ?_
    refine w_iconst (v := -1) X dX0_rise_52 (by decide) ?_
    refine w_irF X dX0_rise_53 ?_ rfl
    unfold rsX_
    simp [h1_4]
  by_cases h1_5 : p = 5
  · refine w_tableIn (tgt := 52) (off := 51) X dX0_rise_1 (by rw [h1_5]; decide) (by rw [h1_5]; decide) (by rw [h1_5]; decide) (by decide) ?_
    refine w_iconst (v := -1) X dX0_rise_52 (by decide) ?_
    refine w_irF X dX0_rise_53 ?_ rfl
    unfold rsX_
    simp [h1_5]
  by_cases h1_6 : p = 6
  · refine w_tableIn (tgt := 52) (off := 51) X dX0_rise_1 (by rw [h1_6]; decide) (by rw [h1_6]; decide) (by rw [h1_6]; decide) (by decide) ?_
    refine w_iconst (v := -1) X dX0_rise_52 (by decide) ?_
    refine w_irF X dX0_rise_53 ?_ rfl
    unfold rsX_
    simp [h1_6]
  by_cases h1_7 : p = 7
  · refine w_tableIn (tgt := 48) (off := 47) X dX0_rise_1 (by rw [h1_7]; decide) (by rw [h1_7]; decide) (by rw [h1_7]; decide) (by decide) ?_
    refine w_iconst (v := 1) X dX0_rise_48 (by decide) ?_
    refine w_irF X dX0_rise_49 ?_ rfl
    unfold rsX_
    simp [h1_7]
  have t1_0 : (0 : Int) ≠ (p).toInt := fun q => h1_0 (Int32.toInt_inj.mp (by rw [← q]; decide))
  have t1_1 : (1 : Int) ≠ (p).toInt := fun q => h1_1 (Int32.toInt_inj.mp (by rw [← q]; decide))
  have t1_2 : (2 : Int) ≠ (p).toInt := fun q => h1_2 (Int32.toInt_inj.mp (by rw [← q]; decide))
  have t1_3 : (3 : Int) ≠ (p).toInt := fun q => h1_3 (Int32.toInt_inj.mp (by rw [← q]; decide))
  have t1_4 : (4 : Int) ≠ (p).toInt := fun q => h1_4 (Int32.toInt_inj.mp (by rw [← q]; decide))
  have t1_5 : (5 : Int) ≠ (p).toInt := fun q => h1_5 (Int32.toInt_inj.mp (by rw [← q]; decide))
  have t1_6 : (6 : Int) ≠ (p).toInt := fun q => h1_6 (Int32.toInt_inj.mp (by rw [← q]; decide))
  have t1_7 : (7 : Int) ≠ (p).toInt := fun q => h1_7 (Int32.toInt_inj.mp (by rw [← q]; decide))
  refine w_tableOut (tgt := 52) X dX0_rise_1 (by omega) (by decide) ?_
  refine w_iconst (v := -1) X dX0_rise_52 (by decide) ?_
  refine w_irF X dX0_rise_53 ?_ rfl
  unfold rsX_
  simp [h1_0, h1_1, h1_2, h1_3, h1_4, h1_5, h1_6, h1_7]
set_option maxRecDepth 100000 in
set_option maxHeartbeats 600000 in
theorem c0_add (G : gg_) (hG : gd_ G) (d : Nat) (M : mm_) (k : Nat) (hk : cdX_ k) (n : Nat) (hl : M.1 k 4 = nI n) (hn : n ≤ 26) (p : Int32) (o : Int64) : cm_ G yX0_add cX0_add 5 (some .int) (d + 2) [.ref (G.1 k), .int p, .long o] M (fI_ (nI n) (ad_ M k n p o)) := by
  refine cm_of hG (by decide) (Nat.le_of_ble_eq_true rfl) (fun C X => ?_)
  refine w_aload_n X dX0_add_0 rfl rfl ?_
  refine g0_23 X dX0_add_1 hk.1 rfl ?_
  try simp only [gI_sI, gI_sL, gL_sI, gL_sL, gR_sI, gR_sL, gI_sR, gL_sR, gR_sR, false_and, and_false, and_self, if_false, if_true, reduceIte, Nat.reduceEqDiff, hl, k_1, k_2, k_3, k_4]
  refine w_istore X dX0_add_4 (by decide) ?_
  refine w_aload_n X dX0_add_6 rfl rfl ?_
  refine w_dup X dX0_add_7 rfl ?_
  refine g0_27 X dX0_add_8 hk.1 rfl ?_
  try simp only [gI_sI, gI_sL, gL_sI, gL_sL, gR_sI, gR_sL, gI_sR, gL_sR, gR_sR, false_and, and_false, and_self, if_false, if_true, reduceIte, Nat.reduceEqDiff, hl, k_1, k_2, k_3, k_4]
  refine w_iload_n X dX0_add_11 rfl rfl ?_
  refine w_s1fI X dX0_add_12 k0_30 (c0_rise G hG _ _ _ o) (Nat.le_of_ble_eq_true rfl) ?_
  refine w_iadd X dX0_add_15 ?_
  refine p0_27 X dX0_add_16 hk.1 rfl ?_
  refine w_iload X dX0_add_19 rfl ?_
  refine w_bipush (v := 26) X dX0_add_21 (by decide) ?_
  refine w_icmp_ge (tgt := 63) X dX0_add_23 (by decide) (fun h23 => ?_) (fun h23 => ?_)
  · have hlt : ¬ n < 26 := fun z => absurd h23 (nI_ge (a := n) (b := 26) z (by decide))
    refine w_iload X dX0_add_63 rfl ?_
    refine w_irF X dX0_add_65 rfl ?_
    unfold ad_
    rw [if_neg hlt]
  · have hlt : n < 26 := Nat.lt_of_not_le (fun z => h23 (nI_le (a := 26) (b := n) z (by omega)))
    refine w_aload_n X dX0_add_26 rfl rfl ?_
    refine g0_9 X dX0_add_27 hk.1 rfl ?_
    refine w_iload X dX0_add_30 rfl ?_
    refine w_iload_n X dX0_add_32 rfl rfl ?_
    refine w_iastoreN X dX0_add_33 hk.2.1 rfl (⟨hlt, by decide⟩) ?_
    refine w_aload_n X dX0_add_34 rfl rfl ?_
    refine g0_13 X dX0_add_35 hk.1 rfl ?_
    refine w_iload X dX0_add_38 rfl ?_
    refine w_lload_n X dX0_add_40 rfl rfl ?_
    refine w_lastoreN X dX0_add_41 hk.2.2.1 rfl (⟨hlt, by decide⟩) ?_
    refine w_aload_n X dX0_add_42 rfl rfl ?_
    refine g0_20 X dX0_add_43 hk.1 rfl ?_
    refine w_iload X dX0_add_46 rfl ?_
    refine w_aload_n X dX0_add_48 rfl rfl ?_
    refine g0_27 X dX0_add_49 hk.1 rfl ?_
    try simp only [gI_sI, gI_sL, gL_sI, gL_sL, gR_sI, gR_sL, gI_sR, gL_sR, gR_sR, false_and, and_false, and_self, if_false, if_true, reduceIte, Nat.reduceEqDiff, hl, k_1, k_2, k_3, k_4]
    refine w_iastoreN X dX0_add_52 hk.2.2.2.2 rfl (⟨hlt, by decide⟩) ?_
    refine w_aload_n X dX0_add_53 rfl rfl ?_
    refine w_dup X dX0_add_54 rfl ?_
    refine g0_23 X dX0_add_55 hk.1 rfl ?_
    try simp only [gI_sI, gI_sL, gL_sI, gL_sL, gR_sI, gR_sL, gI_sR, gL_sR, gR_sR, false_and, and_false, and_self, if_false, if_true, reduceIte, Nat.reduceEqDiff, hl, k_1, k_2, k_3, k_4]
    refine w_iconst (v := 1) X dX0_add_58 (by decide) ?_
    refine w_iadd X dX0_add_59 ?_
    refine p0_23 X dX0_add_60 hk.1 rfl ?_
    refine w_iload X dX0_add_63 rfl ?_
    refine w_irF X dX0_add_65 rfl ?_
    unfold ad_
    rw [if_pos hlt, nI_1]
set_option maxRecDepth 100000 in
set_option maxHeartbeats 600000 in
theorem c0_addInvocation (G : gg_) (hG : gd_ G) (d : Nat) (M : mm_) (k : Nat) (hk : cdX_ k) (n : Nat) (hl : M.1 k 4 = nI n) (hn : n ≤ 26) (o : Int64) (c : Int32) : cm_ G yX0_addInvocation cX0_addInvocation 4 none (d + 3) [.ref (G.1 k), .long o, .int c] M (fV_ (ad_ (sI_ M k 5 (M.1 k 5 - c)) k n 7 o)) := by
  refine cm_of hG (by decide) (Nat.le_of_ble_eq_true rfl) (fun C X => ?_)
  refine w_aload_n X dX0_addInvocation_0 rfl rfl ?_
  refine w_dup X dX0_addInvocation_1 rfl ?_
  refine g0_27 X dX0_addInvocation_2 hk.1 rfl ?_
  refine w_iload_n X dX0_addInvocation_5 rfl rfl ?_
  refine w_isub X dX0_addInvocation_6 ?_
  refine p0_27 X dX0_addInvocation_7 hk.1 rfl ?_
  refine w_aload_n X dX0_addInvocation_10 rfl rfl ?_
  refine w_bipush (v := 7) X dX0_addInvocation_11 (by decide) ?_
  refine w_lload_n X dX0_addInvocation_13 rfl rfl ?_
  refine w_v2fI X dX0_addInvocation_14 k0_34 rfl hk.1 (c0_add G hG _ _ k hk n (by rw [gI_sI, if_neg (by omega)]; exact hl) hn _ _) (Nat.le_of_ble_eq_true rfl) ?_
  refine w_pop X dX0_addInvocation_17 rfl ?_
  exact w_vrF X dX0_addInvocation_18 rfl
set_option maxRecDepth 100000 in
set_option maxHeartbeats 600000 in
theorem c0_addOrElse (G : gg_) (hG : gd_ G) (d : Nat) (M : mm_) (k : Nat) (hk : cdX_ k) (n : Nat) (hl : M.1 k 4 = nI n) (hn : n ≤ 26) (x : Int32) : cm_ G yX0_addOrElse cX0_addOrElse 3 (some .int) (d + 3) [.ref (G.1 k), .int x] M (fI_ (nI n) (ae_ M k n x)) := by
  refine cm_of hG (by decide) (Nat.le_of_ble_eq_true rfl) (fun C X => ?_)
  refine w_aload_n X dX0_addOrElse_0 rfl rfl ?_
  refine w_bipush (v := 6) X dX0_addOrElse_1 (by decide) ?_
  refine w_lconst (v := 0) X dX0_addOrElse_3 (by decide) ?_
  refine w_v2fI X dX0_addOrElse_4 k0_34 rfl hk.1 (c0_add G hG _ _ k hk n hl hn _ _) (Nat.le_of_ble_eq_true rfl) ?_
  refine w_istore_n X dX0_addOrElse_7 rfl (by decide) ?_
  refine w_iload_n X dX0_addOrElse_8 rfl rfl ?_
  refine w_bipush (v := 26) X dX0_addOrElse_9 (by decide) ?_
  refine w_icmp_ge (tgt := 21) X dX0_addOrElse_11 (by decide) (fun h11 => ?_) (fun h11 => ?_)
  · have hlt : ¬ n < 26 := fun z => absurd h11 (nI_ge (a := n) (b := 26) z (by decide))
    refine w_iload_n X dX0_addOrElse_21 rfl rfl ?_
    refine w_irF X dX0_addOrElse_22 rfl ?_
    unfold ae_
    rw [if_neg hlt]
  · have hlt : n < 26 := Nat.lt_of_not_le (fun z => h11 (nI_le (a := 26) (b := n) z (by omega)))
    refine w_aload_n X dX0_addOrElse_14 rfl rfl ?_
    refine g0_17 X dX0_addOrElse_15 hk.1 rfl ?_
    refine w_iload_n X dX0_addOrElse_18 rfl rfl ?_
    refine w_iload_n X dX0_addOrElse_19 rfl rfl ?_
    refine w_iastoreN X dX0_addOrElse_20 hk.2.2.2.1 rfl (⟨hlt, by decide⟩) ?_
    refine w_iload_n X dX0_addOrElse_21 rfl rfl ?_
    refine w_irF X dX0_addOrElse_22 rfl ?_
    unfold ae_
    rw [if_pos hlt]
set_option maxRecDepth 100000 in
set_option maxHeartbeats 600000 in
theorem c0_leadHere (G : gg_) (hG : gd_ G) (d : Nat) (M : mm_) (k : Nat) (hk : cdX_ k) (n : Nat) (hn : n ≤ 26) : cm_ G yX0_leadHere cX0_leadHere 2 none (d) [.ref (G.1 k), .int (nI n)] M (fV_ (lh2_ M k n)) := by
  refine cm_of hG (by decide) (Nat.le_of_ble_eq_true rfl) (fun C X => ?_)
  refine w_iload_n X dX0_leadHere_0 rfl rfl ?_
  refine w_bipush (v := 26) X dX0_leadHere_1 (by decide) ?_
  refine w_icmp_ge (tgt := 17) X dX0_leadHere_3 (by decide) (fun h3 => ?_) (fun h3 => ?_)
  · have hlt : ¬ n < 26 := fun z => absurd h3 (nI_ge (a := n) (b := 26) z (by decide))
    refine w_vrF X dX0_leadHere_17 ?_
    unfold lh2_
    rw [if_neg hlt]
  · have hlt : n < 26 := Nat.lt_of_not_le (fun z => h3 (nI_le (a := 26) (b := n) z (by omega)))
    refine w_aload_n X dX0_leadHere_6 rfl rfl ?_
    refine g0_13 X dX0_leadHere_7 hk.1 rfl ?_
    refine w_iload_n X dX0_leadHere_10 rfl rfl ?_
    refine w_aload_n X dX0_leadHere_11 rfl rfl ?_
    refine g0_23 X dX0_leadHere_12 hk.1 rfl ?_
    refine w_i2l X dX0_leadHere_15 ?_
    refine w_lastoreN X dX0_leadHere_16 hk.2.2.1 rfl (⟨hlt, by decide⟩) ?_
    refine w_vrF X dX0_leadHere_17 ?_
    unfold lh2_
    rw [if_pos hlt]
set_option maxRecDepth 100000 in
set_option maxHeartbeats 600000 in
theorem c0_behindThrow (G : gg_) (hG : gd_ G) (d : Nat) (M : mm_) (k : Nat) (hk : cdX_ k) (n : Nat) (hl : M.1 k 4 = nI n) (hn : n ≤ 26) (a : Nat) (ha : a < n) : cm_ G yX0_behindThrow cX0_behindThrow 3 (some .int) (d) [.ref (G.1 k), .int (nI a)] M (fI_ (nI (bt1_ M k a (n - (a + 1)) (a + 1))) M) := by
  refine cm_of hG (by decide) (Nat.le_of_ble_eq_true rfl) (fun C X => ?_)
  have lp : ∀ (u i : Nat), i + u = n → bt1_ M k a u i = bt1_ M k a (n - (a + 1)) (a + 1) → wq_ C G (qe_ C G (fI_ (nI (bt1_ M k a (n - (a + 1)) (a + 1))) M)) 4 [some (.ref (G.1 k)), some (.int (nI a)), some (.int (nI i))] [] M := by
    intro u
    induction u with
    | zero =>
      intro i h1 h3
      obtain rfl : i = n := by omega
      rw [bt1_] at h3
      refine w_iload_n X dX0_behindThrow_4 rfl rfl ?_
      refine w_aload_n X dX0_behindThrow_5 rfl rfl ?_
      refine g0_23 X dX0_behindThrow_6 hk.1 rfl ?_
      try simp only [gI_sI, gI_sL, gL_sI, gL_sL, gR_sI, gR_sL, gI_sR, gL_sR, gR_sR, false_and, and_false, and_self, if_false, if_true, reduceIte, Nat.reduceEqDiff, hl]
      refine w_icmp_ge (tgt := 43) X dX0_behindThrow_9 (by decide) (fun h9 => ?_) (fun h9 => absurd (Int32.le_refl _) h9)
      refine w_aload_n X dX0_behindThrow_43 rfl rfl ?_
      refine g0_23 X dX0_behindThrow_44 hk.1 rfl ?_
      try simp only [gI_sI, gI_sL, gL_sI, gL_sL, gR_sI, gR_sL, gI_sR, gL_sR, gR_sR, false_and, and_false, and_self, if_false, if_true, reduceIte, Nat.reduceEqDiff, hl]
      exact w_irF X dX0_behindThrow_47 (by rw [← h3]) rfl
    | succ u ih =>
      intro i h1 h3
      rw [bt1_] at h3
      refine w_iload_n X dX0_behindThrow_4 rfl rfl ?_
      refine w_aload_n X dX0_behindThrow_5 rfl rfl ?_
      refine g0_23 X dX0_behindThrow_6 hk.1 rfl ?_
      try simp only [gI_sI, gI_sL, gL_sI, gL_sL, gR_sI, gR_sL, gI_sR, gL_sR, gR_sR, false_and, and_false, and_self, if_false, if_true, reduceIte, Nat.reduceEqDiff, hl]
      refine w_icmp_ge (tgt := 43) X dX0_behindThrow_9 (by decide) (fun h9 => absurd h9 (nI_ge (by omega) (by omega))) (fun h9 => ?_)
      refine w_aload_n X dX0_behindThrow_12 rfl rfl ?_
      refine g0_9 X dX0_behindThrow_13 hk.1 rfl ?_
      refine w_iload_n X dX0_behindThrow_16 rfl rfl ?_
      refine w_ialoadN X dX0_behindThrow_17 hk.2.1 rfl (by omega) ?_
      try simp only [gI_sI, gI_sL, gL_sI, gL_sL, gR_sI, gR_sL, gI_sR, gL_sR, gR_sR, false_and, and_false, and_self, if_false, if_true, reduceIte, Nat.reduceEqDiff, hl]
      refine w_bipush (v := 6) X dX0_behindThrow_18 (by decide) ?_
      refine w_icmp_ne (tgt := 37) X dX0_behindThrow_20 (by decide) (fun h20 => ?_) (fun h20 => ?_)
      · rw [if_neg (fun z => h20 z.1)] at h3
        refine w_iinc (v := 1) X dX0_behindThrow_37 rfl (by decide) (by decide) ?_
        refine w_goto (tgt := 4) X dX0_behindThrow_40 (by decide) ?_
        rw [nI_1]
        exact ih (i + 1) (by omega) h3
      · refine w_aload_n X dX0_behindThrow_23 rfl rfl ?_
        refine g0_17 X dX0_behindThrow_24 hk.1 rfl ?_
        refine w_iload_n X dX0_behindThrow_27 rfl rfl ?_
        refine w_ialoadN X dX0_behindThrow_28 hk.2.2.2.1 rfl (by omega) ?_
        try simp only [gI_sI, gI_sL, gL_sI, gL_sL, gR_sI, gR_sL, gI_sR, gL_sR, gR_sR, false_and, and_false, and_self, if_false, if_true, reduceIte, Nat.reduceEqDiff, hl]
        refine w_iload_n X dX0_behindThrow_29 rfl rfl ?_
        refine w_icmp_gt (tgt := 37) X dX0_behindThrow_30 (by decide) (fun h30 => ?_) (fun h30 => ?_)
        · rw [if_neg (fun z => absurd h30 (Int32.not_lt.mpr z.2))] at h3
          refine w_iinc (v := 1) X dX0_behindThrow_37 rfl (by decide) (by decide) ?_
          refine w_goto (tgt := 4) X dX0_behindThrow_40 (by decide) ?_
          rw [nI_1]
          exact ih (i + 1) (by omega) h3
        · rw [if_pos ⟨h20, Int32.not_lt.mp h30⟩] at h3
          refine w_iload_n X dX0_behindThrow_33 rfl rfl ?_
          refine w_iconst (v := 1) X dX0_behindThrow_34 (by decide) ?_
          refine w_iadd X dX0_behindThrow_35 ?_
          rw [nI_1]
          exact w_irF X dX0_behindThrow_36 (by rw [← h3]) rfl
  refine w_iload_n X dX0_behindThrow_0 rfl rfl ?_
  refine w_iconst (v := 1) X dX0_behindThrow_1 (by decide) ?_
  refine w_iadd X dX0_behindThrow_2 ?_
  refine w_istore_n X dX0_behindThrow_3 rfl (by decide) ?_
  rw [nI_1]
  exact lp _ (a + 1) (by omega) rfl
def rw_ (k c : Nat) : Prop := ds_[k]? = some (.inr (7, [0, 0, k + 4, 0])) ∧ ds_[k + 1]? = some (.inl (0, c, 0)) ∧ c < 100000
theorem rw_rec : rw_ 243 1500 := ⟨s_243, s_244, by decide⟩
theorem rw_kept : rw_ 245 280 := ⟨s_245, s_246, by decide⟩
def rF_ (M : mm_) (k : Nat) : Int32 := if M.1 k 3 < M.1 k 0 then 0 else 1
def rH_ (M : mm_) (k : Nat) (x : Int32) : Int32 := if 0 ≤ x ∧ x < M.1 k 3 then 1 else 0
def rC_ (M : mm_) (k c : Nat) (x y : Int32) : Int32 := if 0 ≤ x * M.1 k 1 + y ∧ x * M.1 k 1 + y < nI c then M.1 (k + 1) (x * M.1 k 1 + y).toNatClampNeg else 0
def rP_ (M : mm_) (k c : Nat) (x v : Int32) : mm_ := if 0 ≤ M.1 k 3 * M.1 k 1 + x ∧ M.1 k 3 * M.1 k 1 + x < nI c then sI_ M (k + 1) (M.1 k 3 * M.1 k 1 + x).toNatClampNeg v else M
def rE_ (M : mm_) (k : Nat) : mm_ := if M.1 k 0 ≤ M.1 k 3 then M else sI_ M k 3 (M.1 k 3 + 1)
set_option maxRecDepth 100000 in
set_option maxHeartbeats 600000 in
theorem c8_isFull (G : gg_) (hG : gd_ G) (d : Nat) (M : mm_) (k c : Nat) (hk : rw_ k c) : cm_ G yX8_isFull cX8_isFull 1 (some .boolean) (d) [.ref (G.1 k)] M (fI_ (rF_ M k) M) := by
  refine cm_of hG (by decide) (Nat.le_of_ble_eq_true rfl) (fun C X => ?_)
  refine w_aload_n X dX8_isFull_0 rfl rfl ?_
  refine g8_20 X dX8_isFull_1 hk.1 rfl ?_
  refine w_aload_n X dX8_isFull_4 rfl rfl ?_
  refine g8_7 X dX8_isFull_5 hk.1 rfl ?_
  refine w_icmp_lt (tgt := 15) X dX8_isFull_8 (by decide) (fun h8 => ?_) (fun h8 => ?_)
  · refine w_iconst (v := 0) X dX8_isFull_15 (by decide) ?_
    refine w_zrF X dX8_isFull_16 (by first | exact Or.inl rfl | exact Or.inr rfl) ?_ rfl
    unfold rF_
    exact (if_pos h8).symm
  · refine w_iconst (v := 1) X dX8_isFull_11 (by decide) ?_
    refine w_goto (tgt := 16) X dX8_isFull_12 (by decide) ?_
    refine w_zrF X dX8_isFull_16 (by first | exact Or.inl rfl | exact Or.inr rfl) ?_ rfl
    unfold rF_
    exact (if_neg h8).symm
set_option maxRecDepth 100000 in
set_option maxHeartbeats 600000 in
theorem c8_has (G : gg_) (hG : gd_ G) (d : Nat) (M : mm_) (k c : Nat) (hk : rw_ k c) (x : Int32) : cm_ G yX8_has cX8_has 2 (some .boolean) (d) [.ref (G.1 k), .int x] M (fI_ (rH_ M k x) M) := by
  refine cm_of hG (by decide) (Nat.le_of_ble_eq_true rfl) (fun C X => ?_)
  refine w_iload_n X dX8_has_0 rfl rfl ?_
  refine w_if_lt (tgt := 16) X dX8_has_1 (by decide) (fun h1 => ?_) (fun h1 => ?_)
  · refine w_iconst (v := 0) X dX8_has_16 (by decide) ?_
    refine w_zrF X dX8_has_17 (by first | exact Or.inl rfl | exact Or.inr rfl) ?_ rfl
    unfold rH_
    exact (if_neg (fun z => absurd h1 (Int32.not_lt.mpr z.1))).symm
  · refine w_iload_n X dX8_has_4 rfl rfl ?_
    refine w_aload_n X dX8_has_5 rfl rfl ?_
    refine g8_20 X dX8_has_6 hk.1 rfl ?_
    refine w_icmp_ge (tgt := 16) X dX8_has_9 (by decide) (fun h9 => ?_) (fun h9 => ?_)
    · refine w_iconst (v := 0) X dX8_has_16 (by decide) ?_
      refine w_zrF X dX8_has_17 (by first | exact Or.inl rfl | exact Or.inr rfl) ?_ rfl
      unfold rH_
      exact (if_neg (fun z => absurd h9 (Int32.not_le.mpr z.2))).symm
    · refine w_iconst (v := 1) X dX8_has_12 (by decide) ?_
      refine w_goto (tgt := 17) X dX8_has_13 (by decide) ?_
      refine w_zrF X dX8_has_17 (by first | exact Or.inl rfl | exact Or.inr rfl) ?_ rfl
      unfold rH_
      exact (if_pos ⟨Int32.not_lt.mp h1, Int32.not_le.mp h9⟩).symm
set_option maxRecDepth 100000 in
set_option maxHeartbeats 600000 in
theorem c8_cell (G : gg_) (hG : gd_ G) (d : Nat) (M : mm_) (k c : Nat) (hk : rw_ k c) (x y : Int32) : cm_ G yX8_cell cX8_cell 4 (some .int) (d) [.ref (G.1 k), .int x, .int y] M (fI_ (rC_ M k c x y) M) := by
  refine cm_of hG (by decide) (Nat.le_of_ble_eq_true rfl) (fun C X => ?_)
  refine w_iload_n X dX8_cell_0 rfl rfl ?_
  refine w_aload_n X dX8_cell_1 rfl rfl ?_
  refine g8_13 X dX8_cell_2 hk.1 rfl ?_
  refine w_imul X dX8_cell_5 ?_
  refine w_iload_n X dX8_cell_6 rfl rfl ?_
  refine w_iadd X dX8_cell_7 ?_
  refine w_istore_n X dX8_cell_8 rfl (by decide) ?_
  refine w_iload_n X dX8_cell_9 rfl rfl ?_
  refine w_if_lt (tgt := 31) X dX8_cell_10 (by decide) (fun h10 => ?_) (fun h10 => ?_)
  · refine w_iconst (v := 0) X dX8_cell_31 (by decide) ?_
    refine w_irF X dX8_cell_32 ?_ rfl
    unfold rC_
    exact (if_neg (fun z => absurd h10 (Int32.not_lt.mpr z.1))).symm
  · refine w_iload_n X dX8_cell_13 rfl rfl ?_
    refine w_aload_n X dX8_cell_14 rfl rfl ?_
    refine g8_16 X dX8_cell_15 hk.1 rfl ?_
    refine w_alen X dX8_cell_18 hk.2.1 rfl ?_
    refine w_icmp_ge (tgt := 31) X dX8_cell_19 (by decide) (fun h19 => ?_) (fun h19 => ?_)
    · refine w_iconst (v := 0) X dX8_cell_31 (by decide) ?_
      refine w_irF X dX8_cell_32 ?_ rfl
      unfold rC_
      exact (if_neg (fun z => absurd h19 (Int32.not_le.mpr z.2))).symm
    · obtain ⟨j, hj, ej⟩ := ix_ (Nat.lt_trans hk.2.2 (by decide)) h10 h19
      have ej2 : (x * M.1 k 1 + y).toNatClampNeg = j := by rw [ej]; exact nI_clamp (Nat.lt_trans hj (Nat.lt_trans hk.2.2 (by decide)))
      refine w_aload_n X dX8_cell_22 rfl rfl ?_
      refine g8_16 X dX8_cell_23 hk.1 rfl ?_
      refine w_iload_n X dX8_cell_26 rfl rfl ?_
      rw [ej]
      refine w_ialoadN X dX8_cell_27 hk.2.1 rfl (⟨hj, Nat.lt_trans hk.2.2 (by decide)⟩) ?_
      refine w_goto (tgt := 32) X dX8_cell_28 (by decide) ?_
      refine w_irF X dX8_cell_32 ?_ rfl
      unfold rC_
      rw [if_pos ⟨Int32.not_lt.mp h10, Int32.not_le.mp h19⟩, ej2]
set_option maxRecDepth 100000 in
set_option maxHeartbeats 600000 in
theorem c8_put (G : gg_) (hG : gd_ G) (d : Nat) (M : mm_) (k c : Nat) (hk : rw_ k c) (x v : Int32) : cm_ G yX8_put cX8_put 4 none (d) [.ref (G.1 k), .int x, .int v] M (fV_ (rP_ M k c x v)) := by
  refine cm_of hG (by decide) (Nat.le_of_ble_eq_true rfl) (fun C X => ?_)
  refine w_aload_n X dX8_put_0 rfl rfl ?_
  refine g8_20 X dX8_put_1 hk.1 rfl ?_
  refine w_aload_n X dX8_put_4 rfl rfl ?_
  refine g8_13 X dX8_put_5 hk.1 rfl ?_
  refine w_imul X dX8_put_8 ?_
  refine w_iload_n X dX8_put_9 rfl rfl ?_
  refine w_iadd X dX8_put_10 ?_
  refine w_istore_n X dX8_put_11 rfl (by decide) ?_
  refine w_iload_n X dX8_put_12 rfl rfl ?_
  refine w_if_lt (tgt := 32) X dX8_put_13 (by decide) (fun h13 => ?_) (fun h13 => ?_)
  · refine w_vrF X dX8_put_32 ?_
    unfold rP_
    exact (if_neg (fun z => absurd h13 (Int32.not_lt.mpr z.1))).symm
  · refine w_iload_n X dX8_put_16 rfl rfl ?_
    refine w_aload_n X dX8_put_17 rfl rfl ?_
    refine g8_16 X dX8_put_18 hk.1 rfl ?_
    refine w_alen X dX8_put_21 hk.2.1 rfl ?_
    refine w_icmp_ge (tgt := 32) X dX8_put_22 (by decide) (fun h22 => ?_) (fun h22 => ?_)
    · refine w_vrF X dX8_put_32 ?_
      unfold rP_
      exact (if_neg (fun z => absurd h22 (Int32.not_le.mpr z.2))).symm
    · obtain ⟨j, hj, ej⟩ := ix_ (Nat.lt_trans hk.2.2 (by decide)) h13 h22
      have ej2 : (M.1 k 3 * M.1 k 1 + x).toNatClampNeg = j := by rw [ej]; exact nI_clamp (Nat.lt_trans hj (Nat.lt_trans hk.2.2 (by decide)))
      refine w_aload_n X dX8_put_25 rfl rfl ?_
      refine g8_16 X dX8_put_26 hk.1 rfl ?_
      refine w_iload_n X dX8_put_29 rfl rfl ?_
      refine w_iload_n X dX8_put_30 rfl rfl ?_
      rw [ej]
      refine w_iastoreN X dX8_put_31 hk.2.1 rfl (⟨hj, Nat.lt_trans hk.2.2 (by decide)⟩) ?_
      refine w_vrF X dX8_put_32 ?_
      unfold rP_
      rw [if_pos ⟨Int32.not_lt.mp h13, Int32.not_le.mp h22⟩, ej2]
set_option maxRecDepth 100000 in
set_option maxHeartbeats 600000 in
theorem c8_endRow (G : gg_) (hG : gd_ G) (d : Nat) (M : mm_) (k c : Nat) (hk : rw_ k c) : cm_ G yX8_endRow cX8_endRow 1 none (d) [.ref (G.1 k)] M (fV_ (rE_ M k)) := by
  refine cm_of hG (by decide) (Nat.le_of_ble_eq_true rfl) (fun C X => ?_)
  refine w_aload_n X dX8_endRow_0 rfl rfl ?_
  refine g8_20 X dX8_endRow_1 hk.1 rfl ?_
  refine w_aload_n X dX8_endRow_4 rfl rfl ?_
  refine g8_7 X dX8_endRow_5 hk.1 rfl ?_
  refine w_icmp_ge (tgt := 21) X dX8_endRow_8 (by decide) (fun h8 => ?_) (fun h8 => ?_)
  · refine w_vrF X dX8_endRow_21 ?_
    unfold rE_
    exact (if_pos h8).symm
  · refine w_aload_n X dX8_endRow_11 rfl rfl ?_
    refine w_dup X dX8_endRow_12 rfl ?_
    refine g8_20 X dX8_endRow_13 hk.1 rfl ?_
    refine w_iconst (v := 1) X dX8_endRow_16 (by decide) ?_
    refine w_iadd X dX8_endRow_17 ?_
    refine p8_20 X dX8_endRow_18 hk.1 rfl ?_
    refine w_vrF X dX8_endRow_21 ?_
    unfold rE_
    exact (if_neg h8).symm

