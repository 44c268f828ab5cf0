/-! all the reader's recursive methods; read -/
theorem x_all (G : gg_) (hG : gd_ G) (k n : Nat) (v : Int32) (nm : Bool) : ∀ t u, u ≤ t → XE_ G k n v nm u ∧ XC_ G k n v nm u ∧ XS_ G k n v nm u ∧ XO_ G k n v nm u ∧ XA_ G k n v nm u ∧ XJ_ G k n v nm u 3 ∧ XJ_ G k n v nm u 4 ∧ XJ_ G k n v nm u 5 ∧ XJ_ G k n v nm u 6
  | 0, u, hu => by
    obtain rfl : u = 0 := by omega
    exact ⟨fun _ _ _ _ _ _ _ _ _ _ _ _ _ _ h => by omega, fun _ _ _ _ _ _ _ _ _ _ _ _ _ _ h => by omega, fun _ _ _ _ _ _ _ _ _ _ _ _ _ _ h => by omega, fun _ _ _ _ _ _ _ _ _ _ _ _ _ _ h => by omega, fun _ _ _ _ _ _ _ _ _ _ _ _ _ _ h => by omega, fun _ _ _ _ _ _ _ _ _ _ _ _ _ _ h => by omega, fun _ _ _ _ _ _ _ _ _ _ _ _ _ _ h => by omega, fun _ _ _ _ _ _ _ _ _ _ _ _ _ _ h => by omega, fun _ _ _ _ _ _ _ _ _ _ _ _ _ _ h => by omega⟩
  | t + 1, u, hu => by
    have ih := x_all G hG k n v nm t
    by_cases h : u ≤ t
    · exact ih u h
    · obtain rfl : u = t + 1 := by omega
      have i := ih t (Nat.le_refl _)
      have hs : XS_ G k n v nm (t + 1) := x_signed G hG k n v nm t i.2.2.1 i.2.2.2.1
      exact ⟨x_expression G hG k n v nm t (fun u h => (ih u h).2.1), x_choice G hG k n v nm t i.2.2.2.2.2.1 i.1 i.2.1, hs, x_operand G hG k n v nm t i.1 i.2.2.2.2.1, x_arguments G hG k n v nm t i.1, x_joined3 G hG k n v nm t (fun u h => (ih u h).2.2.2.2.2.2.1), x_joined4 G hG k n v nm t (fun u h => (ih u h).2.2.2.2.2.2.2.1), x_joined5 G hG k n v nm t (fun u h => (ih u h).2.2.2.2.2.2.2.2), x_joined6 G hG k n v nm (t + 1) hs⟩
def rd0_ (M : mm_) (k : Nat) (v b : Int32) : mm_ := sI_ (sI_ (sI_ (sI_ (sI_ (sI_ (sI_ (sR_ M 39 1 (some k)) 39 2 v) 39 3 b) 39 4 0) 39 5 0) 39 6 0) k 4 0) k 5 0
/-- nothing but the reader's cells and the Code k has changed -/
def cr_ (k : Nat) (M N : mm_) : Prop := (∀ a i, a ≠ 39 → N.2.2 a i = M.2.2 a i) ∧ (∀ a i, a ≠ 37 → a ≠ 39 → (a < k ∨ k + 4 < a) → N.1 a i = M.1 a i) ∧ (∀ a i, a ≠ 37 → a ≠ k + 2 → N.2.1 a i = M.2.1 a i)
theorem cr_rf {k : Nat} {M : mm_} : cr_ k M M := ⟨fun _ _ _ => rfl, fun _ _ _ _ _ => rfl, fun _ _ _ _ => rfl⟩
theorem cr_tr {k : Nat} {A B D : mm_} (h : cr_ k A B) (g : cr_ k B D) : cr_ k A D := ⟨fun a i h1 => (g.1 a i h1).trans (h.1 a i h1), fun a i h1 h2 h3 => (g.2.1 a i h1 h2 h3).trans (h.2.1 a i h1 h2 h3), fun a i h1 h2 => (g.2.2 a i h1 h2).trans (h.2.2 a i h1 h2)⟩
theorem cr_cf {k : Nat} {M N : mm_} (h : cf_ k M N) : cr_ k M N := ⟨fun a i _ => by rw [h.1], h.2.1, h.2.2.1⟩
theorem cr_rd {k : Nat} {M : mm_} {v b : Int32} : cr_ k M (rd0_ M k v b) := by
  refine ⟨fun a i h1 => ?_, fun a i h1 h2 h3 => ?_, fun a i h1 h2 => rfl⟩
  · show (if a = 39 ∧ i = 1 then some k else M.2.2 a i) = _
    rw [if_neg (fun z => h1 z.1)]
  · show (rd0_ M k v b).1 a i = _
    unfold rd0_
    simp only [gI_sI]
    rw [if_neg (by omega), if_neg (by omega), if_neg (by omega), if_neg (by omega), if_neg (by omega), if_neg (by omega), if_neg (by omega)]
    rfl
theorem cr_tp {k n : Nat} {M N : mm_} (hk : kb_ k) (h : cr_ k M N) (ht : tpX_ M n) : tpX_ N n := ⟨ht.1, by rw [h.2.1 35 1 (by omega) (by omega) (by unfold kb_ at hk; omega)]; exact ht.2⟩
theorem cr_tb {k : Nat} {M N : mm_} (hk : kb_ k) (h : cr_ k M N) : tb_ N = tb_ M := by
  unfold kb_ at hk
  funext x
  unfold tb_
  rw [h.2.1 35 1 (by omega) (by omega) (by omega), h.2.1 36 _ (by omega) (by omega) (by omega)]
theorem rd_ST {k p : Nat} {M : mm_} {v b : Int32} (hk : kb_ k) (h0 : M.1 37 2 = 0) (h1 : M.1 37 1 = nI p) : ST_ k (rd0_ M k v b) p 0 0 [] 0 := by
  unfold kb_ at hk
  unfold rd0_
  refine ⟨?_, ?_, ?_, ?_, ?_, ⟨?_, fun j q hq => by simp at hq⟩, ?_⟩
  · simp only [gI_sI]; rw [if_neg (by omega), if_neg (by omega), if_neg (by omega), if_neg (by omega), if_neg (by omega), if_neg (by omega), if_neg (by omega)]; exact h0
  · simp only [gI_sI]; rw [if_neg (by omega), if_neg (by omega), if_neg (by omega), if_neg (by omega), if_neg (by omega), if_neg (by omega), if_neg (by omega)]; exact h1
  · simp only [gI_sI]; rw [if_neg (by omega), if_neg (by omega), if_neg (by omega), if_neg (by omega), if_pos (by simp)]; rfl
  · simp only [gI_sI]; rw [if_neg (by omega), if_neg (by omega), if_neg (by omega), if_pos (by simp)]; rfl
  · simp only [gI_sI]; rw [if_neg (by omega), if_neg (by omega), if_pos (by simp)]
  · simp only [gI_sI]; rw [if_neg (by omega), if_pos (by simp)]; rfl
  · simp only [gI_sI]; rw [if_pos (by simp)]
theorem rd_FT {k : Nat} {M : mm_} {v b : Int32} (hk : kb_ k) (h0 : ¬ M.1 37 2 = 0) : FT_ k (rd0_ M k v b) := by
  unfold kb_ at hk
  unfold rd0_
  refine ⟨?_, 0, by omega, ?_⟩
  · simp only [gI_sI]; rw [if_neg (by omega), if_neg (by omega), if_neg (by omega), if_neg (by omega), if_neg (by omega), if_neg (by omega), if_neg (by omega)]; exact h0
  · simp only [gI_sI]; rw [if_neg (by omega), if_pos (by simp)]; rfl
theorem rd_PE {k n : Nat} {M : mm_} {v : Int32} {nm : Bool} (hc : cdX_ k) (ht : tpX_ M n) : PE_ k n v nm (rd0_ M k v (if nm = true then 1 else 0)) := by
  have hk := cd_kb hc
  refine ⟨hc, cr_tp hk cr_rd ht, ?_, ?_, ?_⟩
  · show (if 39 = 39 ∧ 1 = 1 then some k else M.2.2 39 1) = _
    rw [if_pos ⟨rfl, rfl⟩]
  · unfold kb_ at hk
    unfold rd0_
    simp only [gI_sI]; rw [if_neg (by omega), if_neg (by omega), if_neg (by omega), if_neg (by omega), if_neg (by omega), if_neg (by omega), if_pos (by simp)]
  · unfold kb_ at hk
    unfold rd0_
    simp only [gI_sI]; rw [if_neg (by omega), if_neg (by omega), if_neg (by omega), if_neg (by omega), if_neg (by omega), if_pos (by simp)]
/-- where the reader stands: a place, or a fault -/
def LS_ (q : Option Nat) (M : mm_) : Prop := match q with
  | none => ¬ M.1 37 2 = 0
  | some p => M.1 37 2 = 0 ∧ M.1 37 1 = nI p
/-- an expression read from q on -/
def pe2_ (T : Int32 → Int32) (v : Int32) (nm : Bool) (q : Option Nat) : px2_ := match q with
  | none => none
  | some p => pz2_ T v nm 297 1 none p 0 0
def qx_ (r : px2_) : Option Nat := match r with
  | none => none
  | some x => some x.2.1
def RR_ (k n : Nat) (M : mm_) (r : px2_) (N : mm_) : Prop := cr_ k M N ∧ LS_ (qx_ r) N ∧ (∃ L, L ≤ 26 ∧ N.1 k 4 = nI L) ∧ ∀ x, r = some x → x.2.1 ≤ n ∧ hd_ k N (cqX_ x.1 0 0) ∧ 3 * snX_ x.1 + 1 ≤ 80
set_option maxRecDepth 100000 in
set_option maxHeartbeats 600000 in
theorem c1_read (G : gg_) (hG : gd_ G) (d : Nat) (M : mm_) (n : Nat) (ht : tpX_ M n) (k : Nat) (hk0 : cdX_ k) (v : Int32) (nm : Bool) (q : Option Nat) (hq : LS_ q M) (hp : ∀ p, q = some p → p ≤ n) : cm_ G yX1_read cX1_read 4 none (d + 905) [.ref (G.1 39), .ref (G.1 k), .int v, .int (if nm = true then 1 else 0)] M (rV_ (RR_ k n M (pe2_ (tb_ M) v nm q))) := by
  have hk := cd_kb hk0
  have hE := rd_PE (v := v) (nm := nm) hk0 ht
  have hcr := cr_rd (k := k) (M := M) (v := v) (b := if nm = true then 1 else 0)
  refine cm_of hG (by decide) (Nat.le_of_ble_eq_true rfl) (fun C X => ?_)
  refine w_aload_n X dX1_read_0 rfl rfl ?_
  refine w_aload_n X dX1_read_1 rfl rfl ?_
  refine p1_13 X dX1_read_2 s_39 rfl ?_
  refine w_aload_n X dX1_read_5 rfl rfl ?_
  refine w_iload_n X dX1_read_6 rfl rfl ?_
  refine p1_17 X dX1_read_7 s_39 rfl ?_
  refine w_aload_n X dX1_read_10 rfl rfl ?_
  refine w_iload_n X dX1_read_11 rfl rfl ?_
  refine p1_21 X dX1_read_12 s_39 rfl (by cases nm; exact Or.inl rfl; exact Or.inr rfl) ?_
  refine w_aload_n X dX1_read_15 rfl rfl ?_
  refine w_iconst (v := 0) X dX1_read_16 (by decide) ?_
  refine p1_25 X dX1_read_17 s_39 rfl ?_
  refine w_aload_n X dX1_read_20 rfl rfl ?_
  refine w_iconst (v := 0) X dX1_read_21 (by decide) ?_
  refine p1_28 X dX1_read_22 s_39 rfl ?_
  refine w_aload_n X dX1_read_25 rfl rfl ?_
  refine w_iconst (v := 0) X dX1_read_26 (by decide) ?_
  refine p1_31 X dX1_read_27 s_39 rfl (Or.inl rfl) ?_
  refine w_aload_n X dX1_read_30 rfl rfl ?_
  refine r1_13 X dX1_read_31 s_39 rfl (show (if 39 = 39 ∧ 1 = 1 then some k else M.2.2 39 1) = some k from if_pos ⟨rfl, rfl⟩) ?_
  refine w_v0fV X dX1_read_34 k1_34 rfl hk0.1 (c0_empty G hG _ _ k hk0) (Nat.le_of_ble_eq_true rfl) ?_
  show wq_ C G _ _ _ _ (rd0_ M k v (if nm = true then 1 else 0))
  cases q with
  | none =>
    refine w_aload_n X dX1_read_37 rfl rfl ?_
    refine w_v0fV X dX1_read_38 k1_39 rfl s_39 (f1_expression G hG _ _ n hE.2.1 (rd_FT hk hq).1 k hk0 hE.2.2.1) (Nat.le_of_ble_eq_true rfl) ?_
    have hf := rFoF hk (rd_FT (v := v) (b := if nm = true then 1 else 0) hk hq)
    exact w_vrR X dX1_read_41 ⟨cr_tr hcr (cr_cf (cf_oF hk)), hf.1, hf.2, fun x hx => by cases hx⟩
  | some p =>
    have hs := rd_ST (v := v) (b := if nm = true then 1 else 0) hk hq.1 hq.2
    have hct := (x_all G hG k n v nm 297 297 (Nat.le_refl _)).1 (d + 904) _ p 0 0 [] 0 (by omega) hE hs (hp p rfl) (by omega) (by omega) (by simp) (by omega)
    rw [cr_tb hk hcr] at hct
    refine w_aload_n X dX1_read_37 rfl rfl ?_
    refine w_v0rV X dX1_read_38 k1_39 rfl s_39 (hct) (Nat.le_of_ble_eq_true rfl) (fun N38 h38 => ?_)
    refine w_vrR X dX1_read_41 ?_
    show RR_ k n M (pz2_ (tb_ M) v nm 297 1 none p 0 0) _
    cases hz : pz2_ (tb_ M) v nm 297 1 none p 0 0 with
    | none =>
      rw [hz] at h38
      exact ⟨cr_tr hcr (cr_cf h38.1), h38.2.1, h38.2.2, fun x hx => by cases hx⟩
    | some x =>
      rw [hz] at h38
      obtain ⟨hc, hs2, q1, q2, q3, q4, q5, q6⟩ := PR_get h38
      have e : ([] : List cq2_).length + snX_ x.1 = snX_ x.1 := by simp
      refine ⟨cr_tr hcr (cr_cf hc), ⟨hs2.1, hs2.2.1⟩, ⟨_, by rw [q6, e]; omega, hs2.2.2.2.2.2.1.1⟩, fun y hy => ?_⟩
      cases hy
      exact ⟨q2, hs2.2.2.2.2.2.1, by omega⟩
