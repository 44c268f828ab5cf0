section
/-! the trees that the reference's reader makes: S whether names may come, V how many variables there may be -/
def wfR_ (S : Bool) (V : Nat) : Bool → Term → Prop
  | true, .int _ => True
  | true, .index i => i < V
  | true, .length e => wfR_ S V true e
  | true, .sum e => wfR_ S V true e
  | true, .elem _ (.add a b) => wfR_ S V true a ∧ wfR_ S V true b
  | true, .mul a (.div b c) => wfR_ S V true a ∧ wfR_ S V true b ∧ wfR_ S V true c
  | true, .rem a b => wfR_ S V true a ∧ wfR_ S V true b
  | true, .sub _ x => S = true ∧ wfR_ S V false x ∧ ac_ x ≤ 3
  | false, .null => True
  | false, .add a r => wfR_ S V true a ∧ wfR_ S V false r
  | _, _ => False
/-- a frame whose trees are so, with at most b arguments -/
def wfF_ (S : Bool) (V b : Nat) (f : fr_) : Prop := match f.1 with
  | 0 => True
  | 1 => wfR_ S V true f.2.2.1
  | 2 => wfR_ S V true f.2.2.1 ∧ wfR_ S V true f.2.2.2.1
  | 6 => True
  | 8 => S = true ∧ wfR_ S V false f.2.2.1 ∧ ac_ f.2.2.1 ≤ b
  | _ => wfR_ S V true f.2.2.1
def wfW_ (S : Bool) (V : Nat) : List fr_ → Prop
  | [] => True
  | f :: r => wfF_ S V 2 f ∧ wfW_ S V r
def wfS_ (S : Bool) (V : Nat) (x : ss_) : Prop := match x.2.2.1 with
  | some e => wfR_ S V true e ∧ wfW_ S V x.2.1
  | none => match x.2.1 with
    | [] => True
    | f :: r => wfF_ S V 3 f ∧ wfW_ S V r
def wfO_ (S : Bool) (V : Nat) : ss_ ⊕ (Int32 × Nat) → Prop
  | .inl x => wfS_ S V x
  | .inr _ => True
theorem wfO_n {S : Bool} {V k nd op : Nat} {f : fr_} {r : List fr_} (h : wfF_ S V 3 f) (g : wfW_ S V r) : wfO_ S V (.inl (k, f :: r, none, nd, op)) := ⟨h, g⟩
theorem wfR_sa {S : Bool} {V : Nat} : ∀ {x e : Term}, wfR_ S V false x → wfR_ S V true e → wfR_ S V false (sa_ x e)
  | .null, e, _, h => ⟨h, True.intro⟩
  | .add a r, e, g, h => ⟨g.1, wfR_sa g.2 h⟩
theorem wfR_ao {S : Bool} {V : Nat} : ∀ {x : Term}, wfR_ S V false x → ao_ x
  | .null, _ => True.intro
  | .add _ r, h => wfR_ao (x := r) h.2
/-- what frames put together make -/
theorem wfR_rf {S : Bool} {V : Nat} {f : fr_} {e : Term} (h : wfF_ S V 2 f) (h1 : 1 ≤ f.1) (h6 : f.1 ≤ 6) (he : wfR_ S V true e) : wfR_ S V true (rf_ f e) := by
  obtain ⟨k, c, a, b, x⟩ := f
  unfold wfF_ at h
  unfold rf_
  simp only at h h1 h6 ⊢
  match k, h1, h6, h with
  | 1, _, _, h => exact ⟨h, he⟩
  | 2, _, _, h => exact ⟨h.1, h.2, he⟩
  | 3, _, _, h => exact ⟨h, he⟩
  | 4, _, _, h => exact ⟨h, he⟩
  | 5, _, _, h => exact ⟨h, he⟩
  | 6, _, _, h =>
    show wfR_ S V true (if c = 45 then Term.length e else Term.sum e)
    split
    · exact he
    · exact he
theorem wfR_rt {S : Bool} {V L : Nat} (hL : 1 ≤ L) : ∀ (W : List fr_) (e : Term), wfW_ S V W → wfR_ S V true e → wfW_ S V (rt_ L W e).1 ∧ wfR_ S V true (rt_ L W e).2
  | [], e, _, he => ⟨True.intro, he⟩
  | f :: r, e, h, he => by
    rw [rt_]
    split
    · rename_i g
      exact wfR_rt hL r _ h.2 (wfR_rf h.1 (by omega) g.2 he)
    · exact ⟨h, he⟩
theorem wfO_bt {S : Bool} {V L k nd op : Nat} {c : Int32} {W : List fr_} {e : Term} (hL : L = 3 ∨ L = 4 ∨ L = 5) (h : wfW_ S V W) (he : wfR_ S V true e) : wfO_ S V (bt_ L c k W e nd op) := by
  have g := wfR_rt (L := if L = 3 then 4 else L) (by split <;> omega) W e h he
  unfold bt_
  generalize (if L = 3 then 4 else L) = L2 at g ⊢
  split
  · trivial
  · split
    · trivial
    · refine wfO_n ?_ g.1
      unfold wfF_
      rcases hL with rfl | rfl | rfl <;> exact g.2
theorem wfO_qu {S : Bool} {V k nd op : Nat} {W : List fr_} {e : Term} (h : wfW_ S V W) (he : wfR_ S V true e) : wfO_ S V (qu_ k W e nd op) := by
  have g := wfR_rt (L := 3) (by omega) W e h he
  unfold qu_
  split
  · trivial
  · exact wfO_n g.2 g.1
theorem wfO_ha {S : Bool} {V k nd op : Nat} {W : List fr_} {e : Term} (h : wfW_ S V W) (he : wfR_ S V true e) : wfO_ S V (ha_ k W e nd op) := by
  have g := wfR_rt (L := 1) (by omega) W e h he
  unfold ha_
  split
  · trivial
  · exact wfO_n g.2 g.1
theorem wfF_8 {S : Bool} {V b : Nat} {f : fr_} (h : wfF_ S V b f) (h8 : f.1 = 8) : S = true ∧ wfR_ S V false f.2.2.1 ∧ ac_ f.2.2.1 ≤ b := by
  unfold wfF_ at h; rw [h8] at h; exact h
theorem wfF_7 {S : Bool} {V b : Nat} {f : fr_} (h : wfF_ S V b f) (h7 : f.1 = 7) : wfR_ S V true f.2.2.1 := by
  unfold wfF_ at h; rw [h7] at h; exact h
theorem wfO_cm {S : Bool} {V k nd op : Nat} {W : List fr_} {e : Term} (h : wfW_ S V W) (he : wfR_ S V true e) : wfO_ S V (cm2_ k W e nd op) := by
  have g := wfR_rt (L := 1) (by omega) W e h he
  unfold cm2_
  cases hr : (rt_ 1 W e).1 with
  | nil => trivial
  | cons f r =>
    rw [hr] at g
    simp only
    split
    · rename_i h8
      have q := wfF_8 g.1.1 h8
      refine wfO_n ⟨q.1, wfR_sa q.2.1 g.2, ?_⟩ g.1.2
      show ac_ (sa_ f.2.2.1 (rt_ 1 W e).2) ≤ 3
      rw [ac_sa _ _ (wfR_ao q.2.1)]
      have := q.2.2
      omega
    · trivial
theorem wfO_cl {S : Bool} {V k nd op : Nat} {W : List fr_} {e : Term} (h : wfW_ S V W) (he : wfR_ S V true e) : wfO_ S V (cl_ k W e nd op) := by
  have g := wfR_rt (L := 1) (by omega) W e h he
  unfold cl_
  cases hr : (rt_ 1 W e).1 with
  | nil => trivial
  | cons f r =>
    rw [hr] at g
    simp only
    split
    · rename_i h7
      have q := wfF_7 g.1.1 h7
      exact wfO_n (show wfR_ S V true f.2.2.1 ∧ wfR_ S V true (rt_ 1 W e).2 from ⟨q, g.2⟩) g.1.2
    · trivial
theorem wfO_cz {S : Bool} {V k nd op : Nat} {W : List fr_} {e : Term} (h : wfW_ S V W) (he : wfR_ S V true e) : wfO_ S V (cz_ k W e nd op) := by
  have g := wfR_rt (L := 1) (by omega) W e h he
  unfold cz_
  cases hr : (rt_ 1 W e).1 with
  | nil => trivial
  | cons f r =>
    rw [hr] at g
    simp only
    split
    · exact ⟨g.2, g.1.2⟩
    · split
      · rename_i h8
        have q := wfF_8 g.1.1 h8
        refine ⟨⟨q.1, wfR_sa q.2.1 g.2, ?_⟩, g.1.2⟩
        rw [ac_sa _ _ (wfR_ao q.2.1)]
        have := q.2.2
        omega
      · trivial
theorem wfO_si {S : Bool} {V k nd op : Nat} {c : Int32} {W : List fr_} {e : Term} (h : wfW_ S V W) (he : wfR_ S V true e) : wfO_ S V (si_ c k W e nd op) := by
  unfold si_
  split
  · exact wfO_ha h he
  · split
    · exact wfO_qu h he
    · split
      · exact wfO_cl h he
      · split
        · exact wfO_bt (Or.inl rfl) h he
        · split
          · exact wfO_bt (Or.inr (Or.inl rfl)) h he
          · split
            · exact wfO_bt (Or.inr (Or.inr rfl)) h he
            · split
              · exact wfO_cm h he
              · split
                · exact wfO_cz h he
                · trivial
/-- where an operand is wanted and the frame at the top has room for one more -/
theorem wfW_top {S : Bool} {V k nd op : Nat} {W : List fr_} (h : wfS_ S V (k, W, none, nd, op)) (h3 : ¬ f3b_ W = true) : wfW_ S V W := by
  cases W with
  | nil => trivial
  | cons f r =>
    refine ⟨?_, h.2⟩
    have g := h.1
    obtain ⟨x, c, a, b, y⟩ := f
    unfold wfF_ at g ⊢
    match x, g, h3 with
    | 0, _, _ => trivial
    | 1, g, _ => exact g
    | 2, g, _ => exact g
    | 3, g, _ => exact g
    | 4, g, _ => exact g
    | 5, g, _ => exact g
    | 6, _, _ => trivial
    | 7, g, _ => exact g
    | 8, g, h3 =>
      refine ⟨g.1, g.2.1, ?_⟩
      have e : ¬ ac_ a = 3 := fun z => h3 (by show (decide ((8 : Nat) = 8) && decide (ac_ a = 3)) = true; rw [z]; rfl)
      have g3 : ac_ a ≤ 3 := g.2.2
      show ac_ a ≤ 2
      omega
    | x + 9, g, _ => exact g
theorem wfO_co {S : Bool} {V k nd op : Nat} {W : List fr_} (h : wfS_ S V (k, W, none, nd, op)) (hq : fqb_ W = true) : wfO_ S V (co0_ k W nd op) := by
  unfold co0_
  cases W with
  | nil => trivial
  | cons f r =>
    have e : (decide (f.1 = 8) && decide (ac_ f.2.2.1 = 0)) = true := hq
    rw [Bool.and_eq_true, decide_eq_true_iff, decide_eq_true_iff] at e
    exact ⟨⟨(wfF_8 h.1 e.1).1, True.intro, by show 0 ≤ 3; omega⟩, h.2⟩
def sB_ (M : mm_) : Bool := decide (M.1 0 14 = 0)
def vB_ (M : mm_) : Nat := if M.1 0 14 = 0 then 3 else 7
theorem vv_own {c : Int32} (h : ¬ ow_ c = 0) : (vv_ c).toNatClampNeg < 3 := by
  unfold ow_ at h
  by_cases g : 97 ≤ c ∧ c ≤ 99
  · rw [Int32.le_iff_toInt_le, Int32.le_iff_toInt_le] at g
    have e1 : (97 : Int32).toInt = 97 := by decide
    have e2 : (99 : Int32).toInt = 99 := by decide
    rw [e1, e2] at g
    have e := Int32.ofInt_toInt c
    obtain z | z | z : c.toInt = 97 ∨ c.toInt = 98 ∨ c.toInt = 99 := by omega
    · rw [← e, z]; decide
    · rw [← e, z]; decide
    · rw [← e, z]; decide
  · rw [if_neg g] at h; exact absurd rfl h
theorem vo_lt {M : mm_} {c : Int32} (h : ¬ vo_ M c < 0) : (vo_ M c).toNatClampNeg < vB_ M := by
  unfold vo_ at h ⊢
  unfold vB_
  split
  · rename_i g
    rcases g with ⟨g1, -⟩ | ⟨g0, g1 | g1⟩
    · have := vv_own g1
      split <;> omega
    · have := vv_own g1
      split <;> omega
    · rw [if_neg g0]
      have a1 := Int32.not_lt.mp g1.1
      have a2 := Int32.not_lt.mp g1.2.1
      rw [Int32.le_iff_toInt_le] at a1 a2
      have e3 : (3 : Int32).toInt = 3 := by decide
      have e6 : (6 : Int32).toInt = 6 := by decide
      rw [e3] at a1
      rw [e6] at a2
      have e : (vv_ c).toNatClampNeg = (vv_ c).toInt.toNat := rfl
      rw [e]
      omega
  · rename_i g
    rw [if_neg g] at h
    exact absurd (by decide) h
theorem wfO_rr {M : mm_} {n k nd op : Nat} {W : List fr_} (h : wfW_ (sB_ M) (vB_ M) W) : wfO_ (sB_ M) (vB_ M) (rr_ M n k W nd op) := by
  unfold rr_
  split
  · split
    · trivial
    · split
      · trivial
      · rename_i g
        exact ⟨vo_lt g, h⟩
  · split
    · trivial
    · split
      · trivial
      · split
        · trivial
        · split
          · trivial
          · rename_i g
            split
            · trivial
            · split
              · trivial
              · refine wfO_n ⟨?_, True.intro, by show 0 ≤ 3; omega⟩ h
                unfold sB_
                rw [decide_eq_true_iff]
                exact Decidable.not_not.mp g
theorem wfO_so {M : mm_} {n k nd op : Nat} {W : List fr_} (h : wfS_ (sB_ M) (vB_ M) (k, W, none, nd, op)) : wfO_ (sB_ M) (vB_ M) (so_ M n k W nd op) := by
  unfold so_
  split
  · trivial
  · split
    · rename_i g
      exact wfO_co h g.1
    · unfold so2_
      split
      · trivial
      · rename_i g3
        have hW := wfW_top h g3
        split
        · unfold rn2_
          split
          · trivial
          · split
            · trivial
            · exact ⟨True.intro, hW⟩
        · split
          · split
            · trivial
            · exact wfO_n True.intro hW
          · split
            · split
              · trivial
              · exact wfO_n True.intro hW
            · split
              · exact wfO_rr hW
              · trivial
theorem wfO_lo {M : mm_} {n : Nat} : ∀ (t : Nat) (x : ss_), wfS_ (sB_ M) (vB_ M) x → wfO_ (sB_ M) (vB_ M) (lo_ M n t x)
  | 0, x, h => h
  | t + 1, x, h => by
    obtain ⟨k, W, u, nd, op⟩ := x
    rw [lo_]
    cases u with
    | none =>
      simp only
      have g := wfO_so (n := n) h
      cases hs : so_ M n k W nd op with
      | inl y => rw [hs] at g; exact wfO_lo t y g
      | inr q => trivial
    | some e =>
      simp only
      split
      · exact h
      · have g := wfO_si (c := bf_ M n k) (k := k) (nd := nd) (op := op) h.2 h.1
        cases hs : si_ (bf_ M n k) k W e nd op with
        | inl y => rw [hs] at g; exact wfO_lo t y g
        | inr q => trivial
theorem wf_ex {M : mm_} {n k k2 : Nat} {e : Term} (h : ex_ M n k = .inl (e, k2)) : wfR_ (sB_ M) (vB_ M) true e := by
  unfold ex_ at h
  have g := wfO_lo (M := M) (n := n) (n + 1 - k) (k, [], none, 0, 0) True.intro
  cases hs : lo_ M n (n + 1 - k) (k, [], none, 0, 0) with
  | inr q => rw [hs] at h; cases h
  | inl x =>
    rw [hs] at h g
    obtain ⟨k1, W, u, nd, op⟩ := x
    cases u with
    | none => cases h
    | some e1 =>
      have g2 := wfR_rt (L := 1) (by omega) W e1 g.2 g.1
      have h2 : (if (rt_ 1 W e1).1.isEmpty = true then (Sum.inl ((rt_ 1 W e1).2, k1) : (Term × Nat) ⊕ (Int32 × Nat)) else .inr (1, k1)) = .inl (e, k2) := h
      split at h2
      · cases h2; exact g2.2
      · cases h2

end
section
/-! the codes of the reference's trees can be run: F says how high the stack lies before each step, and which handlers wait -/
theorem sh4_ (k : Int64) : (k <<< ((2 : Int32).toInt64 &&& 63)).toBitVec.toNat = 2 ^ 2 * (k.toBitVec.toNat % 2 ^ 62) := by
  show (k.toBitVec <<< (((2 : Int32).toInt64 &&& 63).toBitVec.smod 64)).toNat = _
  rw [show ((2 : Int32).toInt64 &&& 63).toBitVec.smod 64 = 2#64 by decide +kernel, BitVec.shiftLeft_eq', BitVec.toNat_shiftLeft, Nat.shiftLeft_eq, show (2#64).toNat = 2 from rfl]
  omega
theorem mny_ {k : Int64} {j : Nat} (hj : j < 4) : (((k <<< ((2 : Int32).toInt64 &&& 63)) ||| (nI j).toInt64) &&& 3).toInt32 = nI j := by
  have e2 : (nI j).toInt64.toBitVec.toNat = j := by
    have h : ∀ j, j < 4 → (nI j).toInt64.toBitVec.toNat = j := by decide +kernel
    exact h j hj
  have e1 : (((k <<< ((2 : Int32).toInt64 &&& 63)) ||| (nI j).toInt64) &&& 3) = Int64.ofNat j := by
    apply Int64.toBitVec_inj.mp
    apply BitVec.eq_of_toNat_eq
    rw [Int64.toBitVec_and, BitVec.toNat_and, Int64.toBitVec_or, BitVec.toNat_or, e2, sh4_, show (3 : Int64).toBitVec.toNat = 2 ^ 2 - 1 by decide +kernel, ← Nat.two_pow_add_eq_or_of_lt hj, Nat.and_two_pow_sub_one_eq_mod, Nat.mul_add_mod]
    have h : ∀ j, j < 4 → j % 2 ^ 2 = (Int64.ofNat j).toBitVec.toNat := by decide +kernel
    exact h j hj
  rw [e1]
  have h : ∀ j, j < 4 → (Int64.ofNat j).toInt32 = nI j := by decide +kernel
  exact h j hj
def stR_ (V n : Nat) (F : Nat → Nat × List Nat) (i : Nat) (p : Int32) (v : Int64) : Prop :=
  (p = 0 → F (i + 1) = ((F i).1 + 1, (F i).2)) ∧
  (p = 1 → F (i + 1) = ((F i).1 + 1, (F i).2) ∧ ∃ j, j < V ∧ v.toInt32 = nI j) ∧
  (p = 3 → F (i + 1) = F i ∧ 1 ≤ (F i).1) ∧
  (p = 4 → 1 ≤ (F i).1) ∧
  (p = 5 → ∃ t, v.toInt32 = nI t ∧ i + 1 + t ≤ n ∧ 1 ≤ (F i).1 ∧ F (i + 1) = ((F i).1 - 1, (F i).2) ∧ F (i + 1 + t) = F (i + 1)) ∧
  (p = 6 → ∃ t, v.toInt32 = nI t ∧ i + 1 + t ≤ n ∧ F (i + 1 + t) = F i) ∧
  (p = 7 → ∃ t, v.toInt32 = nI t ∧ i + 1 + t ≤ n ∧ F (i + 1) = ((F i).1, (F i).2 ++ [i + 1 + t]) ∧ F (i + 1 + t) = F i) ∧
  (p = 8 → ∃ t x S, v.toInt32 = nI t ∧ i + 1 + t ≤ n ∧ (F i).2 = S ++ [x] ∧ F (i + 1 + t) = ((F i).1, S)) ∧
  (p = 9 → ∃ j, j ≤ 3 ∧ (v &&& 3).toInt32 = nI j ∧ j ≤ (F i).1 ∧ F (i + 1) = ((F i).1 + 1 - j, (F i).2)) ∧
  (p = 2 → 2 ≤ (F i).1 ∧ F (i + 1) = ((F i).1 - 1, (F i).2)) ∧
  (p = 0 ∨ p = 1 ∨ p = 2 ∨ p = 3 ∨ p = 4 ∨ p = 5 ∨ p = 6 ∨ p = 7 ∨ p = 8 ∨ p = 9 ∧ V = 3)
end
section
/-! the reference: probeExpression -/
def okR_ (V t n : Nat) (F : Nat → Nat × List Nat) (M : mm_) : Prop := M.1 4 t = nI n ∧ n ≤ 40 ∧ F 0 = (0, []) ∧ F n = (1, []) ∧ (∀ j, j ≤ n → (F j).1 ≤ 20 ∧ (F j).2.length ≤ 20 ∧ ∀ S x, (F j).2 = S ++ [x] → j < x ∧ x ≤ n ∧ (F x).2 = S) ∧ ∀ i, i < n → stR_ V n F i (M.1 2 (64 * t + i)) (M.2.1 3 (64 * t + i))
def okT_ (V t : Nat) (M : mm_) : Prop := ∃ (n : Nat) (F : Nat → Nat × List Nat), okR_ V t n F M
def fpE_ (M N : mm_) : Prop := N.2 = M.2 ∧ ∀ a i, a ≠ 31 → a ≠ 32 → a ≠ 33 → ¬ (a = 0 ∧ (i = 58 ∨ i = 59)) → N.1 a i = M.1 a i
theorem fpE_I {M N : mm_} {a i : Nat} {v : Int32} (h : fpE_ M N) (ha : a = 31 ∨ a = 32 ∨ a = 33 ∨ (a = 0 ∧ (i = 58 ∨ i = 59))) : fpE_ M (sI_ N a i v) := ⟨h.1, fun b j h1 h2 h3 h4 => by rw [gI_sI, if_neg (by omega)]; exact h.2 b j h1 h2 h3 h4⟩
theorem nI_mn (n : Nat) (h : 0 < n) : nI n + -1 = nI (n - 1) := by rw [← nI_p n h, Int32.sub_eq_add_neg]
end
section
/-! the reference: watchOne, probe -/
def ckR_ (M : mm_) : Prop := (∃ c, c ≤ 300 ∧ M.1 0 35 = nI c) ∧ ∃ c z, c ≤ 16 ∧ M.1 0 9 = nI c ∧ z ≤ 40 ∧ M.1 0 37 = nI z ∧ ∀ i, i < z → ∃ m, m < c ∧ M.1 22 (7 * i + 1) = nI m
/-- what jobs have -/
def jbR_ (M : mm_) : Prop := ∀ j, j < 8 → (∃ z, z ≤ 12 ∧ M.1 18 j = nI z) ∧ (M.1 12 j = 1 → okT_ 7 (16 + 2 * j) M ∧ (¬ M.1 16 j = 0 → okT_ 7 (17 + 2 * j) M))
end
section
def pzR_ (a i : Nat) : Prop := a = 12 ∨ a = 15 ∨ a = 20 ∨ a = 21 ∨ a = 22 ∨ a = 30 ∨ a = 31 ∨ a = 32 ∨ a = 33 ∨ (a = 0 ∧ (i = 35 ∨ i = 37 ∨ i = 58 ∨ i = 59))
def mR_ (a i : Nat) : Prop := (23 ≤ a ∧ a ≤ 29) ∨ (a = 0 ∧ (i = 39 ∨ i = 40 ∨ i = 41 ∨ i = 42 ∨ i = 47 ∨ i = 51 ∨ i = 52 ∨ i = 53))
end
section
/-! the reference between calls: what stays so (RI_). Nodes first: no tree has more than 20 -/
def cnS_ (x : ss_) : Prop := nw_ x.2.1 + cn_ x.2.2.1 = x.2.2.2.1 ∧ x.2.2.2.1 ≤ 20
def cnO_ : ss_ ⊕ (Int32 × Nat) → Prop
  | .inl x => cnS_ x
  | .inr _ => True
theorem nt_rf {f : fr_} {e : Term} (h1 : 1 ≤ f.1) (h6 : f.1 ≤ 6) : nt_ (rf_ f e) = nf_ f + nt_ e := by
  obtain ⟨k, c, a, b, x⟩ := f
  unfold rf_ nf_
  simp only at h1 h6 ⊢
  match k, h1, h6 with
  | 1, _, _ => show nt_ (.rem a e) = nt_ a + 1 + nt_ e; rw [nt_]; omega
  | 2, _, _ => show nt_ (.mul a (.div b e)) = nt_ a + nt_ b + 1 + nt_ e; rw [nt_]; omega
  | 3, _, _ => show nt_ (.elem (.int c) (.add a e)) = nt_ a + 1 + nt_ e; rw [nt_, nt_]; omega
  | 4, _, _ => show nt_ (.elem (.int c) (.add a e)) = nt_ a + 1 + nt_ e; rw [nt_, nt_]; omega
  | 5, _, _ => show nt_ (.elem (.int c) (.add a e)) = nt_ a + 1 + nt_ e; rw [nt_, nt_]; omega
  | 6, _, _ =>
    show nt_ (if c = 45 then Term.length e else Term.sum e) = 1 + nt_ e
    split
    · rw [nt_]; omega
    · rw [nt_]; omega
theorem nw_rt {L : Nat} (hL : 1 ≤ L) : ∀ (W : List fr_) (e : Term), nw_ (rt_ L W e).1 + nt_ (rt_ L W e).2 = nw_ W + nt_ e
  | [], e => rfl
  | f :: r, e => by
    rw [rt_]
    split
    · rename_i g
      rw [nw_rt hL r, nt_rf (by omega) g.2, nw_]
      omega
    · rfl
theorem nf_7 {f : fr_} (h : f.1 = 7) : nf_ f = nt_ f.2.2.1 + 1 := by
  obtain ⟨k, c, a, b, x⟩ := f
  simp only at h
  subst h; rfl
theorem nf_8 {f : fr_} (h : f.1 = 8) : nf_ f = nt_ f.2.2.1 + 1 := by
  obtain ⟨k, c, a, b, x⟩ := f
  simp only at h
  subst h; rfl
theorem nf_0 {f : fr_} (h : f.1 = 0) : nf_ f = 0 := by
  obtain ⟨k, c, a, b, x⟩ := f
  simp only at h
  subst h; rfl
theorem cnO_si {S : Bool} {V k nd op : Nat} {c : Int32} {W : List fr_} {e : Term} (hW : wfW_ S V W) (he : wfR_ S V true e) (h : nw_ W + nt_ e = nd) (hn : nd ≤ 20) : cnO_ (si_ c k W e nd op) := by
  have bt : ∀ L, L = 3 ∨ L = 4 ∨ L = 5 → cnO_ (bt_ L c k W e nd op) := by
    intro L hL
    have g := nw_rt (L := if L = 3 then 4 else L) (by split <;> omega) W e
    unfold bt_
    generalize (if L = 3 then 4 else L) = L2 at g ⊢
    split
    · trivial
    · split
      · trivial
      · rename_i h20
        refine ⟨?_, by show nd + 1 ≤ 20; omega⟩
        show nw_ (rt_ L2 W e).1 + nf_ (L, c, (rt_ L2 W e).2, .null, 0) + 0 = nd + 1
        have : nf_ (L, c, (rt_ L2 W e).2, .null, 0) = nt_ (rt_ L2 W e).2 + 1 := by rcases hL with rfl | rfl | rfl <;> rfl
        omega
  have g1 := nw_rt (L := 1) (by omega) W e
  have w1 := wfR_rt (L := 1) (by omega) W e hW he
  unfold si_
  split
  · unfold ha_
    split
    · trivial
    · refine ⟨?_, by show nd + 1 ≤ 20; omega⟩
      show nw_ (rt_ 1 W e).1 + (nt_ (rt_ 1 W e).2 + 1) + 0 = nd + 1
      omega
  · split
    · have g3 := nw_rt (L := 3) (by omega) W e
      unfold qu_
      split
      · trivial
      · refine ⟨?_, by show nd + 1 ≤ 20; omega⟩
        show nw_ (rt_ 3 W e).1 + (nt_ (rt_ 3 W e).2 + 1) + 0 = nd + 1
        omega
    · split
      · unfold cl_
        cases hr : (rt_ 1 W e).1 with
        | nil => trivial
        | cons f r =>
          rw [hr] at g1
          simp only
          split
          · rename_i h7
            refine ⟨?_, hn⟩
            show nw_ r + (nt_ f.2.2.1 + nt_ (rt_ 1 W e).2 + 1) + 0 = nd
            have e7 := nf_7 h7
            have g2 : nw_ r + nf_ f + nt_ (rt_ 1 W e).2 = nw_ W + nt_ e := g1
            omega
          · trivial
      · split
        · exact bt 3 (Or.inl rfl)
        · split
          · exact bt 4 (Or.inr (Or.inl rfl))
          · split
            · exact bt 5 (Or.inr (Or.inr rfl))
            · split
              · unfold cm2_
                cases hr : (rt_ 1 W e).1 with
                | nil => trivial
                | cons f r =>
                  rw [hr] at g1 w1
                  simp only
                  split
                  · rename_i h8
                    have q := wfF_8 w1.1.1 h8
                    refine ⟨?_, hn⟩
                    show nw_ r + (nt_ (sa_ f.2.2.1 (rt_ 1 W e).2) + 1) + 0 = nd
                    rw [nt_sa _ _ (wfR_ao q.2.1)]
                    have e8 := nf_8 h8
                    have g2 : nw_ r + nf_ f + nt_ (rt_ 1 W e).2 = nw_ W + nt_ e := g1
                    omega
                  · trivial
              · split
                · unfold cz_
                  cases hr : (rt_ 1 W e).1 with
                  | nil => trivial
                  | cons f r =>
                    rw [hr] at g1 w1
                    have g2 : nw_ r + nf_ f + nt_ (rt_ 1 W e).2 = nw_ W + nt_ e := g1
                    simp only
                    split
                    · rename_i h0
                      refine ⟨?_, hn⟩
                      show nw_ r + nt_ (rt_ 1 W e).2 = nd
                      have e0 := nf_0 h0
                      omega
                    · split
                      · rename_i h8
                        have q := wfF_8 w1.1.1 h8
                        refine ⟨?_, hn⟩
                        show nw_ r + nt_ (.sub (.long f.2.2.2.2) (sa_ f.2.2.1 (rt_ 1 W e).2)) = nd
                        rw [nt_, nt_sa _ _ (wfR_ao q.2.1)]
                        have e8 := nf_8 h8
                        omega
                      · trivial
                · trivial
theorem cnO_so {M : mm_} {n k nd op : Nat} {W : List fr_} (hS : wfS_ (sB_ M) (vB_ M) (k, W, none, nd, op)) (h : nw_ W = nd) (hn : nd ≤ 20) : cnO_ (so_ M n k W nd op) := by
  unfold so_
  split
  · trivial
  · split
    · rename_i g
      unfold co0_
      cases W with
      | nil => trivial
      | cons f r =>
        have e : (decide (f.1 = 8) && decide (ac_ f.2.2.1 = 0)) = true := g.1
        rw [Bool.and_eq_true, decide_eq_true_iff, decide_eq_true_iff] at e
        have q := wfF_8 hS.1 e.1
        have e9 := ao_0 (wfR_ao q.2.1) e.2
        refine ⟨?_, hn⟩
        show nw_ r + 1 = nd
        have e8 : nf_ f = 1 := by rw [nf_8 e.1, e9]; rfl
        have g2 : nw_ r + nf_ f = nd := h
        omega
    · unfold so2_
      split
      · trivial
      · split
        · unfold rn2_
          split
          · trivial
          · split
            · trivial
            · refine ⟨?_, by show nd + 1 ≤ 20; omega⟩
              show nw_ W + 1 = nd + 1
              omega
        · split
          · split
            · trivial
            · refine ⟨?_, by show nd + 1 ≤ 20; omega⟩
              show nw_ W + 1 + 0 = nd + 1
              omega
          · split
            · split
              · trivial
              · exact ⟨h, hn⟩
            · split
              · unfold rr_
                split
                · split
                  · trivial
                  · split
                    · trivial
                    · refine ⟨?_, by show nd + 1 ≤ 20; omega⟩
                      show nw_ W + 1 = nd + 1
                      omega
                · split
                  · trivial
                  · split
                    · trivial
                    · split
                      · trivial
                      · split
                        · trivial
                        · split
                          · trivial
                          · split
                            · trivial
                            · refine ⟨?_, by show nd + 1 ≤ 20; omega⟩
                              show nw_ W + 1 + 0 = nd + 1
                              omega
              · trivial
theorem cnO_lo {M : mm_} {n : Nat} : ∀ (t : Nat) (x : ss_), wfS_ (sB_ M) (vB_ M) x → cnS_ x → cnO_ (lo_ M n t x)
  | 0, x, _, h => h
  | t + 1, x, hw, h => by
    obtain ⟨k, W, u, nd, op⟩ := x
    rw [lo_]
    cases u with
    | none =>
      simp only
      have g := wfO_so (n := n) hw
      have g2 := cnO_so (n := n) hw h.1 h.2
      cases hs : so_ M n k W nd op with
      | inl y => rw [hs] at g g2; exact cnO_lo t y g g2
      | inr q => trivial
    | some e =>
      simp only
      split
      · exact h
      · have g := wfO_si (c := bf_ M n k) (k := k) (nd := nd) (op := op) hw.2 hw.1
        have g2 := cnO_si (c := bf_ M n k) (k := k) (op := op) hw.2 hw.1 h.1 h.2
        cases hs : si_ (bf_ M n k) k W e nd op with
        | inl y => rw [hs] at g g2; exact cnO_lo t y g g2
        | inr q => trivial
theorem nt_ex {M : mm_} {n k k2 : Nat} {e : Term} (h : ex_ M n k = .inl (e, k2)) : nt_ e ≤ 20 := by
  unfold ex_ at h
  have g := cnO_lo (M := M) (n := n) (n + 1 - k) (k, [], none, 0, 0) True.intro ⟨rfl, by show 0 ≤ 20; omega⟩
  cases hs : lo_ M n (n + 1 - k) (k, [], none, 0, 0) with
  | inr q => rw [hs] at h; cases h
  | inl x =>
    rw [hs] at h g
    obtain ⟨k1, W, u, nd, op⟩ := x
    cases u with
    | none => cases h
    | some e1 =>
      have g2 := nw_rt (L := 1) (by omega) W e1
      have g3 : nw_ W + nt_ e1 = nd := g.1
      have g4 : nd ≤ 20 := g.2
      have h2 : (if (rt_ 1 W e1).1.isEmpty = true then (Sum.inl ((rt_ 1 W e1).2, k1) : (Term × Nat) ⊕ (Int32 × Nat)) else .inr (1, k1)) = .inl (e, k2) := h
      split at h2
      · cases h2; omega
      · cases h2
/-- the reference between calls -/
def RI_ (M : mm_) : Prop := (∃ n, tz_ M n) ∧ (∃ c, c ≤ 16 ∧ M.1 0 9 = nI c ∧ ∀ m, m < c → okT_ 3 m M ∧ ∃ q, q ≤ 3 ∧ M.1 6 m = nI q) ∧ ckR_ M ∧ jbR_ M
end
section
/-! the reference between calls: behind a command -/
theorem zj_I {M : mm_} {b : Nat} : ∀ (j a i : Nat), a ≠ 20 → (zj_ M b j).1 a i = M.1 a i
  | 0, _, _, _ => rfl
  | j + 1, a, i, h => by rw [zj_, sI_ne _ _ _ _ (fun q => h q.1), zj_I j a i h]
theorem zj_2 {M : mm_} {b : Nat} : ∀ j, (zj_ M b j).2 = M.2
  | 0 => rfl
  | j + 1 => zj_2 (M := M) (b := b) j
theorem pj_2 {M : mm_} {b : Nat} : ∀ j, (pj_ M b j).2 = M.2
  | 0 => rfl
  | j + 1 => pj_2 (M := M) (b := b) j
theorem nj_o {M : mm_} {b z : Nat} {kd : Int32} {a i : Nat} (h : a ≠ 20) (h2 : a ≠ 17) (h3 : ¬ ((a = 12 ∨ a = 14 ∨ a = 15 ∨ a = 16 ∨ a = 18) ∧ i = b)) : (nj_ M b z kd).1 a i = M.1 a i := by
  unfold nj_
  rw [zj_I _ _ _ h, pj_I _ _ _ h2, gI_sI, if_neg (by omega), gI_sI, if_neg (by omega), gI_sI, if_neg (by omega), gI_sI, if_neg (by omega), gI_sI, if_neg (by omega)]
theorem nj_12 {M : mm_} {b z : Nat} {kd : Int32} : (nj_ M b z kd).1 12 b = kd := by
  unfold nj_
  rw [zj_I _ _ _ (by decide), pj_I _ _ _ (by decide), gI_sI, if_neg (by omega), gI_sI, if_neg (by omega), gI_sI, if_neg (by omega), gI_sI, if_neg (by omega), gI_sI, if_pos ⟨rfl, rfl⟩]
theorem nj_18 {M : mm_} {b z : Nat} {kd : Int32} : (nj_ M b z kd).1 18 b = nI z := by
  unfold nj_
  rw [zj_I _ _ _ (by decide), pj_I _ _ _ (by decide), gI_sI, if_pos ⟨rfl, rfl⟩]
theorem nj_R2 {M : mm_} {b z : Nat} {kd : Int32} : (nj_ M b z kd).2 = M.2 := by
  unfold nj_
  rw [zj_2, pj_2]; rfl
theorem w7_in {M : mm_} {n k : Nat} {y x : wr2_} (h : w7_ M n y k = .inl x) : x = y := by
  unfold w7_ at h
  split at h
  · cases h
  · split at h
    · cases h
    · cases h; rfl
theorem w6_in {M : mm_} {n k : Nat} {y : Int32 → wr2_} {x : wr2_} (h : w6_ M n y k = .inl x) : ∃ v, x = y v := by
  unfold w6_ at h
  split at h
  · unfold w6m_ at h
    split at h
    · cases h
    · exact ⟨_, w7_in h⟩
  · exact ⟨99, w7_in h⟩
theorem w5_in {M : mm_} {n k : Nat} {y : Option Term → Int32 → wr2_} {x : wr2_} (h : w5_ M n y k = .inl x) : ∃ v o, x = y o v ∧ ∀ e, o = some e → ∃ k1 k2, ex_ M n k1 = .inl (e, k2) := by
  unfold w5_ at h
  split at h
  · cases hx : ex_ M n (sp_ M n k) with
    | inr q => rw [hx] at h; cases h
    | inl z =>
      obtain ⟨e, k2⟩ := z
      rw [hx] at h
      obtain ⟨v, hv⟩ := w6_in (show w6_ M n (y (some e)) k2 = .inl x from h)
      exact ⟨v, some e, hv, fun e2 he => by cases he; exact ⟨_, _, hx⟩⟩
  · obtain ⟨v, hv⟩ := w6_in h
    exact ⟨v, none, hv, fun e he => by cases he⟩
theorem wt_in {M : mm_} {n s z : Nat} {v : Int64} {x : wr2_} (h : wt_ M n s z v = .inl x) : (∃ k1 k2, ex_ M n k1 = .inl (x.2.2.2.1, k2)) ∧ ∀ e, x.2.2.2.2.1 = some e → ∃ k1 k2, ex_ M n k1 = .inl (e, k2) := by
  unfold wt_ at h
  split at h
  · cases h
  · unfold w3m_ at h
    split at h
    · cases h
    · rename_i q p hq
      unfold w4_ w4m_ at h
      cases hx : ex_ M n (sp_ M n q) with
      | inr w => rw [hx] at h; cases h
      | inl w =>
        obtain ⟨e, k2⟩ := w
        rw [hx] at h
        obtain ⟨v2, o, hv, ho⟩ := w5_in h
        subst hv
        exact ⟨⟨_, _, hx⟩, ho⟩
end
section
/-! contracts of methods that may throw (the memory is then as it was at their start), throws, catches -/
def xcM_ (G : gg_) (xe : String → Prop) (M : mm_) : String → State → State → Prop := fun E st t => xe E ∧ va_P G.2.2.1 vwCl (wl_ G M) t.heap ∧ va_F (aw_ G) st t
def cmx_ (G : gg_) (y : MethodName) (cy : ByteArray) (ny : Nat) (ry : Option FieldType) (d : Nat) (As : List Value) (M : mm_) (post : Option Value → mm_ → Prop) (xe : String → Prop) : Prop := ∀ l : Launch, l.stackTraces = false → vx_Met l y (.code y cy ny ry :: gw_) (rnX_ d 1 6) (pc_ G As M) (qg_ G post) (xcM_ G xe M) 1 6 (aw_ G)
def qxX_ : mc_ → gg_ → (Option Value → mm_ → Prop) → (String → Prop) → mm_ → State → Prop
  | (_, _, _, _, s, _, args, below, _, _, _, _), G, post, xe, M => vx_MQ below (qg_ G post) (xcM_ G xe M) args s 1 6 (aw_ G)
def txX_ : mc_ → Prop
  | (_, l, _, R, _, _, _, _, _, c, cs, sl) => l.stackTraces = false ∧ (∀ x ∈ c.exceptionTable.toList, False) ∧ cs = 0 ∧ sl = 0 ∧ R.cells = 1 ∧ R.slots = 6
theorem cmx_of {G : gg_} {y : MethodName} {cy : ByteArray} {ny d : Nat} {ry : Option FieldType} {As : List Value} {M : mm_} {post : Option Value → mm_ → Prop} {xe : String → Prop} (hG : gd_ G) (hy : plainName y.cls = true) (hn : (lg_sl As).length ≤ ny)
    (h : ∀ C : mc_, cx_ C G y.cls cy ny ry d → txX_ C → wq_ C G (qxX_ C G post xe M) 0 (en_ ny As) [] M) : cmx_ G y cy ny ry d As M post xe := by
  intro l hl
  refine vx_ofW (cc := cy) (maxL := ny) (ret := ry) hy rfl ?_
  intro p e s m args below meth c s₁ B hml ht hv
  obtain ⟨rfl, hbs, hP, hK⟩ := hv
  have hts0 := atoms_spec (ws := .code y cy ny ry :: gw_) B.pre
  have hown : s.vm.findClass y.cls = some m.cls := findClass_of_methodNamed B.named
  have hll := lv_entry As (n := ny) hn
  rw [lg_entry_eq]
  generalize (lg_sl As ++ List.replicate (ny - (lg_sl As).length) Slot.unset).toArray = ls at hll ⊢
  refine h (p, l, e, rnX_ d 1 6, s, m, As.toArray, below, meth, c, 0, 0) ⟨B.exec, B.bytes, hml, B.returns, hown, fun w hw => hts0 w (List.mem_cons_of_mem _ hw), hK, hG, hbs, B.notSynchronized, Nat.le_refl _, Nat.le_refl _, Nat.zero_le _, Nat.zero_le _⟩ ⟨hl, ht, rfl, rfl, rfl, rfl⟩ s.heap [] ls ?_ hP va_S.rf
  refine lh_sub (l := lv_args 0 As) ?_ (en_mem As ny 0)
  rw [hml]
  exact hll
section THROWING
variable {C : mc_} {G : gg_} {Q : State → Prop} {pc : Nat} {lv : List (Option Value)} {st : List Value} {M N : mm_} {own : String} {cc : ByteArray} {nL : Nat} {ry : Option FieldType} {d : Nat} {post : Option Value → mm_ → Prop} {xe : String → Prop}
theorem w_irX {x : Int32} (X : cx_ C G own cc nL (some .int) d) (Z : txX_ C) (hd : decode cc pc = .ok (.ireturn, 1)) (hp : post (some (.int x)) N) : wq_ C G (qxX_ C G post xe M) pc lv [.int x] N := by
  obtain ⟨p, l, e, R, s, m, args, below, meth, c, cs, sl⟩ := C
  obtain ⟨hx, hb, hml, hrt, hown, hts, ⟨hK, hox⟩, hG, hbs, hlk, hfr, hlo, hcs, hsl⟩ := X
  obtain ⟨-, -, rfl, rfl, -, -⟩ := Z
  intro H locs ls hl hP hS
  exact vx_ret (W.widen (k := 1) (n := 6) (Nat.zero_le _) (Nat.zero_le _) (W.iret hx hb hrt (fun t ht hW => ⟨⟨_, N, rfl, hp, by rw [ht]; exact hP⟩, hS.F ht⟩) hS.2.2 hd hlk))
def nmx_ : List String := ["java/lang/RuntimeException", "java/lang/Exception"]
def xB_ (cls : String) : List Cond := .castable cls cls :: dl_.map .declares
theorem w_throw {cls : String} {ik ic : Nat} (X : cx_ C G RX11 cc nL ry d) (Z : txX_ C) (hd6 : 6 ≤ d) (hcls : Bundle.fit cls = true) (hcx : cls ∈ nx_)
    (hk : Cond.classLink RX11 ik cls ∈ gw_) (hini : Cond.initialized cls ∈ gw_) (hg1 : ∀ w ∈ (vx_at0 RX11 ic cls nmx_).filter goodWord, w ∈ gw_) (hg2 : ∀ w ∈ (vx_at0 RX11 ic cls nmx_).filter (fun w => !goodWord w), w ∈ xB_ cls)
    (hot : ∀ w ∈ Cond.classLink RX11 ik cls :: Cond.initialized cls :: vx_at0 RX11 ic cls nmx_, vx_ot w = true)
    (d0 : decode cc pc = .ok (.new ik, 3)) (d3 : decode cc (pc + 3) = .ok (.dup, 1)) (d4 : decode cc (pc + 4) = .ok (.invokespecial ic, 3)) (d7 : decode cc (pc + 7) = .ok (.athrow, 1)) (hxe : xe cls) : wq_ C G (qxX_ C G post xe M) pc lv [] M := by
  obtain ⟨p, l, e, R, s, m, args, below, meth, c, cs, sl⟩ := C
  obtain ⟨hx, hb, hml, hrt, hown, hts, ⟨hK, hox⟩, hG, hbs, hlk, hfr, hlo, hcs, hsl⟩ := X
  obtain ⟨z1, z2, rfl, rfl, z5, z6⟩ := Z
  intro H locs ls hl hP hS
  have hB : ∀ w ∈ xB_ cls, w.before args s = true := by
    intro w hw
    rcases List.mem_cons.mp hw with rfl | hw
    · exact va_Nw.use rfl (hox.2.2.1.1 cls hcx)
    · obtain ⟨y, hy, rfl⟩ := List.mem_map.mp hw
      exact va_Nw.use rfl (hox.2.2.1.2 y hy)
  refine vx_throw0 (names := nmx_) hx hb z1 hown hcls (by decide) (hts _ hk) (hts _ hini) (vx_hat (fun w hw => hts w (hg1 w hw)) hg2 hB) hot hox.2.2.2.2.2.1 hox.2.2.2.2.2.2.1 hS hl.1 d0 d3 d4 d7 (fun x hx => (z2 x hx).elim) ?_ ?_ ?_ ?_ hlk ?_ hS.2.2 (Nat.le_refl _) (Nat.le_refl _)
  · show 2 + 3 < R.frames; omega
  · show 0 + (13 * (2 + 1) + 42) ≤ R.locals; omega
  · omega
  · omega
  · intro t hA h1 h2
    refine ⟨hxe, hP.kept (fun k q hk => h2 _ (vx_lt hP hk)), Nat.le_trans hS.1 h1, fun q hq hn => ?_⟩
    rw [h2 q (Nat.lt_of_lt_of_le hq hS.1)]
    exact hS.2.1 q hq hn
/-- q was thrown over the frame -/
def wqx_ : mc_ → gg_ → (State → Prop) → Nat → List (Option Value) → List Value → mm_ → String → Nat → Prop
  | (p, l, e, R, s, m, args, below, meth, c, cs, sl), G, Q, pc, lv, st, M, E, q => ∀ (H : Heap) (locs : List Loc) (ls : Array Slot) (ce : Cell), lh_ c.maxLocals ls lv → va_P G.2.2.1 vwCl (wl_ G M) H → va_S (aw_ G) s.heap H locs → H[q]? = some ce → ce.vm = .none → s.vm.findClass E = some ce.cls → vx_W p l e R s m args below meth c H locs cs sl Q (F0 m pc ls st) q
def lcX_ : mc_ → Prop
  | (_, l, _, _, _, _, _, _, _, _, _, _) => l.stackTraces = false
def csX_ : mc_ → Nat
  | (_, _, _, _, _, _, _, _, _, _, cs, _) => cs
def slX_ : mc_ → Nat
  | (_, _, _, _, _, _, _, _, _, _, _, sl) => sl
def rmX_ : mc_ → Nat → Nat → Prop
  | (_, _, _, R, _, _, _, _, _, _, _, _), a, b => a ≤ R.cells ∧ b ≤ R.slots
theorem w_callX (As : List Value) {y : MethodName} {cy : ByteArray} {ny idx a ci n : Nat} {fs : List Nat} {T : u_T} {ry2 : Option FieldType} (X : cx_ C G own cc nL ry (d + 1)) (hlc : lcX_ C) (hd : decode cc pc = .ok (.invokevirtual idx, 3)) (hk : lk_ own idx y cy ny ry2 As.length) (hc : vwCl[ci]? = some (y.cls, T, n)) (ha : ds_[a]? = some (.inr (ci, fs))) (hM : cmx_ G y cy ny ry2 d (.ref (G.1 a) :: As) M post xe) (hr : (st.map fun v => v.category).sum ≤ 8) (hrm : rmX_ C (csX_ C + 1) (slX_ C + 6))
    (k : ∀ (v : Option Value) (N : mm_), post v N → wq_ (ca_ C (csX_ C + 1) (slX_ C + 6)) G Q (pc + 3) lv (v.toList ++ st) N)
    (kx : ∀ (E : String) (q : Nat), xe E → wqx_ (ca_ C (csX_ C + 1) (slX_ C + 6)) G Q pc lv st M E q) : wq_ C G Q pc lv (As.reverse ++ .ref (G.1 a) :: st) M := by
  obtain ⟨p, l, e, R, s, m, args, below, meth, c, cs, sl⟩ := C
  obtain ⟨hx, hb, hml, hrt, hown, hts, ⟨hK, hox⟩, hG, hbs, hlk, hfr, hlo, hcs, hsl⟩ := X
  obtain ⟨k1, k2, k3, k4, k5, k6, k7⟩ := hk
  intro H locs ls hl hP hS
  have hgood : GoodIn gw_ (wsV own idx y.cls y (.code y cy ny ry2 :: gw_)) := fun w hw => by
    simp only [wsV, List.cons_append, List.nil_append, List.mem_cons] at hw
    rcases hw with rfl | rfl | rfl | rfl | rfl | h
    · exact gw_gg _ k1
    · exact gw_gg _ k2
    · exact gw_gg _ k3
    · exact gw_gg _ k4
    · exact gw_gg _ k5
    · exact gw_gg _ h
  have hrun := vx_runV (As := As) (rest := st) (g := F0 m pc ls (As.reverse ++ .ref (G.1 a) :: st)) (locs := locs) (cells := cs) (slots := sl) (p := p) (e := e) (below := below) (meth := meth) (H := H) ⟨hx, hb, hml, hown, hts⟩ (hM l hlc) (cwV As.length hts hgood rfl rfl rfl ⟨rfl, k6⟩ ⟨hfr, by show 8 + (ny + 11) + 64 * d ≤ R.locals; omega⟩) ⟨pc_blind, va_recv hK hP hc (wl_at ha), fun U hU hW => ⟨rfl, by rw [hU]; exact Nat.le_trans hbs hS.1, by rw [hU]; exact hP, kw_call ⟨hK, hox⟩ hS hU hW⟩⟩ rfl rfl (hl.1.trans hml) rfl (lv_room hr) hd hrm
  intro T hT X
  rcases hrun T hT X with ⟨v, st₀, t, T', L, h0, X', hL, e1, e2, ⟨⟨v', N, hv, hp, hbb⟩, hF⟩, stp⟩ | ⟨q, st₀, t, T', L, E, ce, h0, X', hL, e1, e2, ⟨hxe, hPt, hF⟩, hce, hcv, hcl, stp⟩
  · cases hv
    obtain ⟨k1, k2, k3⟩ := vx_keep h0 e1 hS (fun q _ z => z) (fun q z => z) hL hF
    obtain ⟨t2, a1, b1⟩ := k v N hp T'.heap (locs ++ L) ls hl (by rw [e1]; exact hbb) k3 T' rfl X'
    exact ⟨t2, stp t2 a1, b1⟩
  · obtain ⟨k1, k2, k3⟩ := vx_keep h0 e1 hS (fun q _ z => z) (fun q z => z) hL hF
    obtain ⟨t2, a1, b1⟩ := kx E q hxe T'.heap (locs ++ L) ls ce hl (by rw [e1]; exact hPt) k3 (by rw [e1]; exact hce) hcv hcl T' rfl X'
    exact ⟨t2, stp.trans a1, b1⟩
def tbX_ : mc_ → List ExceptionTableEntry → Prop
  | (_, _, _, _, _, _, _, _, _, c, _, _), t => c.exceptionTable.toList = t
def ncX2_ : mc_ → String → String → Prop
  | (_, _, _, _, s, _, _, _, _, _, _, _), a, b => va_Nc a b s
theorem w_catch {E : String} {q : Nat} (X : cx_ C G own cc nL ry d) (pre : List ExceptionTableEntry) (x : ExceptionTableEntry) (suf : List ExceptionTableEntry) (ht : tbX_ C (pre ++ x :: suf)) (hE : E ∈ nx_)
    (hpass : ∀ z ∈ pre, z.catchType ≠ 0 ∧ ∃ nm, Cond.classLink own z.catchType nm ∈ gw_ ∧ ncX2_ C E nm) (hx : covers x pc = true) (h0 : x.catchType ≠ 0) (hlink : Cond.classLink own x.catchType E ∈ gw_)
    (k : wq_ C G Q x.handlerPc lv [.ref q] M) : wqx_ C G Q pc lv st M E q := by
  obtain ⟨p, l, e, R, s, m, args, below, meth, c, cs, sl⟩ := C
  obtain ⟨hx9, hb, hml, hrt, hown, hts, ⟨hK, hox⟩, hG, hbs, hlk, hfr, hlo, hcs, hsl⟩ := X
  intro H locs ls ce hl hP hS hce hcv hcl
  exact vx_catch hown pre x suf ht (fun z hz => Or.inr ⟨(hpass z hz).1, (hpass z hz).2.choose, hts _ (hpass z hz).2.choose_spec.1, (hpass z hz).2.choose_spec.2⟩) hx h0 (hts _ hlink) (va_Nw.use rfl (hox.2.2.1.1 E hE)) hce hcv hcl (k H locs ls hl hP hS)
end THROWING
theorem xg69 : Cond.classLink RX11 69 "java/lang/IllegalArgumentException" ∈ gw_ := gw_of (by decide +kernel) (by decide)
theorem xg139 : Cond.classLink RX11 139 "java/lang/IndexOutOfBoundsException" ∈ gw_ := gw_of (by decide +kernel) (by decide)
theorem xi1 : Cond.initialized "java/lang/IllegalArgumentException" ∈ gw_ := gw_of (by decide +kernel) (by decide)
theorem xi2 : Cond.initialized "java/lang/IndexOutOfBoundsException" ∈ gw_ := gw_of (by decide +kernel) (by decide)
theorem xa71 : ∀ w ∈ (vx_at0 RX11 71 "java/lang/IllegalArgumentException" nmx_).filter goodWord, w ∈ lw_tbl := by decide +kernel
theorem xa141 : ∀ w ∈ (vx_at0 RX11 141 "java/lang/IndexOutOfBoundsException" nmx_).filter goodWord, w ∈ lw_tbl := by decide +kernel
theorem xb71 : ∀ w ∈ (vx_at0 RX11 71 "java/lang/IllegalArgumentException" nmx_).filter (fun w => !goodWord w), w ∈ xB_ "java/lang/IllegalArgumentException" := by decide +kernel
theorem xb141 : ∀ w ∈ (vx_at0 RX11 141 "java/lang/IndexOutOfBoundsException" nmx_).filter (fun w => !goodWord w), w ∈ xB_ "java/lang/IndexOutOfBoundsException" := by decide +kernel
theorem xo71 : ∀ w ∈ Cond.classLink RX11 69 "java/lang/IllegalArgumentException" :: Cond.initialized "java/lang/IllegalArgumentException" :: vx_at0 RX11 71 "java/lang/IllegalArgumentException" nmx_, vx_ot w = true := by decide +kernel
theorem xo141 : ∀ w ∈ Cond.classLink RX11 139 "java/lang/IndexOutOfBoundsException" :: Cond.initialized "java/lang/IndexOutOfBoundsException" :: vx_at0 RX11 141 "java/lang/IndexOutOfBoundsException" nmx_, vx_ot w = true := by decide +kernel
section THROWN
variable {C : mc_} {G : gg_} {pc : Nat} {lv : List (Option Value)} {M : mm_} {cc : ByteArray} {nL : Nat} {ry : Option FieldType} {d : Nat} {post : Option Value → mm_ → Prop} {xe : String → Prop}
theorem w_throwA (X : cx_ C G RX11 cc nL ry d) (Z : txX_ C) (hd6 : 6 ≤ d) (d0 : decode cc pc = .ok (.new 69, 3)) (d3 : decode cc (pc + 3) = .ok (.dup, 1)) (d4 : decode cc (pc + 4) = .ok (.invokespecial 71, 3)) (d7 : decode cc (pc + 7) = .ok (.athrow, 1)) (hxe : xe "java/lang/IllegalArgumentException") : wq_ C G (qxX_ C G post xe M) pc lv [] M := w_throw X Z hd6 (by decide) (by decide) xg69 xi1 (fun w hw => gw_of (xa71 w hw) (List.mem_filter.mp hw).2) xb71 xo71 d0 d3 d4 d7 hxe
theorem w_throwI (X : cx_ C G RX11 cc nL ry d) (Z : txX_ C) (hd6 : 6 ≤ d) (d0 : decode cc pc = .ok (.new 139, 3)) (d3 : decode cc (pc + 3) = .ok (.dup, 1)) (d4 : decode cc (pc + 4) = .ok (.invokespecial 141, 3)) (d7 : decode cc (pc + 7) = .ok (.athrow, 1)) (hxe : xe "java/lang/IndexOutOfBoundsException") : wq_ C G (qxX_ C G post xe M) pc lv [] M := w_throw X Z hd6 (by decide) (by decide) xg139 xi2 (fun w hw => gw_of (xa141 w hw) (List.mem_filter.mp hw).2) xb141 xo141 d0 d3 d4 d7 hxe
end THROWN
end
section
/-! ProbeConsole: the methods that may throw -/
def byX_ (x : Int64) (s : Int32) : Int32 := (x.toUInt64 >>> (s.toInt64.toUInt64 &&& Int64.toUInt64 63)).toInt64.toInt32 &&& 255
def apX_ (M : mm_) (x : Int64) (n : Nat) : Nat → mm_
  | 0 => M
  | j + 1 => sI_ (sI_ (apX_ M x n j) 36 (n + j) (byX_ x (8 * nI j))) 35 1 (nI (n + j + 1))
theorem ap_1 {M : mm_} {x : Int64} {n : Nat} (h : M.1 35 1 = nI n) : ∀ j, (apX_ M x n j).1 35 1 = nI (n + j)
  | 0 => h
  | j + 1 => by rw [apX_, gI_sI, if_pos ⟨rfl, rfl⟩]; rfl
theorem ap_o {M : mm_} {x : Int64} {n : Nat} : ∀ j a i, ¬ a = 36 → ¬ (a = 35 ∧ i = 1) → (apX_ M x n j).1 a i = M.1 a i
  | 0, _, _, _, _ => rfl
  | j + 1, a, i, h1, h2 => by rw [apX_, gI_sI, if_neg h2, gI_sI, if_neg (fun z => h1 z.1), ap_o j a i h1 h2]
theorem ap_2 {M : mm_} {x : Int64} {n : Nat} : ∀ j, (apX_ M x n j).2 = M.2
  | 0 => rfl
  | j + 1 => ap_2 (M := M) (x := x) (n := n) j
def FDX_ (n : Nat) (w : Int32) (x : Int64) (M : mm_) (r : Int32) (N : mm_) : Prop := ∃ k, w = nI k ∧ 1 ≤ k ∧ k ≤ 8 ∧ ((200 < n + k ∧ r = -1 ∧ N = M) ∨ (n + k ≤ 200 ∧ r = nI (n + k) ∧ N = apX_ M x n k))
theorem rH_in {M : mm_} {k z : Nat} {x : Int32} (hz : M.1 k 3 = nI z) (hz2 : z < 2147483648) (h : ¬ rH_ M k x = 0) : ∃ i, i < z ∧ x = nI i := by
  unfold rH_ at h
  by_cases g : 0 ≤ x ∧ x < M.1 k 3
  · rw [hz] at g
    exact ix_ hz2 (Int32.not_lt.mpr g.1) (Int32.not_le.mpr g.2)
  · rw [if_neg g] at h; exact absurd rfl h
theorem rC_at {M : mm_} {i j : Nat} (h1 : M.1 245 1 = 7) (hi : i < 40) (hj : j < 7) : rC_ M 245 280 (nI i) (nI j) = M.1 246 (7 * i + j) := by
  have e : nI i * M.1 245 1 + nI j = nI (7 * i + j) := by rw [h1, show (7 : Int32) = nI 7 from rfl, pk_mul, nI_add, Nat.mul_comm i 7]
  unfold rC_
  rw [e, if_pos ⟨nI_le (a := 0) (b := 7 * i + j) (by omega) (by omega), nI_lt (a := 7 * i + j) (b := 280) (by omega) (by omega)⟩, nI_clamp (by omega)]
set_option maxRecDepth 100000 in
set_option maxHeartbeats 600000 in
theorem c11_feed (G : gg_) (hG : gd_ G) (d : Nat) (M : mm_) (n : Nat) (ht : tpX_ M n) (w : Int32) (x : Int64) : cmx_ G yX11_feed cX11_feed 5 (some .int) (d + 6) [.ref (G.1 34), .int w, .long x] M (rI_ (FDX_ n w x M)) (fun E => E = "java/lang/IllegalArgumentException" ∧ (w < 1 ∨ 8 < w)) := by
  refine cmx_of hG (by decide) (Nat.le_of_ble_eq_true rfl) (fun C X Z => ?_)
  have hn200 := ht.1
  have lp : ∀ (u k j : Nat), w = nI k → 1 ≤ k → k ≤ 8 → n + k ≤ 200 → j + u = k → wq_ C G (qxX_ C G (rI_ (FDX_ n w x M)) (fun E => E = "java/lang/IllegalArgumentException" ∧ (w < 1 ∨ 8 < w)) M) 39 [some (.ref (G.1 34)), some (.int w), some (.long x), none, some (.int (nI j))] [] (apX_ M x n j) := by
    intro u
    induction u with
    | zero =>
      intro k j hw h1 h8 hn hu
      obtain rfl : j = k := by omega
      refine w_iload X dX11_feed_39 rfl ?_
      refine w_iload_n X dX11_feed_41 rfl rfl ?_
      refine w_icmp_ge (tgt := 70) X dX11_feed_42 (by decide) (fun h42 => ?_) (fun h42 => absurd (by rw [hw]; exact Int32.le_refl _) h42)
      refine w_aload_n X dX11_feed_70 rfl rfl ?_
      refine g11_10 X dX11_feed_71 s_34 rfl ?_
      refine g11_72 X dX11_feed_74 s_35 rfl ?_
      rw [ap_1 ht.2]
      exact w_irX X Z dX11_feed_77 ⟨_, rfl, j, hw, h1, h8, Or.inr ⟨hn, rfl, rfl⟩⟩
    | succ u ih =>
      intro k j hw h1 h8 hn hu
      refine w_iload X dX11_feed_39 rfl ?_
      refine w_iload_n X dX11_feed_41 rfl rfl ?_
      refine w_icmp_ge (tgt := 70) X dX11_feed_42 (by decide) (fun h42 => absurd h42 (by rw [hw]; exact nI_ge (a := j) (b := k) (by omega) (by omega))) (fun h42 => ?_)
      refine w_aload_n X dX11_feed_45 rfl rfl ?_
      refine g11_10 X dX11_feed_46 s_34 rfl ?_
      refine w_lload_n X dX11_feed_49 rfl rfl ?_
      refine w_bipush (v := 8) X dX11_feed_50 (by decide) ?_
      refine w_iload X dX11_feed_52 rfl ?_
      refine w_imul X dX11_feed_54 ?_
      refine w_lushr X dX11_feed_55 ?_
      refine w_l2i X dX11_feed_56 ?_
      refine w_sipush (v := 255) X dX11_feed_57 (by decide) ?_
      refine w_iand X dX11_feed_60 ?_
      refine w_v1fV X dX11_feed_61 k11_76 rfl s_35 (c9_append G hG _ _ (n + j) (by omega) (ap_1 ht.2 j) _) (Nat.le_of_ble_eq_true rfl) ?_
      refine w_iinc (v := 1) X dX11_feed_64 rfl (by decide) (by decide) ?_
      refine w_goto (tgt := 39) X dX11_feed_67 (by decide) ?_
      rw [nI_1]
      exact ih k (j + 1) hw h1 h8 hn (by omega)
  refine w_iload_n X dX11_feed_0 rfl rfl ?_
  refine w_iconst (v := 1) X dX11_feed_1 (by decide) ?_
  refine w_icmp_lt (tgt := 11) X dX11_feed_2 (by decide) (fun h2 => ?_) (fun h2 => ?_)
  · exact w_throwA X Z (by omega) dX11_feed_11 dX11_feed_14 dX11_feed_15 dX11_feed_18 (⟨rfl, Or.inl h2⟩)
  · refine w_iload_n X dX11_feed_5 rfl rfl ?_
    refine w_bipush (v := 8) X dX11_feed_6 (by decide) ?_
    refine w_icmp_le (tgt := 19) X dX11_feed_8 (by decide) (fun h8 => ?_) (fun h8 => ?_)
    · refine w_aload_n X dX11_feed_19 rfl rfl ?_
      refine g11_10 X dX11_feed_20 s_34 rfl ?_
      refine g11_72 X dX11_feed_23 s_35 rfl ?_
      obtain ⟨k9, hk9, ek9⟩ := ix_ (x := w) (n := 9) (by decide) (fun z => h2 (Int32.lt_trans z (by decide))) (fun z => absurd (Int32.le_trans z h8) (by decide))
      have hk1 : 1 ≤ k9 := Nat.pos_of_ne_zero (fun z => h2 (by rw [ek9, z]; decide))
      subst ek9
      rw [ht.2]
      refine w_iload_n X dX11_feed_26 rfl rfl ?_
      refine w_iadd X dX11_feed_27 ?_
      rw [nI_add]
      refine w_sipush (v := 200) X dX11_feed_28 (by decide) ?_
      refine w_icmp_le (tgt := 36) X dX11_feed_31 (by decide) (fun h31 => ?_) (fun h31 => ?_)
      · refine w_iconst (v := 0) X dX11_feed_36 (by decide) ?_
        refine w_istore X dX11_feed_37 (by decide) ?_
        exact lp k9 k9 0 rfl hk1 (by omega) ((nI_leI (a := n + k9) (b := 200) (by omega) (by decide)).mp h31) (by omega)
      · refine w_iconst (v := -1) X dX11_feed_34 (by decide) ?_
        exact w_irX X Z dX11_feed_35 ⟨_, rfl, k9, rfl, hk1, by omega, Or.inl ⟨Nat.lt_of_not_le (fun z => h31 (nI_le (a := n + k9) (b := 200) z (by decide))), rfl, rfl⟩⟩
    · exact w_throwA X Z (by omega) dX11_feed_11 dX11_feed_14 dX11_feed_15 dX11_feed_18 (⟨rfl, Or.inr (Int32.not_le.mp h8)⟩)
set_option maxRecDepth 100000 in
set_option maxHeartbeats 600000 in
theorem c11_record (G : gg_) (hG : gd_ G) (d : Nat) (M : mm_) (i w : Int32) : cmx_ G yX11_record cX11_record 3 (some .int) (d + 6) [.ref (G.1 34), .int i, .int w] M (rI_ (fun r N => N = M ∧ r = rC_ M 243 1500 i w ∧ ¬ rH_ M 243 i = 0 ∧ 0 ≤ w ∧ w < 5)) (fun E => (E = "java/lang/IndexOutOfBoundsException" ∧ rH_ M 243 i = 0) ∨ (E = "java/lang/IllegalArgumentException" ∧ ¬ rH_ M 243 i = 0 ∧ (w < 0 ∨ 5 ≤ w))) := by
  refine cmx_of hG (by decide) (Nat.le_of_ble_eq_true rfl) (fun C X Z => ?_)
  refine w_aload_n X dX11_record_0 rfl rfl ?_
  refine g11_53 X dX11_record_1 s_34 rfl ?_
  refine w_iload_n X dX11_record_4 rfl rfl ?_
  refine w_v1fI X dX11_record_5 k11_162 rfl s_243 (c8_has G hG _ _ 243 1500 rw_rec _) (Nat.le_of_ble_eq_true rfl) ?_
  refine w_if_ne (tgt := 19) X dX11_record_8 (by decide) (fun h8 => ?_) (fun h8 => ?_)
  · refine w_iload_n X dX11_record_19 rfl rfl ?_
    refine w_if_lt (tgt := 28) X dX11_record_20 (by decide) (fun h20 => ?_) (fun h20 => ?_)
    · exact w_throwA X Z (by omega) dX11_record_28 dX11_record_31 dX11_record_32 dX11_record_35 (Or.inr ⟨rfl, h8, Or.inl h20⟩)
    · refine w_iload_n X dX11_record_23 rfl rfl ?_
      refine w_iconst (v := 5) X dX11_record_24 (by decide) ?_
      refine w_icmp_lt (tgt := 36) X dX11_record_25 (by decide) (fun h25 => ?_) (fun h25 => ?_)
      · refine w_aload_n X dX11_record_36 rfl rfl ?_
        refine g11_53 X dX11_record_37 s_34 rfl ?_
        refine w_iload_n X dX11_record_40 rfl rfl ?_
        refine w_iload_n X dX11_record_41 rfl rfl ?_
        refine w_v2fI X dX11_record_42 k11_163 rfl s_243 (c8_cell G hG _ _ 243 1500 rw_rec _ _) (Nat.le_of_ble_eq_true rfl) ?_
        exact w_irX X Z dX11_record_45 ⟨_, rfl, rfl, rfl, h8, Int32.not_lt.mp h20, h25⟩
      · exact w_throwA X Z (by omega) dX11_record_28 dX11_record_31 dX11_record_32 dX11_record_35 (Or.inr ⟨rfl, h8, Or.inr (Int32.not_lt.mp h25)⟩)
  · exact w_throwI X Z (by omega) dX11_record_11 dX11_record_14 dX11_record_15 dX11_record_18 (Or.inl ⟨rfl, h8⟩)
set_option maxRecDepth 100000 in
set_option maxHeartbeats 600000 in
theorem c11_kept (G : gg_) (hG : gd_ G) (d : Nat) (M : mm_) (i w : Int32) : cmx_ G yX11_kept cX11_kept 3 (some .int) (d + 6) [.ref (G.1 34), .int i, .int w] M (rI_ (fun r N => N = M ∧ r = rC_ M 245 280 i w ∧ ¬ rH_ M 245 i = 0 ∧ 0 ≤ w ∧ w < 7)) (fun E => (E = "java/lang/IndexOutOfBoundsException" ∧ rH_ M 245 i = 0) ∨ (E = "java/lang/IllegalArgumentException" ∧ ¬ rH_ M 245 i = 0 ∧ (w < 0 ∨ 7 ≤ w))) := by
  refine cmx_of hG (by decide) (Nat.le_of_ble_eq_true rfl) (fun C X Z => ?_)
  refine w_aload_n X dX11_kept_0 rfl rfl ?_
  refine g11_57 X dX11_kept_1 s_34 rfl ?_
  refine w_iload_n X dX11_kept_4 rfl rfl ?_
  refine w_v1fI X dX11_kept_5 k11_162 rfl s_245 (c8_has G hG _ _ 245 280 rw_kept _) (Nat.le_of_ble_eq_true rfl) ?_
  refine w_if_ne (tgt := 19) X dX11_kept_8 (by decide) (fun h8 => ?_) (fun h8 => ?_)
  · refine w_iload_n X dX11_kept_19 rfl rfl ?_
    refine w_if_lt (tgt := 29) X dX11_kept_20 (by decide) (fun h20 => ?_) (fun h20 => ?_)
    · exact w_throwA X Z (by omega) dX11_kept_29 dX11_kept_32 dX11_kept_33 dX11_kept_36 (Or.inr ⟨rfl, h8, Or.inl h20⟩)
    · refine w_iload_n X dX11_kept_23 rfl rfl ?_
      refine w_bipush (v := 7) X dX11_kept_24 (by decide) ?_
      refine w_icmp_lt (tgt := 37) X dX11_kept_26 (by decide) (fun h26 => ?_) (fun h26 => ?_)
      · refine w_aload_n X dX11_kept_37 rfl rfl ?_
        refine g11_57 X dX11_kept_38 s_34 rfl ?_
        refine w_iload_n X dX11_kept_41 rfl rfl ?_
        refine w_iload_n X dX11_kept_42 rfl rfl ?_
        refine w_v2fI X dX11_kept_43 k11_163 rfl s_245 (c8_cell G hG _ _ 245 280 rw_kept _ _) (Nat.le_of_ble_eq_true rfl) ?_
        exact w_irX X Z dX11_kept_46 ⟨_, rfl, rfl, rfl, h8, Int32.not_lt.mp h20, h26⟩
      · exact w_throwA X Z (by omega) dX11_kept_29 dX11_kept_32 dX11_kept_33 dX11_kept_36 (Or.inr ⟨rfl, h8, Or.inr (Int32.not_lt.mp h26)⟩)
  · exact w_throwI X Z (by omega) dX11_kept_11 dX11_kept_14 dX11_kept_15 dX11_kept_18 (Or.inl ⟨rfl, h8⟩)
set_option maxRecDepth 100000 in
set_option maxHeartbeats 600000 in
theorem c11_job (G : gg_) (hG : gd_ G) (d : Nat) (M : mm_) (J : Nat → Nat) (S : Nat) (hq : jq_ M J S) (j w : Int32) : cmx_ G yX11_job cX11_job 3 (some .int) (d + 6) [.ref (G.1 34), .int j, .int w] M (rI_ (fun r N => N = M ∧ ∃ i, i < 8 ∧ j = nI i ∧ 0 ≤ w ∧ w ≤ 1 ∧ r = (if w = 0 then M.1 (135 + 12 * J i) 0 else lft_ M (135 + 12 * J i)))) (fun E => (E = "java/lang/IndexOutOfBoundsException" ∧ (j < 0 ∨ 8 ≤ j)) ∨ (E = "java/lang/IllegalArgumentException" ∧ ¬ (j < 0 ∨ 8 ≤ j) ∧ (w < 0 ∨ 1 < w))) := by
  refine cmx_of hG (by decide) (Nat.le_of_ble_eq_true rfl) (fun C X Z => ?_)
  refine w_iload_n X dX11_job_0 rfl rfl ?_
  refine w_if_lt (tgt := 10) X dX11_job_1 (by decide) (fun h1 => ?_) (fun h1 => ?_)
  · exact w_throwI X Z (by omega) dX11_job_10 dX11_job_13 dX11_job_14 dX11_job_17 (Or.inl ⟨rfl, Or.inl h1⟩)
  · refine w_iload_n X dX11_job_4 rfl rfl ?_
    refine w_bipush (v := 8) X dX11_job_5 (by decide) ?_
    refine w_icmp_lt (tgt := 18) X dX11_job_7 (by decide) (fun h7 => ?_) (fun h7 => ?_)
    · obtain ⟨i, hi, ei⟩ := ix_ (n := 8) (by decide) h1 (Int32.not_le.mpr h7)
      subst ei
      refine w_iload_n X dX11_job_18 rfl rfl ?_
      refine w_if_lt (tgt := 27) X dX11_job_19 (by decide) (fun h19 => ?_) (fun h19 => ?_)
      · exact w_throwA X Z (by omega) dX11_job_27 dX11_job_30 dX11_job_31 dX11_job_34 (Or.inr ⟨rfl, fun z => z.elim h1 (fun y => absurd y (Int32.not_le.mpr h7)), Or.inl h19⟩)
      · refine w_iload_n X dX11_job_22 rfl rfl ?_
        refine w_iconst (v := 1) X dX11_job_23 (by decide) ?_
        refine w_icmp_le (tgt := 35) X dX11_job_24 (by decide) (fun h24 => ?_) (fun h24 => ?_)
        · refine w_iload_n X dX11_job_35 rfl rfl ?_
          refine w_if_ne (tgt := 53) X dX11_job_36 (by decide) (fun h36 => ?_) (fun h36 => ?_)
          · refine w_aload_n X dX11_job_53 rfl rfl ?_
            refine g11_44 X dX11_job_54 s_34 rfl ?_
            refine w_iload_n X dX11_job_57 rfl rfl ?_
            refine w_v1fR X dX11_job_58 k11_167 rfl s_133 (c3_at G hG _ _ J S hq i hi) (Nat.le_of_ble_eq_true rfl) ?_
            refine w_v0fI X dX11_job_61 k11_176 rfl (jq_jd hq hi).1 (c2_left G hG _ _ _ (jq_jd hq hi)) (Nat.le_of_ble_eq_true rfl) ?_
            exact w_irX X Z dX11_job_64 ⟨_, rfl, rfl, i, hi, rfl, Int32.not_lt.mp h19, h24, (if_neg h36).symm⟩
          · refine w_aload_n X dX11_job_39 rfl rfl ?_
            refine g11_44 X dX11_job_40 s_34 rfl ?_
            refine w_iload_n X dX11_job_43 rfl rfl ?_
            refine w_v1fR X dX11_job_44 k11_167 rfl s_133 (c3_at G hG _ _ J S hq i hi) (Nat.le_of_ble_eq_true rfl) ?_
            refine g11_171 X dX11_job_47 (jq_jd hq hi).1 rfl ?_
            refine w_goto (tgt := 64) X dX11_job_50 (by decide) ?_
            exact w_irX X Z dX11_job_64 ⟨_, rfl, rfl, i, hi, rfl, Int32.not_lt.mp h19, h24, (if_pos h36).symm⟩
        · exact w_throwA X Z (by omega) dX11_job_27 dX11_job_30 dX11_job_31 dX11_job_34 (Or.inr ⟨rfl, fun z => z.elim h1 (fun y => absurd y (Int32.not_le.mpr h7)), Or.inr (Int32.not_le.mp h24)⟩)
    · exact w_throwI X Z (by omega) dX11_job_10 dX11_job_13 dX11_job_14 dX11_job_17 (Or.inl ⟨rfl, Or.inr (Int32.not_lt.mp h7)⟩)
end
section
/-! the class between calls: what stays so (XI_) -/
def jdX_ (J : Nat → Nat) (S : Nat) : Prop := (∀ i, i < 8 → ¬ J i = S) ∧ ∀ i j, i < 8 → j < 8 → J i = J j → i = j
def XSt_ (c : Nat) (J : Nat → Nat) (S : Nat) (M : mm_) : Prop := kmX_ c J S M ∧ jdX_ J S ∧ kpX_ M ∧ zoX_ (M.1 247 10)
def XI_ (n : Nat) (M : mm_) : Prop := tpX_ M n ∧ ∃ c J S, XSt_ c J S M
theorem mee_o {M : mm_} {k : Nat} {x : Int32} {y : Int64} {a i : Nat} (h : ¬ (a = k ∧ i = 9)) : (mee_ M k x y).1 a i = M.1 a i := by
  unfold mee_; split
  · rfl
  · rw [gI_sI, if_neg h]
theorem mee_2 {M : mm_} {k : Nat} {x : Int32} {y : Int64} : (mee_ M k x y).2 = M.2 := by unfold mee_; split <;> rfl
theorem jm_37 {J : Nat → Nat} {x : Int32} {y : Int64} : ∀ (u i : Nat) (M : mm_) (b j : Nat), b < 135 → (jm1_ J x y u i M).1 b j = M.1 b j
  | 0, _, _, _, _, _ => rfl
  | u + 1, i, M, b, j, h => by rw [jm1_, jm_37 u (i + 1) _ b j h, mee_o (by omega)]
theorem me_o {c k : Nat} : ∀ (u m : Nat) (M : mm_) (a i : Nat), ¬ (a = k ∧ i = 9) → (me1_ c k u m M).1 a i = M.1 a i
  | 0, _, _, _, _, _ => rfl
  | u + 1, m, M, a, i, h => by rw [me1_, me_o u (m + 1) _ a i h, mee_o h]
theorem me_2 {c k : Nat} : ∀ (u m : Nat) (M : mm_), (me1_ c k u m M).2 = M.2
  | 0, _, _ => rfl
  | u + 1, m, M => by rw [me1_, me_2 u (m + 1), mee_2]
end
