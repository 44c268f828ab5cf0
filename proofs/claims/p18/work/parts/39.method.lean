section
/-! method: a method's text, its faults, and where it is kept -/
def po_ {α : Type} : α ⊕ (Int32 × Nat) → Prop
  | .inl _ => True
  | .inr (f, _) => 0 < f
theorem po_1 {α : Type} {k : Nat} : po_ (α := α) (.inr (1, k)) := (by decide : (0 : Int32) < 1)
theorem po_2 {α : Type} {k : Nat} : po_ (α := α) (.inr (2, k)) := (by decide : (0 : Int32) < 2)
theorem po_3 {α : Type} {k : Nat} : po_ (α := α) (.inr (3, k)) := (by decide : (0 : Int32) < 3)
theorem po_4 {α : Type} {k : Nat} : po_ (α := α) (.inr (4, k)) := (by decide : (0 : Int32) < 4)
theorem po_rn {f : Nat → Int32} {n k nd op : Nat} {W : List fr_} : po_ (rn2_ f n k W nd op) := by
  unfold rn2_
  repeat' split
  all_goals first | exact po_1 | exact po_2 | exact po_3 | trivial
theorem po_rr {M : mm_} {n k nd op : Nat} {W : List fr_} : po_ (rr_ M n k W nd op) := by
  unfold rr_
  repeat' split
  all_goals first | exact po_1 | exact po_3 | exact po_4 | trivial
theorem po_so {M : mm_} {n k nd op : Nat} {W : List fr_} : po_ (so_ M n k W nd op) := by
  unfold so_
  split
  · exact po_1
  · split
    · unfold co0_
      split
      · exact po_1
      · trivial
    · unfold so2_
      split
      · exact po_3
      · split
        · exact po_rn
        · split
          · split
            · exact po_3
            · trivial
          · split
            · split
              · exact po_3
              · trivial
            · split
              · exact po_rr
              · exact po_1
theorem po_bt {k nd op L : Nat} {c : Int32} {W : List fr_} {e : Term} : po_ (bt_ L c k W e nd op) := by
  unfold bt_
  generalize rt_ (if L = 3 then 4 else L) W e = q
  split
  · exact po_1
  · split
    · exact po_3
    · trivial
theorem po_si {c : Int32} {k nd op : Nat} {W : List fr_} {e : Term} : po_ (si_ c k W e nd op) := by
  unfold si_
  split
  · unfold ha_
    split
    · exact po_3
    · trivial
  · split
    · unfold qu_
      split
      · exact po_3
      · trivial
    · split
      · unfold cl_
        split
        · exact po_1
        · split
          · trivial
          · exact po_1
      · split
        · exact po_bt
        · split
          · exact po_bt
          · split
            · exact po_bt
            · split
              · unfold cm2_
                split
                · exact po_1
                · split
                  · trivial
                  · exact po_1
              · split
                · unfold cz_
                  split
                  · exact po_1
                  · split
                    · trivial
                    · split
                      · trivial
                      · exact po_1
                · exact po_1
theorem po_lo {M : mm_} {n : Nat} : ∀ (t : Nat) (S : ss_), po_ (lo_ M n t S)
  | 0, _ => trivial
  | t + 1, (k, W, u, nd, op) => by
    cases u with
    | none =>
      have h := po_so (M := M) (n := n) (k := k) (nd := nd) (op := op) (W := W)
      simp only [lo_]
      cases hS : so_ M n k W nd op with
      | inl S2 => exact po_lo t S2
      | inr q => rw [hS] at h; exact h
    | some e =>
      have h := po_si (c := bf_ M n k) (k := k) (nd := nd) (op := op) (W := W) (e := e)
      simp only [lo_]
      split
      · trivial
      · cases hS : si_ (bf_ M n k) k W e nd op with
        | inl S2 => exact po_lo t S2
        | inr q => rw [hS] at h; exact h
theorem po_ex {M : mm_} {n k : Nat} : po_ (ex_ M n k) := by
  unfold ex_
  have h := po_lo (M := M) (n := n) (n + 1 - k) (k, [], none, 0, 0)
  cases hS : lo_ M n (n + 1 - k) (k, [], none, 0, 0) with
  | inr q => rw [hS] at h; exact h
  | inl S =>
    simp only [fx_]
    split
    · exact po_1
    · split
      · trivial
      · exact po_1
theorem lo_pf {M N : mm_} {n : Nat} (h : pf_ M N) : ∀ (t : Nat) (S : ss_), lo_ N n t S = lo_ M n t S
  | 0, _ => rfl
  | t + 1, (k, W, u, nd, op) => by
    have e1 : bf_ N n = bf_ M n := bf_pf h
    have e14 : N.1 0 14 = M.1 0 14 := h.1 0 14 (by omega) (by omega) (by omega) (by omega) (by omega) (by omega)
    cases u with
    | none =>
      simp only [lo_]
      rw [so_pf h]
      cases hS : so_ M n k W nd op with
      | inl S2 => exact lo_pf h t S2
      | inr q => rfl
    | some e =>
      simp only [lo_]
      rw [e1, e14]
      cases hS : si_ (bf_ M n k) k W e nd op with
      | inl S2 => simp only; rw [lo_pf h t S2]
      | inr q => rfl
theorem ex_pf {M N : mm_} {n k : Nat} (h : pf_ M N) : ex_ N n k = ex_ M n k := by
  unfold ex_
  rw [lo_pf h]
theorem fm_cg {M N : mm_} (h5 : ∀ i, N.2.1 5 i = M.2.1 5 i) (h6 : ∀ i, N.1 6 i = M.1 6 i) (a : Int64) (b : Int32) : ∀ (u m : Nat), fm_ N a b u m = fm_ M a b u m
  | 0, _ => rfl
  | u + 1, m => by
    simp only [fm_]
    rw [h5, h6, fm_cg h5 h6 a b u (m + 1)]
/-- the memory as a method's text begins, but for the parser's cells -/
def mw_ (M : mm_) (v : Int32) : mm_ := sI_ (sI_ (bg_ M) 0 14 0) 0 15 v
theorem mw_pf {M N : mm_} {v : Int32} (p : Int32) (h : pf_ (mw_ M v) N) : pf_ (mw_ M p) (sI_ N 0 15 p) := by
  refine ⟨fun a i a1 a2 a3 a4 a5 a6 => ?_, h.2.1, h.2.2.1, fun y => ?_, fun y => ?_⟩
  · by_cases q : a = 0 ∧ i = 15
    · obtain ⟨rfl, rfl⟩ := q
      simp [mw_, sI_]
    · rw [sI_ne _ _ _ _ q, h.1 a i a1 a2 a3 a4 a5 a6]
      unfold mw_
      rw [sI_ne _ _ _ _ q, sI_ne _ _ _ _ q]
  · exact h.2.2.2.1 y
  · obtain ⟨r, hr, e⟩ := h.2.2.2.2 y
    exact ⟨r, hr, by simpa [sI_] using e⟩
theorem mw_at {M N : mm_} {v : Int32} (h : pf_ (mw_ M v) N) {i : Nat} (hi : i ≠ 0 ∧ i ≠ 3 ∧ i ≠ 4 ∧ i ≠ 5 ∧ i ≠ 12 ∧ i ≠ 13 ∧ i ≠ 14 ∧ i ≠ 15 ∧ i ≠ 20 ∧ i ≠ 22 ∧ i ≠ 23) : N.1 0 i = M.1 0 i := by
  rw [h.1 0 i (by omega) (by omega) (by omega) (by omega) (by omega) (by omega)]
  unfold mw_ bg_
  rw [sI_ne _ _ _ _ (by omega), sI_ne _ _ _ _ (by omega), sI_ne _ _ _ _ (by omega), sI_ne _ _ _ _ (by omega), sI_ne _ _ _ _ (by omega), sI_ne _ _ _ _ (by omega)]
theorem mw_tz {M N : mm_} {v : Int32} {n : Nat} (h : pf_ (mw_ M v) N) (ht : tz_ M n) : tz_ N n := ⟨(mw_at h (by omega)).trans ht.1, ht.2⟩
theorem mw_bf {M N : mm_} {v : Int32} {n : Nat} (h : pf_ (mw_ M v) N) : bf_ N n = bf_ M n := by
  rw [bf_pf h]
  funext k
  unfold bf_ mw_ bg_
  rw [sI_ne _ _ _ _ (by omega), sI_ne _ _ _ _ (by omega), sI_ne _ _ _ _ (by omega), sI_ne _ _ _ _ (by omega), sI_ne _ _ _ _ (by omega), sI_ne _ _ _ _ (by omega)]
/-- the head of a method's text: its fault, if it has one -/
def mh_ (M : mm_) (n : Nat) : Option (Int32 × Nat) :=
  if 12 < rz_ M n 0 then some (3, 12) else if ¬ ne_ (bf_ M n) 0 (rz_ M n 0) then some (1, 0) else if ¬ bf_ M n (rz_ M n 0) = 40 then some (1, rz_ M n 0)
  else if bf_ M n (rz_ M n 0 + 1) - 48 < 0 ∨ ¬ bf_ M n (rz_ M n 0 + 1) - 48 ≤ 3 then some (1, rz_ M n 0 + 1) else if ¬ bf_ M n (rz_ M n 0 + 2) = 41 then some (1, rz_ M n 0 + 2)
  else if ¬ bf_ M n (rz_ M n 0 + 3) = 61 then some (1, rz_ M n 0 + 3) else none
def me2_ (M : mm_) (n c : Nat) (a : Int64) (p : Int32) : (Term × Nat) ⊕ (Int32 × Nat) → (Term × Int64 × Int32) ⊕ (Int32 × Nat)
  | .inr q => .inr q
  | .inl (e, _) => if c = 16 ∨ ¬ fm_ M a p c 0 < 0 then .inr (5, n) else .inl (e, a, p)
/-- a method's text: its tree, its name, the number of its parameters, or the fault -/
def ml_ (E : (Term × Int64 × Int32) ⊕ (Int32 × Nat)) : Option (Int32 × Nat) → (Term × Int64 × Int32) ⊕ (Int32 × Nat)
  | some q => .inr q
  | none => E
theorem ml_if {E : (Term × Int64 × Int32) ⊕ (Int32 × Nat)} {P : Prop} [Decidable P] {q : Int32 × Nat} {o : Option (Int32 × Nat)} : ml_ E (if P then some q else o) = if P then .inr q else ml_ E o := by
  split <;> rfl
def me_ (M : mm_) (n c : Nat) : (Term × Int64 × Int32) ⊕ (Int32 × Nat) := ml_ (me2_ M n c (nm_ (bf_ M n) 0 (rz_ M n 0)) (bf_ M n (rz_ M n 0 + 1) - 48) (ex_ (mw_ M (bf_ M n (rz_ M n 0 + 1) - 48)) n (rz_ M n 0 + 4))) (mh_ M n)
/-- a method kept: its name, its number of parameters, its tree's code as row c -/
def mk_ (N : mm_) (c : Nat) (e : Term) (a : Int64) (p : Int32) : mm_ := sI_ (sI_ (kx_ (sI_ (sL_ N 5 c a) 6 c p) c (tc_ e).length) 4 c (nI (tc_ e).length)) 0 9 (nI (c + 1))
def mo_ (M : mm_) (n c : Nat) : (Term × Int64 × Int32) ⊕ (Int32 × Nat) → Int32 → mm_ → Prop
  | .inr (f, w), r, N => r = -1 ∧ (∃ v, pf_ (mw_ M v) N) ∧ N.1 0 3 = f ∧ N.1 0 4 = nI w ∧ 0 < f
  | .inl (e, a, p), r, N => r = nI c ∧ c < 16 ∧ ∃ N0 k nd op, pf_ (mw_ M p) N0 ∧ pr_ N0 n k [] (some e) nd op ∧ N0.1 0 3 = 0 ∧ N = mk_ N0 c e a p
set_option maxRecDepth 100000 in
set_option maxHeartbeats 4000000 in
theorem c12_method (G : gg_) (hG : gd_ G) (d : Nat) (M : mm_) (n c : Nat) (ht : tz_ M n) (hm : M.1 0 9 = nI c) (hc : c ≤ 16) : cm_ G yX12_method cX12_method 5 (some .int) (d + 8) [.ref (G.1 0)] M (rI_ (mo_ M n c (me_ M n c))) := by
  refine cm_of hG (by decide) (Nat.le_of_ble_eq_true rfl) (fun C X => ?_)
  have hn := ht.2
  generalize hR : me_ M n c = R
  have jf176 : ∀ (N : mm_) (f : Int32) (w : Nat) (l1 l2 l3 l4 : Option Value), (∃ v, pf_ (mw_ M v) N) → N.1 0 3 = f → N.1 0 4 = nI w → 0 < f → R = .inr (f, w) → wq_ C G (qe_ C G (rI_ (mo_ M n c R))) 176 [some (.ref (G.1 0)), l1, l2, l3, l4] [] N := by
    rintro N f w l1 l2 l3 l4 ⟨v, hp⟩ h3 h4 hpos hr
    have hf0 : ¬ f = 0 := fun q => by rw [q] at hpos; exact absurd hpos (by decide)
    have hf3 : ¬ N.1 0 3 = 0 := by rw [h3]; exact hf0
    have hz := mw_tz hp ht
    refine w_aload_n X dX12_method_176 rfl rfl ?_
    refine g12_fault X dX12_method_177 ?_
    try simp only [gI_sI, gI_sL, gL_sI, gL_sL, false_and, and_false, and_self, if_false, if_true, reduceIte, Nat.reduceEqDiff, h3]
    refine w_if_le (tgt := 185) X dX12_method_180 (by decide) (fun h180 => absurd h180 (Int32.not_le.mpr hpos)) (fun h180 => ?_)
    refine w_iconst (v := -1) X dX12_method_183 (by decide) ?_
    refine w_irR X dX12_method_184 ?_
    rw [hr]
    exact ⟨rfl, ⟨v, hp⟩, h3, h4, hpos⟩
  have jf141 : ∀ (N : mm_) (f : Int32) (w : Nat) (l1 l2 l3 l4 : Option Value), (∃ v, pf_ (mw_ M v) N) → N.1 0 3 = f → N.1 0 4 = nI w → 0 < f → R = .inr (f, w) → wq_ C G (qe_ C G (rI_ (mo_ M n c R))) 141 [some (.ref (G.1 0)), l1, l2, l3, l4] [] N := by
    rintro N f w l1 l2 l3 l4 ⟨v, hp⟩ h3 h4 hpos hr
    have hf0 : ¬ f = 0 := fun q => by rw [q] at hpos; exact absurd hpos (by decide)
    have hf3 : ¬ N.1 0 3 = 0 := by rw [h3]; exact hf0
    have hz := mw_tz hp ht
    refine w_aload_n X dX12_method_141 rfl rfl ?_
    refine g12_fault X dX12_method_142 ?_
    try simp only [gI_sI, gI_sL, gL_sI, gL_sL, false_and, and_false, and_self, if_false, if_true, reduceIte, Nat.reduceEqDiff, h3]
    refine w_if_ne (tgt := 176) X dX12_method_145 (by decide) (fun h145 => ?_) (fun h145 => absurd h145 hf0)
    exact jf176 N f w _ _ _ _ ⟨v, hp⟩ h3 h4 hpos hr
  have jf124 : ∀ (N : mm_) (f : Int32) (w : Nat) (l1 l2 l3 l4 : Option Value) (p : Int32), (∃ v, pf_ (mw_ M v) N) → N.1 0 3 = f → N.1 0 4 = nI w → 0 < f → R = .inr (f, w) → wq_ C G (qe_ C G (rI_ (mo_ M n c R))) 124 [some (.ref (G.1 0)), l1, l2, l3, some (.int p)] [] N := by
    rintro N f w l1 l2 l3 l4 p ⟨v, hp⟩ h3 h4 hpos hr
    have hf0 : ¬ f = 0 := fun q => by rw [q] at hpos; exact absurd hpos (by decide)
    have hf3 : ¬ N.1 0 3 = 0 := by rw [h3]; exact hf0
    have hz := mw_tz hp ht
    refine w_aload_n X dX12_method_124 rfl rfl ?_
    refine w_iload X dX12_method_125 rfl ?_
    refine p12_variables X dX12_method_127 ?_
    refine w_aload_n X dX12_method_130 rfl rfl ?_
    refine g12_fault X dX12_method_131 ?_
    try simp only [gI_sI, gI_sL, gL_sI, gL_sL, false_and, and_false, and_self, if_false, if_true, reduceIte, Nat.reduceEqDiff, h3]
    refine w_if_ne (tgt := 141) X dX12_method_134 (by decide) (fun h134 => ?_) (fun h134 => absurd h134 hf0)
    exact jf141 _ f w _ _ _ _ ⟨p, mw_pf p hp⟩ (by simpa [sI_] using h3) (by simpa [sI_] using h4) hpos hr
  have jf118 : ∀ (N : mm_) (f : Int32) (w : Nat) (l1 l2 l3 l4 : Option Value) (p : Int32) (k : Nat) (h5 : N.1 0 5 = nI k) (hk : k < 1000), (∃ v, pf_ (mw_ M v) N) → N.1 0 3 = f → N.1 0 4 = nI w → 0 < f → R = .inr (f, w) → wq_ C G (qe_ C G (rI_ (mo_ M n c R))) 118 [some (.ref (G.1 0)), l1, l2, l3, some (.int p)] [] N := by
    rintro N f w l1 l2 l3 l4 p k h5 hk ⟨v, hp⟩ h3 h4 hpos hr
    have hf0 : ¬ f = 0 := fun q => by rw [q] at hpos; exact absurd hpos (by decide)
    have hf3 : ¬ N.1 0 3 = 0 := by rw [h3]; exact hf0
    have hz := mw_tz hp ht
    refine w_aload_n X dX12_method_118 rfl rfl ?_
    refine w_bipush (v := 61) X dX12_method_119 (by decide) ?_
    refine w_v1fV X dX12_method_121 k12_want rfl rfl (c12_want G hG _ N n k hz h5 (by omega) _) (Nat.le_of_ble_eq_true rfl) ?_
    rw [if_neg hf3]
    exact jf124 N f w _ _ _ l4 p ⟨v, hp⟩ h3 h4 hpos hr
  have jf112 : ∀ (N : mm_) (f : Int32) (w : Nat) (l1 l2 l3 l4 : Option Value) (p : Int32) (k : Nat) (h5 : N.1 0 5 = nI k) (hk : k < 1000), (∃ v, pf_ (mw_ M v) N) → N.1 0 3 = f → N.1 0 4 = nI w → 0 < f → R = .inr (f, w) → wq_ C G (qe_ C G (rI_ (mo_ M n c R))) 112 [some (.ref (G.1 0)), l1, l2, l3, some (.int p)] [] N := by
    rintro N f w l1 l2 l3 l4 p k h5 hk ⟨v, hp⟩ h3 h4 hpos hr
    have hf0 : ¬ f = 0 := fun q => by rw [q] at hpos; exact absurd hpos (by decide)
    have hf3 : ¬ N.1 0 3 = 0 := by rw [h3]; exact hf0
    have hz := mw_tz hp ht
    refine w_aload_n X dX12_method_112 rfl rfl ?_
    refine w_bipush (v := 41) X dX12_method_113 (by decide) ?_
    refine w_v1fV X dX12_method_115 k12_want rfl rfl (c12_want G hG _ N n k hz h5 (by omega) _) (Nat.le_of_ble_eq_true rfl) ?_
    rw [if_neg hf3]
    exact jf118 N f w _ _ _ l4 p k h5 hk ⟨v, hp⟩ h3 h4 hpos hr
  have jf102 : ∀ (N : mm_) (f : Int32) (w : Nat) (l1 l2 l3 l4 : Option Value) (p : Int32) (k : Nat) (h5 : N.1 0 5 = nI k) (hk : k < 999), (∃ v, pf_ (mw_ M v) N) → N.1 0 3 = f → N.1 0 4 = nI w → 0 < f → R = .inr (f, w) → wq_ C G (qe_ C G (rI_ (mo_ M n c R))) 102 [some (.ref (G.1 0)), l1, l2, l3, some (.int p)] [] N := by
    rintro N f w l1 l2 l3 l4 p k h5 hk ⟨v, hp⟩ h3 h4 hpos hr
    have hf0 : ¬ f = 0 := fun q => by rw [q] at hpos; exact absurd hpos (by decide)
    have hf3 : ¬ N.1 0 3 = 0 := by rw [h3]; exact hf0
    have hz := mw_tz hp ht
    refine w_aload_n X dX12_method_102 rfl rfl ?_
    refine w_dup X dX12_method_103 rfl ?_
    refine g12_at X dX12_method_104 ?_
    try simp only [gI_sI, gI_sL, gL_sI, gL_sL, false_and, and_false, and_self, if_false, if_true, reduceIte, Nat.reduceEqDiff, h5]
    refine w_iconst (v := 1) X dX12_method_107 (by decide) ?_
    refine w_iadd X dX12_method_108 ?_
    rw [nI_1]
    refine p12_at X dX12_method_109 ?_
    exact jf112 _ f w _ _ _ l4 p (k + 1) (by simp [sI_]) (by first | omega | exact at5_ (by omega)) ⟨v, pf_sI hp (by first | omega | exact at5_ (by omega))⟩ (by simpa [sI_] using h3) (by simpa [sI_] using h4) hpos hr
  have jf62 : ∀ (N : mm_) (f : Int32) (w : Nat) (l1 l2 l3 l4 : Option Value) (k : Nat) (h5 : N.1 0 5 = nI k) (hk : k < 999), (∃ v, pf_ (mw_ M v) N) → N.1 0 3 = f → N.1 0 4 = nI w → 0 < f → R = .inr (f, w) → wq_ C G (qe_ C G (rI_ (mo_ M n c R))) 62 [some (.ref (G.1 0)), l1, l2, l3, l4] [] N := by
    rintro N f w l1 l2 l3 l4 k h5 hk ⟨v, hp⟩ h3 h4 hpos hr
    have hf0 : ¬ f = 0 := fun q => by rw [q] at hpos; exact absurd hpos (by decide)
    have hf3 : ¬ N.1 0 3 = 0 := by rw [h3]; exact hf0
    have hz := mw_tz hp ht
    refine w_aload_n X dX12_method_62 rfl rfl ?_
    refine w_aload_n X dX12_method_63 rfl rfl ?_
    refine g12_at X dX12_method_64 ?_
    try simp only [gI_sI, gI_sL, gL_sI, gL_sL, false_and, and_false, and_self, if_false, if_true, reduceIte, Nat.reduceEqDiff, h3, h5]
    refine w_v1fI X dX12_method_67 k12_byteAt rfl rfl (c12_byteAt G hG _ _ (nI k) (fun z => tz_in hz (by omega) z)) (Nat.le_of_ble_eq_true rfl) ?_
    refine w_bipush (v := 48) X dX12_method_70 (by decide) ?_
    refine w_isub X dX12_method_72 ?_
    refine w_istore X dX12_method_73 (by decide) ?_
    refine w_aload_n X dX12_method_75 rfl rfl ?_
    refine g12_fault X dX12_method_76 ?_
    try simp only [gI_sI, gI_sL, gL_sI, gL_sL, false_and, and_false, and_self, if_false, if_true, reduceIte, Nat.reduceEqDiff, h3, h5]
    refine w_if_ne (tgt := 102) X dX12_method_79 (by decide) (fun h79 => ?_) (fun h79 => absurd h79 hf0)
    exact jf102 N f w _ _ _ l4 _ k h5 (by omega) ⟨v, hp⟩ h3 h4 hpos hr
  have jf56 : ∀ (N : mm_) (f : Int32) (w : Nat) (l1 l2 l3 l4 : Option Value) (k : Nat) (h5 : N.1 0 5 = nI k) (hk : k < 999), (∃ v, pf_ (mw_ M v) N) → N.1 0 3 = f → N.1 0 4 = nI w → 0 < f → R = .inr (f, w) → wq_ C G (qe_ C G (rI_ (mo_ M n c R))) 56 [some (.ref (G.1 0)), l1, l2, l3, l4] [] N := by
    rintro N f w l1 l2 l3 l4 k h5 hk ⟨v, hp⟩ h3 h4 hpos hr
    have hf0 : ¬ f = 0 := fun q => by rw [q] at hpos; exact absurd hpos (by decide)
    have hf3 : ¬ N.1 0 3 = 0 := by rw [h3]; exact hf0
    have hz := mw_tz hp ht
    refine w_aload_n X dX12_method_56 rfl rfl ?_
    refine w_bipush (v := 40) X dX12_method_57 (by decide) ?_
    refine w_v1fV X dX12_method_59 k12_want rfl rfl (c12_want G hG _ N n k hz h5 (by omega) _) (Nat.le_of_ble_eq_true rfl) ?_
    rw [if_neg hf3]
    exact jf62 N f w _ _ _ _ k h5 hk ⟨v, hp⟩ h3 h4 hpos hr
  have hzn : rz_ M n 0 ≤ n := by have := rz_le M n 0; omega
  generalize hzz : rz_ M n 0 = z at hzn
  have j124 : ∀ (N : mm_) (v : Int32) (l1 l3 l4 : Option Value) (a : Int64) (p : Int32), pf_ (mw_ M v) N → N.1 0 3 = 0 → N.1 0 5 = nI (z + 4) → z + 4 ≤ n → R = me2_ M n c a p (ex_ (mw_ M p) n (z + 4)) → wq_ C G (qe_ C G (rI_ (mo_ M n c R))) 124 [some (.ref (G.1 0)), l1, some (.long a), l3, some (.int p)] [] N := by
    intro N v l1 l3 l4 a p hp h3 h5 hle hr
    have hz := mw_tz hp ht
    have eb : bf_ N n = bf_ M n := mw_bf hp
    have hp2 := mw_pf p hp
    have hex : ex_ (sI_ N 0 15 p) n (z + 4) = ex_ (mw_ M p) n (z + 4) := ex_pf hp2
    refine w_aload_n X dX12_method_124 rfl rfl ?_
    refine w_iload X dX12_method_125 rfl ?_
    refine p12_variables X dX12_method_127 ?_
    refine w_aload_n X dX12_method_130 rfl rfl ?_
    refine g12_fault X dX12_method_131 ?_
    try simp only [gI_sI, gI_sL, gL_sI, gL_sL, false_and, and_false, and_self, if_false, if_true, reduceIte, Nat.reduceEqDiff, h3]
    refine w_if_ne (tgt := 141) X dX12_method_134 (by decide) (fun h134 => absurd rfl h134) (fun h134 => ?_)
    refine w_aload_n X dX12_method_137 rfl rfl ?_
    refine w_v0rV X dX12_method_138 k12_readExpression rfl rfl (c12_readExpression G hG _ (sI_ N 0 15 p) n (z + 4) (tz_sI hz (by omega)) (by simpa [sI_] using h5) (by simpa [sI_] using h3) hle) (Nat.le_of_ble_eq_true rfl) (fun N138 h138 => ?_)
    rw [hex] at h138
    have hpo := po_ex (M := mw_ M p) (n := n) (k := z + 4)
    cases hS : ex_ (mw_ M p) n (z + 4) with
    | inr q =>
      obtain ⟨f, w⟩ := q
      rw [hS] at h138 hpo hr
      exact jf141 N138 f w _ _ _ _ ⟨p, pf_tr hp2 h138.1⟩ h138.2.1 h138.2.2.1 hpo hr
    | inl q =>
      obtain ⟨e, k2⟩ := q
      rw [hS] at h138 hr
      obtain ⟨q1, q2, q3, nd, op, q4⟩ := h138
      have hp3 : pf_ (mw_ M p) N138 := pf_tr hp2 q1
      have e9 : N138.1 0 9 = nI c := (mw_at hp3 (by omega)).trans hm
      have e2 : N138.1 0 2 = nI n := (mw_tz hp3 ht).1
      have hl : N138.1 0 12 = nI (tc_ e).length := by have := q4.2.2.1.1; simpa [cs_, cu_] using this
      have hl40 : (tc_ e).length ≤ 40 := by have := (pr_len q4).1; simpa [cs_, cu_] using this
      have hfm : fm_ N138 a p c 0 = fm_ M a p c 0 := fm_cg (M := M) (N := N138) (fun i => (hp3.2.1 5 i (by omega) (by omega) (by omega)).trans rfl) (fun i => by rw [hp3.1 6 i (by omega) (by omega) (by omega) (by omega) (by omega) (by omega)]; unfold mw_ bg_; rw [sI_ne _ _ _ _ (by omega), sI_ne _ _ _ _ (by omega), sI_ne _ _ _ _ (by omega), sI_ne _ _ _ _ (by omega), sI_ne _ _ _ _ (by omega), sI_ne _ _ _ _ (by omega)]) a p c 0
      simp only [me2_] at hr
      refine w_aload_n X dX12_method_141 rfl rfl ?_
      refine g12_fault X dX12_method_142 ?_
      try simp only [gI_sI, gI_sL, gL_sI, gL_sL, false_and, and_false, and_self, if_false, if_true, reduceIte, Nat.reduceEqDiff, q2, e9, e2]
      refine w_if_ne (tgt := 176) X dX12_method_145 (by decide) (fun h145 => absurd rfl h145) (fun h145 => ?_)
      refine w_aload_n X dX12_method_148 rfl rfl ?_
      refine g12_methods X dX12_method_149 ?_
      try simp only [gI_sI, gI_sL, gL_sI, gL_sL, false_and, and_false, and_self, if_false, if_true, reduceIte, Nat.reduceEqDiff, q2, e9, e2]
      refine w_bipush (v := 16) X dX12_method_152 (by decide) ?_
      refine w_icmp_eq (tgt := 167) X dX12_method_154 (by decide) (fun h154 => ?_) (fun h154 => ?_)
      · have e154 : c = 16 := (nI_eq (b := 16) (by omega) (by omega)).mp h154
        refine w_aload_n X dX12_method_167 rfl rfl ?_
        refine w_iconst (v := 5) X dX12_method_168 (by decide) ?_
        refine w_aload_n X dX12_method_169 rfl rfl ?_
        refine g12_size X dX12_method_170 ?_
        try simp only [gI_sI, gI_sL, gL_sI, gL_sL, false_and, and_false, and_self, if_false, if_true, reduceIte, Nat.reduceEqDiff, q2, e9, e2]
        refine w_v2fV X dX12_method_173 k12_fail rfl rfl (c12_fail G hG _ _ _ _) (Nat.le_of_ble_eq_true rfl) ?_
        rw [if_pos (Or.inl e154)] at hr
        exact jf176 _ 5 n _ _ _ _ ⟨p, pf_fa hp3⟩ (by rw [fa_0 q2]; simp [sI_]) (by rw [fa_0 q2]; simp [sI_]) (by decide) hr
      · have e154 : ¬ c = 16 := fun q => h154 (by rw [q]; rfl)
        refine w_aload_n X dX12_method_157 rfl rfl ?_
        refine w_lload_n X dX12_method_158 rfl rfl ?_
        refine w_iload X dX12_method_159 rfl ?_
        refine w_v2fI X dX12_method_161 k12_findMethod rfl rfl (c12_findMethod G hG _ _ c e9 hc _ _) (Nat.le_of_ble_eq_true rfl) ?_
        rw [hfm]
        refine w_if_lt (tgt := 176) X dX12_method_164 (by decide) (fun h164 => ?_) (fun h164 => ?_)
        · rw [if_neg (fun q => q.elim e154 (fun z => z h164))] at hr
          have hc2 : c < 16 := by omega
          refine w_aload_n X dX12_method_176 rfl rfl ?_
          refine g12_fault X dX12_method_177 ?_
          try simp only [gI_sI, gI_sL, gL_sI, gL_sL, false_and, and_false, and_self, if_false, if_true, reduceIte, Nat.reduceEqDiff, q2, e9]
          refine w_if_le (tgt := 185) X dX12_method_180 (by decide) (fun h180 => ?_) (fun h180 => absurd (by decide) h180)
          refine w_aload_n X dX12_method_185 rfl rfl ?_
          refine g12_names X dX12_method_186 ?_
          refine w_aload_n X dX12_method_189 rfl rfl ?_
          refine g12_methods X dX12_method_190 ?_
          try simp only [gI_sI, gI_sL, gL_sI, gL_sL, false_and, and_false, and_self, if_false, if_true, reduceIte, Nat.reduceEqDiff, q2, e9]
          refine w_lload_n X dX12_method_193 rfl rfl ?_
          refine w_lastoreN X dX12_method_194 rfl rfl (by omega) ?_
          refine w_aload_n X dX12_method_195 rfl rfl ?_
          refine g12_parameters X dX12_method_196 ?_
          refine w_aload_n X dX12_method_199 rfl rfl ?_
          refine g12_methods X dX12_method_200 ?_
          try simp only [gI_sI, gI_sL, gL_sI, gL_sL, false_and, and_false, and_self, if_false, if_true, reduceIte, Nat.reduceEqDiff, q2, e9]
          refine w_iload X dX12_method_203 rfl ?_
          refine w_iastoreN X dX12_method_205 rfl rfl (by omega) ?_
          refine w_aload_n X dX12_method_206 rfl rfl ?_
          refine w_aload_n X dX12_method_207 rfl rfl ?_
          refine g12_methods X dX12_method_208 ?_
          try simp only [gI_sI, gI_sL, gL_sI, gL_sL, false_and, and_false, and_self, if_false, if_true, reduceIte, Nat.reduceEqDiff, q2, e9]
          refine w_v1fV X dX12_method_211 k12_keepExpression rfl rfl (c12_keepExpression G hG _ _ c (tc_ e).length (by omega) (by simpa [sI_, sL_] using hl) (by omega)) (Nat.le_of_ble_eq_true rfl) ?_
          have e9b : (kx_ (sI_ (sL_ N138 5 c a) 6 c p) c (tc_ e).length).1 0 9 = nI c := by
            rw [kx_I (by omega) _ (by omega), if_neg (by omega), sI_ne _ _ _ _ (by omega)]
            exact e9
          refine w_aload_n X dX12_method_214 rfl rfl ?_
          refine w_dup X dX12_method_215 rfl ?_
          refine g12_methods X dX12_method_216 ?_
          try simp only [gI_sI, gI_sL, gL_sI, gL_sL, false_and, and_false, and_self, if_false, if_true, reduceIte, Nat.reduceEqDiff, q2, e9]
          rw [e9b]
          refine w_iconst (v := 1) X dX12_method_219 (by decide) ?_
          refine w_iadd X dX12_method_220 ?_
          rw [nI_1]
          refine p12_methods X dX12_method_221 ?_
          refine w_aload_n X dX12_method_224 rfl rfl ?_
          refine g12_methods X dX12_method_225 ?_
          try simp only [gI_sI, gI_sL, gL_sI, gL_sL, false_and, and_false, and_self, if_false, if_true, reduceIte, Nat.reduceEqDiff, q2, e9]
          refine w_iconst (v := 1) X dX12_method_228 (by decide) ?_
          refine w_isub X dX12_method_229 ?_
          rw [nI_s1]
          refine w_irR X dX12_method_230 ?_
          rw [hr]
          exact ⟨rfl, hc2, N138, k2, nd, op, hp3, q4, q2, rfl⟩
        · refine w_aload_n X dX12_method_167 rfl rfl ?_
          refine w_iconst (v := 5) X dX12_method_168 (by decide) ?_
          refine w_aload_n X dX12_method_169 rfl rfl ?_
          refine g12_size X dX12_method_170 ?_
          try simp only [gI_sI, gI_sL, gL_sI, gL_sL, false_and, and_false, and_self, if_false, if_true, reduceIte, Nat.reduceEqDiff, q2, e9, e2]
          refine w_v2fV X dX12_method_173 k12_fail rfl rfl (c12_fail G hG _ _ _ _) (Nat.le_of_ble_eq_true rfl) ?_
          rw [if_pos (Or.inr h164)] at hr
          exact jf176 _ 5 n _ _ _ _ ⟨p, pf_fa hp3⟩ (by rw [fa_0 q2]; simp [sI_]) (by rw [fa_0 q2]; simp [sI_]) (by decide) hr
  have j118 : ∀ (N : mm_) (v : Int32) (l1 l3 l4 : Option Value) (a : Int64) (p : Int32), pf_ (mw_ M v) N → N.1 0 3 = 0 → N.1 0 5 = nI (z + 3) → (R = if ¬ bf_ M n (z + 3) = 61 then .inr (1, z + 3) else me2_ M n c a p (ex_ (mw_ M p) n (z + 4))) → wq_ C G (qe_ C G (rI_ (mo_ M n c R))) 118 [some (.ref (G.1 0)), l1, some (.long a), l3, some (.int p)] [] N := by
    intro N v l1 l3 l4 a p hp h3 h5 hr
    have hz := mw_tz hp ht
    have eb : bf_ N n = bf_ M n := mw_bf hp
    by_cases hw : bf_ M n (z + 3) = 61
    · refine w_aload_n X dX12_method_118 rfl rfl ?_
      refine w_bipush (v := 61) X dX12_method_119 (by decide) ?_
      refine w_v1fV X dX12_method_121 k12_want rfl rfl (c12_want G hG _ N n (z + 3) hz h5 (by omega) _) (Nat.le_of_ble_eq_true rfl) ?_
      rw [if_pos h3, eb, if_pos hw]
      exact j124 _ v _ _ l4 a p (pf_sI hp (by first | omega | exact at5_ (by omega))) (by simpa [sI_] using h3) (by simp [sI_]) (by have := bf_lt (M := M) (n := n) (k := z + 3) (by rw [hw]; decide); omega) (by rw [hr, if_neg (fun q => q hw)])
    · refine w_aload_n X dX12_method_118 rfl rfl ?_
      refine w_bipush (v := 61) X dX12_method_119 (by decide) ?_
      refine w_v1fV X dX12_method_121 k12_want rfl rfl (c12_want G hG _ N n (z + 3) hz h5 (by omega) _) (Nat.le_of_ble_eq_true rfl) ?_
      rw [if_pos h3, eb, if_neg hw]
      exact jf124 _ 1 (z + 3) _ _ _ l4 _ ⟨v, pf_fa hp⟩ (by rw [fa_0 h3]; simp [sI_]) (by rw [fa_0 h3]; simp [sI_]) (by decide) (by rw [hr, if_pos hw])
  have j112 : ∀ (N : mm_) (v : Int32) (l1 l3 l4 : Option Value) (a : Int64) (p : Int32), pf_ (mw_ M v) N → N.1 0 3 = 0 → N.1 0 5 = nI (z + 2) → (R = if ¬ bf_ M n (z + 2) = 41 then .inr (1, z + 2) else if ¬ bf_ M n (z + 3) = 61 then .inr (1, z + 3) else me2_ M n c a p (ex_ (mw_ M p) n (z + 4))) → wq_ C G (qe_ C G (rI_ (mo_ M n c R))) 112 [some (.ref (G.1 0)), l1, some (.long a), l3, some (.int p)] [] N := by
    intro N v l1 l3 l4 a p hp h3 h5 hr
    have hz := mw_tz hp ht
    have eb : bf_ N n = bf_ M n := mw_bf hp
    by_cases hw : bf_ M n (z + 2) = 41
    · refine w_aload_n X dX12_method_112 rfl rfl ?_
      refine w_bipush (v := 41) X dX12_method_113 (by decide) ?_
      refine w_v1fV X dX12_method_115 k12_want rfl rfl (c12_want G hG _ N n (z + 2) hz h5 (by omega) _) (Nat.le_of_ble_eq_true rfl) ?_
      rw [if_pos h3, eb, if_pos hw]
      exact j118 _ v _ _ l4 a p (pf_sI hp (by first | omega | exact at5_ (by omega))) (by simpa [sI_] using h3) (by simp [sI_]) (by rw [hr, if_neg (fun q => q hw)])
    · refine w_aload_n X dX12_method_112 rfl rfl ?_
      refine w_bipush (v := 41) X dX12_method_113 (by decide) ?_
      refine w_v1fV X dX12_method_115 k12_want rfl rfl (c12_want G hG _ N n (z + 2) hz h5 (by omega) _) (Nat.le_of_ble_eq_true rfl) ?_
      rw [if_pos h3, eb, if_neg hw]
      exact jf118 _ 1 (z + 2) _ _ _ l4 _ (z + 2) (by rw [fa_0 h3]; simpa [sI_] using h5) (by omega) ⟨v, pf_fa hp⟩ (by rw [fa_0 h3]; simp [sI_]) (by rw [fa_0 h3]; simp [sI_]) (by decide) (by rw [hr, if_pos hw])
  have j62 : ∀ (N : mm_) (v : Int32) (l1 l3 l4 : Option Value) (a : Int64) (p : Int32), pf_ (mw_ M v) N → N.1 0 3 = 0 → N.1 0 5 = nI (z + 1) → (R = if (bf_ M n (z + 1) - 48) < 0 ∨ ¬ (bf_ M n (z + 1) - 48) ≤ 3 then .inr (1, z + 1) else if ¬ bf_ M n (z + 2) = 41 then .inr (1, z + 2) else if ¬ bf_ M n (z + 3) = 61 then .inr (1, z + 3) else me2_ M n c a (bf_ M n (z + 1) - 48) (ex_ (mw_ M (bf_ M n (z + 1) - 48)) n (z + 4))) → wq_ C G (qe_ C G (rI_ (mo_ M n c R))) 62 [some (.ref (G.1 0)), l1, some (.long a), l3, l4] [] N := by
    intro N v l1 l3 l4 a p hp h3 h5 hr
    have hz := mw_tz hp ht
    have eb : bf_ N n = bf_ M n := mw_bf hp
    refine w_aload_n X dX12_method_62 rfl rfl ?_
    refine w_aload_n X dX12_method_63 rfl rfl ?_
    refine g12_at X dX12_method_64 ?_
    try simp only [gI_sI, gI_sL, gL_sI, gL_sL, false_and, and_false, and_self, if_false, if_true, reduceIte, Nat.reduceEqDiff, h3, h5]
    refine w_v1fI X dX12_method_67 k12_byteAt rfl rfl (c12_byteAt G hG _ _ (nI (z + 1)) (fun q => tz_in hz (by omega) q)) (Nat.le_of_ble_eq_true rfl) ?_
    rw [ba_bf hz (by omega), eb]
    refine w_bipush (v := 48) X dX12_method_70 (by decide) ?_
    refine w_isub X dX12_method_72 ?_
    refine w_istore X dX12_method_73 (by decide) ?_
    refine w_aload_n X dX12_method_75 rfl rfl ?_
    refine g12_fault X dX12_method_76 ?_
    try simp only [gI_sI, gI_sL, gL_sI, gL_sL, false_and, and_false, and_self, if_false, if_true, reduceIte, Nat.reduceEqDiff, h3, h5]
    refine w_if_ne (tgt := 102) X dX12_method_79 (by decide) (fun h79 => absurd rfl h79) (fun h79 => ?_)
    refine w_iload X dX12_method_82 rfl ?_
    refine w_if_lt (tgt := 93) X dX12_method_84 (by decide) (fun h84 => ?_) (fun h84 => ?_)
    · refine w_aload_n X dX12_method_93 rfl rfl ?_
      refine w_iconst (v := 1) X dX12_method_94 (by decide) ?_
      refine w_aload_n X dX12_method_95 rfl rfl ?_
      refine g12_at X dX12_method_96 ?_
      try simp only [gI_sI, gI_sL, gL_sI, gL_sL, false_and, and_false, and_self, if_false, if_true, reduceIte, Nat.reduceEqDiff, h3, h5]
      refine w_v2fV X dX12_method_99 k12_fail rfl rfl (c12_fail G hG _ _ _ _) (Nat.le_of_ble_eq_true rfl) ?_
      exact jf102 _ 1 (z + 1) _ _ _ l4 _ (z + 1) (by rw [fa_0 h3]; simpa [sI_] using h5) (by omega) ⟨v, pf_fa hp⟩ (by rw [fa_0 h3]; simp [sI_]) (by rw [fa_0 h3]; simp [sI_]) (by decide) (by rw [hr, if_pos (Or.inl h84)])
    · refine w_iload X dX12_method_87 rfl ?_
      refine w_iconst (v := 3) X dX12_method_89 (by decide) ?_
      refine w_icmp_le (tgt := 102) X dX12_method_90 (by decide) (fun h90 => ?_) (fun h90 => ?_)
      · rw [if_neg (fun q => q.elim h84 (fun y => y h90))] at hr
        refine w_aload_n X dX12_method_102 rfl rfl ?_
        refine w_dup X dX12_method_103 rfl ?_
        refine g12_at X dX12_method_104 ?_
        try simp only [gI_sI, gI_sL, gL_sI, gL_sL, false_and, and_false, and_self, if_false, if_true, reduceIte, Nat.reduceEqDiff, h5]
        refine w_iconst (v := 1) X dX12_method_107 (by decide) ?_
        refine w_iadd X dX12_method_108 ?_
        rw [nI_1]
        refine p12_at X dX12_method_109 ?_
        exact j112 _ v _ _ l4 a _ (pf_sI hp (by first | omega | exact at5_ (by omega))) (by simpa [sI_] using h3) (by simp [sI_]) hr
      · refine w_aload_n X dX12_method_93 rfl rfl ?_
        refine w_iconst (v := 1) X dX12_method_94 (by decide) ?_
        refine w_aload_n X dX12_method_95 rfl rfl ?_
        refine g12_at X dX12_method_96 ?_
        try simp only [gI_sI, gI_sL, gL_sI, gL_sL, false_and, and_false, and_self, if_false, if_true, reduceIte, Nat.reduceEqDiff, h3, h5]
        refine w_v2fV X dX12_method_99 k12_fail rfl rfl (c12_fail G hG _ _ _ _) (Nat.le_of_ble_eq_true rfl) ?_
        exact jf102 _ 1 (z + 1) _ _ _ l4 _ (z + 1) (by rw [fa_0 h3]; simpa [sI_] using h5) (by omega) ⟨v, pf_fa hp⟩ (by rw [fa_0 h3]; simp [sI_]) (by rw [fa_0 h3]; simp [sI_]) (by decide) (by rw [hr, if_pos (Or.inr h90)])
  have j56 : ∀ (N : mm_) (v : Int32) (l1 l3 l4 : Option Value) (a : Int64) (p : Int32), pf_ (mw_ M v) N → N.1 0 3 = 0 → N.1 0 5 = nI (z) → (R = if ¬ bf_ M n z = 40 then .inr (1, z) else if (bf_ M n (z + 1) - 48) < 0 ∨ ¬ (bf_ M n (z + 1) - 48) ≤ 3 then .inr (1, z + 1) else if ¬ bf_ M n (z + 2) = 41 then .inr (1, z + 2) else if ¬ bf_ M n (z + 3) = 61 then .inr (1, z + 3) else me2_ M n c a (bf_ M n (z + 1) - 48) (ex_ (mw_ M (bf_ M n (z + 1) - 48)) n (z + 4))) → wq_ C G (qe_ C G (rI_ (mo_ M n c R))) 56 [some (.ref (G.1 0)), l1, some (.long a), l3, l4] [] N := by
    intro N v l1 l3 l4 a p hp h3 h5 hr
    have hz := mw_tz hp ht
    have eb : bf_ N n = bf_ M n := mw_bf hp
    by_cases hw : bf_ M n (z) = 40
    · refine w_aload_n X dX12_method_56 rfl rfl ?_
      refine w_bipush (v := 40) X dX12_method_57 (by decide) ?_
      refine w_v1fV X dX12_method_59 k12_want rfl rfl (c12_want G hG _ N n (z) hz h5 (by omega) _) (Nat.le_of_ble_eq_true rfl) ?_
      rw [if_pos h3, eb, if_pos hw]
      exact j62 _ v _ _ l4 a p (pf_sI hp (by first | omega | exact at5_ (by omega))) (by simpa [sI_] using h3) (by simp [sI_]) (by rw [hr, if_neg (fun q => q hw)])
    · refine w_aload_n X dX12_method_56 rfl rfl ?_
      refine w_bipush (v := 40) X dX12_method_57 (by decide) ?_
      refine w_v1fV X dX12_method_59 k12_want rfl rfl (c12_want G hG _ N n (z) hz h5 (by omega) _) (Nat.le_of_ble_eq_true rfl) ?_
      rw [if_pos h3, eb, if_neg hw]
      exact jf62 _ 1 (z) _ _ _ l4 z (by rw [fa_0 h3]; simpa [sI_] using h5) (by first | omega | exact at5_ (by omega)) ⟨v, pf_fa hp⟩ (by rw [fa_0 h3]; simp [sI_]) (by rw [fa_0 h3]; simp [sI_]) (by decide) (by rw [hr, if_pos hw])
  have hB : pf_ (mw_ M (M.1 0 15)) (sI_ (bg_ M) 0 14 0) := by
    refine ⟨fun a i a1 a2 a3 a4 a5 a6 => ?_, fun _ _ _ _ _ => rfl, rfl, fun y => ⟨by simp [mw_, bg_, sI_], by simp [mw_, bg_, sI_]⟩, fun y => ⟨0, by omega, by simp [bg_, sI_]; rfl⟩⟩
    by_cases q : a = 0 ∧ i = 15
    · obtain ⟨rfl, rfl⟩ := q
      simp [mw_, bg_, sI_]
    · unfold mw_
      rw [sI_ne _ _ _ _ q]
  have hzB := mw_tz hB ht
  have ebB : bf_ (sI_ (bg_ M) 0 14 0) n = bf_ M n := mw_bf hB
  have ezB : rz_ (sI_ (bg_ M) 0 14 0) n 0 = z := by rw [← hzz]; unfold rz_; rw [ebB]
  have h3B : (sI_ (bg_ M) 0 14 0).1 0 3 = 0 := by simp [bg_, sI_]
  unfold me_ mh_ at hR
  rw [hzz, ml_if, ml_if, ml_if, ml_if, ml_if, ml_if] at hR
  refine w_aload_n X dX12_method_0 rfl rfl ?_
  refine w_v0fV X dX12_method_1 k12_begin rfl rfl (c12_begin G hG _ _) (Nat.le_of_ble_eq_true rfl) ?_
  refine w_aload_n X dX12_method_4 rfl rfl ?_
  refine w_iconst (v := 0) X dX12_method_5 (by decide) ?_
  refine p12_inCommand X dX12_method_6 (by first | exact Or.inl rfl | exact Or.inr rfl | assumption) ?_
  refine w_aload_n X dX12_method_9 rfl rfl ?_
  refine w_iconst (v := 0) X dX12_method_10 (by decide) ?_
  refine w_v1fI X dX12_method_11 k12_rowSize rfl rfl (c12_rowSize G hG _ (sI_ (bg_ M) 0 14 0) n 0 hzB (by omega)) (Nat.le_of_ble_eq_true rfl) ?_
  rw [ezB]
  refine w_istore_n X dX12_method_14 rfl (by decide) ?_
  refine w_iload_n X dX12_method_15 rfl rfl ?_
  refine w_bipush (v := 12) X dX12_method_16 (by decide) ?_
  refine w_icmp_le (tgt := 31) X dX12_method_18 (by decide) (fun h18 => ?_) (fun h18 => ?_)
  · have e18 : ¬ 12 < z := by have := (nI_leI (b := 12) (by omega) (by omega)).mp h18; omega
    refine w_aload_n X dX12_method_31 rfl rfl ?_
    refine w_iconst (v := 0) X dX12_method_32 (by decide) ?_
    refine w_iload_n X dX12_method_33 rfl rfl ?_
    refine w_v2fI X dX12_method_34 k12_isName rfl rfl (c12_isName G hG _ (sI_ (bg_ M) 0 14 0) n 0 z hzB (by omega)) (Nat.le_of_ble_eq_true rfl) ?_
    rw [ebB]
    refine w_if_ne (tgt := 46) X dX12_method_37 (by decide) (fun h37 => ?_) (fun h37 => ?_)
    · have e37 : ne_ (bf_ M n) 0 z := Decidable.by_contra (fun q => h37 (if_neg q))
      refine w_aload_n X dX12_method_46 rfl rfl ?_
      refine g12_rowName X dX12_method_47 ?_
      try simp only [gI_sI, gI_sL, gL_sI, gL_sL, false_and, and_false, and_self, if_false, if_true, reduceIte, Nat.reduceEqDiff]
      refine w_lstore_n X dX12_method_50 rfl (by decide) ?_
      refine w_aload_n X dX12_method_51 rfl rfl ?_
      refine w_iload_n X dX12_method_52 rfl rfl ?_
      refine p12_at X dX12_method_53 ?_
      rw [if_neg e18, if_neg (fun q => q e37)] at hR
      refine j56 _ _ _ _ _ _ 0 (pf_sI (pf_sL hB (by first | omega | exact at5_ (by omega))) (by first | omega | exact at5_ (by omega))) (by simpa [sI_, sL_] using h3B) (by simp [sI_]) hR.symm
    · have e37 : ¬ ne_ (bf_ M n) 0 z := fun q => by rw [if_pos q] at h37; exact absurd h37 (by decide)
      refine w_aload_n X dX12_method_40 rfl rfl ?_
      refine w_iconst (v := 1) X dX12_method_41 (by decide) ?_
      refine w_iconst (v := 0) X dX12_method_42 (by decide) ?_
      refine w_v2fV X dX12_method_43 k12_fail rfl rfl (c12_fail G hG _ _ _ _) (Nat.le_of_ble_eq_true rfl) ?_
      refine w_aload_n X dX12_method_46 rfl rfl ?_
      refine g12_rowName X dX12_method_47 ?_
      try simp only [gI_sI, gI_sL, gL_sI, gL_sL, false_and, and_false, and_self, if_false, if_true, reduceIte, Nat.reduceEqDiff]
      refine w_lstore_n X dX12_method_50 rfl (by decide) ?_
      refine w_aload_n X dX12_method_51 rfl rfl ?_
      refine w_iload_n X dX12_method_52 rfl rfl ?_
      refine p12_at X dX12_method_53 ?_
      rw [if_neg e18, if_pos e37] at hR
      refine jf56 _ 1 0 _ _ _ _ z (by simp [sI_]) (by first | omega | exact at5_ (by omega)) ⟨_, pf_sI (pf_fa (pf_sL hB (by first | omega | exact at5_ (by omega)))) (by first | omega | exact at5_ (by omega))⟩ ?_ ?_ (by decide) hR.symm
      · rw [fa_0 (by simpa [sL_] using h3B)]; simp [sI_]
      · rw [fa_0 (by simpa [sL_] using h3B)]; simp [sI_]; rfl
  · have e18 : 12 < z := Decidable.by_contra (fun q => h18 (nI_le (b := 12) (by omega) (by omega)))
    refine w_aload_n X dX12_method_21 rfl rfl ?_
    refine w_iconst (v := 3) X dX12_method_22 (by decide) ?_
    refine w_bipush (v := 12) X dX12_method_23 (by decide) ?_
    refine w_v2fV X dX12_method_25 k12_fail rfl rfl (c12_fail G hG _ _ _ _) (Nat.le_of_ble_eq_true rfl) ?_
    refine w_goto (tgt := 46) X dX12_method_28 (by decide) ?_
    refine w_aload_n X dX12_method_46 rfl rfl ?_
    refine g12_rowName X dX12_method_47 ?_
    try simp only [gI_sI, gI_sL, gL_sI, gL_sL, false_and, and_false, and_self, if_false, if_true, reduceIte, Nat.reduceEqDiff]
    refine w_lstore_n X dX12_method_50 rfl (by decide) ?_
    refine w_aload_n X dX12_method_51 rfl rfl ?_
    refine w_iload_n X dX12_method_52 rfl rfl ?_
    refine p12_at X dX12_method_53 ?_
    rw [if_pos e18] at hR
    refine jf56 _ 3 12 _ _ _ _ z (by simp [sI_]) (by first | omega | exact at5_ (by omega)) ⟨_, pf_sI (pf_fa hB) (by first | omega | exact at5_ (by omega))⟩ ?_ ?_ (by decide) hR.symm
    · rw [fa_0 h3B]; simp [sI_]
    · rw [fa_0 h3B]; simp [sI_]; rfl

end
section
/-! command's parts: readPoint, reset, kill -/
def wdR_ (a b c e : Int32) : Int64 := (((a.toInt64 <<< ((15 : Int32).toInt64 &&& 63)) ||| (b.toInt64 <<< ((10 : Int32).toInt64 &&& 63))) ||| (c.toInt64 <<< ((5 : Int32).toInt64 &&& 63)) ||| e.toInt64) &&& 1048575
def w2_ (a b c e h : Int32) (a2 b2 c2 e2 : Int32) : Int64 := (wdR_ a b c e <<< (h.toInt64 &&& 63)) ||| wdR_ a2 b2 c2 e2
theorem c12_word2 (G : gg_) (hG : gd_ G) (d : Nat) (M : mm_) (a b c e : Int32) : cm_ G yX12_word cX12_word 4 (some .long) (d) [.int a, .int b, .int c, .int e] M (fL_ (wdR_ a b c e) M) := c12_word G hG d M a b c e
/-- a row's letters as one number, where it is short enough -/
def rv_ (f : Nat → Int32) (s z : Nat) : Int64 := if 8 < z then 0 else nm_ f s z
/-- the point that a row names, or -1 -/
def pt0_ (v : Int64) (z : Nat) : Int32 := if z = 5 ∧ v = w2_ 0 5 14 20 10 0 0 5 18 then 0 else -1
def pt1_ (v : Int64) (z : Nat) : Int32 := if z = 6 ∧ v = w2_ 18 5 20 21 10 0 0 18 14 then 1 else pt0_ v z
def pt_ (v : Int64) (z : Nat) : Int32 := if z = 5 ∧ v = w2_ 0 20 8 18 10 0 0 15 23 then 2 else pt1_ v z
/-- behind a row's reading at s -/
def ra_ (M : mm_) (n s : Nat) : mm_ := sL_ (sI_ M 0 5 (nI s)) 0 24 (nm_ (bf_ M n) s (min (rz_ M n s) 12))
set_option maxRecDepth 100000 in
set_option maxHeartbeats 4000000 in
theorem c12_readPoint (G : gg_) (hG : gd_ G) (d : Nat) (M : mm_) (n k s z : Nat) (v : Int64) (ht : tz_ M n) (h5 : M.1 0 5 = nI k) (hk : k ≤ n) (hs : sp_ M n k = s) (hz : rz_ M n s = z) (hv : rv_ (bf_ M n) s z = v) : cm_ G yX12_readPoint cX12_readPoint 6 (some .int) (d + 4) [.ref (G.1 0)] M (fI_ (if pt_ v z < 0 ∨ ¬ bf_ M n (s + z) ≤ 32 then -1 else pt_ v z) (if pt_ v z < 0 ∨ ¬ bf_ M n (s + z) ≤ 32 then fa_ (ra_ M n s) 1 (nI s) else sI_ (ra_ M n s) 0 5 (nI (s + z)))) := by
  refine cm_of hG (by decide) (Nat.le_of_ble_eq_true rfl) (fun C X => ?_)
  have hn := ht.2
  have hsn := (sp_le (M := M) hk).2
  rw [hs] at hsn
  have hzn := rz_le M n s
  rw [hz] at hzn
  have hr5 : (ra_ M n s).1 0 5 = nI s := by simp [ra_, sI_, sL_]
  have hrt : tz_ (ra_ M n s) n := tz_sL (tz_sI ht (by omega))
  have hrb : bf_ (ra_ M n s) n = bf_ M n := by funext q; exact (show bf_ (sI_ M 0 5 (nI s)) n q = _ from bf_sI (by omega))
  have e1 : tz_ (sI_ M 0 5 (nI s)) n := tz_sI ht (by omega)
  have e2 : bf_ (sI_ M 0 5 (nI s)) n = bf_ M n := by funext q; exact bf_sI (by omega)
  have e3 : rz_ (sI_ M 0 5 (nI s)) n s = rz_ M n s := by unfold rz_; rw [e2]
  have e4 : rz_ (ra_ M n s) n s = z := by rw [← hz]; unfold rz_; rw [hrb]
  have ez : ∀ q : Nat, q ≤ 200 → (nI z = nI q ↔ z = q) := fun q hq => nI_eq (by omega) (by omega)
  have j156 : ∀ p0 : Int32, p0 = (pt_ v z) → wq_ C G (qe_ C G (fI_ (if pt_ v z < 0 ∨ ¬ bf_ M n (s + z) ≤ 32 then -1 else pt_ v z) (if pt_ v z < 0 ∨ ¬ bf_ M n (s + z) ≤ 32 then fa_ (ra_ M n s) 1 (nI s) else sI_ (ra_ M n s) 0 5 (nI (s + z))))) 156 [some (.ref (G.1 0)), some (.int (nI s)), some (.long v), none, some (.int (nI z)), some (.int p0)] [] (ra_ M n s) := by
    intro p0 hp0
    subst hp0
    refine w_iload X dX12_readPoint_156 rfl ?_
    refine w_if_lt (tgt := 172) X dX12_readPoint_158 (by decide) (fun h158 => ?_) (fun h158 => ?_)
    · rw [if_pos (Or.inl h158), if_pos (Or.inl h158)]
      refine w_aload_n X dX12_readPoint_172 rfl rfl ?_
      refine w_iconst (v := 1) X dX12_readPoint_173 (by decide) ?_
      refine w_iload_n X dX12_readPoint_174 rfl rfl ?_
      refine w_v2fV X dX12_readPoint_175 k12_fail rfl rfl (c12_fail G hG _ _ _ _) (Nat.le_of_ble_eq_true rfl) ?_
      refine w_iconst (v := -1) X dX12_readPoint_178 (by decide) ?_
      exact w_irF X dX12_readPoint_179 rfl rfl
    · refine w_aload_n X dX12_readPoint_161 rfl rfl ?_
      refine w_iload_n X dX12_readPoint_162 rfl rfl ?_
      refine w_iload X dX12_readPoint_163 rfl ?_
      refine w_iadd X dX12_readPoint_165 ?_
      rw [nI_add]
      refine w_v1fI X dX12_readPoint_166 k12_endsAt rfl rfl (c12_endsAt G hG _ _ n (s + z) hrt (by omega)) (Nat.le_of_ble_eq_true rfl) ?_
      rw [hrb]
      refine w_if_ne (tgt := 180) X dX12_readPoint_169 (by decide) (fun h169 => ?_) (fun h169 => ?_)
      · have e169 : bf_ M n (s + z) ≤ 32 := Decidable.by_contra (fun q => h169 (if_neg q))
        have e5 : ¬ (pt_ v z < 0 ∨ ¬ bf_ M n (s + z) ≤ 32) := fun q => q.elim h158 (fun y => y e169)
        rw [if_neg e5, if_neg e5]
        refine w_aload_n X dX12_readPoint_180 rfl rfl ?_
        refine w_iload_n X dX12_readPoint_181 rfl rfl ?_
        refine w_iload X dX12_readPoint_182 rfl ?_
        refine w_iadd X dX12_readPoint_184 ?_
        rw [nI_add]
        refine p12_at X dX12_readPoint_185 ?_
        refine w_iload X dX12_readPoint_188 rfl ?_
        exact w_irF X dX12_readPoint_190 rfl rfl
      · have e169 : ¬ bf_ M n (s + z) ≤ 32 := fun q => by rw [if_pos q] at h169; exact absurd h169 (by decide)
        rw [if_pos (Or.inr e169), if_pos (Or.inr e169)]
        refine w_aload_n X dX12_readPoint_172 rfl rfl ?_
        refine w_iconst (v := 1) X dX12_readPoint_173 (by decide) ?_
        refine w_iload_n X dX12_readPoint_174 rfl rfl ?_
        refine w_v2fV X dX12_readPoint_175 k12_fail rfl rfl (c12_fail G hG _ _ _ _) (Nat.le_of_ble_eq_true rfl) ?_
        refine w_iconst (v := -1) X dX12_readPoint_178 (by decide) ?_
        exact w_irF X dX12_readPoint_179 rfl rfl
  have j114 : ∀ p0 : Int32, p0 = (pt1_ v z) → wq_ C G (qe_ C G (fI_ (if pt_ v z < 0 ∨ ¬ bf_ M n (s + z) ≤ 32 then -1 else pt_ v z) (if pt_ v z < 0 ∨ ¬ bf_ M n (s + z) ≤ 32 then fa_ (ra_ M n s) 1 (nI s) else sI_ (ra_ M n s) 0 5 (nI (s + z))))) 114 [some (.ref (G.1 0)), some (.int (nI s)), some (.long v), none, some (.int (nI z)), some (.int p0)] [] (ra_ M n s) := by
    intro p0 hp0
    subst hp0
    refine w_iload X dX12_readPoint_114 rfl ?_
    refine w_iconst (v := 5) X dX12_readPoint_116 (by decide) ?_
    refine w_icmp_ne (tgt := 152) X dX12_readPoint_117 (by decide) (fun h117 => ?_) (fun h117 => ?_)
    · refine w_iload X dX12_readPoint_152 rfl ?_
      refine w_istore X dX12_readPoint_154 (by decide) ?_
      have ep : pt_ v z = (pt1_ v z) := by unfold pt_; exact if_neg (fun q => h117 (by rw [q.1]; rfl))
      exact j156 _ ep.symm
    · refine w_lload_n X dX12_readPoint_120 rfl rfl ?_
      refine w_iconst (v := 0) X dX12_readPoint_121 (by decide) ?_
      refine w_bipush (v := 20) X dX12_readPoint_122 (by decide) ?_
      refine w_bipush (v := 8) X dX12_readPoint_124 (by decide) ?_
      refine w_bipush (v := 18) X dX12_readPoint_126 (by decide) ?_
      refine w_s4fL X dX12_readPoint_128 k12_word (c12_word2 G hG _ _ _ _ _ _) (Nat.le_of_ble_eq_true rfl) ?_
      refine w_bipush (v := 10) X dX12_readPoint_131 (by decide) ?_
      refine w_lshl X dX12_readPoint_133 ?_
      refine w_iconst (v := 0) X dX12_readPoint_134 (by decide) ?_
      refine w_iconst (v := 0) X dX12_readPoint_135 (by decide) ?_
      refine w_bipush (v := 15) X dX12_readPoint_136 (by decide) ?_
      refine w_bipush (v := 23) X dX12_readPoint_138 (by decide) ?_
      refine w_s4fL X dX12_readPoint_140 k12_word (c12_word2 G hG _ _ _ _ _ _) (Nat.le_of_ble_eq_true rfl) ?_
      refine w_lor X dX12_readPoint_143 ?_
      refine w_lcmp X dX12_readPoint_144 ?_
      refine w_if_ne (tgt := 152) X dX12_readPoint_145 (by decide) (fun h145 => ?_) (fun h145 => ?_)
      · refine w_iload X dX12_readPoint_152 rfl ?_
        refine w_istore X dX12_readPoint_154 (by decide) ?_
        have ep : pt_ v z = (pt1_ v z) := by unfold pt_; exact if_neg (fun q => h145 (lc_.mpr q.2))
        exact j156 _ ep.symm
      · refine w_iconst (v := 2) X dX12_readPoint_148 (by decide) ?_
        refine w_goto (tgt := 154) X dX12_readPoint_149 (by decide) ?_
        refine w_istore X dX12_readPoint_154 (by decide) ?_
        have ep : pt_ v z = 2 := by unfold pt_; exact if_pos ⟨(ez 5 (by omega)).mp h117, lc_.mp h145⟩
        exact j156 _ ep.symm
  have j71 : ∀ p0 : Int32, p0 = (pt0_ v z) → wq_ C G (qe_ C G (fI_ (if pt_ v z < 0 ∨ ¬ bf_ M n (s + z) ≤ 32 then -1 else pt_ v z) (if pt_ v z < 0 ∨ ¬ bf_ M n (s + z) ≤ 32 then fa_ (ra_ M n s) 1 (nI s) else sI_ (ra_ M n s) 0 5 (nI (s + z))))) 71 [some (.ref (G.1 0)), some (.int (nI s)), some (.long v), none, some (.int (nI z)), some (.int p0)] [] (ra_ M n s) := by
    intro p0 hp0
    subst hp0
    refine w_iload X dX12_readPoint_71 rfl ?_
    refine w_bipush (v := 6) X dX12_readPoint_73 (by decide) ?_
    refine w_icmp_ne (tgt := 110) X dX12_readPoint_75 (by decide) (fun h75 => ?_) (fun h75 => ?_)
    · refine w_iload X dX12_readPoint_110 rfl ?_
      refine w_istore X dX12_readPoint_112 (by decide) ?_
      have ep : pt1_ v z = (pt0_ v z) := by unfold pt1_; exact if_neg (fun q => h75 (by rw [q.1]; rfl))
      exact j114 _ ep.symm
    · refine w_lload_n X dX12_readPoint_78 rfl rfl ?_
      refine w_bipush (v := 18) X dX12_readPoint_79 (by decide) ?_
      refine w_iconst (v := 5) X dX12_readPoint_81 (by decide) ?_
      refine w_bipush (v := 20) X dX12_readPoint_82 (by decide) ?_
      refine w_bipush (v := 21) X dX12_readPoint_84 (by decide) ?_
      refine w_s4fL X dX12_readPoint_86 k12_word (c12_word2 G hG _ _ _ _ _ _) (Nat.le_of_ble_eq_true rfl) ?_
      refine w_bipush (v := 10) X dX12_readPoint_89 (by decide) ?_
      refine w_lshl X dX12_readPoint_91 ?_
      refine w_iconst (v := 0) X dX12_readPoint_92 (by decide) ?_
      refine w_iconst (v := 0) X dX12_readPoint_93 (by decide) ?_
      refine w_bipush (v := 18) X dX12_readPoint_94 (by decide) ?_
      refine w_bipush (v := 14) X dX12_readPoint_96 (by decide) ?_
      refine w_s4fL X dX12_readPoint_98 k12_word (c12_word2 G hG _ _ _ _ _ _) (Nat.le_of_ble_eq_true rfl) ?_
      refine w_lor X dX12_readPoint_101 ?_
      refine w_lcmp X dX12_readPoint_102 ?_
      refine w_if_ne (tgt := 110) X dX12_readPoint_103 (by decide) (fun h103 => ?_) (fun h103 => ?_)
      · refine w_iload X dX12_readPoint_110 rfl ?_
        refine w_istore X dX12_readPoint_112 (by decide) ?_
        have ep : pt1_ v z = (pt0_ v z) := by unfold pt1_; exact if_neg (fun q => h103 (lc_.mpr q.2))
        exact j114 _ ep.symm
      · refine w_iconst (v := 1) X dX12_readPoint_106 (by decide) ?_
        refine w_goto (tgt := 112) X dX12_readPoint_107 (by decide) ?_
        refine w_istore X dX12_readPoint_112 (by decide) ?_
        have ep : pt1_ v z = 1 := by unfold pt1_; exact if_pos ⟨(ez 6 (by omega)).mp h75, lc_.mp h103⟩
        exact j114 _ ep.symm
  have j31 : ∀ p0 : Int32, p0 = (-1) → wq_ C G (qe_ C G (fI_ (if pt_ v z < 0 ∨ ¬ bf_ M n (s + z) ≤ 32 then -1 else pt_ v z) (if pt_ v z < 0 ∨ ¬ bf_ M n (s + z) ≤ 32 then fa_ (ra_ M n s) 1 (nI s) else sI_ (ra_ M n s) 0 5 (nI (s + z))))) 31 [some (.ref (G.1 0)), some (.int (nI s)), some (.long v), none, some (.int (nI z)), some (.int p0)] [] (ra_ M n s) := by
    intro p0 hp0
    subst hp0
    refine w_iload X dX12_readPoint_31 rfl ?_
    refine w_iconst (v := 5) X dX12_readPoint_33 (by decide) ?_
    refine w_icmp_ne (tgt := 67) X dX12_readPoint_34 (by decide) (fun h34 => ?_) (fun h34 => ?_)
    · refine w_iload X dX12_readPoint_67 rfl ?_
      refine w_istore X dX12_readPoint_69 (by decide) ?_
      have ep : pt0_ v z = (-1) := by unfold pt0_; exact if_neg (fun q => h34 (by rw [q.1]; rfl))
      exact j71 _ ep.symm
    · refine w_lload_n X dX12_readPoint_37 rfl rfl ?_
      refine w_iconst (v := 0) X dX12_readPoint_38 (by decide) ?_
      refine w_iconst (v := 5) X dX12_readPoint_39 (by decide) ?_
      refine w_bipush (v := 14) X dX12_readPoint_40 (by decide) ?_
      refine w_bipush (v := 20) X dX12_readPoint_42 (by decide) ?_
      refine w_s4fL X dX12_readPoint_44 k12_word (c12_word2 G hG _ _ _ _ _ _) (Nat.le_of_ble_eq_true rfl) ?_
      refine w_bipush (v := 10) X dX12_readPoint_47 (by decide) ?_
      refine w_lshl X dX12_readPoint_49 ?_
      refine w_iconst (v := 0) X dX12_readPoint_50 (by decide) ?_
      refine w_iconst (v := 0) X dX12_readPoint_51 (by decide) ?_
      refine w_iconst (v := 5) X dX12_readPoint_52 (by decide) ?_
      refine w_bipush (v := 18) X dX12_readPoint_53 (by decide) ?_
      refine w_s4fL X dX12_readPoint_55 k12_word (c12_word2 G hG _ _ _ _ _ _) (Nat.le_of_ble_eq_true rfl) ?_
      refine w_lor X dX12_readPoint_58 ?_
      refine w_lcmp X dX12_readPoint_59 ?_
      refine w_if_ne (tgt := 67) X dX12_readPoint_60 (by decide) (fun h60 => ?_) (fun h60 => ?_)
      · refine w_iload X dX12_readPoint_67 rfl ?_
        refine w_istore X dX12_readPoint_69 (by decide) ?_
        have ep : pt0_ v z = (-1) := by unfold pt0_; exact if_neg (fun q => h60 (lc_.mpr q.2))
        exact j71 _ ep.symm
      · refine w_iconst (v := 0) X dX12_readPoint_63 (by decide) ?_
        refine w_goto (tgt := 69) X dX12_readPoint_64 (by decide) ?_
        refine w_istore X dX12_readPoint_69 (by decide) ?_
        have ep : pt0_ v z = 0 := by unfold pt0_; exact if_pos ⟨(ez 5 (by omega)).mp h34, lc_.mp h60⟩
        exact j71 _ ep.symm
  refine w_aload_n X dX12_readPoint_0 rfl rfl ?_
  refine w_v0fV X dX12_readPoint_1 k12_skip rfl rfl (c12_skip G hG _ _ n k ht h5 (by omega)) (Nat.le_of_ble_eq_true rfl) ?_
  rw [hs]
  refine w_aload_n X dX12_readPoint_4 rfl rfl ?_
  refine g12_at X dX12_readPoint_5 ?_
  try simp only [gI_sI, gI_sL, gL_sI, gL_sL, false_and, and_false, and_self, if_false, if_true, reduceIte, Nat.reduceEqDiff, h5]
  refine w_istore_n X dX12_readPoint_8 rfl (by decide) ?_
  refine w_aload_n X dX12_readPoint_9 rfl rfl ?_
  refine w_aload_n X dX12_readPoint_10 rfl rfl ?_
  refine g12_at X dX12_readPoint_11 ?_
  try simp only [gI_sI, gI_sL, gL_sI, gL_sL, false_and, and_false, and_self, if_false, if_true, reduceIte, Nat.reduceEqDiff, h5]
  refine w_v1fL X dX12_readPoint_14 k12_rowAt rfl rfl (c12_rowAt G hG _ _ n s e1 (by omega)) (Nat.le_of_ble_eq_true rfl) ?_
  rw [e2, e3]
  rw [show (if 8 < rz_ M n s then (0 : Int64) else nm_ (bf_ M n) s (rz_ M n s)) = v by rw [hz]; exact hv]
  show wq_ C G _ _ _ _ (ra_ M n s)
  refine w_lstore_n X dX12_readPoint_17 rfl (by decide) ?_
  refine w_aload_n X dX12_readPoint_18 rfl rfl ?_
  refine w_aload_n X dX12_readPoint_19 rfl rfl ?_
  refine g12_at X dX12_readPoint_20 ?_
  try simp only [gI_sI, gI_sL, gL_sI, gL_sL, false_and, and_false, and_self, if_false, if_true, reduceIte, Nat.reduceEqDiff, h5]
  rw [hr5]
  refine w_v1fI X dX12_readPoint_23 k12_rowSize rfl rfl (c12_rowSize G hG _ _ n s hrt (by omega)) (Nat.le_of_ble_eq_true rfl) ?_
  rw [e4]
  refine w_istore X dX12_readPoint_26 (by decide) ?_
  refine w_iconst (v := -1) X dX12_readPoint_28 (by decide) ?_
  refine w_istore X dX12_readPoint_29 (by decide) ?_
  exact j31 _ rfl
set_option maxRecDepth 100000 in
set_option maxHeartbeats 4000000 in
theorem c12_reset_f (G : gg_) (hG : gd_ G) (d : Nat) (M : mm_) (n k : Nat) (ht : tz_ M n) (h5 : M.1 0 5 = nI k) (hk : k ≤ n) (hf : M.1 0 3 = 0) (hs : sp_ M n k < n) : cm_ G yX12_reset cX12_reset 3 (some .int) (d + 2) [.ref (G.1 0)] M (fI_ (-1) (fa_ (sI_ M 0 5 (nI (sp_ M n k))) 1 (nI (sp_ M n k)))) := by
  refine cm_of hG (by decide) (Nat.le_of_ble_eq_true rfl) (fun C X => ?_)
  have hn := ht.2
  have e0 : (sI_ M 0 5 (nI (sp_ M n k))).1 0 3 = 0 := by simpa [sI_] using hf
  have e1 : (fa_ (sI_ M 0 5 (nI (sp_ M n k))) 1 (nI (sp_ M n k))).1 0 3 = 1 := by rw [fa_0 e0]; simp [sI_]
  refine w_aload_n X dX12_reset_0 rfl rfl ?_
  refine w_v0fV X dX12_reset_1 k12_wantEnd rfl rfl (c12_wantEnd G hG _ _ n k ht h5 (by omega)) (Nat.le_of_ble_eq_true rfl) ?_
  rw [if_pos ⟨hf, hs⟩]
  refine w_aload_n X dX12_reset_4 rfl rfl ?_
  refine g12_fault X dX12_reset_5 ?_
  try simp only [gI_sI, gI_sL, gL_sI, gL_sL, false_and, and_false, and_self, if_false, if_true, reduceIte, Nat.reduceEqDiff, e1]
  refine w_if_le (tgt := 13) X dX12_reset_8 (by decide) (fun h8 => absurd h8 (by decide)) (fun h8 => ?_)
  refine w_iconst (v := -1) X dX12_reset_11 (by decide) ?_
  exact w_irF X dX12_reset_12 rfl rfl
set_option maxRecDepth 100000 in
set_option maxHeartbeats 4000000 in
theorem c12_reset_o (G : gg_) (hG : gd_ G) (d : Nat) (M : mm_) (n k : Nat) (ht : tz_ M n) (h5 : M.1 0 5 = nI k) (hk : k ≤ n) (hf : M.1 0 3 = 0) (hs : ¬ sp_ M n k < n) : cm_ G yX12_reset cX12_reset 3 (some .int) (d + 2) [.ref (G.1 0)] M (fI_ (nI (nk_ M 8)) (zk_ (sI_ M 0 5 (nI (sp_ M n k))) 8)) := by
  refine cm_of hG (by decide) (Nat.le_of_ble_eq_true rfl) (fun C X => ?_)
  have hn := ht.2
  generalize hE : sI_ M 0 5 (nI (sp_ M n k)) = E
  have hE3 : E.1 0 3 = 0 := by rw [← hE]; simpa [sI_] using hf
  have hE12 : ∀ i, E.1 12 i = M.1 12 i := fun i => by rw [← hE, sI_ne _ _ _ _ (by omega)]
  have lp : ∀ (u j : Nat), j + u = 8 → wq_ C G (qe_ C G (fI_ (nI (nk_ M 8)) (zk_ E 8))) 17 [some (.ref (G.1 0)), some (.int (nI (nk_ M j))), some (.int (nI j))] [] (zk_ E j) := by
    intro u
    induction u with
    | zero =>
      intro j hu
      have hj : j = 8 := by omega
      subst hj
      refine w_iload_n X dX12_reset_17 rfl rfl ?_
      refine w_bipush (v := 8) X dX12_reset_18 (by decide) ?_
      refine w_icmp_ge (tgt := 53) X dX12_reset_20 (by decide) (fun h20 => ?_) (fun h20 => absurd (nI_le (a := 8) (by omega) (by omega)) h20)
      refine w_iload_n X dX12_reset_53 rfl rfl ?_
      exact w_irF X dX12_reset_54 rfl rfl
    | succ u ih =>
      intro j hu
      have ej : (zk_ E j).1 12 j = M.1 12 j := by rw [zk_I j 12 j (by omega)]; exact hE12 j
      refine w_iload_n X dX12_reset_17 rfl rfl ?_
      refine w_bipush (v := 8) X dX12_reset_18 (by decide) ?_
      refine w_icmp_ge (tgt := 53) X dX12_reset_20 (by decide) (fun h20 => absurd h20 (nI_ge (b := 8) (by omega) (by omega))) (fun h20 => ?_)
      refine w_aload_n X dX12_reset_23 rfl rfl ?_
      refine g12_kinds X dX12_reset_24 ?_
      refine w_iload_n X dX12_reset_27 rfl rfl ?_
      refine w_ialoadN X dX12_reset_28 rfl rfl (by omega) ?_
      try simp only [gI_sI, gI_sL, gL_sI, gL_sL, false_and, and_false, and_self, if_false, if_true, reduceIte, Nat.reduceEqDiff, ej]
      refine w_if_le (tgt := 38) X dX12_reset_29 (by decide) (fun h29 => ?_) (fun h29 => ?_)
      · refine w_iload_n X dX12_reset_38 rfl rfl ?_
        refine w_istore_n X dX12_reset_39 rfl (by decide) ?_
        refine w_aload_n X dX12_reset_40 rfl rfl ?_
        refine g12_kinds X dX12_reset_41 ?_
        refine w_iload_n X dX12_reset_44 rfl rfl ?_
        refine w_iconst (v := 0) X dX12_reset_45 (by decide) ?_
        refine w_iastoreN X dX12_reset_46 rfl rfl (by omega) ?_
        refine w_iinc (v := 1) X dX12_reset_47 rfl (by decide) (by decide) ?_
        refine w_goto (tgt := 17) X dX12_reset_50 (by decide) ?_
        rw [nI_1]
        have en : nk_ M (j + 1) = nk_ M j := if_pos h29
        rw [← en]
        exact ih (j + 1) (by omega)
      · refine w_iload_n X dX12_reset_32 rfl rfl ?_
        refine w_iconst (v := 1) X dX12_reset_33 (by decide) ?_
        refine w_iadd X dX12_reset_34 ?_
        refine w_goto (tgt := 39) X dX12_reset_35 (by decide) ?_
        refine w_istore_n X dX12_reset_39 rfl (by decide) ?_
        refine w_aload_n X dX12_reset_40 rfl rfl ?_
        refine g12_kinds X dX12_reset_41 ?_
        refine w_iload_n X dX12_reset_44 rfl rfl ?_
        refine w_iconst (v := 0) X dX12_reset_45 (by decide) ?_
        refine w_iastoreN X dX12_reset_46 rfl rfl (by omega) ?_
        refine w_iinc (v := 1) X dX12_reset_47 rfl (by decide) (by decide) ?_
        refine w_goto (tgt := 17) X dX12_reset_50 (by decide) ?_
        rw [nI_1, nI_1]
        have en : nk_ M (j + 1) = nk_ M j + 1 := if_neg h29
        rw [← en]
        exact ih (j + 1) (by omega)
  refine w_aload_n X dX12_reset_0 rfl rfl ?_
  refine w_v0fV X dX12_reset_1 k12_wantEnd rfl rfl (c12_wantEnd G hG _ _ n k ht h5 (by omega)) (Nat.le_of_ble_eq_true rfl) ?_
  rw [if_neg (fun q => hs q.2), hE]
  refine w_aload_n X dX12_reset_4 rfl rfl ?_
  refine g12_fault X dX12_reset_5 ?_
  try simp only [gI_sI, gI_sL, gL_sI, gL_sL, false_and, and_false, and_self, if_false, if_true, reduceIte, Nat.reduceEqDiff, hE3]
  refine w_if_le (tgt := 13) X dX12_reset_8 (by decide) (fun h8 => ?_) (fun h8 => absurd (by decide) h8)
  refine w_iconst (v := 0) X dX12_reset_13 (by decide) ?_
  refine w_istore_n X dX12_reset_14 rfl (by decide) ?_
  refine w_iconst (v := 0) X dX12_reset_15 (by decide) ?_
  refine w_istore_n X dX12_reset_16 rfl (by decide) ?_
  exact lp 8 0 (by omega)

end
