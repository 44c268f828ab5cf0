/-! The class's reader of expressions as a function of the text (T: a byte by its place; v: so many variables are known; nm: names may come), the code of a tree in the class's form, and what reading keeps.
Trees as the reference's: .int v, .index i, .length e (less than 0), .sum e (thrown), .elem (.int c) (.add a b), .mul a (.div b c) (?:), .rem a b (#), .sub (.long key) args, args .null or .add a rest. -/
def srT_ (T : Int32 → Int32) (p : Int32) : Nat → Nat → Int32 → Int64 → Nat × Int32 × Int64
  | 0, j, q, w => (j, q, w)
  | u + 1, j, q, w => if rb_ (T (p + nI j)) = 0 then (j, q, w) else srT_ T p u (j + 1) (q + (if T (p + nI j) = 46 then 1 else 0)) (if j < 12 then wi_ w (nI j) (sgX_ (T (p + nI j))) else w)
theorem sr1_T (M : mm_) (p : Int32) : ∀ (u j : Nat) (q : Int32) (w : Int64), sr1_ M p u j q w = srT_ (tb_ M) p u j q w
  | 0, _, _, _ => rfl
  | u + 1, j, q, w => by
    rw [sr1_, srT_, sr1_T M p u]
def nuP_ (T : Int32 → Int32) : Nat → Nat → Int64 → Nat × Int64
  | 0, k, v => (k, v)
  | u + 1, k, v => if fg_ (T (nI k)) = 0 then (k, v) else nuP_ T u (k + 1) (mn_ (v * 10 + (T (nI k)).toInt64 - 48) 1099511627776)
abbrev px2_ : Type := Option (Term × Nat × Nat)
abbrev pf2_ : Type := Nat → Option Term → Nat → Nat → Nat → px2_
def an_ : Term → Nat
  | .add _ r => an_ r + 1
  | _ => 0
def z1_ (P : pf2_) (T : Int32 → Int32) (l : Option Term) (k m o : Nat) : px2_ := match l with
  | none => match P 2 none k m o with
    | none => none
    | some r => P 1 (some r.1) r.2.1 r.2.2 o
  | some e => if T (nI k) = 35 then (if m < 20 then (match P 2 none (k + 1) (m + 1) o with
    | none => none
    | some r => P 1 (some (.rem e r.1)) r.2.1 r.2.2 o) else none) else some (e, k, m)
def z2_ (P : pf2_) (T : Int32 → Int32) (k m o : Nat) : px2_ := match P 3 none k m o with
  | none => none
  | some a => if T (nI a.2.1) = 63 then (if a.2.2 < 20 then (match P 1 none (a.2.1 + 1) (a.2.2 + 1) o with
    | none => none
    | some t => if T (nI t.2.1) = 58 then (match P 2 none (t.2.1 + 1) t.2.2 o with
      | none => none
      | some c => some (.mul a.1 (.div t.1 c.1), c.2.1, c.2.2)) else none) else none) else some a
def z3_ (P : pf2_) (T : Int32 → Int32) (q : Nat) (l : Option Term) (k m o : Nat) : px2_ := match l with
  | none => match P (q + 1) none k m o with
    | none => none
    | some r => P q (some r.1) r.2.1 r.2.2 o
  | some e => if kd_ (T (nI k)) = nI q then (if m < 20 then (match P (q + 1) none (k + 1) (m + 1) o with
    | none => none
    | some r => if q = 3 then some (.elem (.int (T (nI k))) (.add e r.1), r.2.1, r.2.2) else P q (some (.elem (.int (T (nI k))) (.add e r.1))) r.2.1 r.2.2 o) else none) else some (e, k, m)
def z6_ (P : pf2_) (T : Int32 → Int32) (k m o : Nat) : px2_ := if T (nI k) = 45 ∨ T (nI k) = 33 then (if m < 20 then (match P 6 none (k + 1) (m + 1) o with
    | none => none
    | some r => some (if T (nI k) = 45 then .length r.1 else .sum r.1, r.2.1, r.2.2)) else none) else P 7 none k m o
/-- the variable that stands at k -/
def vx2_ (T : Int32 → Int32) (k : Nat) : Int32 := ixo_ 0 (((T (nI k)).toUInt32 % 65536).toInt32)
def zw_ (P : pf2_) (T : Int32 → Int32) (v : Int32) (nm : Bool) (k m o : Nat) (r : Nat × Int32 × Int64) : px2_ :=
  if r.2.1 = 1 ∧ ¬ T (nI k) = 46 ∧ ¬ T (nI k + nI r.1 - 1) = 46 then
    (if m < 20 ∧ nm = true ∧ r.1 ≤ 12 ∧ T (nI (k + r.1)) = 40 ∧ o < 12 then
      (if T (nI (k + r.1 + 1)) = 41 then some (.sub (.long (ky_ r.2.2 0)) .null, k + r.1 + 2, m + 1)
       else (match P 8 none (k + r.1 + 1) (m + 1) (o + 1) with
        | none => none
        | some x => if T (nI x.2.1) = 41 then some (.sub (.long (ky_ r.2.2 (nI (an_ x.1)))) x.1, x.2.1 + 1, x.2.2) else none))
     else none)
  else if r.1 = 1 ∧ ¬ T (nI k) = 46 ∧ m < 20 ∧ ¬ vx2_ T k < 0 ∧ vx2_ T k < v then some (.index (vx2_ T k).toNatClampNeg, k + 1, m + 1) else none
def z7_ (P : pf2_) (T : Int32 → Int32) (v : Int32) (nm : Bool) (k m o : Nat) : px2_ :=
  if fg_ (T (nI k)) = 0 then
    (if rb_ (T (nI k)) = 0 then
      (if T (nI k) = 40 ∧ o < 12 then (match P 1 none (k + 1) m (o + 1) with
        | none => none
        | some x => if T (nI x.2.1) = 41 then some (x.1, x.2.1 + 1, x.2.2) else none) else none)
     else zw_ P T v nm k m o (srT_ T (nI k) 200 0 0 0))
  else if (nuP_ T 200 k 0).2 ≤ 2147483647 ∧ m < 20 then some (.int (nuP_ T 200 k 0).2.toInt32, (nuP_ T 200 k 0).1, m + 1) else none
def z8_ (P : pf2_) (T : Int32 → Int32) (k m o : Nat) : px2_ := match P 1 none k m o with
  | none => none
  | some a => if T (nI a.2.1) = 44 then (match P 1 none (a.2.1 + 1) a.2.2 o with
    | none => none
    | some b => if T (nI b.2.1) = 44 then (match P 1 none (b.2.1 + 1) b.2.2 o with
      | none => none
      | some c => if T (nI c.2.1) = 44 then none else some (.add a.1 (.add b.1 (.add c.1 .null)), c.2.1, c.2.2)) else some (.add a.1 (.add b.1 .null), b.2.1, b.2.2)) else some (.add a.1 .null, a.2.1, a.2.2)
def zs_ (P : pf2_) (T : Int32 → Int32) (v : Int32) (nm : Bool) : pf2_ := fun q l k m o =>
  if q = 1 then z1_ P T l k m o else if q = 2 then z2_ P T k m o else if q ≤ 5 then z3_ P T q l k m o else if q = 6 then z6_ P T k m o else if q = 7 then z7_ P T v nm k m o else z8_ P T k m o
def pz2_ (T : Int32 → Int32) (v : Int32) (nm : Bool) : Nat → pf2_
  | 0 => fun _ _ _ _ _ => none
  | f + 1 => zs_ (pz2_ T v nm f) T v nm
/-! the code of a tree: operation, operand, where a # begins, how high the stack lies behind the step -/
abbrev cq2_ : Type := Int32 × Int64 × Int32 × Int32
def kv2_ : Term → Int64
  | .long k => k
  | _ => 0
def sg2_ : Term → Int32
  | .int c => c
  | _ => 0
def snX_ : Term → Nat
  | .int _ => 1
  | .index _ => 1
  | .length e => snX_ e + 1
  | .sum e => snX_ e + 1
  | .elem _ x => snX_ x + 1
  | .mul a (.div b c) => snX_ a + snX_ b + snX_ c + 2
  | .rem a b => snX_ a + snX_ b + 1
  | .sub _ x => snX_ x + 1
  | .add a r => snX_ a + snX_ r
  | _ => 0
def cqX_ : Term → Nat → Int32 → List cq2_
  | .int v, _, H => [(0, v.toInt64, 0, H + 1)]
  | .index i, _, H => [(1, (nI i).toInt64, 0, H + 1)]
  | .length e, L, H => cqX_ e L H ++ [(2, 0, 0, H + 1)]
  | .sum e, L, H => cqX_ e L H ++ [(3, 0, 0, H + 1)]
  | .elem s x, L, H => cqX_ x L H ++ [(sg2_ s, 0, 0, H + 1)]
  | .mul a (.div b c), L, H => cqX_ a L H ++ (4, lN (L + snX_ a + 1 + snX_ b + 1), 0, H) :: (cqX_ b (L + snX_ a + 1) H ++ (5, lN (L + snX_ a + 1 + snX_ b + 1 + snX_ c), 0, H) :: cqX_ c (L + snX_ a + 1 + snX_ b + 1) H)
  | .rem a b, L, H => cqX_ a L H ++ (6, lN (L + snX_ a + 1 + snX_ b), nI L, H) :: cqX_ b (L + snX_ a + 1) H
  | .sub k x, L, H => cqX_ x L H ++ [(7, kv2_ k, 0, H + 1)]
  | .add a r, L, H => cqX_ a L H ++ cqX_ r (L + snX_ a) (H + 1)
  | _, _, _ => []
/-- the code C stands in the Code k -/
def hd_ (k : Nat) (M : mm_) (C : List cq2_) : Prop := M.1 k 4 = nI C.length ∧ ∀ (j : Nat) (q : cq2_), C[j]? = some q → M.1 (k + 1) j = q.1 ∧ M.2.1 (k + 2) j = q.2.1 ∧ (q.1 = 6 → M.1 (k + 3) j = q.2.2.1) ∧ M.1 (k + 4) j = q.2.2.2
/-- nothing but the reader's own cells has changed -/
def cf_ (k : Nat) (M N : mm_) : Prop := N.2.2 = M.2.2 ∧ (∀ a i, a ≠ 37 → a ≠ 39 → (a < k ∨ k + 4 < a) → N.1 a i = M.1 a i) ∧ (∀ a i, a ≠ 37 → a ≠ k + 2 → N.2.1 a i = M.2.1 a i) ∧ N.1 39 2 = M.1 39 2 ∧ N.1 39 3 = M.1 39 3
theorem cf_rf {k : Nat} {M : mm_} : cf_ k M M := ⟨rfl, fun _ _ _ _ _ => rfl, fun _ _ _ _ => rfl, rfl, rfl⟩
theorem cf_tr {k : Nat} {A B D : mm_} (h : cf_ k A B) (g : cf_ k B D) : cf_ k A D := ⟨g.1.trans h.1, fun a i h1 h2 h3 => (g.2.1 a i h1 h2 h3).trans (h.2.1 a i h1 h2 h3), fun a i h1 h2 => (g.2.2.1 a i h1 h2).trans (h.2.2.1 a i h1 h2), g.2.2.2.1.trans h.2.2.2.1, g.2.2.2.2.trans h.2.2.2.2⟩
/-- where Codes lie -/
def kb_ (k : Nat) : Prop := k = 40 ∨ (48 ≤ k ∧ k ≤ 128) ∨ (136 ≤ k ∧ k ≤ 237)
theorem cd_kb {k : Nat} (h : cdX_ k) : kb_ k := by
  have hl : k < ds_.length := (List.getElem?_eq_some_iff.mp h.1).1
  have key : ∀ k, k < ds_.length → (match ds_[k]? with | some (.inr (0, _)) => decide (k = 40) || (decide (48 ≤ k) && decide (k ≤ 128)) || (decide (136 ≤ k) && decide (k ≤ 237)) | _ => true) = true := by decide +kernel
  have h2 := key k hl
  rw [h.1] at h2
  simp only [Bool.or_eq_true, Bool.and_eq_true, decide_eq_true_eq] at h2
  unfold kb_
  omega
theorem cf_37 {k i : Nat} {M : mm_} {v : Int32} (hk : kb_ k) : cf_ k M (sI_ M 37 i v) := ⟨rfl, fun a j h1 _ _ => by rw [gI_sI, if_neg (fun z => h1 z.1)], fun _ _ _ _ => rfl, rfl, rfl⟩
theorem cf_39 {k i : Nat} {M : mm_} {v : Int32} (hi : 4 ≤ i) : cf_ k M (sI_ M 39 i v) := ⟨rfl, fun a j _ h2 _ => by rw [gI_sI, if_neg (fun z => h2 z.1)], fun _ _ _ _ => rfl, by rw [gI_sI, if_neg (by omega)], by rw [gI_sI, if_neg (by omega)]⟩
theorem cf_k {k a i : Nat} {M : mm_} {v : Int32} (hk : kb_ k) (h1 : k ≤ a) (h2 : a ≤ k + 4) : cf_ k M (sI_ M a i v) := by
  unfold kb_ at hk
  refine ⟨rfl, fun b j _ _ h3 => ?_, fun _ _ _ _ => rfl, ?_, ?_⟩
  · rw [gI_sI, if_neg (by omega)]
  · rw [gI_sI, if_neg (by omega)]
  · rw [gI_sI, if_neg (by omega)]
theorem cf_L {k i : Nat} {M : mm_} {v : Int64} : cf_ k M (sL_ M (k + 2) i v) := ⟨rfl, fun _ _ _ _ _ => rfl, fun a j _ h2 => by rw [gL_sL, if_neg (fun z => h2 z.1)], rfl, rfl⟩
theorem cf_L37 {k i : Nat} {M : mm_} {v : Int64} : cf_ k M (sL_ M 37 i v) := ⟨rfl, fun _ _ _ _ _ => rfl, fun a j h1 _ => by rw [gL_sL, if_neg (fun z => h1 z.1)], rfl, rfl⟩
theorem cf_fi {k : Nat} {M : mm_} {f w : Int32} (hk : kb_ k) : cf_ k M (fiX_ M f w) := by
  unfold fiX_; split
  · exact cf_tr (cf_37 hk) (cf_37 hk)
  · exact cf_rf
theorem cf_ad {k n : Nat} {M : mm_} {p : Int32} {o : Int64} (hk : kb_ k) : cf_ k M (ad_ M k n p o) := by
  unfold ad_; split
  · exact cf_tr (cf_tr (cf_tr (cf_tr (cf_k hk (by omega) (by omega)) (cf_k hk (by omega) (by omega))) cf_L) (cf_k hk (by omega) (by omega))) (cf_k hk (by omega) (by omega))
  · exact cf_k hk (by omega) (by omega)
theorem cf_ae {k n : Nat} {M : mm_} {x : Int32} (hk : kb_ k) : cf_ k M (ae_ M k n x) := by
  unfold ae_; split
  · exact cf_tr (cf_ad hk) (cf_k hk (by omega) (by omega))
  · exact cf_ad hk
theorem cf_lh {k n : Nat} {M : mm_} : cf_ k M (lh2_ M k n) := by
  unfold lh2_; split
  · exact cf_L
  · exact cf_rf
theorem cf_cN {k : Nat} {M : mm_} {x : Int32} (hk : kb_ k) : cf_ k M (cN_ M x) := by
  unfold cN_; split
  · exact cf_39 (by omega)
  · exact cf_tr (cf_fi hk) (cf_39 (by omega))
theorem cf_tp {k n : Nat} {M N : mm_} (hk : kb_ k) (h : cf_ k M N) (ht : tpX_ M n) : tpX_ N n := ⟨ht.1, by rw [h.2.1 35 1 (by omega) (by omega) (by unfold kb_ at hk; omega)]; exact ht.2⟩
theorem cf_tb {k : Nat} {M N : mm_} (hk : kb_ k) (h : cf_ k M N) : tb_ N = tb_ M := by
  unfold kb_ at hk
  funext x
  unfold tb_
  rw [h.2.1 35 1 (by omega) (by omega) (by omega), h.2.1 36 _ (by omega) (by omega) (by omega)]

