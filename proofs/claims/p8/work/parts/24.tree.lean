/-! Trees of expressions (as Term), their codes, and the reference's parser's state as a stack of frames (the top first).
.int v a number; .index i a variable; .length e less than 0; .sum e thrown; .elem (.int c) (.add a b) a sign between two; .mul a (.div b c) ?: ; .rem a b # ; .sub (.long key) args an invocation, args .null or .add a rest. -/
abbrev sv_ : Type := Int32 × Int64
abbrev fr_ : Type := Nat × Int32 × Term × Term × Int64
def ac_ : Term → Nat
  | .add _ r => ac_ r + 1
  | _ => 0
def kv_ : Term → Int64
  | .long k => k
  | _ => 0
def sg_ : Term → Int32
  | .int c => c
  | _ => 0
def tc_ : Term → List sv_
  | .int v => [(0, v.toInt64)]
  | .index i => [(1, (nI i).toInt64)]
  | .length e => tc_ e ++ [(3, 0)]
  | .sum e => tc_ e ++ [(4, 0)]
  | .elem s x => tc_ x ++ [(2, (sg_ s).toInt64)]
  | .mul a (.div b c) => tc_ a ++ (5, lN ((tc_ b).length + 1)) :: (tc_ b ++ (6, lN (tc_ c).length) :: tc_ c)
  | .rem a b => (7, lN ((tc_ a).length + 1)) :: (tc_ a ++ (8, lN (tc_ b).length) :: tc_ b)
  | .sub k x => tc_ x ++ [(9, (kv_ k <<< ((2 : Int32).toInt64 &&& 63)) ||| (nI (ac_ x)).toInt64)]
  | .add a r => tc_ a ++ tc_ r
  | _ => []
/-- how many nodes -/
def nt_ : Term → Nat
  | .int _ => 1
  | .index _ => 1
  | .length e => nt_ e + 1
  | .sum e => nt_ e + 1
  | .elem _ x => nt_ x + 1
  | .mul a (.div b c) => nt_ a + nt_ b + nt_ c + 1
  | .rem a b => nt_ a + nt_ b + 1
  | .sub _ x => nt_ x + 1
  | .add a r => nt_ a + nt_ r
  | _ => 0
theorem tc_le : ∀ e : Term, (tc_ e).length ≤ 2 * nt_ e
  | .int _ => by simp [tc_, nt_]
  | .index _ => by simp [tc_, nt_]
  | .length e => by have := tc_le e; simp [tc_, nt_]; omega
  | .sum e => by have := tc_le e; simp [tc_, nt_]; omega
  | .elem _ x => by have := tc_le x; simp [tc_, nt_]; omega
  | .mul a (.div b c) => by have := tc_le a; have := tc_le b; have := tc_le c; simp [tc_, nt_]; omega
  | .rem a b => by have := tc_le a; have := tc_le b; simp [tc_, nt_]; omega
  | .sub _ x => by have := tc_le x; simp [tc_, nt_]; omega
  | .add a r => by have := tc_le a; have := tc_le r; simp [tc_, nt_]; omega
  | .arg _ | .long _ | .null | .field _ _ _ _ | .static _ _ _ | .string _ _ | .mirror _ | .div _ _ | .op2 _ _ _ | .op1 _ _ | .result | .thrown | .old _ => by simp [tc_]
  | .mul _ (.arg _) | .mul _ (.int _) | .mul _ (.long _) | .mul _ .null | .mul _ (.index _) | .mul _ (.field _ _ _ _) | .mul _ (.static _ _ _) | .mul _ (.string _ _) | .mul _ (.mirror _) | .mul _ (.length _) | .mul _ (.elem _ _) | .mul _ (.add _ _) | .mul _ (.sub _ _) | .mul _ (.mul _ _) | .mul _ (.rem _ _) | .mul _ (.op2 _ _ _) | .mul _ (.op1 _ _) | .mul _ (.sum _) | .mul _ .result | .mul _ .thrown | .mul _ (.old _) => by simp [tc_]
/-- a list of trees, and one more -/
def ao_ : Term → Prop
  | .null => True
  | .add _ r => ao_ r
  | _ => False
def sa_ : Term → Term → Term
  | .add a r, e => .add a (sa_ r e)
  | _, e => .add e .null
theorem tc_sa : ∀ (x e : Term), ao_ x → tc_ (sa_ x e) = tc_ x ++ tc_ e
  | .null, e, _ => by simp [sa_, tc_]
  | .add a r, e, h => by simp [sa_, tc_, tc_sa r e h]
theorem nt_sa : ∀ (x e : Term), ao_ x → nt_ (sa_ x e) = nt_ x + nt_ e
  | .null, e, _ => by simp [sa_, nt_]
  | .add a r, e, h => by simp [sa_, nt_, nt_sa r e h]; omega
theorem ac_sa : ∀ (x e : Term), ao_ x → ac_ (sa_ x e) = ac_ x + 1
  | .null, e, _ => by simp [sa_, ac_]
  | .add a r, e, h => by simp [sa_, ac_, ac_sa r e h]
theorem ao_sa : ∀ (x e : Term), ao_ x → ao_ (sa_ x e)
  | .null, e, _ => by simp [sa_, ao_]
  | .add a r, e, h => by simp [sa_, ao_]; exact ao_sa r e h
def fc_ (f : fr_) : List sv_ := match f.1 with
  | 0 => []
  | 1 => (7, lN ((tc_ f.2.2.1).length + 1)) :: (tc_ f.2.2.1 ++ [(8, 0)])
  | 2 => tc_ f.2.2.1 ++ (5, lN ((tc_ f.2.2.2.1).length + 1)) :: (tc_ f.2.2.2.1 ++ [(6, 0)])
  | 6 => []
  | 7 => tc_ f.2.2.1 ++ [(5, 0)]
  | _ => tc_ f.2.2.1
def cs_ : List fr_ → List sv_
  | [] => []
  | f :: r => cs_ r ++ fc_ f
def fp_ (p : Nat) (f : fr_) : Nat := match f.1 with
  | 1 => p + 1 + (tc_ f.2.2.1).length
  | 2 => p + (tc_ f.2.2.1).length + 1 + (tc_ f.2.2.2.1).length
  | 7 => p + (tc_ f.2.2.1).length
  | 8 => p
  | _ => 0
def fu_ (p : Nat) (f : fr_) : Int32 := match f.1 with
  | 0 => 0
  | 1 => 0
  | 2 => nI p
  | 7 => nI p
  | 8 => nI (ac_ f.2.2.1)
  | _ => f.2.1
def oa_ (p : Nat) : Term → List Nat
  | .add a r => p :: oa_ (p + (tc_ a).length) r
  | _ => []
theorem oa_sa : ∀ (x e : Term) (p : Nat), ao_ x → oa_ p (sa_ x e) = oa_ p x ++ [p + (tc_ x).length]
  | .null, e, p, _ => by simp [sa_, oa_, tc_]
  | .add a r, e, p, h => by simp [sa_, oa_, tc_, oa_sa r e _ h]; omega
def ff_ (p : Nat) (f : fr_) : List Nat := match f.1 with
  | 1 => [p]
  | 3 => [p]
  | 4 => [p]
  | 5 => [p]
  | 8 => oa_ p f.2.2.1
  | _ => []
def os_ : List fr_ → List Nat
  | [] => []
  | f :: r => os_ r ++ ff_ (cs_ r).length f
def nf_ (f : fr_) : Nat := match f.1 with
  | 0 => 0
  | 2 => nt_ f.2.2.1 + nt_ f.2.2.2.1 + 1
  | 6 => 1
  | _ => nt_ f.2.2.1 + 1
def nw_ : List fr_ → Nat
  | [] => 0
  | f :: r => nw_ r + nf_ f
def no_ : List fr_ → Nat
  | [] => 0
  | f :: r => no_ r + (if f.1 = 0 ∨ f.1 = 8 then 1 else 0)
def wr_ (M : mm_) : List fr_ → Prop
  | [] => True
  | f :: r => wr_ M r ∧ (f.1 ≤ 8 ∧ (f.1 = 8 → ao_ f.2.2.1 ∧ ac_ f.2.2.1 ≤ nt_ f.2.2.1)) ∧ M.1 7 r.length = nI f.1 ∧ M.1 8 r.length = nI (fp_ (cs_ r).length f) ∧ M.1 9 r.length = fu_ (cs_ r).length f ∧ (f.1 = 8 → M.2.1 10 r.length = f.2.2.2.2)
def cd_ (M : mm_) (c : List sv_) : Prop := M.1 0 12 = nI c.length ∧ ∀ (i : Nat) (x : sv_), c[i]? = some x → M.1 2 (2048 + i) = x.1 ∧ M.2.1 3 (2048 + i) = x.2
def od_ (M : mm_) (o : List Nat) : Prop := M.1 0 22 = nI o.length ∧ ∀ (i : Nat) (x : Nat), o[i]? = some x → M.1 11 i = nI x
def cu_ : Option Term → List sv_
  | none => []
  | some e => tc_ e
def co_ (p : Nat) : Option Term → List Nat
  | none => []
  | some _ => [p]
def cn_ : Option Term → Nat
  | none => 0
  | some e => nt_ e
def cq_ : Option Term → Prop
  | none => True
  | some e => 1 ≤ nt_ e
/-- the parser's state: n bytes, at place k, the frames W, the current tree, nodes, opened -/
def pr_ (M : mm_) (n k : Nat) (W : List fr_) (u : Option Term) (nd op : Nat) : Prop :=
  tz_ M n ∧ M.1 0 5 = nI k ∧ cd_ M (cs_ W ++ cu_ u) ∧ M.1 0 20 = nI W.length ∧ wr_ M W ∧ od_ M (os_ W ++ co_ (cs_ W).length u) ∧ M.1 0 13 = nI nd ∧ M.1 0 23 = nI op ∧ nw_ W + cn_ u = nd ∧ nd ≤ 20 ∧ no_ W = op ∧ op ≤ 12 ∧ cq_ u
theorem fc_le (f : fr_) : (fc_ f).length ≤ 2 * nf_ f := by
  obtain ⟨k, c, a, b, x⟩ := f
  have ha := tc_le a
  have hb := tc_le b
  unfold fc_ nf_
  match k with
  | 0 => simp
  | 1 => simp; omega
  | 2 => simp; omega
  | 3 => simp; omega
  | 4 => simp; omega
  | 5 => simp; omega
  | 6 => simp
  | 7 => simp; omega
  | k + 8 => simp; omega
theorem cs_le : ∀ W : List fr_, (cs_ W).length ≤ 2 * nw_ W
  | [] => by simp [cs_]
  | f :: r => by
    have := cs_le r
    have := fc_le f
    simp [cs_, nw_]
    omega
theorem nw_len : ∀ W : List fr_, W.length ≤ nw_ W + no_ W
  | [] => by simp
  | f :: r => by
    have h := nw_len r
    obtain ⟨k, c, a, b, x⟩ := f
    simp only [List.length_cons, nw_, no_, nf_]
    match k with
    | 0 => simp; omega
    | 1 => simp; omega
    | 2 => simp; omega
    | 3 => simp; omega
    | 4 => simp; omega
    | 5 => simp; omega
    | 6 => simp; omega
    | 7 => simp; omega
    | k + 8 => simp; split <;> omega
