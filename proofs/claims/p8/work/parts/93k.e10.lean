/-! What a call does, told once for both programs. The moving state: the jobs' kinds, records made and counts, the records, what was kept, how many invocations. -/
abbrev sgA_ : Type := (Nat → Int32) × (Nat → Int32) × (Nat → Nat → Int32) × (Nat × (Nat → Int32)) × (Nat × (Nat → Int32)) × Nat
/-- what stays: how many methods, their keys, their trees; of the jobs: points, limits, expressions, conditions, which methods fit; whether probes see -/
abbrev se_ : Type := Nat × (Nat → Int64) × (Nat → Term) × (Nat → Int32) × (Nat → Int32) × (Nat → Term) × (Nat → Option Term) × (Nat → Nat → Bool) × Bool
abbrev io2_ : Type := (Int32 ⊕ (Nat × Int32)) × sgA_
abbrev eo_ : Type := (List Int32 ⊕ (Nat × Int32)) × sgA_
/-- signs between two values -/
def jn_ (c x y : Int32) : Int32 := if c = 43 then x + y else if c = 45 then x - y else if c = 42 then x * y else if c = 47 then x / y else if c = 37 then x - x / y * y else if c = 60 then (if x < y then 1 else 0) else if c = 61 then (if x = y then 1 else 0) else if y < x then 1 else 0
def o1_ (f : Int32 → List Int32 → sgA_ → eo_) (r : eo_) : eo_ := match r with
  | (.inl (x :: t), s) => f x t s
  | r => r
def o2_ (f : Int32 → Int32 → List Int32 → sgA_ → eo_) (r : eo_) : eo_ := match r with
  | (.inl (y :: x :: t), s) => f x y t s
  | r => r
def oi_ (t : List Int32) (r : io2_) : eo_ := match r with
  | (.inl v, s) => (.inl (v :: t), s)
  | (.inr q, s) => (.inr q, s)
/-- the value of a tree on the stack t; arguments one behind the other -/
def ES_ (I : Int64 → List Int32 → sgA_ → io2_) (V : Nat → Int32) : Term → List Int32 → sgA_ → eo_
  | .int v, t, s => (.inl (v :: t), s)
  | .index i, t, s => (.inl (V i :: t), s)
  | .length e, t, s => o1_ (fun x t s => (.inl (-x :: t), s)) (ES_ I V e t s)
  | .sum e, t, s => o1_ (fun x _ s => (.inr (1, x), s)) (ES_ I V e t s)
  | .elem c x, t, s => o2_ (fun x y t s => if y = 0 ∧ (sg2_ c = 47 ∨ sg2_ c = 37) then (.inr (1, -1), s) else (.inl (jn_ (sg2_ c) x y :: t), s)) (ES_ I V x t s)
  | .mul a (.div b c), t, s => o1_ (fun x t s => if x = 0 then ES_ I V c t s else ES_ I V b t s) (ES_ I V a t s)
  | .rem a b, t, s => match ES_ I V a t s with
    | (.inr (1, _), s) => ES_ I V b t s
    | r => r
  | .sub k x, t, s => match ES_ I V x t s with
    | (.inl u, s) => oi_ (u.drop (an_ x)) (I (kv2_ k) (u.take (an_ x)) s)
    | r => r
  | .add a r, t, s => match ES_ I V a t s with
    | (.inl u, s) => ES_ I V r u s
    | r => r
  | _, t, s => (.inl t, s)
def I0_ : Int64 → List Int32 → sgA_ → io2_ := fun _ _ s => (.inl 0, s)
/-! probes -/
def sK_ (s : sgA_) (j : Nat) (v : Int32) : sgA_ := (fun i => if i = j then v else s.1 i, s.2)
def sM_ (s : sgA_) (j : Nat) (v : Int32) : sgA_ := (s.1, fun i => if i = j then v else s.2.1 i, s.2.2)
def sCA_ (s : sgA_) (j i : Nat) (v : Int32) : sgA_ := (s.1, s.2.1, fun a b => if a = j ∧ b = i then v else s.2.2.1 a b, s.2.2.2)
def rw5_ (f : Nat → Int32) (n w : Nat) (g : Nat → Int32) : Nat → Int32 := fun i => if n * w ≤ i ∧ i < n * w + w then g (i - n * w) else f i
def sR5_ (s : sgA_) (g : Nat → Int32) : sgA_ := if s.2.2.2.1.1 < 300 then (s.1, s.2.1, s.2.2.1, (s.2.2.2.1.1 + 1, rw5_ s.2.2.2.1.2 s.2.2.2.1.1 5 g), s.2.2.2.2) else s
def sE7_ (s : sgA_) (g : Nat → Int32) : sgA_ := if s.2.2.2.2.1.1 < 40 then (s.1, s.2.1, s.2.2.1, s.2.2.2.1, (s.2.2.2.2.1.1 + 1, rw5_ s.2.2.2.2.1.2 s.2.2.2.2.1.1 7 g), s.2.2.2.2.2) else s
def l5_ (a b c d e : Int32) : Nat → Int32 := fun i => if i = 0 then a else if i = 1 then b else if i = 2 then c else if i = 3 then d else e
/-- a record more: the job's count, and its end at the limit -/
def rcA_ (E : se_) (j m d : Nat) (x e : Int32) (s : sgA_) : sgA_ :=
  sR5_ (if s.2.1 j + 1 < E.2.2.2.2.1 j then sM_ s j (s.2.1 j + 1) else sK_ (sM_ s j (s.2.1 j + 1)) j 0) (l5_ (nI j) (nI m) x e (nI d))
/-- the variables that a probe's expressions see -/
def va5_ (P : Nat → Int32) (p d : Nat) (v k : Int32) : Nat → Int32 := fun i => if i < 3 then P i else if i = 3 then (if p = 1 then v else 0) else if i = 4 then (if p = 2 then v else 0) else if i = 5 then nI d else k
def xpA_ (V : Nat → Int32) (e : Term) (s : sgA_) : Int32 ⊕ Int32 := match (ES_ I0_ V e [] s).1 with
  | .inl t => .inl (t.headD 0)
  | .inr q => .inr q.2
def wgA_ (E : se_) (j m d : Nat) (V : Nat → Int32) (s : sgA_) : sgA_ := match xpA_ V (E.2.2.2.2.2.1 j) s with
  | .inl x => rcA_ E j m d x 0 s
  | .inr x => rcA_ E j m d x 1 s
def wtA_ (E : se_) (j m d : Nat) (V : Nat → Int32) (s : sgA_) : sgA_ := match E.2.2.2.2.2.2.1 j with
  | none => wgA_ E j m d V s
  | some e => match xpA_ V e s with
    | .inl x => if x = 0 then s else wgA_ E j m d V s
    | .inr x => rcA_ E j m d x 1 s
def kpA_ (j m p : Nat) (P : Nat → Int32) (v : Int32) (s : sgA_) : sgA_ := if p = 0 then s else sE7_ s (fun i => if i = 0 then nI j else if i = 1 then nI m else if i < 5 then P (i - 2) else if i = 5 then (if p = 2 then 1 else 0) else v)
def pjA_ (E : se_) (m p d : Nat) (P : Nat → Int32) (v : Int32) (j : Nat) (s : sgA_) : sgA_ :=
  if s.1 j = 0 ∨ E.2.2.2.2.2.2.2.1 j m = false then s
  else if s.1 j = 2 then sCA_ s j (3 * m + p) (s.2.2.1 j (3 * m + p) + 1)
  else if s.1 j = 3 then kpA_ j m p P v s
  else if E.2.2.2.1 j = nI p then wtA_ E j m d (va5_ P p d v (s.2.1 j)) s else s
def pkA_ (E : se_) (m p d : Nat) (P : Nat → Int32) (v : Int32) : Nat → Nat → sgA_ → sgA_
  | 0, _, s => s
  | u + 1, j, s => pkA_ E m p d P v u (j + 1) (pjA_ E m p d P v j s)
def pbA_ (E : se_) (m p d : Nat) (P : Nat → Int32) (v : Int32) (s : sgA_) : sgA_ := if E.2.2.2.2.2.2.2.2 = true then pkA_ E m p d P v 8 0 s else s
/-! invocations -/
def fnA_ (E : se_) (K : Int64) : Nat → Nat → Option Nat
  | 0, _ => none
  | u + 1, i => if E.2.1 i = K then some i else fnA_ E K u (i + 1)
def ivA_ (s : sgA_) : sgA_ := (s.1, s.2.1, s.2.2.1, s.2.2.2.1, s.2.2.2.2.1, s.2.2.2.2.2 + 1)
def nmA_ (E : se_) (d : Nat) (IV : Nat → (Nat → Int32) → sgA_ → io2_) (K : Int64) (a : List Int32) (s : sgA_) : io2_ := match fnA_ E K E.1 0 with
  | none => (.inr (1, -4), s)
  | some m => if 10 ≤ d then (.inr (1, -2), s) else if 1000 ≤ s.2.2.2.2.2 then (.inr (2, -3), s) else IV m (fun i => a.reverse.getD i 0) s
/-- behind the body -/
def bbA_ (E : se_) (m d : Nat) (P : Nat → Int32) (r : eo_) : io2_ := match r with
  | (.inl t, s) => (.inl (t.headD 0), pbA_ E m 1 d P (t.headD 0) s)
  | (.inr q, s) => (.inr q, pbA_ E m 2 d P q.2 s)
/-- an invocation at depth 11 - u -/
def inA_ (E : se_) : Nat → Nat → (Nat → Int32) → sgA_ → io2_
  | 0, _, _, s => (.inr (1, -2), s)
  | u + 1, m, P, s => bbA_ E m (10 - u) P (ES_ (nmA_ E (10 - u) (inA_ E u)) P (E.2.2.1 m) [] (pbA_ E m 0 (10 - u) P 0 (ivA_ s)))
