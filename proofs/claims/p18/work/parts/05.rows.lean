/-! the machine's rows over the memory -/
abbrev mc_ : Type := Program × Launch × Env × Room × State × MethodId × Array Value × List Frame × Method × Code × Nat × Nat
def wq_ : mc_ → gg_ → (State → Prop) → Nat → List (Option Value) → List Value → mm_ → Prop
  | (p, l, e, R, s, m, args, below, meth, c, cs, sl), G, Q, pc, lv, st, M => ∀ (H : Heap) (locs : List Loc) (ls : Array Slot), lh_ c.maxLocals ls lv → va_P G.2.2.1 vwCl (wl_ G M) H → va_S (aw_ G) s.heap H locs → W p l e R s m args below meth c H locs cs sl Q (F0 m pc ls st)
def cx_ : mc_ → gg_ → String → ByteArray → Nat → Option FieldType → Nat → Prop
  | (p, l, e, R, s, m, args, below, meth, c, cs, sl), G, own, cc, nL, ry, d => p.tables.exec = Jvm.exec ∧ c.code = cc ∧ c.maxLocals = nL ∧ meth.sig.returnType = ry ∧ s.vm.findClass own = some m.cls ∧ (∀ w ∈ gw_, w.before args s = true) ∧ kw_ G s ∧ gd_ G ∧ G.2.2.2 ≤ s.heap.size ∧ meth.locks = false ∧ d ≤ R.frames ∧ 64 * d ≤ R.locals ∧ cs ≤ R.cells ∧ sl ≤ R.slots
section ROWS
variable {C : mc_} {G : gg_} {Q : State → Prop} {pc : Nat} {lv : List (Option Value)} {st : List Value} {M : mm_} {own : String} {cc : ByteArray} {nL : Nat} {ry : Option FieldType} {d : Nat}
theorem w_iconst {n : Int} {v : Int32} (X : cx_ C G own cc nL ry d) (hd : decode cc pc = .ok (.iconst n, 1)) (hv : Int32.ofInt n = v) (k : wq_ C G Q (pc + 1) lv (.int v :: st) M) : wq_ C G Q pc lv (st) M := by
  obtain ⟨p, l, e, R, s, m, args, below, meth, c, cs, sl⟩ := C
  obtain ⟨hx, hb, hml, hrt, hown, hts, ⟨hK, hox⟩, hG, hbs, hlk, hfr, hlo, hcs, hsl⟩ := X
  intro H locs ls hl hP hS
  exact lv_iconst hx hb hd hv (k H locs ls hl hP hS)
theorem w_bipush {n : Int} {v : Int32} (X : cx_ C G own cc nL ry d) (hd : decode cc pc = .ok (.bipush n, 2)) (hv : (Int8.ofInt n).toInt32 = v) (k : wq_ C G Q (pc + 2) lv (.int v :: st) M) : wq_ C G Q pc lv (st) M := by
  obtain ⟨p, l, e, R, s, m, args, below, meth, c, cs, sl⟩ := C
  obtain ⟨hx, hb, hml, hrt, hown, hts, ⟨hK, hox⟩, hG, hbs, hlk, hfr, hlo, hcs, hsl⟩ := X
  intro H locs ls hl hP hS
  exact lv_bipush hx hb hd hv (k H locs ls hl hP hS)
theorem w_sipush {n : Int} {v : Int32} (X : cx_ C G own cc nL ry d) (hd : decode cc pc = .ok (.sipush n, 3)) (hv : (Int16.ofInt n).toInt32 = v) (k : wq_ C G Q (pc + 3) lv (.int v :: st) M) : wq_ C G Q pc lv (st) M := by
  obtain ⟨p, l, e, R, s, m, args, below, meth, c, cs, sl⟩ := C
  obtain ⟨hx, hb, hml, hrt, hown, hts, ⟨hK, hox⟩, hG, hbs, hlk, hfr, hlo, hcs, hsl⟩ := X
  intro H locs ls hl hP hS
  exact lv_sipush hx hb hd hv (k H locs ls hl hP hS)
theorem w_lconst {n : Fin 2} {v : Int64} (X : cx_ C G own cc nL ry d) (hd : decode cc pc = .ok (.lconst n, 1)) (hv : Int64.ofNat (n : Nat) = v) (k : wq_ C G Q (pc + 1) lv (.long v :: st) M) : wq_ C G Q pc lv (st) M := by
  obtain ⟨p, l, e, R, s, m, args, below, meth, c, cs, sl⟩ := C
  obtain ⟨hx, hb, hml, hrt, hown, hts, ⟨hK, hox⟩, hG, hbs, hlk, hfr, hlo, hcs, hsl⟩ := X
  intro H locs ls hl hP hS
  exact lv_lconst hx hb hd hv (k H locs ls hl hP hS)
theorem w_iadd {x y : Int32} (X : cx_ C G own cc nL ry d) (hd : decode cc pc = .ok (.iadd, 1))  (k : wq_ C G Q (pc + 1) lv (.int (x + y) :: st) M) : wq_ C G Q pc lv (.int y :: .int x :: st) M := by
  obtain ⟨p, l, e, R, s, m, args, below, meth, c, cs, sl⟩ := C
  obtain ⟨hx, hb, hml, hrt, hown, hts, ⟨hK, hox⟩, hG, hbs, hlk, hfr, hlo, hcs, hsl⟩ := X
  intro H locs ls hl hP hS
  exact lv_iadd hx hb hd  (k H locs ls hl hP hS)
theorem w_isub {x y : Int32} (X : cx_ C G own cc nL ry d) (hd : decode cc pc = .ok (.isub, 1))  (k : wq_ C G Q (pc + 1) lv (.int (x - y) :: st) M) : wq_ C G Q pc lv (.int y :: .int x :: st) M := by
  obtain ⟨p, l, e, R, s, m, args, below, meth, c, cs, sl⟩ := C
  obtain ⟨hx, hb, hml, hrt, hown, hts, ⟨hK, hox⟩, hG, hbs, hlk, hfr, hlo, hcs, hsl⟩ := X
  intro H locs ls hl hP hS
  exact lv_isub hx hb hd  (k H locs ls hl hP hS)
theorem w_imul {x y : Int32} (X : cx_ C G own cc nL ry d) (hd : decode cc pc = .ok (.imul, 1))  (k : wq_ C G Q (pc + 1) lv (.int (x * y) :: st) M) : wq_ C G Q pc lv (.int y :: .int x :: st) M := by
  obtain ⟨p, l, e, R, s, m, args, below, meth, c, cs, sl⟩ := C
  obtain ⟨hx, hb, hml, hrt, hown, hts, ⟨hK, hox⟩, hG, hbs, hlk, hfr, hlo, hcs, hsl⟩ := X
  intro H locs ls hl hP hS
  exact lv_imul hx hb hd  (k H locs ls hl hP hS)
theorem w_iand {x y : Int32} (X : cx_ C G own cc nL ry d) (hd : decode cc pc = .ok (.iand, 1))  (k : wq_ C G Q (pc + 1) lv (.int (x &&& y) :: st) M) : wq_ C G Q pc lv (.int y :: .int x :: st) M := by
  obtain ⟨p, l, e, R, s, m, args, below, meth, c, cs, sl⟩ := C
  obtain ⟨hx, hb, hml, hrt, hown, hts, ⟨hK, hox⟩, hG, hbs, hlk, hfr, hlo, hcs, hsl⟩ := X
  intro H locs ls hl hP hS
  exact lv_iand hx hb hd  (k H locs ls hl hP hS)
theorem w_ior {x y : Int32} (X : cx_ C G own cc nL ry d) (hd : decode cc pc = .ok (.ior, 1))  (k : wq_ C G Q (pc + 1) lv (.int (x ||| y) :: st) M) : wq_ C G Q pc lv (.int y :: .int x :: st) M := by
  obtain ⟨p, l, e, R, s, m, args, below, meth, c, cs, sl⟩ := C
  obtain ⟨hx, hb, hml, hrt, hown, hts, ⟨hK, hox⟩, hG, hbs, hlk, hfr, hlo, hcs, hsl⟩ := X
  intro H locs ls hl hP hS
  exact lv_ior hx hb hd  (k H locs ls hl hP hS)
theorem w_ishl {x y : Int32} (X : cx_ C G own cc nL ry d) (hd : decode cc pc = .ok (.ishl, 1))  (k : wq_ C G Q (pc + 1) lv (.int (x <<< (y &&& 31)) :: st) M) : wq_ C G Q pc lv (.int y :: .int x :: st) M := by
  obtain ⟨p, l, e, R, s, m, args, below, meth, c, cs, sl⟩ := C
  obtain ⟨hx, hb, hml, hrt, hown, hts, ⟨hK, hox⟩, hG, hbs, hlk, hfr, hlo, hcs, hsl⟩ := X
  intro H locs ls hl hP hS
  exact lv_ishl hx hb hd  (k H locs ls hl hP hS)
theorem w_ishr {x y : Int32} (X : cx_ C G own cc nL ry d) (hd : decode cc pc = .ok (.ishr, 1))  (k : wq_ C G Q (pc + 1) lv (.int (x >>> (y &&& 31)) :: st) M) : wq_ C G Q pc lv (.int y :: .int x :: st) M := by
  obtain ⟨p, l, e, R, s, m, args, below, meth, c, cs, sl⟩ := C
  obtain ⟨hx, hb, hml, hrt, hown, hts, ⟨hK, hox⟩, hG, hbs, hlk, hfr, hlo, hcs, hsl⟩ := X
  intro H locs ls hl hP hS
  exact lv_ishr hx hb hd  (k H locs ls hl hP hS)
theorem w_idiv {x y : Int32} (X : cx_ C G own cc nL ry d) (hd : decode cc pc = .ok (.idiv, 1)) (hne : ¬ y = 0) (k : wq_ C G Q (pc + 1) lv (.int (x / y) :: st) M) : wq_ C G Q pc lv (.int y :: .int x :: st) M := by
  obtain ⟨p, l, e, R, s, m, args, below, meth, c, cs, sl⟩ := C
  obtain ⟨hx, hb, hml, hrt, hown, hts, ⟨hK, hox⟩, hG, hbs, hlk, hfr, hlo, hcs, hsl⟩ := X
  intro H locs ls hl hP hS
  exact lv_idiv hx hb hd hne (k H locs ls hl hP hS)
theorem w_irem {x y : Int32} (X : cx_ C G own cc nL ry d) (hd : decode cc pc = .ok (.irem, 1)) (hne : ¬ y = 0) (k : wq_ C G Q (pc + 1) lv (.int (x - x / y * y) :: st) M) : wq_ C G Q pc lv (.int y :: .int x :: st) M := by
  obtain ⟨p, l, e, R, s, m, args, below, meth, c, cs, sl⟩ := C
  obtain ⟨hx, hb, hml, hrt, hown, hts, ⟨hK, hox⟩, hG, hbs, hlk, hfr, hlo, hcs, hsl⟩ := X
  intro H locs ls hl hP hS
  exact lv_irem hx hb hd hne (k H locs ls hl hP hS)
theorem w_ineg {x : Int32} (X : cx_ C G own cc nL ry d) (hd : decode cc pc = .ok (.ineg, 1))  (k : wq_ C G Q (pc + 1) lv (.int (-x) :: st) M) : wq_ C G Q pc lv (.int x :: st) M := by
  obtain ⟨p, l, e, R, s, m, args, below, meth, c, cs, sl⟩ := C
  obtain ⟨hx, hb, hml, hrt, hown, hts, ⟨hK, hox⟩, hG, hbs, hlk, hfr, hlo, hcs, hsl⟩ := X
  intro H locs ls hl hP hS
  exact lv_ineg hx hb hd  (k H locs ls hl hP hS)
theorem w_ladd {x y : Int64} (X : cx_ C G own cc nL ry d) (hd : decode cc pc = .ok (.ladd, 1))  (k : wq_ C G Q (pc + 1) lv (.long (x + y) :: st) M) : wq_ C G Q pc lv (.long y :: .long x :: st) M := by
  obtain ⟨p, l, e, R, s, m, args, below, meth, c, cs, sl⟩ := C
  obtain ⟨hx, hb, hml, hrt, hown, hts, ⟨hK, hox⟩, hG, hbs, hlk, hfr, hlo, hcs, hsl⟩ := X
  intro H locs ls hl hP hS
  exact lv_ladd hx hb hd  (k H locs ls hl hP hS)
theorem w_lsub {x y : Int64} (X : cx_ C G own cc nL ry d) (hd : decode cc pc = .ok (.lsub, 1))  (k : wq_ C G Q (pc + 1) lv (.long (x - y) :: st) M) : wq_ C G Q pc lv (.long y :: .long x :: st) M := by
  obtain ⟨p, l, e, R, s, m, args, below, meth, c, cs, sl⟩ := C
  obtain ⟨hx, hb, hml, hrt, hown, hts, ⟨hK, hox⟩, hG, hbs, hlk, hfr, hlo, hcs, hsl⟩ := X
  intro H locs ls hl hP hS
  exact lv_lsub hx hb hd  (k H locs ls hl hP hS)
theorem w_lmul {x y : Int64} (X : cx_ C G own cc nL ry d) (hd : decode cc pc = .ok (.lmul, 1))  (k : wq_ C G Q (pc + 1) lv (.long (x * y) :: st) M) : wq_ C G Q pc lv (.long y :: .long x :: st) M := by
  obtain ⟨p, l, e, R, s, m, args, below, meth, c, cs, sl⟩ := C
  obtain ⟨hx, hb, hml, hrt, hown, hts, ⟨hK, hox⟩, hG, hbs, hlk, hfr, hlo, hcs, hsl⟩ := X
  intro H locs ls hl hP hS
  exact lv_lmul hx hb hd  (k H locs ls hl hP hS)
theorem w_land {x y : Int64} (X : cx_ C G own cc nL ry d) (hd : decode cc pc = .ok (.land, 1))  (k : wq_ C G Q (pc + 1) lv (.long (x &&& y) :: st) M) : wq_ C G Q pc lv (.long y :: .long x :: st) M := by
  obtain ⟨p, l, e, R, s, m, args, below, meth, c, cs, sl⟩ := C
  obtain ⟨hx, hb, hml, hrt, hown, hts, ⟨hK, hox⟩, hG, hbs, hlk, hfr, hlo, hcs, hsl⟩ := X
  intro H locs ls hl hP hS
  exact lv_land hx hb hd  (k H locs ls hl hP hS)
theorem w_lor {x y : Int64} (X : cx_ C G own cc nL ry d) (hd : decode cc pc = .ok (.lor, 1))  (k : wq_ C G Q (pc + 1) lv (.long (x ||| y) :: st) M) : wq_ C G Q pc lv (.long y :: .long x :: st) M := by
  obtain ⟨p, l, e, R, s, m, args, below, meth, c, cs, sl⟩ := C
  obtain ⟨hx, hb, hml, hrt, hown, hts, ⟨hK, hox⟩, hG, hbs, hlk, hfr, hlo, hcs, hsl⟩ := X
  intro H locs ls hl hP hS
  exact lv_lor hx hb hd  (k H locs ls hl hP hS)
theorem w_lshl {x : Int64} {y : Int32} (X : cx_ C G own cc nL ry d) (hd : decode cc pc = .ok (.lshl, 1))  (k : wq_ C G Q (pc + 1) lv (.long (x <<< (y.toInt64 &&& 63)) :: st) M) : wq_ C G Q pc lv (.int y :: .long x :: st) M := by
  obtain ⟨p, l, e, R, s, m, args, below, meth, c, cs, sl⟩ := C
  obtain ⟨hx, hb, hml, hrt, hown, hts, ⟨hK, hox⟩, hG, hbs, hlk, hfr, hlo, hcs, hsl⟩ := X
  intro H locs ls hl hP hS
  exact lv_lshl hx hb hd rfl (k H locs ls hl hP hS)
theorem w_lshr {x : Int64} {y : Int32} (X : cx_ C G own cc nL ry d) (hd : decode cc pc = .ok (.lshr, 1))  (k : wq_ C G Q (pc + 1) lv (.long (x >>> (y.toInt64 &&& 63)) :: st) M) : wq_ C G Q pc lv (.int y :: .long x :: st) M := by
  obtain ⟨p, l, e, R, s, m, args, below, meth, c, cs, sl⟩ := C
  obtain ⟨hx, hb, hml, hrt, hown, hts, ⟨hK, hox⟩, hG, hbs, hlk, hfr, hlo, hcs, hsl⟩ := X
  intro H locs ls hl hP hS
  exact lv_lshr hx hb hd rfl (k H locs ls hl hP hS)
theorem w_lushr {x : Int64} {y : Int32} (X : cx_ C G own cc nL ry d) (hd : decode cc pc = .ok (.lushr, 1))  (k : wq_ C G Q (pc + 1) lv (.long ((x.toUInt64 >>> (y.toInt64.toUInt64 &&& Int64.toUInt64 63)).toInt64) :: st) M) : wq_ C G Q pc lv (.int y :: .long x :: st) M := by
  obtain ⟨p, l, e, R, s, m, args, below, meth, c, cs, sl⟩ := C
  obtain ⟨hx, hb, hml, hrt, hown, hts, ⟨hK, hox⟩, hG, hbs, hlk, hfr, hlo, hcs, hsl⟩ := X
  intro H locs ls hl hP hS
  exact lv_lushr hx hb hd rfl (k H locs ls hl hP hS)
theorem w_iushr {x y : Int32} (X : cx_ C G own cc nL ry d) (hd : decode cc pc = .ok (.iushr, 1))  (k : wq_ C G Q (pc + 1) lv (.int ((x.toUInt32 >>> (y.toUInt32 &&& Int32.toUInt32 31)).toInt32) :: st) M) : wq_ C G Q pc lv (.int y :: .int x :: st) M := by
  obtain ⟨p, l, e, R, s, m, args, below, meth, c, cs, sl⟩ := C
  obtain ⟨hx, hb, hml, hrt, hown, hts, ⟨hK, hox⟩, hG, hbs, hlk, hfr, hlo, hcs, hsl⟩ := X
  intro H locs ls hl hP hS
  exact lv_iushr hx hb hd rfl (k H locs ls hl hP hS)
theorem w_i2l {x : Int32} (X : cx_ C G own cc nL ry d) (hd : decode cc pc = .ok (.i2l, 1))  (k : wq_ C G Q (pc + 1) lv (.long x.toInt64 :: st) M) : wq_ C G Q pc lv (.int x :: st) M := by
  obtain ⟨p, l, e, R, s, m, args, below, meth, c, cs, sl⟩ := C
  obtain ⟨hx, hb, hml, hrt, hown, hts, ⟨hK, hox⟩, hG, hbs, hlk, hfr, hlo, hcs, hsl⟩ := X
  intro H locs ls hl hP hS
  exact lv_i2l hx hb hd rfl (k H locs ls hl hP hS)
theorem w_l2i {x : Int64} (X : cx_ C G own cc nL ry d) (hd : decode cc pc = .ok (.l2i, 1))  (k : wq_ C G Q (pc + 1) lv (.int x.toInt32 :: st) M) : wq_ C G Q pc lv (.long x :: st) M := by
  obtain ⟨p, l, e, R, s, m, args, below, meth, c, cs, sl⟩ := C
  obtain ⟨hx, hb, hml, hrt, hown, hts, ⟨hK, hox⟩, hG, hbs, hlk, hfr, hlo, hcs, hsl⟩ := X
  intro H locs ls hl hP hS
  exact lv_l2i hx hb hd rfl (k H locs ls hl hP hS)
theorem w_i2c {x : Int32} (X : cx_ C G own cc nL ry d) (hd : decode cc pc = .ok (.i2c, 1))  (k : wq_ C G Q (pc + 1) lv (.int (x.toUInt32 % 65536).toInt32 :: st) M) : wq_ C G Q pc lv (.int x :: st) M := by
  obtain ⟨p, l, e, R, s, m, args, below, meth, c, cs, sl⟩ := C
  obtain ⟨hx, hb, hml, hrt, hown, hts, ⟨hK, hox⟩, hG, hbs, hlk, hfr, hlo, hcs, hsl⟩ := X
  intro H locs ls hl hP hS
  exact lv_i2c hx hb hd rfl (k H locs ls hl hP hS)
theorem w_lcmp {x y : Int64} (X : cx_ C G own cc nL ry d) (hd : decode cc pc = .ok (.lcmp, 1))  (k : wq_ C G Q (pc + 1) lv (.int (lg_cmp x y) :: st) M) : wq_ C G Q pc lv (.long y :: .long x :: st) M := by
  obtain ⟨p, l, e, R, s, m, args, below, meth, c, cs, sl⟩ := C
  obtain ⟨hx, hb, hml, hrt, hown, hts, ⟨hK, hox⟩, hG, hbs, hlk, hfr, hlo, hcs, hsl⟩ := X
  intro H locs ls hl hP hS
  exact W.lcmp hx hb hd  (k H locs ls hl hP hS)
theorem w_dup {va : Value} (X : cx_ C G own cc nL ry d) (hd : decode cc pc = .ok (.dup, 1)) (hva : va.category = 1) (k : wq_ C G Q (pc + 1) lv (va :: va :: st) M) : wq_ C G Q pc lv (va :: st) M := by
  obtain ⟨p, l, e, R, s, m, args, below, meth, c, cs, sl⟩ := C
  obtain ⟨hx, hb, hml, hrt, hown, hts, ⟨hK, hox⟩, hG, hbs, hlk, hfr, hlo, hcs, hsl⟩ := X
  intro H locs ls hl hP hS
  exact lv_dup hx hb hd hva (k H locs ls hl hP hS)
theorem w_pop {va : Value} (X : cx_ C G own cc nL ry d) (hd : decode cc pc = .ok (.pop, 1)) (hva : va.category = 1) (k : wq_ C G Q (pc + 1) lv (st) M) : wq_ C G Q pc lv (va :: st) M := by
  obtain ⟨p, l, e, R, s, m, args, below, meth, c, cs, sl⟩ := C
  obtain ⟨hx, hb, hml, hrt, hown, hts, ⟨hK, hox⟩, hG, hbs, hlk, hfr, hlo, hcs, hsl⟩ := X
  intro H locs ls hl hP hS
  exact lv_pop hx hb hd hva (k H locs ls hl hP hS)
theorem w_dup2 {va vb : Value} (X : cx_ C G own cc nL ry d) (hd : decode cc pc = .ok (.dup2, 1)) (hva : va.category = 1) (hvb : vb.category = 1) (k : wq_ C G Q (pc + 1) lv (va :: vb :: va :: vb :: st) M) : wq_ C G Q pc lv (va :: vb :: st) M := by
  obtain ⟨p, l, e, R, s, m, args, below, meth, c, cs, sl⟩ := C
  obtain ⟨hx, hb, hml, hrt, hown, hts, ⟨hK, hox⟩, hG, hbs, hlk, hfr, hlo, hcs, hsl⟩ := X
  intro H locs ls hl hP hS
  exact lv_dup2_11 hx hb hd hva hvb (k H locs ls hl hP hS)
theorem w_ldc {v : Int32} {index : Nat} (X : cx_ C G own cc nL ry d) (hd : decode cc pc = .ok (.ldc index, 2)) (hc : Cond.constant own index v ∈ gw_) (k : wq_ C G Q (pc + 2) lv (.int v :: st) M) : wq_ C G Q pc lv st M := by
  obtain ⟨p, l, e, R, s, m, args, below, meth, c, cs, sl⟩ := C
  obtain ⟨hx, hb, hml, hrt, hown, hts, ⟨hK, hox⟩, hG, hbs, hlk, hfr, hlo, hcs, hsl⟩ := X
  intro H locs ls hl hP hS
  exact lv_ldc hx hb hown (hts _ hc) hd (k H locs ls hl hP hS)
theorem w_ldc2 {v : Int64} {index : Nat} (X : cx_ C G own cc nL ry d) (hd : decode cc pc = .ok (.ldc2_w index, 3)) (hc : Cond.constantLong own index v ∈ gw_) (k : wq_ C G Q (pc + 3) lv (.long v :: st) M) : wq_ C G Q pc lv st M := by
  obtain ⟨p, l, e, R, s, m, args, below, meth, c, cs, sl⟩ := C
  obtain ⟨hx, hb, hml, hrt, hown, hts, ⟨hK, hox⟩, hG, hbs, hlk, hfr, hlo, hcs, hsl⟩ := X
  intro H locs ls hl hP hS
  exact lv_ldc2 hx hb hown (hts _ hc) hd (k H locs ls hl hP hS)
theorem w_iload_n {f : Fin 4} {i : Nat} {x : Int32} (X : cx_ C G own cc nL ry d) (hd : decode cc pc = .ok (.iload_n f, 1)) (hi : (f : Nat) = i) (hv : lv[i]? = some (some (.int x))) (k : wq_ C G Q (pc + 1) lv (.int x :: st) M) : wq_ C G Q pc lv st M := by
  obtain ⟨p, l, e, R, s, m, args, below, meth, c, cs, sl⟩ := C
  obtain ⟨hx, hb, hml, hrt, hown, hts, ⟨hK, hox⟩, hG, hbs, hlk, hfr, hlo, hcs, hsl⟩ := X
  intro H locs ls hl hP hS
  exact lv_iload_n hx hb hd hi (lh_at hl hv) (k H locs ls hl hP hS)
theorem w_iload {i : Nat} {x : Int32} (X : cx_ C G own cc nL ry d) (hd : decode cc pc = .ok (.iload i, 2)) (hv : lv[i]? = some (some (.int x))) (k : wq_ C G Q (pc + 2) lv (.int x :: st) M) : wq_ C G Q pc lv st M := by
  obtain ⟨p, l, e, R, s, m, args, below, meth, c, cs, sl⟩ := C
  obtain ⟨hx, hb, hml, hrt, hown, hts, ⟨hK, hox⟩, hG, hbs, hlk, hfr, hlo, hcs, hsl⟩ := X
  intro H locs ls hl hP hS
  exact lv_iload hx hb hd (lh_at hl hv) (k H locs ls hl hP hS)
theorem w_lload_n {f : Fin 4} {i : Nat} {x : Int64} (X : cx_ C G own cc nL ry d) (hd : decode cc pc = .ok (.lload_n f, 1)) (hi : (f : Nat) = i) (hv : lv[i]? = some (some (.long x))) (k : wq_ C G Q (pc + 1) lv (.long x :: st) M) : wq_ C G Q pc lv st M := by
  obtain ⟨p, l, e, R, s, m, args, below, meth, c, cs, sl⟩ := C
  obtain ⟨hx, hb, hml, hrt, hown, hts, ⟨hK, hox⟩, hG, hbs, hlk, hfr, hlo, hcs, hsl⟩ := X
  intro H locs ls hl hP hS
  exact lv_lload_n hx hb hd hi (lh_at hl hv) (k H locs ls hl hP hS)
theorem w_lload {i : Nat} {x : Int64} (X : cx_ C G own cc nL ry d) (hd : decode cc pc = .ok (.lload i, 2)) (hv : lv[i]? = some (some (.long x))) (k : wq_ C G Q (pc + 2) lv (.long x :: st) M) : wq_ C G Q pc lv st M := by
  obtain ⟨p, l, e, R, s, m, args, below, meth, c, cs, sl⟩ := C
  obtain ⟨hx, hb, hml, hrt, hown, hts, ⟨hK, hox⟩, hG, hbs, hlk, hfr, hlo, hcs, hsl⟩ := X
  intro H locs ls hl hP hS
  exact lv_lload hx hb hd (lh_at hl hv) (k H locs ls hl hP hS)
theorem w_aload_n {f : Fin 4} {i : Nat} {x : Nat} (X : cx_ C G own cc nL ry d) (hd : decode cc pc = .ok (.aload_n f, 1)) (hi : (f : Nat) = i) (hv : lv[i]? = some (some (.ref x))) (k : wq_ C G Q (pc + 1) lv (.ref x :: st) M) : wq_ C G Q pc lv st M := by
  obtain ⟨p, l, e, R, s, m, args, below, meth, c, cs, sl⟩ := C
  obtain ⟨hx, hb, hml, hrt, hown, hts, ⟨hK, hox⟩, hG, hbs, hlk, hfr, hlo, hcs, hsl⟩ := X
  intro H locs ls hl hP hS
  exact lv_aload_n hx hb hd hi (lh_at hl hv) (k H locs ls hl hP hS)
theorem w_aload {i : Nat} {x : Nat} (X : cx_ C G own cc nL ry d) (hd : decode cc pc = .ok (.aload i, 2)) (hv : lv[i]? = some (some (.ref x))) (k : wq_ C G Q (pc + 2) lv (.ref x :: st) M) : wq_ C G Q pc lv st M := by
  obtain ⟨p, l, e, R, s, m, args, below, meth, c, cs, sl⟩ := C
  obtain ⟨hx, hb, hml, hrt, hown, hts, ⟨hK, hox⟩, hG, hbs, hlk, hfr, hlo, hcs, hsl⟩ := X
  intro H locs ls hl hP hS
  exact lv_aload hx hb hd (lh_at hl hv) (k H locs ls hl hP hS)
theorem w_istore_n {f : Fin 4} {i : Nat} {x : Int32} (X : cx_ C G own cc nL ry d) (hd : decode cc pc = .ok (.istore_n f, 1)) (hi : (f : Nat) = i) (hn : i < nL) (k : wq_ C G Q (pc + 1) (l1_ lv i (.int x)) st M) : wq_ C G Q pc lv (.int x :: st) M := by
  obtain ⟨p, l, e, R, s, m, args, below, meth, c, cs, sl⟩ := C
  obtain ⟨hx, hb, hml, hrt, hown, hts, ⟨hK, hox⟩, hG, hbs, hlk, hfr, hlo, hcs, hsl⟩ := X
  intro H locs ls hl hP hS
  exact lv_istore_n hx hb hd hi hl (by rw [hml]; exact hn) rfl (fun ls2 hl2 => k H locs ls2 (lh_sub hl2 lh_1) hP hS)
theorem w_istore {i : Nat} {x : Int32} (X : cx_ C G own cc nL ry d) (hd : decode cc pc = .ok (.istore i, 2)) (hn : i < nL) (k : wq_ C G Q (pc + 2) (l1_ lv i (.int x)) st M) : wq_ C G Q pc lv (.int x :: st) M := by
  obtain ⟨p, l, e, R, s, m, args, below, meth, c, cs, sl⟩ := C
  obtain ⟨hx, hb, hml, hrt, hown, hts, ⟨hK, hox⟩, hG, hbs, hlk, hfr, hlo, hcs, hsl⟩ := X
  intro H locs ls hl hP hS
  exact lv_istore hx hb hd hl (by rw [hml]; exact hn) rfl (fun ls2 hl2 => k H locs ls2 (lh_sub hl2 lh_1) hP hS)
theorem w_astore_n {f : Fin 4} {i : Nat} {x : Nat} (X : cx_ C G own cc nL ry d) (hd : decode cc pc = .ok (.astore_n f, 1)) (hi : (f : Nat) = i) (hn : i < nL) (k : wq_ C G Q (pc + 1) (l1_ lv i (.ref x)) st M) : wq_ C G Q pc lv (.ref x :: st) M := by
  obtain ⟨p, l, e, R, s, m, args, below, meth, c, cs, sl⟩ := C
  obtain ⟨hx, hb, hml, hrt, hown, hts, ⟨hK, hox⟩, hG, hbs, hlk, hfr, hlo, hcs, hsl⟩ := X
  intro H locs ls hl hP hS
  exact lv_astore_n hx hb hd hi hl (by rw [hml]; exact hn) rfl (fun ls2 hl2 => k H locs ls2 (lh_sub hl2 lh_1) hP hS)
theorem w_astore {i : Nat} {x : Nat} (X : cx_ C G own cc nL ry d) (hd : decode cc pc = .ok (.astore i, 2)) (hn : i < nL) (k : wq_ C G Q (pc + 2) (l1_ lv i (.ref x)) st M) : wq_ C G Q pc lv (.ref x :: st) M := by
  obtain ⟨p, l, e, R, s, m, args, below, meth, c, cs, sl⟩ := C
  obtain ⟨hx, hb, hml, hrt, hown, hts, ⟨hK, hox⟩, hG, hbs, hlk, hfr, hlo, hcs, hsl⟩ := X
  intro H locs ls hl hP hS
  exact lv_astore hx hb hd hl (by rw [hml]; exact hn) rfl (fun ls2 hl2 => k H locs ls2 (lh_sub hl2 lh_1) hP hS)
theorem w_lstore_n {f : Fin 4} {i : Nat} {x : Int64} (X : cx_ C G own cc nL ry d) (hd : decode cc pc = .ok (.lstore_n f, 1)) (hi : (f : Nat) = i) (hn : i + 1 < nL) (k : wq_ C G Q (pc + 1) (l2_ lv i (.long x)) st M) : wq_ C G Q pc lv (.long x :: st) M := by
  obtain ⟨p, l, e, R, s, m, args, below, meth, c, cs, sl⟩ := C
  obtain ⟨hx, hb, hml, hrt, hown, hts, ⟨hK, hox⟩, hG, hbs, hlk, hfr, hlo, hcs, hsl⟩ := X
  intro H locs ls hl hP hS
  exact lv_lstore_n hx hb hd hi hl (by rw [hml]; exact hn) rfl (fun ls2 hl2 => k H locs ls2 (lh_sub hl2 lh_2) hP hS)
theorem w_lstore {i : Nat} {x : Int64} (X : cx_ C G own cc nL ry d) (hd : decode cc pc = .ok (.lstore i, 2)) (hn : i + 1 < nL) (k : wq_ C G Q (pc + 2) (l2_ lv i (.long x)) st M) : wq_ C G Q pc lv (.long x :: st) M := by
  obtain ⟨p, l, e, R, s, m, args, below, meth, c, cs, sl⟩ := C
  obtain ⟨hx, hb, hml, hrt, hown, hts, ⟨hK, hox⟩, hG, hbs, hlk, hfr, hlo, hcs, hsl⟩ := X
  intro H locs ls hl hP hS
  exact lv_lstore hx hb hd hl (by rw [hml]; exact hn) rfl (fun ls2 hl2 => k H locs ls2 (lh_sub hl2 lh_2) hP hS)
theorem al_pos {l : List (Option Value)} {i : Nat} {v : Value} (h : l[i]? = some (some v)) : ∃ k : Nat, (al_ 0 l)[k]? = some (i, v) := List.getElem?_of_mem ((al_mem l 0 (i, v)).mpr ⟨i, by simp, h⟩)
theorem w_iinc {i : Nat} {n : Int} {x v : Int32} (X : cx_ C G own cc nL ry d) (hd : decode cc pc = .ok (.iinc i n, 3)) (hv : lv[i]? = some (some (.int x))) (he : Int32.ofInt n = v) (hn : i < nL) (k : wq_ C G Q (pc + 3) (l1_ lv i (.int (x + v))) st M) : wq_ C G Q pc lv st M := by
  obtain ⟨p, l, e, R, s, m, args, below, meth, c, cs, sl⟩ := C
  obtain ⟨hx, hb, hml, hrt, hown, hts, ⟨hK, hox⟩, hG, hbs, hlk, hfr, hlo, hcs, hsl⟩ := X
  intro H locs ls hl hP hS
  obtain ⟨q, hq⟩ := al_pos hv
  exact lv_iinc hx hb hd hl hq (by rw [he]) (by rw [hml]; exact hn) rfl (fun ls2 hl2 => k H locs ls2 (lh_sub hl2 lh_1) hP hS)
theorem w_if_eq {x : Int32} {off : Int} {tgt : Nat} (X : cx_ C G own cc nL ry d) (hd : decode cc pc = .ok (.ifCond .eq off, 3)) (ht : (pc : Int) + off = (tgt : Int)) (kt : x = 0 → wq_ C G Q tgt lv st M) (kf : ¬ x = 0 → wq_ C G Q (pc + 3) lv st M) : wq_ C G Q pc lv (.int x :: st) M := by
  obtain ⟨p, l, e, R, s, m, args, below, meth, c, cs, sl⟩ := C
  obtain ⟨hx, hb, hml, hrt, hown, hts, ⟨hK, hox⟩, hG, hbs, hlk, hfr, hlo, hcs, hsl⟩ := X
  intro H locs ls hl hP hS
  exact lv_if_eq hx hb hd ht (fun h => kt h H locs ls hl hP hS) (fun h => kf h H locs ls hl hP hS)
theorem w_if_ne {x : Int32} {off : Int} {tgt : Nat} (X : cx_ C G own cc nL ry d) (hd : decode cc pc = .ok (.ifCond .ne off, 3)) (ht : (pc : Int) + off = (tgt : Int)) (kt : ¬ x = 0 → wq_ C G Q tgt lv st M) (kf : x = 0 → wq_ C G Q (pc + 3) lv st M) : wq_ C G Q pc lv (.int x :: st) M := by
  obtain ⟨p, l, e, R, s, m, args, below, meth, c, cs, sl⟩ := C
  obtain ⟨hx, hb, hml, hrt, hown, hts, ⟨hK, hox⟩, hG, hbs, hlk, hfr, hlo, hcs, hsl⟩ := X
  intro H locs ls hl hP hS
  exact lv_if_ne hx hb hd ht (fun h => kt h H locs ls hl hP hS) (fun h => kf h H locs ls hl hP hS)
theorem w_if_lt {x : Int32} {off : Int} {tgt : Nat} (X : cx_ C G own cc nL ry d) (hd : decode cc pc = .ok (.ifCond .lt off, 3)) (ht : (pc : Int) + off = (tgt : Int)) (kt : x < 0 → wq_ C G Q tgt lv st M) (kf : ¬ x < 0 → wq_ C G Q (pc + 3) lv st M) : wq_ C G Q pc lv (.int x :: st) M := by
  obtain ⟨p, l, e, R, s, m, args, below, meth, c, cs, sl⟩ := C
  obtain ⟨hx, hb, hml, hrt, hown, hts, ⟨hK, hox⟩, hG, hbs, hlk, hfr, hlo, hcs, hsl⟩ := X
  intro H locs ls hl hP hS
  exact lv_if_lt hx hb hd ht (fun h => kt h H locs ls hl hP hS) (fun h => kf h H locs ls hl hP hS)
theorem w_if_ge {x : Int32} {off : Int} {tgt : Nat} (X : cx_ C G own cc nL ry d) (hd : decode cc pc = .ok (.ifCond .ge off, 3)) (ht : (pc : Int) + off = (tgt : Int)) (kt : 0 ≤ x → wq_ C G Q tgt lv st M) (kf : ¬ 0 ≤ x → wq_ C G Q (pc + 3) lv st M) : wq_ C G Q pc lv (.int x :: st) M := by
  obtain ⟨p, l, e, R, s, m, args, below, meth, c, cs, sl⟩ := C
  obtain ⟨hx, hb, hml, hrt, hown, hts, ⟨hK, hox⟩, hG, hbs, hlk, hfr, hlo, hcs, hsl⟩ := X
  intro H locs ls hl hP hS
  exact lv_if_ge hx hb hd ht (fun h => kt h H locs ls hl hP hS) (fun h => kf h H locs ls hl hP hS)
theorem w_if_gt {x : Int32} {off : Int} {tgt : Nat} (X : cx_ C G own cc nL ry d) (hd : decode cc pc = .ok (.ifCond .gt off, 3)) (ht : (pc : Int) + off = (tgt : Int)) (kt : 0 < x → wq_ C G Q tgt lv st M) (kf : ¬ 0 < x → wq_ C G Q (pc + 3) lv st M) : wq_ C G Q pc lv (.int x :: st) M := by
  obtain ⟨p, l, e, R, s, m, args, below, meth, c, cs, sl⟩ := C
  obtain ⟨hx, hb, hml, hrt, hown, hts, ⟨hK, hox⟩, hG, hbs, hlk, hfr, hlo, hcs, hsl⟩ := X
  intro H locs ls hl hP hS
  exact lv_if_gt hx hb hd ht (fun h => kt h H locs ls hl hP hS) (fun h => kf h H locs ls hl hP hS)
theorem w_if_le {x : Int32} {off : Int} {tgt : Nat} (X : cx_ C G own cc nL ry d) (hd : decode cc pc = .ok (.ifCond .le off, 3)) (ht : (pc : Int) + off = (tgt : Int)) (kt : x ≤ 0 → wq_ C G Q tgt lv st M) (kf : ¬ x ≤ 0 → wq_ C G Q (pc + 3) lv st M) : wq_ C G Q pc lv (.int x :: st) M := by
  obtain ⟨p, l, e, R, s, m, args, below, meth, c, cs, sl⟩ := C
  obtain ⟨hx, hb, hml, hrt, hown, hts, ⟨hK, hox⟩, hG, hbs, hlk, hfr, hlo, hcs, hsl⟩ := X
  intro H locs ls hl hP hS
  exact lv_if_le hx hb hd ht (fun h => kt h H locs ls hl hP hS) (fun h => kf h H locs ls hl hP hS)
theorem w_icmp_eq {x y : Int32} {off : Int} {tgt : Nat} (X : cx_ C G own cc nL ry d) (hd : decode cc pc = .ok (.if_icmp .eq off, 3)) (ht : (pc : Int) + off = (tgt : Int)) (kt : x = y → wq_ C G Q tgt lv st M) (kf : ¬ x = y → wq_ C G Q (pc + 3) lv st M) : wq_ C G Q pc lv (.int y :: .int x :: st) M := by
  obtain ⟨p, l, e, R, s, m, args, below, meth, c, cs, sl⟩ := C
  obtain ⟨hx, hb, hml, hrt, hown, hts, ⟨hK, hox⟩, hG, hbs, hlk, hfr, hlo, hcs, hsl⟩ := X
  intro H locs ls hl hP hS
  exact lv_icmp_eq hx hb hd ht (fun h => kt h H locs ls hl hP hS) (fun h => kf h H locs ls hl hP hS)
theorem w_icmp_ne {x y : Int32} {off : Int} {tgt : Nat} (X : cx_ C G own cc nL ry d) (hd : decode cc pc = .ok (.if_icmp .ne off, 3)) (ht : (pc : Int) + off = (tgt : Int)) (kt : ¬ x = y → wq_ C G Q tgt lv st M) (kf : x = y → wq_ C G Q (pc + 3) lv st M) : wq_ C G Q pc lv (.int y :: .int x :: st) M := by
  obtain ⟨p, l, e, R, s, m, args, below, meth, c, cs, sl⟩ := C
  obtain ⟨hx, hb, hml, hrt, hown, hts, ⟨hK, hox⟩, hG, hbs, hlk, hfr, hlo, hcs, hsl⟩ := X
  intro H locs ls hl hP hS
  exact lv_icmp_ne hx hb hd ht (fun h => kt h H locs ls hl hP hS) (fun h => kf h H locs ls hl hP hS)
theorem w_icmp_lt {x y : Int32} {off : Int} {tgt : Nat} (X : cx_ C G own cc nL ry d) (hd : decode cc pc = .ok (.if_icmp .lt off, 3)) (ht : (pc : Int) + off = (tgt : Int)) (kt : x < y → wq_ C G Q tgt lv st M) (kf : ¬ x < y → wq_ C G Q (pc + 3) lv st M) : wq_ C G Q pc lv (.int y :: .int x :: st) M := by
  obtain ⟨p, l, e, R, s, m, args, below, meth, c, cs, sl⟩ := C
  obtain ⟨hx, hb, hml, hrt, hown, hts, ⟨hK, hox⟩, hG, hbs, hlk, hfr, hlo, hcs, hsl⟩ := X
  intro H locs ls hl hP hS
  exact lv_icmp_lt hx hb hd ht (fun h => kt h H locs ls hl hP hS) (fun h => kf h H locs ls hl hP hS)
theorem w_icmp_ge {x y : Int32} {off : Int} {tgt : Nat} (X : cx_ C G own cc nL ry d) (hd : decode cc pc = .ok (.if_icmp .ge off, 3)) (ht : (pc : Int) + off = (tgt : Int)) (kt : y ≤ x → wq_ C G Q tgt lv st M) (kf : ¬ y ≤ x → wq_ C G Q (pc + 3) lv st M) : wq_ C G Q pc lv (.int y :: .int x :: st) M := by
  obtain ⟨p, l, e, R, s, m, args, below, meth, c, cs, sl⟩ := C
  obtain ⟨hx, hb, hml, hrt, hown, hts, ⟨hK, hox⟩, hG, hbs, hlk, hfr, hlo, hcs, hsl⟩ := X
  intro H locs ls hl hP hS
  exact lv_icmp_ge hx hb hd ht (fun h => kt h H locs ls hl hP hS) (fun h => kf h H locs ls hl hP hS)
theorem w_icmp_gt {x y : Int32} {off : Int} {tgt : Nat} (X : cx_ C G own cc nL ry d) (hd : decode cc pc = .ok (.if_icmp .gt off, 3)) (ht : (pc : Int) + off = (tgt : Int)) (kt : y < x → wq_ C G Q tgt lv st M) (kf : ¬ y < x → wq_ C G Q (pc + 3) lv st M) : wq_ C G Q pc lv (.int y :: .int x :: st) M := by
  obtain ⟨p, l, e, R, s, m, args, below, meth, c, cs, sl⟩ := C
  obtain ⟨hx, hb, hml, hrt, hown, hts, ⟨hK, hox⟩, hG, hbs, hlk, hfr, hlo, hcs, hsl⟩ := X
  intro H locs ls hl hP hS
  exact lv_icmp_gt hx hb hd ht (fun h => kt h H locs ls hl hP hS) (fun h => kf h H locs ls hl hP hS)
theorem w_icmp_le {x y : Int32} {off : Int} {tgt : Nat} (X : cx_ C G own cc nL ry d) (hd : decode cc pc = .ok (.if_icmp .le off, 3)) (ht : (pc : Int) + off = (tgt : Int)) (kt : x ≤ y → wq_ C G Q tgt lv st M) (kf : ¬ x ≤ y → wq_ C G Q (pc + 3) lv st M) : wq_ C G Q pc lv (.int y :: .int x :: st) M := by
  obtain ⟨p, l, e, R, s, m, args, below, meth, c, cs, sl⟩ := C
  obtain ⟨hx, hb, hml, hrt, hown, hts, ⟨hK, hox⟩, hG, hbs, hlk, hfr, hlo, hcs, hsl⟩ := X
  intro H locs ls hl hP hS
  exact lv_icmp_le hx hb hd ht (fun h => kt h H locs ls hl hP hS) (fun h => kf h H locs ls hl hP hS)
theorem w_goto {off : Int} {tgt : Nat} (X : cx_ C G own cc nL ry d) (hd : decode cc pc = .ok (.goto off, 3)) (ht : (pc : Int) + off = (tgt : Int)) (k : wq_ C G Q tgt lv st M) : wq_ C G Q pc lv st M := by
  obtain ⟨p, l, e, R, s, m, args, below, meth, c, cs, sl⟩ := C
  obtain ⟨hx, hb, hml, hrt, hown, hts, ⟨hK, hox⟩, hG, hbs, hlk, hfr, hlo, hcs, hsl⟩ := X
  intro H locs ls hl hP hS
  exact lv_goto hx hb hd ht (k H locs ls hl hP hS)
theorem w_iaload {a n t : Nat} {i : Int32} (X : cx_ C G own cc nL ry d) (hd : decode cc pc = .ok (.iaload, 1)) (ha : ds_[a]? = some (.inl (t, n, 0))) (ht : (tt_ G)[t]? = some (G.2.1 t, .int)) (hin : vp_in i n) (k : wq_ C G Q (pc + 1) lv (.int (M.1 a i.toNatClampNeg) :: st) M) : wq_ C G Q pc lv (.int i :: .ref (G.1 a) :: st) M := by
  obtain ⟨p, l, e, R, s, m, args, below, meth, c, cs, sl⟩ := C
  obtain ⟨hx, hb, hml, hrt, hown, hts, ⟨hK, hox⟩, hG, hbs, hlk, hfr, hlo, hcs, hsl⟩ := X
  intro H locs ls hl hP hS
  exact va_iald hx hb hK hP a t (wl_at ha) ht hin hd (k H locs ls hl hP hS)
theorem w_baload {a n t : Nat} {i : Int32} (X : cx_ C G own cc nL ry d) (hd : decode cc pc = .ok (.baload, 1)) (ha : ds_[a]? = some (.inl (t, n, 0))) (ht : (tt_ G)[t]? = some (G.2.1 t, .boolean)) (hin : vp_in i n) (k : wq_ C G Q (pc + 1) lv (.int (M.1 a i.toNatClampNeg) :: st) M) : wq_ C G Q pc lv (.int i :: .ref (G.1 a) :: st) M := by
  obtain ⟨p, l, e, R, s, m, args, below, meth, c, cs, sl⟩ := C
  obtain ⟨hx, hb, hml, hrt, hown, hts, ⟨hK, hox⟩, hG, hbs, hlk, hfr, hlo, hcs, hsl⟩ := X
  intro H locs ls hl hP hS
  exact va_zald hx hb hK hP a t (wl_at ha) ht hin hd (k H locs ls hl hP hS)
theorem w_laload {a n t : Nat} {i : Int32} (X : cx_ C G own cc nL ry d) (hd : decode cc pc = .ok (.laload, 1)) (ha : ds_[a]? = some (.inl (t, n, 1))) (ht : (tt_ G)[t]? = some (G.2.1 t, .long)) (hin : vp_in i n) (k : wq_ C G Q (pc + 1) lv (.long (M.2.1 a i.toNatClampNeg) :: st) M) : wq_ C G Q pc lv (.int i :: .ref (G.1 a) :: st) M := by
  obtain ⟨p, l, e, R, s, m, args, below, meth, c, cs, sl⟩ := C
  obtain ⟨hx, hb, hml, hrt, hown, hts, ⟨hK, hox⟩, hG, hbs, hlk, hfr, hlo, hcs, hsl⟩ := X
  intro H locs ls hl hP hS
  exact va_lald hx hb hK hP a t (wl_at ha) ht hin hd (k H locs ls hl hP hS)
theorem w_iastore {a n t : Nat} {i : Int32} {x : Int32} (X : cx_ C G own cc nL ry d) (hd : decode cc pc = .ok (.iastore, 1)) (ha : ds_[a]? = some (.inl (t, n, 0))) (ht : (tt_ G)[t]? = some (G.2.1 t, .int)) (hin : vp_in i n) (k : wq_ C G Q (pc + 1) lv st (sI_ M a i.toNatClampNeg (x))) : wq_ C G Q pc lv (.int x :: .int i :: .ref (G.1 a) :: st) M := by
  obtain ⟨p, l, e, R, s, m, args, below, meth, c, cs, sl⟩ := C
  obtain ⟨hx, hb, hml, hrt, hown, hts, ⟨hK, hox⟩, hG, hbs, hlk, hfr, hlo, hcs, hsl⟩ := X
  intro H locs ls hl hP hS
  refine va_iast hx hb hK hP (wl_D hG) hS a t (wl_at ha) ht hin hd (fun H1 locs1 hP1 hD1 hS1 => k H1 locs1 ls hl ?_ hS1)
  rw [← wl_set (M := M) ha (fun j d9 hj => ce_sI j d9 hj)]
  have he : ce_ G (sI_ M a i.toNatClampNeg (x)) a (.inl (t, n, 0)) = .inl (G.2.1 t, n, .inl (upd (M.1 a) i.toNatClampNeg (x))) := by
    simp only [ce_, sI_, upd]
    congr; funext j; simp; rfl
  rw [he]
  exact hP1
theorem w_bastore {a n t : Nat} {i : Int32} {x : Int32} (X : cx_ C G own cc nL ry d) (hd : decode cc pc = .ok (.bastore, 1)) (ha : ds_[a]? = some (.inl (t, n, 0))) (ht : (tt_ G)[t]? = some (G.2.1 t, .boolean)) (hin : vp_in i n) (k : wq_ C G Q (pc + 1) lv st (sI_ M a i.toNatClampNeg (vp_nar .boolean x))) : wq_ C G Q pc lv (.int x :: .int i :: .ref (G.1 a) :: st) M := by
  obtain ⟨p, l, e, R, s, m, args, below, meth, c, cs, sl⟩ := C
  obtain ⟨hx, hb, hml, hrt, hown, hts, ⟨hK, hox⟩, hG, hbs, hlk, hfr, hlo, hcs, hsl⟩ := X
  intro H locs ls hl hP hS
  refine va_zast hx hb hK hP (wl_D hG) hS a t (wl_at ha) ht hin hd (fun H1 locs1 hP1 hD1 hS1 => k H1 locs1 ls hl ?_ hS1)
  rw [← wl_set (M := M) ha (fun j d9 hj => ce_sI j d9 hj)]
  have he : ce_ G (sI_ M a i.toNatClampNeg (vp_nar .boolean x)) a (.inl (t, n, 0)) = .inl (G.2.1 t, n, .inl (upd (M.1 a) i.toNatClampNeg (vp_nar .boolean x))) := by
    simp only [ce_, sI_, upd]
    congr; funext j; simp; rfl
  rw [he]
  exact hP1
theorem w_lastore {a n t : Nat} {i : Int32} {x : Int64} (X : cx_ C G own cc nL ry d) (hd : decode cc pc = .ok (.lastore, 1)) (ha : ds_[a]? = some (.inl (t, n, 1))) (ht : (tt_ G)[t]? = some (G.2.1 t, .long)) (hin : vp_in i n) (k : wq_ C G Q (pc + 1) lv st (sL_ M a i.toNatClampNeg (x))) : wq_ C G Q pc lv (.long x :: .int i :: .ref (G.1 a) :: st) M := by
  obtain ⟨p, l, e, R, s, m, args, below, meth, c, cs, sl⟩ := C
  obtain ⟨hx, hb, hml, hrt, hown, hts, ⟨hK, hox⟩, hG, hbs, hlk, hfr, hlo, hcs, hsl⟩ := X
  intro H locs ls hl hP hS
  refine va_last hx hb hK hP (wl_D hG) hS a t (wl_at ha) ht hin hd (fun H1 locs1 hP1 hD1 hS1 => k H1 locs1 ls hl ?_ hS1)
  rw [← wl_set (M := M) ha (fun j d9 hj => ce_sL j d9 hj)]
  have he : ce_ G (sL_ M a i.toNatClampNeg (x)) a (.inl (t, n, 1)) = .inl (G.2.1 t, n, .inr (.inl (vp_updL (M.2.1 a) i.toNatClampNeg (x)))) := by
    simp only [ce_, sL_, vp_updL]
    congr; funext j; simp; rfl
  rw [he]
  exact hP1
theorem w_get {ci N index j f a : Nat} {fs : List Nat} {K : String} {T : u_T} (X : cx_ C G own cc nL ry d) (hd : decode cc pc = .ok (.getfield index, 3)) (hin : ∀ w ∈ u_ws K T N, w ∈ gw_) (hc : vwCl[ci]? = some (K, T, N)) (hj : j < N) (hlink : Cond.fieldLink own index (T j).1 (T j).2.1 (T j).2.2.1 ∈ gw_) (hf : fs[j]? = some f) (ha : ds_[a]? = some (.inr (ci, fs)))
    (k : wq_ C G Q (pc + 3) lv (fv_ G M a j f :: st) M) : wq_ C G Q pc lv (.ref (G.1 a) :: st) M := by
  obtain ⟨p, l, e, R, s, m, args, below, meth, c, cs, sl⟩ := C
  obtain ⟨hx, hb, hml, hrt, hown, hts, ⟨hK, hox⟩, hG, hbs, hlk, hfr, hlo, hcs, hsl⟩ := X
  intro H locs ls hl hP hS
  exact va_get hx hb hts hin hown hK hP a (wl_at ha) hc j hj (hts _ hlink) (fun _ h9 => h9) (fl_at hf) hd (k H locs ls hl hP hS)
theorem w_putI {ci N index j a : Nat} {fs : List Nat} {K : String} {T : u_T} {ty0 : Nat → FieldType} {ty : FieldType} {x : Int32} (X : cx_ C G own cc nL ry d) (hd : decode cc pc = .ok (.putfield index, 3)) (hin : ∀ w ∈ u_ws K T N, w ∈ gw_) (hty : ∀ k, k < N → parseFieldDescriptor (T k).2.2.1 = some (ty0 k)) (hnm : ∀ a, a < N → ∀ b, b < N → a ≠ b → (T a).2.1 ≠ (T b).2.1) (hc : vwCl[ci]? = some (K, T, N)) (hj : j < N) (hlink : Cond.fieldLink own index (T j).1 (T j).2.1 (T j).2.2.1 ∈ gw_) (hfin : (T j).2.2.2 = false) (hdt : parseFieldDescriptor (T j).2.2.1 = some ty) (hf : fs[j]? = some 0) (ha : ds_[a]? = some (.inr (ci, fs)))
    (hnar : narrow ty (.int x) = .int x) (hfit : fits ty (.int x) = true) (k : wq_ C G Q (pc + 3) lv st (sI_ M a j x)) : wq_ C G Q pc lv (.int x :: .ref (G.1 a) :: st) M := by
  obtain ⟨p, l, e, R, s, m, args, below, meth, c, cs, sl⟩ := C
  obtain ⟨hx, hb, hml, hrt, hown, hts, ⟨hK, hox⟩, hG, hbs, hlk, hfr, hlo, hcs, hsl⟩ := X
  intro H locs ls hl hP hS
  have hlen : j < (fl_ G M a 0 fs).length := (List.getElem?_eq_some_iff.mp (fl_at (G := G) (M := M) (k := a) hf)).1
  refine va_put hx hb hts hin ty0 hty hnm hown hK hP (wl_D hG) hS a (wl_at ha) hc j hj (hts _ hlink) (fun _ h9 => h9) hfin hdt hnar hfit hlen hd (fun H1 locs1 hP1 hD1 hS1 => k H1 locs1 ls hl ?_ hS1)
  rw [← wl_set (M := M) ha (fun j9 d9 hj9 => ce_sI j9 d9 hj9)]
  have he : ce_ G (sI_ M a j x) a (.inr (ci, fs)) = .inr (ci, (fl_ G M a 0 fs).set j (.int x)) := by
    simp only [ce_]
    rw [← fl_set (M := M) hf (fun i g hi => fv_sI i g hi)]
    simp [fv_, sI_]
  rw [he]
  exact hP1
theorem w_putL {ci N index j a : Nat} {fs : List Nat} {K : String} {T : u_T} {ty0 : Nat → FieldType} {ty : FieldType} {x : Int64} (X : cx_ C G own cc nL ry d) (hd : decode cc pc = .ok (.putfield index, 3)) (hin : ∀ w ∈ u_ws K T N, w ∈ gw_) (hty : ∀ k, k < N → parseFieldDescriptor (T k).2.2.1 = some (ty0 k)) (hnm : ∀ a, a < N → ∀ b, b < N → a ≠ b → (T a).2.1 ≠ (T b).2.1) (hc : vwCl[ci]? = some (K, T, N)) (hj : j < N) (hlink : Cond.fieldLink own index (T j).1 (T j).2.1 (T j).2.2.1 ∈ gw_) (hfin : (T j).2.2.2 = false) (hdt : parseFieldDescriptor (T j).2.2.1 = some ty) (hf : fs[j]? = some 1) (ha : ds_[a]? = some (.inr (ci, fs)))
    (hnar : narrow ty (.long x) = .long x) (hfit : fits ty (.long x) = true) (k : wq_ C G Q (pc + 3) lv st (sL_ M a j x)) : wq_ C G Q pc lv (.long x :: .ref (G.1 a) :: st) M := by
  obtain ⟨p, l, e, R, s, m, args, below, meth, c, cs, sl⟩ := C
  obtain ⟨hx, hb, hml, hrt, hown, hts, ⟨hK, hox⟩, hG, hbs, hlk, hfr, hlo, hcs, hsl⟩ := X
  intro H locs ls hl hP hS
  have hlen : j < (fl_ G M a 0 fs).length := (List.getElem?_eq_some_iff.mp (fl_at (G := G) (M := M) (k := a) hf)).1
  refine va_put hx hb hts hin ty0 hty hnm hown hK hP (wl_D hG) hS a (wl_at ha) hc j hj (hts _ hlink) (fun _ h9 => h9) hfin hdt hnar hfit hlen hd (fun H1 locs1 hP1 hD1 hS1 => k H1 locs1 ls hl ?_ hS1)
  rw [← wl_set (M := M) ha (fun j9 d9 hj9 => ce_sL j9 d9 hj9)]
  have he : ce_ G (sL_ M a j x) a (.inr (ci, fs)) = .inr (ci, (fl_ G M a 0 fs).set j (.long x)) := by
    simp only [ce_]
    rw [← fl_set (M := M) hf (fun i g hi => fv_sL i g hi)]
    simp [fv_, sL_]
  rw [he]
  exact hP1
end ROWS
