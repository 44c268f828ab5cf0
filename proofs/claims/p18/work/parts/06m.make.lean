/-! making cells: dall_ (part 03) lists all cells in the order of their making (number, descriptor); n of them are made, the i-th lies at base + i; ca_ C a b: a cells of b slots were made since the body's start -/
def wm_ (G : gg_) (M : mm_) (n : Nat) : va_W := (dall_.take n).map (fun q => (G.1 q.1, ce_ G M q.1 q.2))
def ga_ (G : gg_) : Prop := ∀ k, k < dnX_ → G.1 k = G.2.2.2 + pi_ k
def zr_ (M : mm_) (k : Nat) : Prop := (∀ i, M.1 k i = 0) ∧ (∀ i, M.2.1 k i = 0) ∧ ∀ i, M.2.2 k i = none
def zz_ (M : mm_) (n : Nat) : Prop := ∀ k, n ≤ pi_ k → zr_ M k
def hp_ (G : gg_) (M : mm_) (n : Nat) (H : Heap) : Prop := va_P G.2.2.1 vwCl (wm_ G M n) H ∧ H.size = G.2.2.2 + n ∧ zz_ M n
def ca_ : mc_ → Nat → Nat → mc_
  | (p, l, e, R, s, m, args, below, meth, c, _, _), a, b => (p, l, e, R, s, m, args, below, meth, c, a, b)
def wn_ : mc_ → gg_ → (State → Prop) → Nat → List (Option Value) → List Value → mm_ → Nat → Prop
  | (p, l, e, R, s, m, args, below, meth, c, cs, sl), G, Q, pc, lv, st, M, n => ∀ (H : Heap) (locs : List Loc) (ls : Array Slot), lh_ c.maxLocals ls lv → hp_ G M n H → va_S (aw_ G) s.heap H locs → W p l e R s m args below meth c H locs cs sl Q (F0 m pc ls st)
def cnX_ : mc_ → gg_ → String → ByteArray → Nat → Option FieldType → Nat → Nat → Nat → Prop
  | (p, l, e, R, s, m, args, below, meth, c, cs, sl), G, own, cc, nL, ry, d, MC, MS => p.tables.exec = Jvm.exec ∧ c.code = cc ∧ c.maxLocals = nL ∧ meth.sig.returnType = ry ∧ s.vm.findClass own = some m.cls ∧ (∀ w ∈ gw_, w.before args s = true) ∧ kw_ G s ∧ (G.2.2.2 ≤ s.heap.size ∧ ga_ G) ∧ meth.locks = false ∧ d ≤ R.frames ∧ 64 * d ≤ R.locals ∧ MC ≤ R.cells ∧ MS ≤ R.slots
/-- the body is a constructor's -/
def ic_ : mc_ → Prop
  | (_, _, _, _, _, _, _, _, meth, _, _, _) => meth.name = "<init>"
theorem da_pi {i k : Nat} {d : dd_} (h : dall_[i]? = some (k, d)) : pi_ k = i ∧ k < dnX_ := by
  have hl : i < dall_.length := (List.getElem?_eq_some_iff.mp h).1
  have key : ∀ i, i < dall_.length → (match dall_[i]? with | some q => decide (pi_ q.1 = i) && decide (q.1 < dnX_) | none => true) = true := by decide +kernel
  have := key i hl
  rw [h] at this
  simpa using this
theorem wm_key {G : gg_} {M : mm_} {n i : Nat} {q : Nat × va_E} (h : (wm_ G M n)[i]? = some q) : i < n ∧ ∃ (k : Nat) (d : dd_), dall_[i]? = some (k, d) ∧ q = (G.1 k, ce_ G M k d) := by
  rw [wm_, List.getElem?_map, List.getElem?_take] at h
  by_cases hi : i < n
  · rw [if_pos hi] at h
    cases hd : dall_[i]? with
    | none => rw [hd] at h; cases h
    | some x =>
      rw [hd] at h
      cases h
      exact ⟨hi, x.1, x.2, rfl, rfl⟩
  · rw [if_neg hi] at h
    cases h
theorem wm_at {G : gg_} {M : mm_} {n i k : Nat} {d : dd_} (h : dall_[i]? = some (k, d)) (hi : i < n) : (wm_ G M n)[i]? = some (G.1 k, ce_ G M k d) := by
  rw [wm_, List.getElem?_map, List.getElem?_take, if_pos hi, h]; rfl
theorem wm_app {G : gg_} {M : mm_} {n k : Nat} {d : dd_} (h : dall_[n]? = some (k, d)) : wm_ G M (n + 1) = wm_ G M n ++ [(G.1 k, ce_ G M k d)] := by
  rw [wm_, List.take_add_one, h, List.map_append]; rfl
theorem wm_D {G : gg_} {M : mm_} {n : Nat} (hg : ga_ G) : va_D (aw_ G) (wm_ G M n) := by
  have key : ∀ (i : Nat) (q : Nat × va_E), (wm_ G M n)[i]? = some q → q.1 = G.2.2.2 + i := by
    intro i q h
    obtain ⟨-, k, d, h1, rfl⟩ := wm_key h
    obtain ⟨h2, h3⟩ := da_pi h1
    rw [hg k h3, h2]
  refine ⟨fun i j x y hi hj hxy => ?_, fun k q hk => ?_⟩
  · have a1 := key i x hi
    have a2 := key j y hj
    omega
  · have a1 := key k q hk
    show G.2.2.2 ≤ q.1
    omega
theorem wm_set {G : gg_} {M M' : mm_} {n i k : Nat} {d : dd_} (h : dall_[i]? = some (k, d)) (hi : i < n) (he : ∀ (j : Nat) (d' : dd_), j ≠ k → ce_ G M' j d' = ce_ G M j d') : (wm_ G M n).set i (G.1 k, ce_ G M' k d) = wm_ G M' n := by
  apply List.ext_getElem?
  intro j
  by_cases hj : j = i
  · subst hj
    have hl : j < (wm_ G M n).length := (List.getElem?_eq_some_iff.mp (wm_at (G := G) (M := M) h hi)).1
    rw [List.getElem?_set_self hl, wm_at h hi]
  · rw [List.getElem?_set_ne (Ne.symm hj), wm_, wm_, List.getElem?_map, List.getElem?_map]
    cases hd : (dall_.take n)[j]? with
    | none => rfl
    | some x =>
      have hd2 : dall_[j]? = some (x.1, x.2) := by
        rw [List.getElem?_take] at hd
        by_cases hjn : j < n
        · rw [if_pos hjn] at hd; exact hd
        · rw [if_neg hjn] at hd; cases hd
      have h3 : x.1 ≠ k := fun q => by
        have h4 := (da_pi hd2).1
        rw [q, (da_pi h).1] at h4
        exact hj h4.symm
      simp only [Option.map_some]
      rw [he x.1 x.2 h3]
theorem zz_I {M : mm_} {n k j : Nat} {v : Int32} (h : zz_ M n) (hk : pi_ k < n) : zz_ (sI_ M k j v) n := fun k2 h2 => by
  have hne : k2 ≠ k := fun q => by rw [q] at h2; omega
  obtain ⟨a1, a2, a3⟩ := h k2 h2
  exact ⟨fun i => by simp [sI_, hne, a1], a2, a3⟩
theorem zz_R {M : mm_} {n k j : Nat} {v : Option Nat} (h : zz_ M n) (hk : pi_ k < n) : zz_ (sR_ M k j v) n := fun k2 h2 => by
  have hne : k2 ≠ k := fun q => by rw [q] at h2; omega
  obtain ⟨a1, a2, a3⟩ := h k2 h2
  exact ⟨a1, a2, fun i => by simp [sR_, hne, a3]⟩
theorem zz_mono {M : mm_} {n : Nat} (h : zz_ M n) : zz_ M (n + 1) := fun k hk => h k (by omega)
def df_ : Nat → Value
  | 0 => .int 0
  | 1 => .long 0
  | _ => .null
theorem fl_zero {G : gg_} {M : mm_} {k : Nat} (hz : zr_ M k) : ∀ (fs : List Nat) (n : Nat), (∀ f ∈ fs, f < 3) → fl_ G M k n fs = fs.map df_
  | [], _, _ => rfl
  | f :: fs, n, h => by
    rw [fl_, fl_zero hz fs (n + 1) (fun x hx => h x (List.mem_cons_of_mem _ hx)), List.map_cons]
    have hf := h f List.mem_cons_self
    have e : f = 0 ∨ f = 1 ∨ f = 2 := by omega
    rcases e with rfl | rfl | rfl
    · rw [fv_, hz.1]; rfl
    · rw [fv_, hz.2.1]; rfl
    · rw [fv_, hz.2.2]; rfl
theorem fv_sR {G : gg_} {M : mm_} {k j : Nat} {v : Option Nat} (i g : Nat) (h : i ≠ j) : fv_ G (sR_ M k j v) k i g = fv_ G M k i g := by
  match g with
  | 0 => rfl
  | 1 => rfl
  | 2 => simp [fv_, sR_, h]
  | t + 3 => rfl
/-! contracts of constructors -/
def rnX_ (d mc ms : Nat) : Room := { frames := d, cells := mc, slots := ms, locals := 64 * d }
def qn_ (G : gg_) (N : mm_) (E : Nat) : Array Value → State → Outcome → State → Prop := fun _ st oc t => (oc = .returned none ∧ hp_ G N E t.heap) ∧ va_F (aw_ G) st t
def pn_ (G : gg_) (As : List Value) (M : mm_) (n : Nat) : Array Value → State → Prop := va_Pc As (fun U => G.2.2.2 ≤ U.heap.size ∧ hp_ G M n U.heap ∧ kw_ G U)
def ctX_ (G : gg_) (y : MethodName) (cy : ByteArray) (ny d mc ms : Nat) (As : List Value) (M : mm_) (n : Nat) (N : mm_) (E : Nat) : Prop := ∀ l : Launch, Met l y (.code y cy ny none :: gw_) (rnX_ d mc ms) (pn_ G As M n) (qn_ G N E) mc ms (aw_ G)
def qc_ : mc_ → gg_ → mm_ → Nat → Nat → Nat → State → Prop
  | (_, _, _, _, s, _, args, below, _, _, _, _), G, N, E, mc, ms => MQ below (qn_ G N E) args s mc ms (aw_ G)
theorem pn_blind {G : gg_} {As : List Value} {M : mm_} {n : Nat} : FrameBlind (pn_ G As M n) := fun a U g mk q => by
  obtain ⟨q0, q1, qP, qK⟩ := q
  exact ⟨q0, q1, qP, kw_same (u := U) (U := U.calling g mk a) qK rfl rfl⟩
theorem ct_of {G : gg_} {y : MethodName} {cy : ByteArray} {ny d mc ms : Nat} {As : List Value} {M N : mm_} {n E : Nat} (hg : ga_ G) (hy : plainName y.cls = true) (hi : y.name = "<init>") (hn : (lg_sl As).length ≤ ny)
    (h : ∀ C : mc_, cnX_ C G y.cls cy ny none d mc ms → ic_ C → wn_ (ca_ C 0 0) G (qc_ C G N E mc ms) 0 (en_ ny As) [] M n) : ctX_ G y cy ny d mc ms As M n N E := by
  intro l
  refine Met.ofW (cc := cy) (maxL := ny) (ret := none) hy rfl ?_
  intro p e s m args below meth c s₁ B hml hv
  obtain ⟨rfl, hbs, hP, hK⟩ := hv
  have hts0 := atoms_spec (ws := .code y cy ny none :: gw_) B.pre
  have hown : s.vm.findClass y.cls = some m.cls := findClass_of_methodNamed B.named
  have hin : meth.name = y.name := (name_of_methodNamed B.named B.method).1
  have hl := lv_entry As (n := ny) hn
  rw [lg_entry_eq]
  generalize (lg_sl As ++ List.replicate (ny - (lg_sl As).length) Slot.unset).toArray = ls at hl ⊢
  refine h (p, l, e, rnX_ d mc ms, s, m, As.toArray, below, meth, c, 0, 0) ⟨B.exec, B.bytes, hml, B.returns, hown, fun w hw => hts0 w (List.mem_cons_of_mem _ hw), hK, ⟨hbs, hg⟩, B.notSynchronized, Nat.le_refl _, Nat.le_refl _, Nat.le_refl _, Nat.le_refl _⟩ (hin.trans hi) s.heap [] ls ?_ hP va_S.rf
  refine lh_sub (l := lv_args 0 As) ?_ (en_mem As ny 0)
  rw [hml]
  exact hl
section MAKE
variable {C : mc_} {G : gg_} {Q : State → Prop} {pc : Nat} {lv : List (Option Value)} {st : List Value} {M : mm_} {nn : Nat} {own : String} {cc : ByteArray} {nL : Nat} {ry : Option FieldType} {d MC MS a b : Nat}
theorem n_iconst {n : Int} {v : Int32} (X : cnX_ C G own cc nL ry d MC MS) (hd : decode cc pc = .ok (.iconst n, 1)) (hv : Int32.ofInt n = v) (k : wn_ (ca_ C a b) G Q (pc + 1) lv (.int v :: st) M nn) : wn_ (ca_ C a b) G Q pc lv (st) M nn := by
  obtain ⟨p, l, e, R, s, m, args, below, meth, c, cs, sl⟩ := C
  obtain ⟨hx, hb, hml, hrt, hown, hts, ⟨hK, hox⟩, ⟨hbs, hg⟩, hlk, hfr, hlo, hcs, hsl⟩ := X
  intro H locs ls hl hP hS
  exact lv_iconst hx hb hd hv (k H locs ls hl hP hS)
theorem n_bipush {n : Int} {v : Int32} (X : cnX_ C G own cc nL ry d MC MS) (hd : decode cc pc = .ok (.bipush n, 2)) (hv : (Int8.ofInt n).toInt32 = v) (k : wn_ (ca_ C a b) G Q (pc + 2) lv (.int v :: st) M nn) : wn_ (ca_ C a b) G Q pc lv (st) M nn := by
  obtain ⟨p, l, e, R, s, m, args, below, meth, c, cs, sl⟩ := C
  obtain ⟨hx, hb, hml, hrt, hown, hts, ⟨hK, hox⟩, ⟨hbs, hg⟩, hlk, hfr, hlo, hcs, hsl⟩ := X
  intro H locs ls hl hP hS
  exact lv_bipush hx hb hd hv (k H locs ls hl hP hS)
theorem n_sipush {n : Int} {v : Int32} (X : cnX_ C G own cc nL ry d MC MS) (hd : decode cc pc = .ok (.sipush n, 3)) (hv : (Int16.ofInt n).toInt32 = v) (k : wn_ (ca_ C a b) G Q (pc + 3) lv (.int v :: st) M nn) : wn_ (ca_ C a b) G Q pc lv (st) M nn := by
  obtain ⟨p, l, e, R, s, m, args, below, meth, c, cs, sl⟩ := C
  obtain ⟨hx, hb, hml, hrt, hown, hts, ⟨hK, hox⟩, ⟨hbs, hg⟩, hlk, hfr, hlo, hcs, hsl⟩ := X
  intro H locs ls hl hP hS
  exact lv_sipush hx hb hd hv (k H locs ls hl hP hS)
theorem n_imul {x y : Int32} (X : cnX_ C G own cc nL ry d MC MS) (hd : decode cc pc = .ok (.imul, 1))  (k : wn_ (ca_ C a b) G Q (pc + 1) lv (.int (x * y) :: st) M nn) : wn_ (ca_ C a b) G Q pc lv (.int y :: .int x :: st) M nn := by
  obtain ⟨p, l, e, R, s, m, args, below, meth, c, cs, sl⟩ := C
  obtain ⟨hx, hb, hml, hrt, hown, hts, ⟨hK, hox⟩, ⟨hbs, hg⟩, hlk, hfr, hlo, hcs, hsl⟩ := X
  intro H locs ls hl hP hS
  exact lv_imul hx hb hd  (k H locs ls hl hP hS)
theorem n_dup {va : Value} (X : cnX_ C G own cc nL ry d MC MS) (hd : decode cc pc = .ok (.dup, 1)) (hva : va.category = 1) (k : wn_ (ca_ C a b) G Q (pc + 1) lv (va :: va :: st) M nn) : wn_ (ca_ C a b) G Q pc lv (va :: st) M nn := by
  obtain ⟨p, l, e, R, s, m, args, below, meth, c, cs, sl⟩ := C
  obtain ⟨hx, hb, hml, hrt, hown, hts, ⟨hK, hox⟩, ⟨hbs, hg⟩, hlk, hfr, hlo, hcs, hsl⟩ := X
  intro H locs ls hl hP hS
  exact lv_dup hx hb hd hva (k H locs ls hl hP hS)
theorem n_iload_n {f : Fin 4} {i : Nat} {x : Int32} (X : cnX_ C G own cc nL ry d MC MS) (hd : decode cc pc = .ok (.iload_n f, 1)) (hi : (f : Nat) = i) (hv : lv[i]? = some (some (.int x))) (k : wn_ (ca_ C a b) G Q (pc + 1) lv (.int x :: st) M nn) : wn_ (ca_ C a b) G Q pc lv st M nn := by
  obtain ⟨p, l, e, R, s, m, args, below, meth, c, cs, sl⟩ := C
  obtain ⟨hx, hb, hml, hrt, hown, hts, ⟨hK, hox⟩, ⟨hbs, hg⟩, hlk, hfr, hlo, hcs, hsl⟩ := X
  intro H locs ls hl hP hS
  exact lv_iload_n hx hb hd hi (lh_at hl hv) (k H locs ls hl hP hS)
theorem n_istore_n {f : Fin 4} {i : Nat} {x : Int32} (X : cnX_ C G own cc nL ry d MC MS) (hd : decode cc pc = .ok (.istore_n f, 1)) (hi : (f : Nat) = i) (hn : i < nL) (k : wn_ (ca_ C a b) G Q (pc + 1) (l1_ lv i (.int x)) st M nn) : wn_ (ca_ C a b) G Q pc lv (.int x :: st) M nn := by
  obtain ⟨p, l, e, R, s, m, args, below, meth, c, cs, sl⟩ := C
  obtain ⟨hx, hb, hml, hrt, hown, hts, ⟨hK, hox⟩, ⟨hbs, hg⟩, hlk, hfr, hlo, hcs, hsl⟩ := X
  intro H locs ls hl hP hS
  exact lv_istore_n hx hb hd hi hl (by rw [hml]; exact hn) rfl (fun ls2 hl2 => k H locs ls2 (lh_sub hl2 lh_1) hP hS)
theorem n_aload_n {f : Fin 4} {i : Nat} {x : Nat} (X : cnX_ C G own cc nL ry d MC MS) (hd : decode cc pc = .ok (.aload_n f, 1)) (hi : (f : Nat) = i) (hv : lv[i]? = some (some (.ref x))) (k : wn_ (ca_ C a b) G Q (pc + 1) lv (.ref x :: st) M nn) : wn_ (ca_ C a b) G Q pc lv st M nn := by
  obtain ⟨p, l, e, R, s, m, args, below, meth, c, cs, sl⟩ := C
  obtain ⟨hx, hb, hml, hrt, hown, hts, ⟨hK, hox⟩, ⟨hbs, hg⟩, hlk, hfr, hlo, hcs, hsl⟩ := X
  intro H locs ls hl hP hS
  exact lv_aload_n hx hb hd hi (lh_at hl hv) (k H locs ls hl hP hS)
theorem n_aload {i : Nat} {x : Nat} (X : cnX_ C G own cc nL ry d MC MS) (hd : decode cc pc = .ok (.aload i, 2)) (hv : lv[i]? = some (some (.ref x))) (k : wn_ (ca_ C a b) G Q (pc + 2) lv (.ref x :: st) M nn) : wn_ (ca_ C a b) G Q pc lv st M nn := by
  obtain ⟨p, l, e, R, s, m, args, below, meth, c, cs, sl⟩ := C
  obtain ⟨hx, hb, hml, hrt, hown, hts, ⟨hK, hox⟩, ⟨hbs, hg⟩, hlk, hfr, hlo, hcs, hsl⟩ := X
  intro H locs ls hl hP hS
  exact lv_aload hx hb hd (lh_at hl hv) (k H locs ls hl hP hS)
theorem n_astore_n {f : Fin 4} {i : Nat} {x : Nat} (X : cnX_ C G own cc nL ry d MC MS) (hd : decode cc pc = .ok (.astore_n f, 1)) (hi : (f : Nat) = i) (hn : i < nL) (k : wn_ (ca_ C a b) G Q (pc + 1) (l1_ lv i (.ref x)) st M nn) : wn_ (ca_ C a b) G Q pc lv (.ref x :: st) M nn := by
  obtain ⟨p, l, e, R, s, m, args, below, meth, c, cs, sl⟩ := C
  obtain ⟨hx, hb, hml, hrt, hown, hts, ⟨hK, hox⟩, ⟨hbs, hg⟩, hlk, hfr, hlo, hcs, hsl⟩ := X
  intro H locs ls hl hP hS
  exact lv_astore_n hx hb hd hi hl (by rw [hml]; exact hn) rfl (fun ls2 hl2 => k H locs ls2 (lh_sub hl2 lh_1) hP hS)
theorem n_iinc {i : Nat} {n : Int} {x v : Int32} (X : cnX_ C G own cc nL ry d MC MS) (hd : decode cc pc = .ok (.iinc i n, 3)) (hv : lv[i]? = some (some (.int x))) (he : Int32.ofInt n = v) (hn : i < nL) (k : wn_ (ca_ C a b) G Q (pc + 3) (l1_ lv i (.int (x + v))) st M nn) : wn_ (ca_ C a b) G Q pc lv st M nn := by
  obtain ⟨p, l, e, R, s, m, args, below, meth, c, cs, sl⟩ := C
  obtain ⟨hx, hb, hml, hrt, hown, hts, ⟨hK, hox⟩, ⟨hbs, hg⟩, hlk, hfr, hlo, hcs, hsl⟩ := X
  intro H locs ls hl hP hS
  obtain ⟨q, hq⟩ := al_pos hv
  exact lv_iinc hx hb hd hl hq (by rw [he]) (by rw [hml]; exact hn) rfl (fun ls2 hl2 => k H locs ls2 (lh_sub hl2 lh_1) hP hS)
theorem n_icmp_ge {x y : Int32} {off : Int} {tgt : Nat} (X : cnX_ C G own cc nL ry d MC MS) (hd : decode cc pc = .ok (.if_icmp .ge off, 3)) (ht : (pc : Int) + off = (tgt : Int)) (kt : y ≤ x → wn_ (ca_ C a b) G Q tgt lv st M nn) (kf : ¬ y ≤ x → wn_ (ca_ C a b) G Q (pc + 3) lv st M nn) : wn_ (ca_ C a b) G Q pc lv (.int y :: .int x :: st) M nn := by
  obtain ⟨p, l, e, R, s, m, args, below, meth, c, cs, sl⟩ := C
  obtain ⟨hx, hb, hml, hrt, hown, hts, ⟨hK, hox⟩, ⟨hbs, hg⟩, hlk, hfr, hlo, hcs, hsl⟩ := X
  intro H locs ls hl hP hS
  exact lv_icmp_ge hx hb hd ht (fun h => kt h H locs ls hl hP hS) (fun h => kf h H locs ls hl hP hS)
theorem n_icmp_gt {x y : Int32} {off : Int} {tgt : Nat} (X : cnX_ C G own cc nL ry d MC MS) (hd : decode cc pc = .ok (.if_icmp .gt off, 3)) (ht : (pc : Int) + off = (tgt : Int)) (kt : y < x → wn_ (ca_ C a b) G Q tgt lv st M nn) (kf : ¬ y < x → wn_ (ca_ C a b) G Q (pc + 3) lv st M nn) : wn_ (ca_ C a b) G Q pc lv (.int y :: .int x :: st) M nn := by
  obtain ⟨p, l, e, R, s, m, args, below, meth, c, cs, sl⟩ := C
  obtain ⟨hx, hb, hml, hrt, hown, hts, ⟨hK, hox⟩, ⟨hbs, hg⟩, hlk, hfr, hlo, hcs, hsl⟩ := X
  intro H locs ls hl hP hS
  exact lv_icmp_gt hx hb hd ht (fun h => kt h H locs ls hl hP hS) (fun h => kf h H locs ls hl hP hS)
theorem n_goto {off : Int} {tgt : Nat} (X : cnX_ C G own cc nL ry d MC MS) (hd : decode cc pc = .ok (.goto off, 3)) (ht : (pc : Int) + off = (tgt : Int)) (k : wn_ (ca_ C a b) G Q tgt lv st M nn) : wn_ (ca_ C a b) G Q pc lv st M nn := by
  obtain ⟨p, l, e, R, s, m, args, below, meth, c, cs, sl⟩ := C
  obtain ⟨hx, hb, hml, hrt, hown, hts, ⟨hK, hox⟩, ⟨hbs, hg⟩, hlk, hfr, hlo, hcs, hsl⟩ := X
  intro H locs ls hl hP hS
  exact lv_goto hx hb hd ht (k H locs ls hl hP hS)
theorem n_get {ci N index j f k : Nat} {fs : List Nat} {K : String} {T : u_T} (X : cnX_ C G own cc nL ry d MC MS) (hd : decode cc pc = .ok (.getfield index, 3)) (hin : ∀ w ∈ u_ws K T N, w ∈ gw_) (hc : vwCl[ci]? = some (K, T, N)) (hj : j < N) (hlink : Cond.fieldLink own index (T j).1 (T j).2.1 (T j).2.2.1 ∈ gw_) (hf : fs[j]? = some f) (hq : dall_[pi_ k]? = some (k, .inr (ci, fs))) (hm : pi_ k < nn)
    (kk : wn_ (ca_ C a b) G Q (pc + 3) lv (fv_ G M k j f :: st) M nn) : wn_ (ca_ C a b) G Q pc lv (.ref (G.1 k) :: st) M nn := by
  obtain ⟨p, l, e, R, s, m, args, below, meth, c, cs, sl⟩ := C
  obtain ⟨hx, hb, hml, hrt, hown, hts, ⟨hK, hox⟩, ⟨hbs, hg⟩, hlk, hfr, hlo, hcs, hsl⟩ := X
  intro H locs ls hl hP hS
  exact va_get hx hb hts hin hown hK hP.1 (pi_ k) (wm_at hq hm) hc j hj (hts _ hlink) (fun _ h9 => h9) (fl_at hf) hd (kk H locs ls hl hP hS)
theorem n_putI {ci N index j k : Nat} {fs : List Nat} {K : String} {T : u_T} {ty0 : Nat → FieldType} {ty : FieldType} {x : Int32} (X : cnX_ C G own cc nL ry d MC MS) (hd : decode cc pc = .ok (.putfield index, 3)) (hin : ∀ w ∈ u_ws K T N, w ∈ gw_) (hty : ∀ k, k < N → parseFieldDescriptor (T k).2.2.1 = some (ty0 k)) (hnm : ∀ a, a < N → ∀ b, b < N → a ≠ b → (T a).2.1 ≠ (T b).2.1) (hc : vwCl[ci]? = some (K, T, N)) (hj : j < N) (hlink : Cond.fieldLink own index (T j).1 (T j).2.1 (T j).2.2.1 ∈ gw_) (hfin : (T j).2.2.2 = false) (hdt : parseFieldDescriptor (T j).2.2.1 = some ty) (hf : fs[j]? = some 0) (hq : dall_[pi_ k]? = some (k, .inr (ci, fs))) (hm : pi_ k < nn)
    (hnar : narrow ty (.int x) = .int x) (hfit : fits ty (.int x) = true) (kk : wn_ (ca_ C a b) G Q (pc + 3) lv st (sI_ M k j x) nn) : wn_ (ca_ C a b) G Q pc lv (.int x :: .ref (G.1 k) :: st) M nn := by
  obtain ⟨p, l, e, R, s, m, args, below, meth, c, cs, sl⟩ := C
  obtain ⟨hx, hb, hml, hrt, hown, hts, ⟨hK, hox⟩, ⟨hbs, hg⟩, hlk, hfr, hlo, hcs, hsl⟩ := X
  intro H locs ls hl hP hS
  obtain ⟨hP, hs, hz⟩ := hP
  have hlen : j < (fl_ G M k 0 fs).length := (List.getElem?_eq_some_iff.mp (fl_at (G := G) (M := M) (k := k) hf)).1
  have hap := va_apart (own := own) hts hin ty0 hty hnm hK hc
  obtain ⟨r, h1, cell, q1, q2, q3, q4⟩ := hP (pi_ k) _ (wm_at hq hm)
  have hr : r = (K, T, N) := Option.some.inj (h1.symm.trans hc)
  subst hr
  obtain ⟨hS9, hfc, kC, hkC, hkind⟩ := hK.1 ci _ hc
  obtain ⟨cf, kf, fi, f, hi, hsl9⟩ := hS9 j hj
  have hlay := hts _ (hin _ (u_in_lay hj))
  unfold u_lay at hlay
  rw [if_neg (by rw [hfin]; decide)] at hlay
  have hst := (u_facts hfc hkC (u_lays hts hin hj) hi).1
  have h6 := u_store hfc hkC hkind hlay hi hdt hnar hfit
  refine W.putK hx hb (f := f) ⟨hown, hts _ hlink, ⟨_, _, _, hi⟩, hst⟩ (by rw [q2]; exact h6) q1 q3 (by rw [hsl9]; exact k2_hasslot (q4 j hj)) rfl rfl hd fun H' e1 e2 e3 => ?_
  rw [hsl9] at e1 ⊢
  refine kk H' _ ls hl ⟨?_, by rw [e2]; exact hs, zz_I hz hm⟩ (hS.put e2 e3 ((wm_D (M := M) (n := nn) hg).2 (pi_ k) _ (wm_at hq hm)))
  rw [← wm_set (M := M) hq hm (fun j9 d9 h9 => ce_sI j9 d9 h9)]
  have he : ce_ G (sI_ M k j x) k (.inr (ci, fs)) = .inr (ci, (fl_ G M k 0 fs).set j (.int x)) := by
    simp only [ce_]
    rw [← fl_set (M := M) hf (fun i g hi => fv_sI i g hi)]
    simp [fv_, sI_, va_rf]
  rw [he]
  exact hP.set (wm_D hg) (wm_at hq hm) ⟨_, hc, t_OB.to (V := updV (vp_V (fl_ G M k 0 fs)) j (.int x)) ⟨_, e1, q2, q3, t_set q4 hap hj _⟩ (fun j9 _ => vp_updV_set hlen _ j9)⟩ e3
theorem n_putR {ci N index j k : Nat} {fs : List Nat} {K : String} {T : u_T} {ty0 : Nat → FieldType} {ty : FieldType} {x : Nat} (X : cnX_ C G own cc nL ry d MC MS) (hd : decode cc pc = .ok (.putfield index, 3)) (hin : ∀ w ∈ u_ws K T N, w ∈ gw_) (hty : ∀ k, k < N → parseFieldDescriptor (T k).2.2.1 = some (ty0 k)) (hnm : ∀ a, a < N → ∀ b, b < N → a ≠ b → (T a).2.1 ≠ (T b).2.1) (hc : vwCl[ci]? = some (K, T, N)) (hj : j < N) (hlink : Cond.fieldLink own index (T j).1 (T j).2.1 (T j).2.2.1 ∈ gw_) (hfin : (T j).2.2.2 = false) (hdt : parseFieldDescriptor (T j).2.2.1 = some ty) (hf : fs[j]? = some 2) (hq : dall_[pi_ k]? = some (k, .inr (ci, fs))) (hm : pi_ k < nn)
    (hnar : narrow ty (.ref (G.1 x)) = .ref (G.1 x)) (hfit : fits ty (.ref (G.1 x)) = true) (kk : wn_ (ca_ C a b) G Q (pc + 3) lv st (sR_ M k j (some x)) nn) : wn_ (ca_ C a b) G Q pc lv (.ref (G.1 x) :: .ref (G.1 k) :: st) M nn := by
  obtain ⟨p, l, e, R, s, m, args, below, meth, c, cs, sl⟩ := C
  obtain ⟨hx, hb, hml, hrt, hown, hts, ⟨hK, hox⟩, ⟨hbs, hg⟩, hlk, hfr, hlo, hcs, hsl⟩ := X
  intro H locs ls hl hP hS
  obtain ⟨hP, hs, hz⟩ := hP
  have hlen : j < (fl_ G M k 0 fs).length := (List.getElem?_eq_some_iff.mp (fl_at (G := G) (M := M) (k := k) hf)).1
  have hap := va_apart (own := own) hts hin ty0 hty hnm hK hc
  obtain ⟨r, h1, cell, q1, q2, q3, q4⟩ := hP (pi_ k) _ (wm_at hq hm)
  have hr : r = (K, T, N) := Option.some.inj (h1.symm.trans hc)
  subst hr
  obtain ⟨hS9, hfc, kC, hkC, hkind⟩ := hK.1 ci _ hc
  obtain ⟨cf, kf, fi, f, hi, hsl9⟩ := hS9 j hj
  have hlay := hts _ (hin _ (u_in_lay hj))
  unfold u_lay at hlay
  rw [if_neg (by rw [hfin]; decide)] at hlay
  have hst := (u_facts hfc hkC (u_lays hts hin hj) hi).1
  have h6 := u_store hfc hkC hkind hlay hi hdt hnar hfit
  refine W.putK hx hb (f := f) ⟨hown, hts _ hlink, ⟨_, _, _, hi⟩, hst⟩ (by rw [q2]; exact h6) q1 q3 (by rw [hsl9]; exact k2_hasslot (q4 j hj)) rfl rfl hd fun H' e1 e2 e3 => ?_
  rw [hsl9] at e1 ⊢
  refine kk H' _ ls hl ⟨?_, by rw [e2]; exact hs, zz_R hz hm⟩ (hS.put e2 e3 ((wm_D (M := M) (n := nn) hg).2 (pi_ k) _ (wm_at hq hm)))
  rw [← wm_set (M := M) hq hm (fun j9 d9 h9 => ce_sR j9 d9 h9)]
  have he : ce_ G (sR_ M k j (some x)) k (.inr (ci, fs)) = .inr (ci, (fl_ G M k 0 fs).set j (.ref (G.1 x))) := by
    simp only [ce_]
    rw [← fl_set (M := M) hf (fun i g hi => fv_sR i g hi)]
    simp [fv_, sR_, va_rf]
  rw [he]
  exact hP.set (wm_D hg) (wm_at hq hm) ⟨_, hc, t_OB.to (V := updV (vp_V (fl_ G M k 0 fs)) j (.ref (G.1 x))) ⟨_, e1, q2, q3, t_set q4 hap hj _⟩ (fun j9 _ => vp_updV_set hlen _ j9)⟩ e3
theorem n_putIF {ci N index j k : Nat} {fs : List Nat} {K : String} {T : u_T} {ty0 : Nat → FieldType} {ty : FieldType} {x : Int32} (X : cnX_ C G own cc nL ry d MC MS) (hd : decode cc pc = .ok (.putfield index, 3)) (hin : ∀ w ∈ u_ws K T N, w ∈ gw_) (hty : ∀ k, k < N → parseFieldDescriptor (T k).2.2.1 = some (ty0 k)) (hnm : ∀ a, a < N → ∀ b, b < N → a ≠ b → (T a).2.1 ≠ (T b).2.1) (hc : vwCl[ci]? = some (K, T, N)) (hj : j < N) (hlink : Cond.fieldLink own index (T j).1 (T j).2.1 (T j).2.2.1 ∈ gw_) (hC : ic_ C) (hfin : (T j).2.2.2 = true) (hdecl : (T j).1 = own) (hdt : parseFieldDescriptor (T j).2.2.1 = some ty) (hf : fs[j]? = some 0) (hq : dall_[pi_ k]? = some (k, .inr (ci, fs))) (hm : pi_ k < nn)
    (hnar : narrow ty (.int x) = .int x) (hfit : fits ty (.int x) = true) (kk : wn_ (ca_ C a b) G Q (pc + 3) lv st (sI_ M k j x) nn) : wn_ (ca_ C a b) G Q pc lv (.int x :: .ref (G.1 k) :: st) M nn := by
  obtain ⟨p, l, e, R, s, m, args, below, meth, c, cs, sl⟩ := C
  obtain ⟨hx, hb, hml, hrt, hown, hts, ⟨hK, hox⟩, ⟨hbs, hg⟩, hlk, hfr, hlo, hcs, hsl⟩ := X
  intro H locs ls hl hP hS
  obtain ⟨hP, hs, hz⟩ := hP
  have hlen : j < (fl_ G M k 0 fs).length := (List.getElem?_eq_some_iff.mp (fl_at (G := G) (M := M) (k := k) hf)).1
  have hap := va_apart (own := own) hts hin ty0 hty hnm hK hc
  obtain ⟨r, h1, cell, q1, q2, q3, q4⟩ := hP (pi_ k) _ (wm_at hq hm)
  have hr : r = (K, T, N) := Option.some.inj (h1.symm.trans hc)
  subst hr
  obtain ⟨hS9, hfc, kC, hkC, hkind⟩ := hK.1 ci _ hc
  obtain ⟨cf, kf, fi, f, hi, hsl9⟩ := hS9 j hj
  have hlay := hts _ (hin _ (u_in_lay hj))
  unfold u_lay at hlay
  rw [if_pos hfin] at hlay
  have hst := (u_facts hfc hkC (u_lays hts hin hj) hi).1
  have hcf : m.cls = cf := by
    obtain ⟨_, _, c', _, _, _, -, -, hf', -, -, -, hown2, -⟩ := Cond.laysFinal_spec hlay
    have e1 : c' = cf := by have := hi.symm.trans hf'; simp at this; exact this.1.symm
    rw [hdecl] at hown2
    rw [← e1]; exact Option.some.inj (hown.symm.trans hown2)
  have h6 := u_fits hfc hkC hkind (Or.inr hlay) hi hdt hnar hfit
  refine W.putFinK hx hb hown (hts _ hlink) hi hst hcf hC (by rw [q2]; exact h6) q1 q3 (by rw [hsl9]; exact k2_hasslot (q4 j hj)) rfl rfl hd fun H' e1 e2 e3 => ?_
  rw [hsl9] at e1 ⊢
  refine kk H' _ ls hl ⟨?_, by rw [e2]; exact hs, zz_I hz hm⟩ (hS.put e2 e3 ((wm_D (M := M) (n := nn) hg).2 (pi_ k) _ (wm_at hq hm)))
  rw [← wm_set (M := M) hq hm (fun j9 d9 h9 => ce_sI j9 d9 h9)]
  have he : ce_ G (sI_ M k j x) k (.inr (ci, fs)) = .inr (ci, (fl_ G M k 0 fs).set j (.int x)) := by
    simp only [ce_]
    rw [← fl_set (M := M) hf (fun i g hi => fv_sI i g hi)]
    simp [fv_, sI_, va_rf]
  rw [he]
  exact hP.set (wm_D hg) (wm_at hq hm) ⟨_, hc, t_OB.to (V := updV (vp_V (fl_ G M k 0 fs)) j (.int x)) ⟨_, e1, q2, q3, t_set q4 hap hj _⟩ (fun j9 _ => vp_updV_set hlen _ j9)⟩ e3
theorem n_putRF {ci N index j k : Nat} {fs : List Nat} {K : String} {T : u_T} {ty0 : Nat → FieldType} {ty : FieldType} {x : Nat} (X : cnX_ C G own cc nL ry d MC MS) (hd : decode cc pc = .ok (.putfield index, 3)) (hin : ∀ w ∈ u_ws K T N, w ∈ gw_) (hty : ∀ k, k < N → parseFieldDescriptor (T k).2.2.1 = some (ty0 k)) (hnm : ∀ a, a < N → ∀ b, b < N → a ≠ b → (T a).2.1 ≠ (T b).2.1) (hc : vwCl[ci]? = some (K, T, N)) (hj : j < N) (hlink : Cond.fieldLink own index (T j).1 (T j).2.1 (T j).2.2.1 ∈ gw_) (hC : ic_ C) (hfin : (T j).2.2.2 = true) (hdecl : (T j).1 = own) (hdt : parseFieldDescriptor (T j).2.2.1 = some ty) (hf : fs[j]? = some 2) (hq : dall_[pi_ k]? = some (k, .inr (ci, fs))) (hm : pi_ k < nn)
    (hnar : narrow ty (.ref (G.1 x)) = .ref (G.1 x)) (hfit : fits ty (.ref (G.1 x)) = true) (kk : wn_ (ca_ C a b) G Q (pc + 3) lv st (sR_ M k j (some x)) nn) : wn_ (ca_ C a b) G Q pc lv (.ref (G.1 x) :: .ref (G.1 k) :: st) M nn := by
  obtain ⟨p, l, e, R, s, m, args, below, meth, c, cs, sl⟩ := C
  obtain ⟨hx, hb, hml, hrt, hown, hts, ⟨hK, hox⟩, ⟨hbs, hg⟩, hlk, hfr, hlo, hcs, hsl⟩ := X
  intro H locs ls hl hP hS
  obtain ⟨hP, hs, hz⟩ := hP
  have hlen : j < (fl_ G M k 0 fs).length := (List.getElem?_eq_some_iff.mp (fl_at (G := G) (M := M) (k := k) hf)).1
  have hap := va_apart (own := own) hts hin ty0 hty hnm hK hc
  obtain ⟨r, h1, cell, q1, q2, q3, q4⟩ := hP (pi_ k) _ (wm_at hq hm)
  have hr : r = (K, T, N) := Option.some.inj (h1.symm.trans hc)
  subst hr
  obtain ⟨hS9, hfc, kC, hkC, hkind⟩ := hK.1 ci _ hc
  obtain ⟨cf, kf, fi, f, hi, hsl9⟩ := hS9 j hj
  have hlay := hts _ (hin _ (u_in_lay hj))
  unfold u_lay at hlay
  rw [if_pos hfin] at hlay
  have hst := (u_facts hfc hkC (u_lays hts hin hj) hi).1
  have hcf : m.cls = cf := by
    obtain ⟨_, _, c', _, _, _, -, -, hf', -, -, -, hown2, -⟩ := Cond.laysFinal_spec hlay
    have e1 : c' = cf := by have := hi.symm.trans hf'; simp at this; exact this.1.symm
    rw [hdecl] at hown2
    rw [← e1]; exact Option.some.inj (hown.symm.trans hown2)
  have h6 := u_fits hfc hkC hkind (Or.inr hlay) hi hdt hnar hfit
  refine W.putFinK hx hb hown (hts _ hlink) hi hst hcf hC (by rw [q2]; exact h6) q1 q3 (by rw [hsl9]; exact k2_hasslot (q4 j hj)) rfl rfl hd fun H' e1 e2 e3 => ?_
  rw [hsl9] at e1 ⊢
  refine kk H' _ ls hl ⟨?_, by rw [e2]; exact hs, zz_R hz hm⟩ (hS.put e2 e3 ((wm_D (M := M) (n := nn) hg).2 (pi_ k) _ (wm_at hq hm)))
  rw [← wm_set (M := M) hq hm (fun j9 d9 h9 => ce_sR j9 d9 h9)]
  have he : ce_ G (sR_ M k j (some x)) k (.inr (ci, fs)) = .inr (ci, (fl_ G M k 0 fs).set j (.ref (G.1 x))) := by
    simp only [ce_]
    rw [← fl_set (M := M) hf (fun i g hi => fv_sR i g hi)]
    simp [fv_, sR_, va_rf]
  rw [he]
  exact hP.set (wm_D hg) (wm_at hq hm) ⟨_, hc, t_OB.to (V := updV (vp_V (fl_ G M k 0 fs)) j (.ref (G.1 x))) ⟨_, e1, q2, q3, t_set q4 hap hj _⟩ (fun j9 _ => vp_updV_set hlen _ j9)⟩ e3
theorem n_getR {ci N index j k t : Nat} {fs : List Nat} {K : String} {T : u_T} (X : cnX_ C G own cc nL ry d MC MS) (hd : decode cc pc = .ok (.getfield index, 3)) (hin : ∀ w ∈ u_ws K T N, w ∈ gw_) (hc : vwCl[ci]? = some (K, T, N)) (hj : j < N) (hlink : Cond.fieldLink own index (T j).1 (T j).2.1 (T j).2.2.1 ∈ gw_) (hf : fs[j]? = some 2) (hq : dall_[pi_ k]? = some (k, .inr (ci, fs))) (hm : pi_ k < nn) (hv : M.2.2 k j = some t)
    (kk : wn_ (ca_ C a b) G Q (pc + 3) lv (.ref (G.1 t) :: st) M nn) : wn_ (ca_ C a b) G Q pc lv (.ref (G.1 k) :: st) M nn := by
  refine n_get X hd hin hc hj hlink hf hq hm ?_
  rw [fv_, hv]
  exact kk
theorem n_new {N ci index k : Nat} {fs : List Nat} {K : String} {T : u_T} {ty : Nat → FieldType} (X : cnX_ C G own cc nL ry d MC MS) (hd : decode cc pc = .ok (.new index, 3)) (hq : dall_[nn]? = some (k, .inr (ci, fs))) (hin : ∀ w ∈ u_ws K T N, w ∈ gw_) (hty : ∀ k, k < N → parseFieldDescriptor (T k).2.2.1 = some (ty k)) (hcl : Cond.classLink own index K ∈ gw_) (hins : Cond.instantiable K N ∈ gw_) (hini : Cond.initialized K ∈ gw_) (hc : vwCl[ci]? = some (K, T, N)) (hfs : ∀ j, j < N → defaultValue (ty j) = vp_V (fs.map df_) j) (hf3 : ∀ f ∈ fs, f < 3) (hA : a + 1 ≤ MC) (hB : b + N ≤ MS)
    (kk : wn_ (ca_ C (a + 1) (b + N)) G Q (pc + 3) lv (.ref (G.1 k) :: st) M (nn + 1)) : wn_ (ca_ C a b) G Q pc lv st M nn := by
  obtain ⟨p, l, e, R, s, m, args, below, meth, c, cs, sl⟩ := C
  obtain ⟨hx, hb, hml, hrt, hown, hts, ⟨hK, hox⟩, ⟨hbs, hg⟩, hlk, hfr, hlo, hcs, hsl⟩ := X
  intro H locs ls hl hP hS
  obtain ⟨hP, hs, hz⟩ := hP
  have hkn := da_pi hq
  have hga : G.1 k = G.2.2.2 + nn := by rw [hg k hkn.2, hkn.1]
  have hzk : zr_ M k := hz k (by rw [hkn.1]; exact Nat.le_refl _)
  have hKn := hK.1 ci _ hc
  rw [← hga] at hs
  refine W.newcK hx hb hown (hts _ hcl) (hts _ hins) (hts _ hini) rfl hd (Nat.le_trans hA hcs) (Nat.le_trans hB hsl) hKn.2.1 hs fun H1 kC hkC e1 z1 o1 => ?_
  have hkp : ∀ (k9 : Nat) (x : Nat × va_E), (wm_ G M nn)[k9]? = some x → H1[x.1]? = H[x.1]? := fun k9 x hx9 => o1 x.1 (by rw [← hs]; exact (hP k9 x hx9).lt)
  refine kk H1 locs ls hl ⟨?_, by rw [z1, hga]; rfl, zz_mono hz⟩ ⟨Nat.le_trans hS.1 (by omega), fun x h1 h2 => (o1 x (by rw [← hs]; exact Nat.lt_of_lt_of_le h1 hS.1)).trans (hS.2.1 x h1 h2), hS.2.2⟩
  rw [wm_app hq]
  refine (hP.kept hkp).app (fun k9 x hx9 => ?_)
  have h0 : k9 < 1 := (List.getElem?_eq_some_iff.mp hx9).1
  rw [show k9 = 0 by omega] at hx9
  cases hx9
  show va_at _ _ (G.1 k, Sum.inr (ci, fl_ G M k 0 fs)) H1
  rw [fl_zero hzk fs 0 hf3]
  exact ⟨_, hc, (u_born ty hts hin hKn hkC e1 hty).to hfs⟩
theorem n_newI {atype : ArrayType} {ty : FieldType} {t n k : Nat} {x : Int32} (X : cnX_ C G own cc nL ry d MC MS) (hd : decode cc pc = .ok (.newarray atype, 2)) (hq : dall_[nn]? = some (k, .inl (t, n, 0))) (hty : newarray.typeOf atype = ty) (hac : Cond.arrayClass ty ∈ gw_) (ht : (tt_ G)[t]? = some (G.2.1 t, ty)) (hra : ∀ (cA : ClassId) (U : State), va_RA U cA ty → U.vm.findClass ("[" ++ ty.toString) = some cA) (hdv : defaultValue ty = .int 0) (hn0 : ¬ x < 0) (hN : x.toNatClampNeg = n) (hby : n * componentBytes ty ≤ 536870912) (hA : a + 1 ≤ MC) (hB : b + n ≤ MS)
    (kk : wn_ (ca_ C (a + 1) (b + n)) G Q (pc + 2) lv (.ref (G.1 k) :: st) M (nn + 1)) : wn_ (ca_ C a b) G Q pc lv (.int x :: st) M nn := by
  obtain ⟨p, l, e, R, s, m, args, below, meth, c, cs, sl⟩ := C
  obtain ⟨hx, hb, hml, hrt, hown, hts, ⟨hK, hox⟩, ⟨hbs, hg⟩, hlk, hfr, hlo, hcs, hsl⟩ := X
  intro H locs ls hl hP hS
  obtain ⟨hP, hs, hz⟩ := hP
  have hkn := da_pi hq
  have hga : G.1 k = G.2.2.2 + nn := by rw [hg k hkn.2, hkn.1]
  have hzk : zr_ M k := hz k (by rw [hkn.1]; exact Nat.le_refl _)
  rw [← hga] at hs
  subst hty
  refine va_newaK hx hb (hts _ hac) rfl hd rfl hn0 hN hby (Nat.le_trans hA hcs) (Nat.le_trans hB hsl) hs fun H1 cA e1 z1 o1 hAr hNm => ?_
  have hcA : G.2.1 t = cA := Option.some.inj ((hra _ _ (hK.2 t _ ht).2).symm.trans hNm)
  have hkp : ∀ (k9 : Nat) (x : Nat × va_E), (wm_ G M nn)[k9]? = some x → H1[x.1]? = H[x.1]? := fun k9 x hx9 => o1 x.1 (by rw [← hs]; exact (hP k9 x hx9).lt)
  refine kk H1 locs ls hl ⟨?_, by rw [z1, hga]; rfl, zz_mono hz⟩ ⟨Nat.le_trans hS.1 (by omega), fun x h1 h2 => (o1 x (by rw [← hs]; exact Nat.lt_of_lt_of_le h1 hS.1)).trans (hS.2.1 x h1 h2), hS.2.2⟩
  rw [wm_app hq]
  refine (hP.kept hkp).app (fun k9 x hx9 => ?_)
  have h0 : k9 < 1 := (List.getElem?_eq_some_iff.mp hx9).1
  rw [show k9 = 0 by omega] at hx9
  cases hx9
  show H1[G.1 k]? = some (vp_cell (G.2.1 t) (n, .inl (M.1 k)))
  rw [e1, hcA, hdv, vp_cell_i]
  congr 2
  funext j
  rw [hzk.1]
theorem n_newL {atype : ArrayType} {ty : FieldType} {t n k : Nat} {x : Int32} (X : cnX_ C G own cc nL ry d MC MS) (hd : decode cc pc = .ok (.newarray atype, 2)) (hq : dall_[nn]? = some (k, .inl (t, n, 1))) (hty : newarray.typeOf atype = ty) (hac : Cond.arrayClass ty ∈ gw_) (ht : (tt_ G)[t]? = some (G.2.1 t, ty)) (hra : ∀ (cA : ClassId) (U : State), va_RA U cA ty → U.vm.findClass ("[" ++ ty.toString) = some cA) (hdv : defaultValue ty = .long 0) (hn0 : ¬ x < 0) (hN : x.toNatClampNeg = n) (hby : n * componentBytes ty ≤ 536870912) (hA : a + 1 ≤ MC) (hB : b + n ≤ MS)
    (kk : wn_ (ca_ C (a + 1) (b + n)) G Q (pc + 2) lv (.ref (G.1 k) :: st) M (nn + 1)) : wn_ (ca_ C a b) G Q pc lv (.int x :: st) M nn := by
  obtain ⟨p, l, e, R, s, m, args, below, meth, c, cs, sl⟩ := C
  obtain ⟨hx, hb, hml, hrt, hown, hts, ⟨hK, hox⟩, ⟨hbs, hg⟩, hlk, hfr, hlo, hcs, hsl⟩ := X
  intro H locs ls hl hP hS
  obtain ⟨hP, hs, hz⟩ := hP
  have hkn := da_pi hq
  have hga : G.1 k = G.2.2.2 + nn := by rw [hg k hkn.2, hkn.1]
  have hzk : zr_ M k := hz k (by rw [hkn.1]; exact Nat.le_refl _)
  rw [← hga] at hs
  subst hty
  refine va_newaK hx hb (hts _ hac) rfl hd rfl hn0 hN hby (Nat.le_trans hA hcs) (Nat.le_trans hB hsl) hs fun H1 cA e1 z1 o1 hAr hNm => ?_
  have hcA : G.2.1 t = cA := Option.some.inj ((hra _ _ (hK.2 t _ ht).2).symm.trans hNm)
  have hkp : ∀ (k9 : Nat) (x : Nat × va_E), (wm_ G M nn)[k9]? = some x → H1[x.1]? = H[x.1]? := fun k9 x hx9 => o1 x.1 (by rw [← hs]; exact (hP k9 x hx9).lt)
  refine kk H1 locs ls hl ⟨?_, by rw [z1, hga]; rfl, zz_mono hz⟩ ⟨Nat.le_trans hS.1 (by omega), fun x h1 h2 => (o1 x (by rw [← hs]; exact Nat.lt_of_lt_of_le h1 hS.1)).trans (hS.2.1 x h1 h2), hS.2.2⟩
  rw [wm_app hq]
  refine (hP.kept hkp).app (fun k9 x hx9 => ?_)
  have h0 : k9 < 1 := (List.getElem?_eq_some_iff.mp hx9).1
  rw [show k9 = 0 by omega] at hx9
  cases hx9
  show H1[G.1 k]? = some (vp_cell (G.2.1 t) (n, .inr (.inl (M.2.1 k))))
  rw [e1, hcA, hdv, vp_cell_l]
  congr 2
  funext j
  rw [hzk.2.1]
theorem n_newR {K : String} {t n index k : Nat} {x : Int32} (X : cnX_ C G own cc nL ry d MC MS) (hd : decode cc pc = .ok (.anewarray index, 3)) (hq : dall_[nn]? = some (k, .inl (t, n, 2))) (hcl : Cond.classLink own index K ∈ gw_) (hsel : ∀ U : State, aoX_ U → va_AO K U) (ht : (tt_ G)[t]? = some (G.2.1 t, .object K)) (hn0 : ¬ x < 0) (hN : x.toNatClampNeg = n) (hby : n * 4 ≤ 536870912) (hA : a + 1 ≤ MC) (hB : b + n ≤ MS)
    (kk : wn_ (ca_ C (a + 1) (b + n)) G Q (pc + 3) lv (.ref (G.1 k) :: st) M (nn + 1)) : wn_ (ca_ C a b) G Q pc lv (.int x :: st) M nn := by
  obtain ⟨p, l, e, R, s, m, args, below, meth, c, cs, sl⟩ := C
  obtain ⟨hx, hb, hml, hrt, hown, hts, ⟨hK, hox⟩, ⟨hbs, hg⟩, hlk, hfr, hlo, hcs, hsl⟩ := X
  intro H locs ls hl hP hS
  obtain ⟨hP, hs, hz⟩ := hP
  have hkn := da_pi hq
  have hga : G.1 k = G.2.2.2 + nn := by rw [hg k hkn.2, hkn.1]
  have hzk : zr_ M k := hz k (by rw [hkn.1]; exact Nat.le_refl _)
  subst hN
  refine W.anew hx hb hown (hts _ hcl) (va_AO.use (hsel s hox.1)) rfl hd rfl hn0 hby (Nat.le_trans hA hcs) (Nat.le_trans hB hsl) fun cA kA comp f1 f2 f3 f4 => ?_
  generalize hH1 : H.push ({ cls := cA, slots := Array.replicate x.toNatClampNeg .null, vm := .none } : Cell) = H1
  have z1 : H1.size = H.size + 1 := by rw [← hH1, Array.size_push]
  have e1 : H1[H.size]? = some (arrV cA x.toNatClampNeg (fun _ => .null)) := by rw [← hH1, Array.getElem?_push_size, ← arrV_new]
  have o1 : ∀ q : Nat, q < H.size → H1[q]? = H[q]? := fun q hq => by rw [← hH1, Array.getElem?_push, if_neg (Nat.ne_of_lt hq)]
  have hcA : G.2.1 t = cA := by
    obtain ⟨kA9, comp9, -, -, -, g4⟩ := (hK.2 t _ ht).2
    exact Option.some.inj (g4.symm.trans f1)
  have hkp : ∀ (k9 : Nat) (x : Nat × va_E), (wm_ G M nn)[k9]? = some x → H1[x.1]? = H[x.1]? := fun k9 x hx9 => o1 x.1 (hP k9 x hx9).lt
  have hsk : H.size = G.1 k := by rw [hga]; exact hs
  rw [hsk]
  refine kk H1 locs ls hl ⟨?_, by rw [z1, hs]; rfl, zz_mono hz⟩ ⟨Nat.le_trans hS.1 (by omega), fun x h1 h2 => (o1 x (Nat.lt_of_lt_of_le h1 hS.1)).trans (hS.2.1 x h1 h2), hS.2.2⟩
  rw [wm_app hq]
  refine (hP.kept hkp).app (fun k9 x9 hx9 => ?_)
  have h0 : k9 < 1 := (List.getElem?_eq_some_iff.mp hx9).1
  rw [show k9 = 0 by omega] at hx9
  cases hx9
  show H1[G.1 k]? = some (vp_cell (G.2.1 t) (x.toNatClampNeg, .inr (.inr (.inr (.inr (fun i => (M.2.2 k i).map G.1))))))
  rw [← hsk, e1, hcA, vp_cell_q]
  congr 2
  funext j
  rw [hzk.2.2]
  rfl
theorem n_aast {K : String} {T : u_T} {t n k kv ci N : Nat} {fs : List Nat} {i : Int32} (X : cnX_ C G own cc nL ry d MC MS) (hd : decode cc pc = .ok (.aastore, 1)) (ht : (tt_ G)[t]? = some (G.2.1 t, .object K)) (hq : dall_[pi_ k]? = some (k, .inl (t, n, 2))) (hm : pi_ k < nn) (hv : dall_[pi_ kv]? = some (kv, .inr (ci, fs))) (hvm : pi_ kv < nn) (hc : vwCl[ci]? = some (K, T, N)) (hin : vp_in i n)
    (kk : wn_ (ca_ C a b) G Q (pc + 1) lv st (sR_ M k i.toNatClampNeg (some kv)) nn) : wn_ (ca_ C a b) G Q pc lv (.ref (G.1 kv) :: .int i :: .ref (G.1 k) :: st) M nn := by
  obtain ⟨p, l, e, R, s, m, args, below, meth, c, cs, sl⟩ := C
  obtain ⟨hx, hb, hml, hrt, hown, hts, ⟨hK, hox⟩, ⟨hbs, hg⟩, hlk, hfr, hlo, hcs, hsl⟩ := X
  intro H locs ls hl hP hS
  obtain ⟨hP, hs, hz⟩ := hP
  have hlt : i.toNatClampNeg < n := Nat.not_le.mp fun q => hin (Or.inr q)
  have h0 : ¬ i < 0 := fun q => hin (Or.inl q)
  obtain ⟨r', hr', cellV, g1, g2, g3, -⟩ := hP (pi_ kv) _ (wm_at hv hvm)
  have hcls := (hK.1 ci _ hc).2
  obtain ⟨kA, comp, k1, k2, k3, -⟩ := (hK.2 t _ ht).2
  have hcomp : comp = G.2.2.1.1 ci := Option.some.inj (k3.symm.trans hcls.1)
  subst hcomp
  obtain ⟨kC, hkC, -⟩ := hcls.2
  refine W.aast hx hb (hP (pi_ k) _ (wm_at hq hm)) (fun q h => by cases h) (fun h => by cases h) k1 k2 rfl hkC ⟨h0, by show _ < (arrV _ _ _).slots.size; rw [arrV_size]; exact hlt⟩ g1 (fun q h => by rw [g3] at h; cases h) (by rw [g2]; exact hkC) (by rw [g2]; exact va_assign hcls) rfl rfl hd fun H1 e9 z oq => ?_
  refine kk H1 _ ls hl ⟨?_, by rw [z]; exact hs, zz_R hz hm⟩ (hS.put z oq ((wm_D (M := M) (n := nn) hg).2 (pi_ k) _ (wm_at hq hm)))
  rw [← wm_set (M := M) hq hm (fun j9 d9 h9 => ce_sR j9 d9 h9)]
  refine hP.set (wm_D hg) (wm_at hq hm) ?_ oq
  show H1[G.1 k]? = some (vp_cell (G.2.1 t) (n, .inr (.inr (.inr (.inr (fun j => ((sR_ M k i.toNatClampNeg (some kv)).2.2 k j).map G.1))))))
  rw [e9, vp_cell_q]
  show some (Cell.setSlot (arrV (G.2.1 t) n (fun j => va_rf ((M.2.2 k j).map G.1))) i.toNatClampNeg (.ref (G.1 kv))) = _
  rw [arrV_store, vp_cell_q]
  congr 2
  funext j
  by_cases hj : j = i.toNatClampNeg
  · subst hj
    simp [updV, sR_, va_rf]
  · simp [updV, sR_, hj]
def li_ (own : String) (idx : Nat) (y : MethodName) (cy : ByteArray) (ny : Nat) (n : Nat) : Prop := Cond.methodLink own idx y ∈ gw_ ∧ Cond.instanceMethod y ∈ gw_ ∧ Cond.initialized y.cls ∈ gw_ ∧ Cond.code y cy ny none ∈ gw_ ∧ y.name = "<init>" ∧ (y.cls ≠ "java/lang/invoke/MethodHandle" ∧ y.cls ≠ "java/lang/invoke/VarHandle" ∧ (parseMethodDescriptor y.desc).map (fun d => d.parameters.length) = some n) ∧ ny ≤ 45
theorem n_run {p : Program} {l : Launch} {e : Env} {R : Room} {s : State} {m : MethodId} {args : Array Value} {below : List Frame} {meth : Method} {c : Code} {H : Heap} {locs : List Loc} {cells slots mc ms : Nat} {ls : Array Slot} {st0 rest : List Value} {a9 : Array Value} {N : mm_} {E : Nat} (hr : va_Run p l e R s m args below meth c H locs cells slots mc ms (F0 m pc ls st0) rest (qn_ G N E a9) (aw_ G)) (hS : va_S (aw_ G) s.heap H locs)
    (kk : ∀ (H1 : Heap) (locs1 : List Loc), hp_ G N E H1 → va_S (aw_ G) s.heap H1 locs1 → W p l e R s m args below meth c H1 locs1 (cells + mc) (slots + ms) Q (F0 m (pc + 3) ls rest)) : W p l e R s m args below meth c H locs cells slots Q (F0 m pc ls st0) := by
  intro T hT X
  obtain ⟨v, st₀, t, T', L, h0, X', hL, e1, e2, ⟨⟨hv, hp⟩, hz, hk⟩, st⟩ := hr T hT X
  cases hv
  rw [h0] at hz hk
  obtain ⟨t2, a1, b1⟩ := kk T'.heap (locs ++ L) (by rw [e1]; exact hp)
    ⟨Nat.le_trans hS.1 (by rw [e1]; exact hz), fun q h1 h2 => by rw [e1, hk q (Nat.lt_of_lt_of_le h1 hS.1) h2]; exact hS.2.1 q h1 h2, fun q hq => by
      rcases List.mem_append.mp hq with h | h
      · exact hS.2.2 q h
      · exact hL q h⟩ T' rfl X'
  exact ⟨t2, st t2 a1, b1⟩
theorem n_ctor (As : List Value) {y : MethodName} {cy : ByteArray} {ny idx mc ms x : Nat} {N : mm_} {E : Nat} (X : cnX_ C G own cc nL ry (d + 1) MC MS) (hd : decode cc pc = .ok (.invokespecial idx, 3)) (hk : li_ own idx y cy ny As.length) (hM : ctX_ G y cy ny d mc ms (.ref (G.1 x) :: As) M nn N E) (hr : (st.map fun v => v.category).sum ≤ 8) (hA : a + mc ≤ MC) (hB : b + ms ≤ MS)
    (k : wn_ (ca_ C (a + mc) (b + ms)) G Q (pc + 3) lv st N E) : wn_ (ca_ C a b) G Q pc lv (As.reverse ++ .ref (G.1 x) :: st) M nn := by
  obtain ⟨p, l, e, R, s, m, args, below, meth, c, cs, sl⟩ := C
  obtain ⟨hx, hb, hml, hrt, hown, hts, ⟨hK, hox⟩, ⟨hbs, hg⟩, hlk, hfr, hlo, hcs, hsl⟩ := X
  obtain ⟨k1, k2, k4, k5, ky, k6, k7⟩ := hk
  intro H locs ls hl hP hS
  have hgood : GoodIn gw_ (.code y cy ny none :: gw_) := fun w hw => by
    rcases List.mem_cons.mp hw with rfl | h
    · exact gw_gg _ k5
    · exact gw_gg _ h
  refine n_run (va_runI (As := As) (rest := st) ⟨hx, hb, hml, hown, hts⟩ (hM l) (cwI As.length hts hgood rfl rfl rfl (hts _ k4) (hts _ k1) (hts _ k2) ky k6 ⟨hfr, by show 8 + (ny + 11) + 64 * d ≤ R.locals; omega⟩) ⟨pn_blind, fun U hU hW => ⟨rfl, by rw [hU]; exact Nat.le_trans hbs hS.1, by rw [hU]; exact hP, kw_call ⟨hK, hox⟩ hS hU hW⟩⟩ rfl rfl (hl.1.trans hml) rfl (lv_room hr) hd ⟨Nat.le_trans hA hcs, Nat.le_trans hB hsl⟩) hS (fun H1 locs1 hP1 hS1 => k H1 locs1 ls hl hP1 hS1)
theorem n_obj {idx x : Nat} (X : cnX_ C G own cc nL ry (d + 1) MC MS) (hd : decode cc pc = .ok (.invokespecial idx, 3)) (h1 : Cond.methodLink own idx Lib.objectInit ∈ gw_) (h2 : Cond.instanceMethod Lib.objectInit ∈ gw_) (h3 : Cond.code Lib.objectInit ⟨#[0xb1]⟩ 1 none ∈ gw_) (hr : (st.map fun v => v.category).sum ≤ 8)
    (k : wn_ (ca_ C a b) G Q (pc + 3) lv st M nn) : wn_ (ca_ C a b) G Q pc lv (.ref x :: st) M nn := by
  obtain ⟨p, l, e, R, s, m, args, below, meth, c, cs, sl⟩ := C
  obtain ⟨hx, hb, hml, hrt, hown, hts, ⟨hK, hox⟩, ⟨hbs, hg⟩, hlk, hfr, hlo, hcs, hsl⟩ := X
  intro H locs ls hl hP hS
  have hr2 := lv_room (m := m) (pc := pc) (ls := ls) (rest := (.ref x :: st : List Value)) hr
  exact W.objInit hx hb hown (hts _ h1) (hts _ h2) (hts _ h3) rfl hl.1 rfl hd (by omega) (by omega) (k H locs ls hl hP hS)
theorem n_vret {N : mm_} {E mc ms : Nat} (X : cnX_ C G own cc nL none d MC MS) (hd : decode cc pc = .ok (.return_, 1)) (ha : a = mc) (hb9 : b = ms) (hM : M = N) (hD : nn = E) : wn_ (ca_ C a b) G (qc_ C G N E mc ms) pc lv [] M nn := by
  subst ha; subst hb9; subst hM; subst hD
  obtain ⟨p, l, e, R, s, m, args, below, meth, c, cs, sl⟩ := C
  obtain ⟨hx, hb, hml, hrt, hown, hts, ⟨hK, hox⟩, ⟨hbs, hg⟩, hlk, hfr, hlo, hcs, hsl⟩ := X
  intro H locs ls hl hP hS
  exact W.vret hx hb hrt (fun t ht hW => ⟨⟨rfl, by rw [ht]; exact hP⟩, hS.F ht⟩) hS.2.2 hd hlk
end MAKE
