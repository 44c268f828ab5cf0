/-! contracts of methods that may throw (the memory is then as it was at their start), throws, catches -/
def xcM_ (G : gg_) (xe : String → Prop) (M : mm_) : String → State → State → Prop := fun E st t => xe E ∧ va_P G.2.2.1 vwCl (wl_ G M) t.heap ∧ va_F (aw_ G) st t
def cmx_ (G : gg_) (y : MethodName) (cy : ByteArray) (ny : Nat) (ry : Option FieldType) (d : Nat) (As : List Value) (M : mm_) (post : Option Value → mm_ → Prop) (xe : String → Prop) : Prop := ∀ l : Launch, l.stackTraces = false → vx_Met l y (.code y cy ny ry :: gw_) (rnX_ d 1 6) (pc_ G As M) (qg_ G post) (xcM_ G xe M) 1 6 (aw_ G)
def qxX_ : mc_ → gg_ → (Option Value → mm_ → Prop) → (String → Prop) → mm_ → State → Prop
  | (_, _, _, _, s, _, args, below, _, _, _, _), G, post, xe, M => vx_MQ below (qg_ G post) (xcM_ G xe M) args s 1 6 (aw_ G)
def txX_ : mc_ → Prop
  | (_, l, _, R, _, _, _, _, _, c, cs, sl) => l.stackTraces = false ∧ (∀ x ∈ c.exceptionTable.toList, False) ∧ cs = 0 ∧ sl = 0 ∧ R.cells = 1 ∧ R.slots = 6
theorem cmx_of {G : gg_} {y : MethodName} {cy : ByteArray} {ny d : Nat} {ry : Option FieldType} {As : List Value} {M : mm_} {post : Option Value → mm_ → Prop} {xe : String → Prop} (hG : gd_ G) (hy : plainName y.cls = true) (hn : (lg_sl As).length ≤ ny)
    (h : ∀ C : mc_, cx_ C G y.cls cy ny ry d → txX_ C → wq_ C G (qxX_ C G post xe M) 0 (en_ ny As) [] M) : cmx_ G y cy ny ry d As M post xe := by
  intro l hl
  refine vx_ofW (cc := cy) (maxL := ny) (ret := ry) hy rfl ?_
  intro p e s m args below meth c s₁ B hml ht hv
  obtain ⟨rfl, hbs, hP, hK⟩ := hv
  have hts0 := atoms_spec (ws := .code y cy ny ry :: gw_) B.pre
  have hown : s.vm.findClass y.cls = some m.cls := findClass_of_methodNamed B.named
  have hll := lv_entry As (n := ny) hn
  rw [lg_entry_eq]
  generalize (lg_sl As ++ List.replicate (ny - (lg_sl As).length) Slot.unset).toArray = ls at hll ⊢
  refine h (p, l, e, rnX_ d 1 6, s, m, As.toArray, below, meth, c, 0, 0) ⟨B.exec, B.bytes, hml, B.returns, hown, fun w hw => hts0 w (List.mem_cons_of_mem _ hw), hK, hG, hbs, B.notSynchronized, Nat.le_refl _, Nat.le_refl _, Nat.zero_le _, Nat.zero_le _⟩ ⟨hl, ht, rfl, rfl, rfl, rfl⟩ s.heap [] ls ?_ hP va_S.rf
  refine lh_sub (l := lv_args 0 As) ?_ (en_mem As ny 0)
  rw [hml]
  exact hll
section THROWING
variable {C : mc_} {G : gg_} {Q : State → Prop} {pc : Nat} {lv : List (Option Value)} {st : List Value} {M N : mm_} {own : String} {cc : ByteArray} {nL : Nat} {ry : Option FieldType} {d : Nat} {post : Option Value → mm_ → Prop} {xe : String → Prop}
theorem w_irX {x : Int32} (X : cx_ C G own cc nL (some .int) d) (Z : txX_ C) (hd : decode cc pc = .ok (.ireturn, 1)) (hp : post (some (.int x)) N) : wq_ C G (qxX_ C G post xe M) pc lv [.int x] N := by
  obtain ⟨p, l, e, R, s, m, args, below, meth, c, cs, sl⟩ := C
  obtain ⟨hx, hb, hml, hrt, hown, hts, ⟨hK, hox⟩, hG, hbs, hlk, hfr, hlo, hcs, hsl⟩ := X
  obtain ⟨-, -, rfl, rfl, -, -⟩ := Z
  intro H locs ls hl hP hS
  exact vx_ret (W.widen (k := 1) (n := 6) (Nat.zero_le _) (Nat.zero_le _) (W.iret hx hb hrt (fun t ht hW => ⟨⟨_, N, rfl, hp, by rw [ht]; exact hP⟩, hS.F ht⟩) hS.2.2 hd hlk))
def nmx_ : List String := ["java/lang/RuntimeException", "java/lang/Exception"]
def xB_ (cls : String) : List Cond := .castable cls cls :: dl_.map .declares
theorem w_throw {cls : String} {ik ic : Nat} (X : cx_ C G RX11 cc nL ry d) (Z : txX_ C) (hd6 : 6 ≤ d) (hcls : Bundle.fit cls = true) (hcx : cls ∈ nx_)
    (hk : Cond.classLink RX11 ik cls ∈ gw_) (hini : Cond.initialized cls ∈ gw_) (hg1 : ∀ w ∈ (vx_at0 RX11 ic cls nmx_).filter goodWord, w ∈ gw_) (hg2 : ∀ w ∈ (vx_at0 RX11 ic cls nmx_).filter (fun w => !goodWord w), w ∈ xB_ cls)
    (hot : ∀ w ∈ Cond.classLink RX11 ik cls :: Cond.initialized cls :: vx_at0 RX11 ic cls nmx_, vx_ot w = true)
    (d0 : decode cc pc = .ok (.new ik, 3)) (d3 : decode cc (pc + 3) = .ok (.dup, 1)) (d4 : decode cc (pc + 4) = .ok (.invokespecial ic, 3)) (d7 : decode cc (pc + 7) = .ok (.athrow, 1)) (hxe : xe cls) : wq_ C G (qxX_ C G post xe M) pc lv [] M := by
  obtain ⟨p, l, e, R, s, m, args, below, meth, c, cs, sl⟩ := C
  obtain ⟨hx, hb, hml, hrt, hown, hts, ⟨hK, hox⟩, hG, hbs, hlk, hfr, hlo, hcs, hsl⟩ := X
  obtain ⟨z1, z2, rfl, rfl, z5, z6⟩ := Z
  intro H locs ls hl hP hS
  have hB : ∀ w ∈ xB_ cls, w.before args s = true := by
    intro w hw
    rcases List.mem_cons.mp hw with rfl | hw
    · exact va_Nw.use rfl (hox.2.2.1.1 cls hcx)
    · obtain ⟨y, hy, rfl⟩ := List.mem_map.mp hw
      exact va_Nw.use rfl (hox.2.2.1.2 y hy)
  refine vx_throw0 (names := nmx_) hx hb z1 hown hcls (by decide) (hts _ hk) (hts _ hini) (vx_hat (fun w hw => hts w (hg1 w hw)) hg2 hB) hot hox.2.2.2.2.2.1 hox.2.2.2.2.2.2.1 hS hl.1 d0 d3 d4 d7 (fun x hx => (z2 x hx).elim) ?_ ?_ ?_ ?_ hlk ?_ hS.2.2 (Nat.le_refl _) (Nat.le_refl _)
  · show 2 + 3 < R.frames; omega
  · show 0 + (13 * (2 + 1) + 42) ≤ R.locals; omega
  · omega
  · omega
  · intro t hA h1 h2
    refine ⟨hxe, hP.kept (fun k q hk => h2 _ (vx_lt hP hk)), Nat.le_trans hS.1 h1, fun q hq hn => ?_⟩
    rw [h2 q (Nat.lt_of_lt_of_le hq hS.1)]
    exact hS.2.1 q hq hn
/-- q was thrown over the frame -/
def wqx_ : mc_ → gg_ → (State → Prop) → Nat → List (Option Value) → List Value → mm_ → String → Nat → Prop
  | (p, l, e, R, s, m, args, below, meth, c, cs, sl), G, Q, pc, lv, st, M, E, q => ∀ (H : Heap) (locs : List Loc) (ls : Array Slot) (ce : Cell), lh_ c.maxLocals ls lv → va_P G.2.2.1 vwCl (wl_ G M) H → va_S (aw_ G) s.heap H locs → H[q]? = some ce → ce.vm = .none → s.vm.findClass E = some ce.cls → vx_W p l e R s m args below meth c H locs cs sl Q (F0 m pc ls st) q
def lcX_ : mc_ → Prop
  | (_, l, _, _, _, _, _, _, _, _, _, _) => l.stackTraces = false
def csX_ : mc_ → Nat
  | (_, _, _, _, _, _, _, _, _, _, cs, _) => cs
def slX_ : mc_ → Nat
  | (_, _, _, _, _, _, _, _, _, _, _, sl) => sl
def rmX_ : mc_ → Nat → Nat → Prop
  | (_, _, _, R, _, _, _, _, _, _, _, _), a, b => a ≤ R.cells ∧ b ≤ R.slots
theorem w_callX (As : List Value) {y : MethodName} {cy : ByteArray} {ny idx a ci n : Nat} {fs : List Nat} {T : u_T} {ry2 : Option FieldType} (X : cx_ C G own cc nL ry (d + 1)) (hlc : lcX_ C) (hd : decode cc pc = .ok (.invokevirtual idx, 3)) (hk : lk_ own idx y cy ny ry2 As.length) (hc : vwCl[ci]? = some (y.cls, T, n)) (ha : ds_[a]? = some (.inr (ci, fs))) (hM : cmx_ G y cy ny ry2 d (.ref (G.1 a) :: As) M post xe) (hr : (st.map fun v => v.category).sum ≤ 8) (hrm : rmX_ C (csX_ C + 1) (slX_ C + 6))
    (k : ∀ (v : Option Value) (N : mm_), post v N → wq_ (ca_ C (csX_ C + 1) (slX_ C + 6)) G Q (pc + 3) lv (v.toList ++ st) N)
    (kx : ∀ (E : String) (q : Nat), xe E → wqx_ (ca_ C (csX_ C + 1) (slX_ C + 6)) G Q pc lv st M E q) : wq_ C G Q pc lv (As.reverse ++ .ref (G.1 a) :: st) M := by
  obtain ⟨p, l, e, R, s, m, args, below, meth, c, cs, sl⟩ := C
  obtain ⟨hx, hb, hml, hrt, hown, hts, ⟨hK, hox⟩, hG, hbs, hlk, hfr, hlo, hcs, hsl⟩ := X
  obtain ⟨k1, k2, k3, k4, k5, k6, k7⟩ := hk
  intro H locs ls hl hP hS
  have hgood : GoodIn gw_ (wsV own idx y.cls y (.code y cy ny ry2 :: gw_)) := fun w hw => by
    simp only [wsV, List.cons_append, List.nil_append, List.mem_cons] at hw
    rcases hw with rfl | rfl | rfl | rfl | rfl | h
    · exact gw_gg _ k1
    · exact gw_gg _ k2
    · exact gw_gg _ k3
    · exact gw_gg _ k4
    · exact gw_gg _ k5
    · exact gw_gg _ h
  have hrun := vx_runV (As := As) (rest := st) (g := F0 m pc ls (As.reverse ++ .ref (G.1 a) :: st)) (locs := locs) (cells := cs) (slots := sl) (p := p) (e := e) (below := below) (meth := meth) (H := H) ⟨hx, hb, hml, hown, hts⟩ (hM l hlc) (cwV As.length hts hgood rfl rfl rfl ⟨rfl, k6⟩ ⟨hfr, by show 8 + (ny + 11) + 64 * d ≤ R.locals; omega⟩) ⟨pc_blind, va_recv hK hP hc (wl_at ha), fun U hU hW => ⟨rfl, by rw [hU]; exact Nat.le_trans hbs hS.1, by rw [hU]; exact hP, kw_call ⟨hK, hox⟩ hS hU hW⟩⟩ rfl rfl (hl.1.trans hml) rfl (lv_room hr) hd hrm
  intro T hT X
  rcases hrun T hT X with ⟨v, st₀, t, T', L, h0, X', hL, e1, e2, ⟨⟨v', N, hv, hp, hbb⟩, hF⟩, stp⟩ | ⟨q, st₀, t, T', L, E, ce, h0, X', hL, e1, e2, ⟨hxe, hPt, hF⟩, hce, hcv, hcl, stp⟩
  · cases hv
    obtain ⟨k1, k2, k3⟩ := vx_keep h0 e1 hS (fun q _ z => z) (fun q z => z) hL hF
    obtain ⟨t2, a1, b1⟩ := k v N hp T'.heap (locs ++ L) ls hl (by rw [e1]; exact hbb) k3 T' rfl X'
    exact ⟨t2, stp t2 a1, b1⟩
  · obtain ⟨k1, k2, k3⟩ := vx_keep h0 e1 hS (fun q _ z => z) (fun q z => z) hL hF
    obtain ⟨t2, a1, b1⟩ := kx E q hxe T'.heap (locs ++ L) ls ce hl (by rw [e1]; exact hPt) k3 (by rw [e1]; exact hce) hcv hcl T' rfl X'
    exact ⟨t2, stp.trans a1, b1⟩
def tbX_ : mc_ → List ExceptionTableEntry → Prop
  | (_, _, _, _, _, _, _, _, _, c, _, _), t => c.exceptionTable.toList = t
def ncX2_ : mc_ → String → String → Prop
  | (_, _, _, _, s, _, _, _, _, _, _, _), a, b => va_Nc a b s
theorem w_catch {E : String} {q : Nat} (X : cx_ C G own cc nL ry d) (pre : List ExceptionTableEntry) (x : ExceptionTableEntry) (suf : List ExceptionTableEntry) (ht : tbX_ C (pre ++ x :: suf)) (hE : E ∈ nx_)
    (hpass : ∀ z ∈ pre, z.catchType ≠ 0 ∧ ∃ nm, Cond.classLink own z.catchType nm ∈ gw_ ∧ ncX2_ C E nm) (hx : covers x pc = true) (h0 : x.catchType ≠ 0) (hlink : Cond.classLink own x.catchType E ∈ gw_)
    (k : wq_ C G Q x.handlerPc lv [.ref q] M) : wqx_ C G Q pc lv st M E q := by
  obtain ⟨p, l, e, R, s, m, args, below, meth, c, cs, sl⟩ := C
  obtain ⟨hx9, hb, hml, hrt, hown, hts, ⟨hK, hox⟩, hG, hbs, hlk, hfr, hlo, hcs, hsl⟩ := X
  intro H locs ls ce hl hP hS hce hcv hcl
  exact vx_catch hown pre x suf ht (fun z hz => Or.inr ⟨(hpass z hz).1, (hpass z hz).2.choose, hts _ (hpass z hz).2.choose_spec.1, (hpass z hz).2.choose_spec.2⟩) hx h0 (hts _ hlink) (va_Nw.use rfl (hox.2.2.1.1 E hE)) hce hcv hcl (k H locs ls hl hP hS)
end THROWING
theorem xg69 : Cond.classLink RX11 69 "java/lang/IllegalArgumentException" ∈ gw_ := gw_of (by decide +kernel) (by decide)
theorem xg139 : Cond.classLink RX11 139 "java/lang/IndexOutOfBoundsException" ∈ gw_ := gw_of (by decide +kernel) (by decide)
theorem xi1 : Cond.initialized "java/lang/IllegalArgumentException" ∈ gw_ := gw_of (by decide +kernel) (by decide)
theorem xi2 : Cond.initialized "java/lang/IndexOutOfBoundsException" ∈ gw_ := gw_of (by decide +kernel) (by decide)
theorem xa71 : ∀ w ∈ (vx_at0 RX11 71 "java/lang/IllegalArgumentException" nmx_).filter goodWord, w ∈ lw_tbl := by decide +kernel
theorem xa141 : ∀ w ∈ (vx_at0 RX11 141 "java/lang/IndexOutOfBoundsException" nmx_).filter goodWord, w ∈ lw_tbl := by decide +kernel
theorem xb71 : ∀ w ∈ (vx_at0 RX11 71 "java/lang/IllegalArgumentException" nmx_).filter (fun w => !goodWord w), w ∈ xB_ "java/lang/IllegalArgumentException" := by decide +kernel
theorem xb141 : ∀ w ∈ (vx_at0 RX11 141 "java/lang/IndexOutOfBoundsException" nmx_).filter (fun w => !goodWord w), w ∈ xB_ "java/lang/IndexOutOfBoundsException" := by decide +kernel
theorem xo71 : ∀ w ∈ Cond.classLink RX11 69 "java/lang/IllegalArgumentException" :: Cond.initialized "java/lang/IllegalArgumentException" :: vx_at0 RX11 71 "java/lang/IllegalArgumentException" nmx_, vx_ot w = true := by decide +kernel
theorem xo141 : ∀ w ∈ Cond.classLink RX11 139 "java/lang/IndexOutOfBoundsException" :: Cond.initialized "java/lang/IndexOutOfBoundsException" :: vx_at0 RX11 141 "java/lang/IndexOutOfBoundsException" nmx_, vx_ot w = true := by decide +kernel
section THROWN
variable {C : mc_} {G : gg_} {pc : Nat} {lv : List (Option Value)} {M : mm_} {cc : ByteArray} {nL : Nat} {ry : Option FieldType} {d : Nat} {post : Option Value → mm_ → Prop} {xe : String → Prop}
theorem w_throwA (X : cx_ C G RX11 cc nL ry d) (Z : txX_ C) (hd6 : 6 ≤ d) (d0 : decode cc pc = .ok (.new 69, 3)) (d3 : decode cc (pc + 3) = .ok (.dup, 1)) (d4 : decode cc (pc + 4) = .ok (.invokespecial 71, 3)) (d7 : decode cc (pc + 7) = .ok (.athrow, 1)) (hxe : xe "java/lang/IllegalArgumentException") : wq_ C G (qxX_ C G post xe M) pc lv [] M := w_throw X Z hd6 (by decide) (by decide) xg69 xi1 (fun w hw => gw_of (xa71 w hw) (List.mem_filter.mp hw).2) xb71 xo71 d0 d3 d4 d7 hxe
theorem w_throwI (X : cx_ C G RX11 cc nL ry d) (Z : txX_ C) (hd6 : 6 ≤ d) (d0 : decode cc pc = .ok (.new 139, 3)) (d3 : decode cc (pc + 3) = .ok (.dup, 1)) (d4 : decode cc (pc + 4) = .ok (.invokespecial 141, 3)) (d7 : decode cc (pc + 7) = .ok (.athrow, 1)) (hxe : xe "java/lang/IndexOutOfBoundsException") : wq_ C G (qxX_ C G post xe M) pc lv [] M := w_throw X Z hd6 (by decide) (by decide) xg139 xi2 (fun w hw => gw_of (xa141 w hw) (List.mem_filter.mp hw).2) xb141 xo141 d0 d3 d4 d7 hxe
end THROWN
