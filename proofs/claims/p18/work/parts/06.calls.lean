/-! contracts over the memory: a method that makes no cell, from memory M, returns v with memory N, and 'post v N' -/
def rm_ (d : Nat) : Room := { frames := d, cells := 0, slots := 0, locals := 64 * d }
def qg_ (G : gg_) (post : Option Value → mm_ → Prop) : Array Value → State → Outcome → State → Prop := fun _ st oc t => (∃ (v : Option Value) (N : mm_), oc = .returned v ∧ post v N ∧ va_P G.2.2.1 vwCl (wl_ G N) t.heap) ∧ va_F (aw_ G) st t
def pc_ (G : gg_) (As : List Value) (M : mm_) : Array Value → State → Prop := va_Pc As (fun U => G.2.2.2 ≤ U.heap.size ∧ va_P G.2.2.1 vwCl (wl_ G M) U.heap ∧ kw_ G U)
def cm_ (G : gg_) (y : MethodName) (cy : ByteArray) (ny : Nat) (ry : Option FieldType) (d : Nat) (As : List Value) (M : mm_) (post : Option Value → mm_ → Prop) : Prop := ∀ l : Launch, Met l y (.code y cy ny ry :: gw_) (rm_ d) (pc_ G As M) (qg_ G post) 0 0 (aw_ G)
def qe_ : mc_ → gg_ → (Option Value → mm_ → Prop) → State → Prop
  | (_, _, _, _, s, _, args, below, _, _, cs, sl), G, post => MQ below (qg_ G post) args s cs sl (aw_ G)
theorem pc_blind {G : gg_} {As : List Value} {M : mm_} : FrameBlind (pc_ G As M) := fun a U g mk q => by
  obtain ⟨q0, q1, qP, qK⟩ := q
  exact ⟨q0, q1, qP, kw_same (u := U) (U := U.calling g mk a) qK rfl rfl⟩
theorem cm_of {G : gg_} {y : MethodName} {cy : ByteArray} {ny d : Nat} {ry : Option FieldType} {As : List Value} {M : mm_} {post : Option Value → mm_ → Prop} (hG : gd_ G) (hy : plainName y.cls = true) (hn : (lg_sl As).length ≤ ny)
    (h : ∀ C : mc_, cx_ C G y.cls cy ny ry d → wq_ C G (qe_ C G post) 0 (en_ ny As) [] M) : cm_ G y cy ny ry d As M post := by
  intro l
  refine Met.ofW (cc := cy) (maxL := ny) (ret := ry) hy rfl ?_
  intro p e s m args below meth c s₁ B hml hv
  obtain ⟨rfl, hbs, hP, hK⟩ := hv
  have hts0 := atoms_spec (ws := .code y cy ny ry :: gw_) B.pre
  have hown : s.vm.findClass y.cls = some m.cls := findClass_of_methodNamed B.named
  have hl := lv_entry As (n := ny) hn
  rw [lg_entry_eq]
  generalize (lg_sl As ++ List.replicate (ny - (lg_sl As).length) Slot.unset).toArray = ls at hl ⊢
  refine h (p, l, e, rm_ d, s, m, As.toArray, below, meth, c, 0, 0) ⟨B.exec, B.bytes, hml, B.returns, hown, fun w hw => hts0 w (List.mem_cons_of_mem _ hw), hK, hG, hbs, B.notSynchronized, Nat.le_refl _, Nat.le_refl _, Nat.le_refl _, Nat.le_refl _⟩ s.heap [] ls ?_ hP va_S.rf
  refine lh_sub (l := lv_args 0 As) ?_ (en_mem As ny 0)
  rw [hml]
  exact hl
theorem cm_post {G : gg_} {y : MethodName} {cy : ByteArray} {ny d : Nat} {ry : Option FieldType} {As : List Value} {M : mm_} {post post2 : Option Value → mm_ → Prop} (h : cm_ G y cy ny ry d As M post) (hp : ∀ v N, post v N → post2 v N) : cm_ G y cy ny ry d As M post2 := by
  intro l p e ha hc hk s m args below hf happ hP hK
  obtain ⟨k, o, h1, h2, h3, ⟨⟨v, N, e1, e2, e3⟩, e4⟩, h5⟩ := h l p e ha hc hk s m args below hf happ hP hK
  exact ⟨k, o, h1, h2, h3, ⟨⟨v, N, e1, hp v N e2, e3⟩, e4⟩, h5⟩
section CALLS
variable {C : mc_} {G : gg_} {Q : State → Prop} {pc : Nat} {lv : List (Option Value)} {st : List Value} {M : mm_} {own : String} {cc : ByteArray} {nL : Nat} {ry : Option FieldType} {d : Nat} {post : Option Value → mm_ → Prop}
theorem w_ireturn {x : Int32} (X : cx_ C G own cc nL (some .int) d) (hd : decode cc pc = .ok (.ireturn, 1))  (hp : post (some (.int x)) M) : wq_ C G (qe_ C G post) pc lv [.int x] M := by
  obtain ⟨p, l, e, R, s, m, args, below, meth, c, cs, sl⟩ := C
  obtain ⟨hx, hb, hml, hrt, hown, hts, ⟨hK, hox⟩, hG, hbs, hlk, hfr, hlo, hcs, hsl⟩ := X
  intro H locs ls hl hP hS
  exact W.iret hx hb hrt  (fun t ht hW => ⟨⟨_, M, rfl, hp, by rw [ht]; exact hP⟩, hS.F ht⟩) hS.2.2 hd hlk
theorem w_zreturn {x : Int32} (X : cx_ C G own cc nL (some .boolean) d) (hd : decode cc pc = .ok (.ireturn, 1)) (hn : narrow .boolean (.int x) = .int x) (hp : post (some (.int x)) M) : wq_ C G (qe_ C G post) pc lv [.int x] M := by
  obtain ⟨p, l, e, R, s, m, args, below, meth, c, cs, sl⟩ := C
  obtain ⟨hx, hb, hml, hrt, hown, hts, ⟨hK, hox⟩, hG, hbs, hlk, hfr, hlo, hcs, hsl⟩ := X
  intro H locs ls hl hP hS
  exact W.zret hx hb hrt hn (fun t ht hW => ⟨⟨_, M, rfl, hp, by rw [ht]; exact hP⟩, hS.F ht⟩) hS.2.2 hd hlk
theorem w_lreturn {x : Int64} (X : cx_ C G own cc nL (some .long) d) (hd : decode cc pc = .ok (.lreturn, 1))  (hp : post (some (.long x)) M) : wq_ C G (qe_ C G post) pc lv [.long x] M := by
  obtain ⟨p, l, e, R, s, m, args, below, meth, c, cs, sl⟩ := C
  obtain ⟨hx, hb, hml, hrt, hown, hts, ⟨hK, hox⟩, hG, hbs, hlk, hfr, hlo, hcs, hsl⟩ := X
  intro H locs ls hl hP hS
  exact W.lret hx hb hrt  (fun t ht hW => ⟨⟨_, M, rfl, hp, by rw [ht]; exact hP⟩, hS.F ht⟩) hS.2.2 hd hlk
theorem w_vreturn  (X : cx_ C G own cc nL none d) (hd : decode cc pc = .ok (.return_, 1))  (hp : post (none) M) : wq_ C G (qe_ C G post) pc lv [] M := by
  obtain ⟨p, l, e, R, s, m, args, below, meth, c, cs, sl⟩ := C
  obtain ⟨hx, hb, hml, hrt, hown, hts, ⟨hK, hox⟩, hG, hbs, hlk, hfr, hlo, hcs, hsl⟩ := X
  intro H locs ls hl hP hS
  exact W.vret hx hb hrt  (fun t ht hW => ⟨⟨_, M, rfl, hp, by rw [ht]; exact hP⟩, hS.F ht⟩) hS.2.2 hd hlk
/-- what the tables say of a call of a method on an object, of a static one -/
def lk_ (own : String) (idx : Nat) (y : MethodName) (cy : ByteArray) (ny : Nat) (ry : Option FieldType) (n : Nat) : Prop := Cond.methodLink own idx y ∈ gw_ ∧ Cond.instanceMethod y ∈ gw_ ∧ Cond.selects y.cls y y ∈ gw_ ∧ Cond.initialized y.cls ∈ gw_ ∧ Cond.code y cy ny ry ∈ gw_ ∧ (y.cls ≠ "java/lang/invoke/MethodHandle" ∧ y.cls ≠ "java/lang/invoke/VarHandle" ∧ (parseMethodDescriptor y.desc).map (fun d => d.parameters.length) = some n) ∧ ny ≤ 45
def ls_ (own : String) (idx : Nat) (y : MethodName) (cy : ByteArray) (ny : Nat) (ry : Option FieldType) (n : Nat) : Prop := Cond.methodLink own idx y ∈ gw_ ∧ Cond.static y ∈ gw_ ∧ Cond.initialized y.cls ∈ gw_ ∧ Cond.code y cy ny ry ∈ gw_ ∧ (y.cls ≠ "java/lang/invoke/MethodHandle" ∧ y.cls ≠ "java/lang/invoke/VarHandle" ∧ (parseMethodDescriptor y.desc).map (fun d => d.parameters.length) = some n) ∧ ny ≤ 45
theorem w_run {p : Program} {l : Launch} {e : Env} {R : Room} {s : State} {m : MethodId} {args : Array Value} {below : List Frame} {meth : Method} {c : Code} {H : Heap} {locs : List Loc} {cs sl : Nat} {ls : Array Slot} {st0 rest : List Value} {a : Array Value} (hr : va_Run p l e R s m args below meth c H locs cs sl 0 0 (F0 m pc ls st0) rest (qg_ G post a) (aw_ G)) (hS : va_S (aw_ G) s.heap H locs)
    (kk : ∀ (v : Option Value) (N : mm_) (H1 : Heap) (locs1 : List Loc), post v N → va_P G.2.2.1 vwCl (wl_ G N) H1 → va_S (aw_ G) s.heap H1 locs1 → W p l e R s m args below meth c H1 locs1 cs sl Q (F0 m (pc + 3) ls (v.toList ++ rest))) : W p l e R s m args below meth c H locs cs sl Q (F0 m pc ls st0) := by
  intro T hT X
  obtain ⟨v, st₀, t, T', L, h0, X', hL, e1, e2, ⟨⟨v', N, hv, hp, hb⟩, hz, hk⟩, st⟩ := hr T hT X
  cases hv
  rw [h0] at hz hk
  obtain ⟨t2, a1, b1⟩ := kk v N T'.heap (locs ++ L) hp (by rw [e1]; exact hb)
    ⟨Nat.le_trans hS.1 (by rw [e1]; exact hz), fun q h1 h2 => by rw [e1, hk q (Nat.lt_of_lt_of_le h1 hS.1) h2]; exact hS.2.1 q h1 h2, fun q hq => by
      rcases List.mem_append.mp hq with h | h
      · exact hS.2.2 q h
      · exact hL q h⟩ T' rfl X'
  exact ⟨t2, st t2 a1, b1⟩
theorem w_callV (As : List Value) {y : MethodName} {cy : ByteArray} {ny idx a ci N : Nat} {fs : List Nat} {T : u_T} {ry2 : Option FieldType} (X : cx_ C G own cc nL ry (d + 1)) (hd : decode cc pc = .ok (.invokevirtual idx, 3)) (hk : lk_ own idx y cy ny ry2 As.length) (hc : vwCl[ci]? = some (y.cls, T, N)) (ha : ds_[a]? = some (.inr (ci, fs))) (hM : cm_ G y cy ny ry2 d (.ref (G.1 a) :: As) M post) (hr : (st.map fun v => v.category).sum ≤ 8)
    (k : ∀ (v : Option Value) (N : mm_), post v N → wq_ C G Q (pc + 3) lv (v.toList ++ st) N) : wq_ C G Q pc lv (As.reverse ++ .ref (G.1 a) :: st) M := by
  obtain ⟨p, l, e, R, s, m, args, below, meth, c, cs, sl⟩ := C
  obtain ⟨hx, hb, hml, hrt, hown, hts, ⟨hK, hox⟩, hG, hbs, hlk, hfr, hlo, hcs, hsl⟩ := X
  obtain ⟨k1, k2, k3, k4, k5, k6, k7⟩ := hk
  intro H locs ls hl hP hS
  have hgood : GoodIn gw_ (wsV own idx y.cls y (.code y cy ny ry2 :: gw_)) := fun w hw => by
    simp only [wsV, List.cons_append, List.nil_append, List.mem_cons] at hw
    rcases hw with rfl | rfl | rfl | rfl | rfl | h
    · exact gw_gg _ k1
    · exact gw_gg _ k2
    · exact gw_gg _ k3
    · exact gw_gg _ k4
    · exact gw_gg _ k5
    · exact gw_gg _ h
  refine w_run (va_runV (As := As) (rest := st) ⟨hx, hb, hml, hown, hts⟩ (hM l) (cwV As.length hts hgood rfl rfl rfl ⟨rfl, k6⟩ ⟨hfr, by show 8 + (ny + 11) + 64 * d ≤ R.locals; omega⟩) ⟨pc_blind, va_recv hK hP hc (wl_at ha), fun U hU hW => ⟨rfl, by rw [hU]; exact Nat.le_trans hbs hS.1, by rw [hU]; exact hP, kw_call ⟨hK, hox⟩ hS hU hW⟩⟩ rfl rfl (hl.1.trans hml) rfl (lv_room hr) hd ⟨hcs, hsl⟩) hS (fun v N H1 locs1 hp hP1 hS1 => k v N hp H1 locs1 ls hl hP1 hS1)
theorem w_callS (As : List Value) {y : MethodName} {cy : ByteArray} {ny idx : Nat} {ry2 : Option FieldType} (X : cx_ C G own cc nL ry (d + 1)) (hd : decode cc pc = .ok (.invokestatic idx, 3)) (hk : ls_ own idx y cy ny ry2 As.length) (hM : cm_ G y cy ny ry2 d As M post) (hr : (st.map fun v => v.category).sum ≤ 8)
    (k : ∀ (v : Option Value) (N : mm_), post v N → wq_ C G Q (pc + 3) lv (v.toList ++ st) N) : wq_ C G Q pc lv (As.reverse ++ st) M := by
  obtain ⟨p, l, e, R, s, m, args, below, meth, c, cs, sl⟩ := C
  obtain ⟨hx, hb, hml, hrt, hown, hts, ⟨hK, hox⟩, hG, hbs, hlk, hfr, hlo, hcs, hsl⟩ := X
  obtain ⟨k1, k2, k4, k5, k6, k7⟩ := hk
  intro H locs ls hl hP hS
  have hc5 : Cond.code y cy ny ry2 ∈ (.code y cy ny ry2 :: gw_ : List Cond) := List.mem_cons_self
  have hgood : GoodIn gw_ (.code y cy ny ry2 :: gw_) := fun w hw => by
    rcases List.mem_cons.mp hw with rfl | h
    · exact gw_gg _ k5
    · exact gw_gg _ h
  refine w_run (va_runS (As := As) (rest := st) ⟨hx, hb, hml, hown, hts⟩ (hM l) ⟨callB_of As.length hts hgood rfl rfl rfl (hts _ k4) (hts _ k1) k6 ⟨hfr, by show 8 + (ny + 11) + 64 * d ≤ R.locals; omega⟩, hts _ k2⟩ ⟨pc_blind, fun U hU hW => ⟨rfl, by rw [hU]; exact Nat.le_trans hbs hS.1, by rw [hU]; exact hP, kw_call ⟨hK, hox⟩ hS hU hW⟩⟩ rfl rfl (hl.1.trans hml) rfl (lv_room hr) hd ⟨hcs, hsl⟩) hS (fun v N H1 locs1 hp hP1 hS1 => k v N hp H1 locs1 ls hl hP1 hS1)
theorem w_v0 {y : MethodName} {cy : ByteArray} {ny idx a ci N : Nat} {fs : List Nat} {T : u_T} {ry2 : Option FieldType} (X : cx_ C G own cc nL ry (d + 1)) (hd : decode cc pc = .ok (.invokevirtual idx, 3)) (hk : lk_ own idx y cy ny ry2 0) (hc : vwCl[ci]? = some (y.cls, T, N)) (ha : ds_[a]? = some (.inr (ci, fs))) (hM : cm_ G y cy ny ry2 d (.ref (G.1 a) :: []) M post) (hr : (st.map fun v => v.category).sum ≤ 8) (k : ∀ (v : Option Value) (N : mm_), post v N → wq_ C G Q (pc + 3) lv (v.toList ++ st) N) : wq_ C G Q pc lv (.ref (G.1 a) :: st) M := w_callV [] X hd hk hc ha hM hr k
theorem w_v1 {a1 : Value} {y : MethodName} {cy : ByteArray} {ny idx a ci N : Nat} {fs : List Nat} {T : u_T} {ry2 : Option FieldType} (X : cx_ C G own cc nL ry (d + 1)) (hd : decode cc pc = .ok (.invokevirtual idx, 3)) (hk : lk_ own idx y cy ny ry2 1) (hc : vwCl[ci]? = some (y.cls, T, N)) (ha : ds_[a]? = some (.inr (ci, fs))) (hM : cm_ G y cy ny ry2 d (.ref (G.1 a) :: [a1]) M post) (hr : (st.map fun v => v.category).sum ≤ 8) (k : ∀ (v : Option Value) (N : mm_), post v N → wq_ C G Q (pc + 3) lv (v.toList ++ st) N) : wq_ C G Q pc lv (a1 :: .ref (G.1 a) :: st) M := w_callV [a1] X hd hk hc ha hM hr k
theorem w_v2 {a1 a2 : Value} {y : MethodName} {cy : ByteArray} {ny idx a ci N : Nat} {fs : List Nat} {T : u_T} {ry2 : Option FieldType} (X : cx_ C G own cc nL ry (d + 1)) (hd : decode cc pc = .ok (.invokevirtual idx, 3)) (hk : lk_ own idx y cy ny ry2 2) (hc : vwCl[ci]? = some (y.cls, T, N)) (ha : ds_[a]? = some (.inr (ci, fs))) (hM : cm_ G y cy ny ry2 d (.ref (G.1 a) :: [a1, a2]) M post) (hr : (st.map fun v => v.category).sum ≤ 8) (k : ∀ (v : Option Value) (N : mm_), post v N → wq_ C G Q (pc + 3) lv (v.toList ++ st) N) : wq_ C G Q pc lv (a2 :: a1 :: .ref (G.1 a) :: st) M := w_callV [a1, a2] X hd hk hc ha hM hr k
theorem w_v3 {a1 a2 a3 : Value} {y : MethodName} {cy : ByteArray} {ny idx a ci N : Nat} {fs : List Nat} {T : u_T} {ry2 : Option FieldType} (X : cx_ C G own cc nL ry (d + 1)) (hd : decode cc pc = .ok (.invokevirtual idx, 3)) (hk : lk_ own idx y cy ny ry2 3) (hc : vwCl[ci]? = some (y.cls, T, N)) (ha : ds_[a]? = some (.inr (ci, fs))) (hM : cm_ G y cy ny ry2 d (.ref (G.1 a) :: [a1, a2, a3]) M post) (hr : (st.map fun v => v.category).sum ≤ 8) (k : ∀ (v : Option Value) (N : mm_), post v N → wq_ C G Q (pc + 3) lv (v.toList ++ st) N) : wq_ C G Q pc lv (a3 :: a2 :: a1 :: .ref (G.1 a) :: st) M := w_callV [a1, a2, a3] X hd hk hc ha hM hr k
theorem w_v4 {a1 a2 a3 a4 : Value} {y : MethodName} {cy : ByteArray} {ny idx a ci N : Nat} {fs : List Nat} {T : u_T} {ry2 : Option FieldType} (X : cx_ C G own cc nL ry (d + 1)) (hd : decode cc pc = .ok (.invokevirtual idx, 3)) (hk : lk_ own idx y cy ny ry2 4) (hc : vwCl[ci]? = some (y.cls, T, N)) (ha : ds_[a]? = some (.inr (ci, fs))) (hM : cm_ G y cy ny ry2 d (.ref (G.1 a) :: [a1, a2, a3, a4]) M post) (hr : (st.map fun v => v.category).sum ≤ 8) (k : ∀ (v : Option Value) (N : mm_), post v N → wq_ C G Q (pc + 3) lv (v.toList ++ st) N) : wq_ C G Q pc lv (a4 :: a3 :: a2 :: a1 :: .ref (G.1 a) :: st) M := w_callV [a1, a2, a3, a4] X hd hk hc ha hM hr k
theorem w_v5 {a1 a2 a3 a4 a5 : Value} {y : MethodName} {cy : ByteArray} {ny idx a ci N : Nat} {fs : List Nat} {T : u_T} {ry2 : Option FieldType} (X : cx_ C G own cc nL ry (d + 1)) (hd : decode cc pc = .ok (.invokevirtual idx, 3)) (hk : lk_ own idx y cy ny ry2 5) (hc : vwCl[ci]? = some (y.cls, T, N)) (ha : ds_[a]? = some (.inr (ci, fs))) (hM : cm_ G y cy ny ry2 d (.ref (G.1 a) :: [a1, a2, a3, a4, a5]) M post) (hr : (st.map fun v => v.category).sum ≤ 8) (k : ∀ (v : Option Value) (N : mm_), post v N → wq_ C G Q (pc + 3) lv (v.toList ++ st) N) : wq_ C G Q pc lv (a5 :: a4 :: a3 :: a2 :: a1 :: .ref (G.1 a) :: st) M := w_callV [a1, a2, a3, a4, a5] X hd hk hc ha hM hr k
theorem w_s1 {a1 : Value} {y : MethodName} {cy : ByteArray} {ny idx : Nat} {ry2 : Option FieldType} (X : cx_ C G own cc nL ry (d + 1)) (hd : decode cc pc = .ok (.invokestatic idx, 3)) (hk : ls_ own idx y cy ny ry2 1) (hM : cm_ G y cy ny ry2 d [a1] M post) (hr : (st.map fun v => v.category).sum ≤ 8) (k : ∀ (v : Option Value) (N : mm_), post v N → wq_ C G Q (pc + 3) lv (v.toList ++ st) N) : wq_ C G Q pc lv (a1 :: st) M := w_callS [a1] X hd hk hM hr k
theorem w_s2 {a1 a2 : Value} {y : MethodName} {cy : ByteArray} {ny idx : Nat} {ry2 : Option FieldType} (X : cx_ C G own cc nL ry (d + 1)) (hd : decode cc pc = .ok (.invokestatic idx, 3)) (hk : ls_ own idx y cy ny ry2 2) (hM : cm_ G y cy ny ry2 d [a1, a2] M post) (hr : (st.map fun v => v.category).sum ≤ 8) (k : ∀ (v : Option Value) (N : mm_), post v N → wq_ C G Q (pc + 3) lv (v.toList ++ st) N) : wq_ C G Q pc lv (a2 :: a1 :: st) M := w_callS [a1, a2] X hd hk hM hr k
theorem w_s3 {a1 a2 a3 : Value} {y : MethodName} {cy : ByteArray} {ny idx : Nat} {ry2 : Option FieldType} (X : cx_ C G own cc nL ry (d + 1)) (hd : decode cc pc = .ok (.invokestatic idx, 3)) (hk : ls_ own idx y cy ny ry2 3) (hM : cm_ G y cy ny ry2 d [a1, a2, a3] M post) (hr : (st.map fun v => v.category).sum ≤ 8) (k : ∀ (v : Option Value) (N : mm_), post v N → wq_ C G Q (pc + 3) lv (v.toList ++ st) N) : wq_ C G Q pc lv (a3 :: a2 :: a1 :: st) M := w_callS [a1, a2, a3] X hd hk hM hr k
theorem w_s4 {a1 a2 a3 a4 : Value} {y : MethodName} {cy : ByteArray} {ny idx : Nat} {ry2 : Option FieldType} (X : cx_ C G own cc nL ry (d + 1)) (hd : decode cc pc = .ok (.invokestatic idx, 3)) (hk : ls_ own idx y cy ny ry2 4) (hM : cm_ G y cy ny ry2 d [a1, a2, a3, a4] M post) (hr : (st.map fun v => v.category).sum ≤ 8) (k : ∀ (v : Option Value) (N : mm_), post v N → wq_ C G Q (pc + 3) lv (v.toList ++ st) N) : wq_ C G Q pc lv (a4 :: a3 :: a2 :: a1 :: st) M := w_callS [a1, a2, a3, a4] X hd hk hM hr k
end CALLS
