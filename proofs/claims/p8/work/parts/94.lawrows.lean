/-! the law's own rows: its script, its helpers, its end -/
def scX_ : mc_ → gg_ → Nat → Nat → (Nat → Int32) → Prop
  | (_, _, _, _, s, _, _, _, _, _, _, _), G, b, L, xs => va_X b L xs s s.heap ∧ b < s.heap.size ∧ ¬ aw_ G b
def lkH_ (own : String) (idx : Nat) (y : MethodName) (cy : ByteArray) (ny : Nat) (hh : List (Nat × Nat × Nat × Nat)) (n : Nat) : Prop := Cond.methodLink own idx y ∈ gw_ ∧ Cond.static y ∈ gw_ ∧ Cond.initialized y.cls ∈ gw_ ∧ Cond.codeWith y cy ny (some .int) hh ∈ gw_ ∧ (y.cls ≠ "java/lang/invoke/MethodHandle" ∧ y.cls ≠ "java/lang/invoke/VarHandle" ∧ (parseMethodDescriptor y.desc).map (fun d => d.parameters.length) = some n) ∧ ny ≤ 45
/-- the law's context -/
def LX_ : mc_ → gg_ → Nat → Nat → (Nat → Int32) → Prop
  | (p, l, e, R, s, m, args, below, meth, c, x, y), G, b, L, xs => (p.tables.exec = Jvm.exec ∧ c.code = cL_law ∧ c.maxLocals = 7 ∧ meth.sig.returnType = ret ∧ s.vm.findClass RL = some m.cls ∧ (∀ w ∈ gw_, w.before args s = true) ∧ kw_ G s ∧ gd_ G ∧ G.2.2.2 = s.heap.size ∧ meth.locks = false) ∧ R = room_1 ∧ args = #[Value.ref b] ∧ l.stackTraces = false ∧ va_Nc "java/lang/IllegalArgumentException" "java/lang/IndexOutOfBoundsException" s ∧ va_X b L xs s s.heap ∧ b < s.heap.size
def lwq_ : mc_ → State → Prop
  | (_, _, _, _, s, _, args, below, _, _, _, _) => lw_Z below args s
section LAW
variable {C : mc_} {G : gg_} {Q : State → Prop} {pc : Nat} {lv : List (Option Value)} {st : List Value} {M : mm_} {own : String} {cc : ByteArray} {nL : Nat} {ry : Option FieldType} {d : Nat} {b L a sl : Nat} {xs : Nat → Int32}
theorem LX_cx (h : LX_ C G b L xs) (ha : a ≤ 601024) (hs : sl ≤ 7293034) : cx_ (ca_ C a sl) G RL cL_law 7 ret 1300 := by
  obtain ⟨p, l, e, R, s, m, args, below, meth, c, cs, s0⟩ := C
  obtain ⟨⟨h1, h2, h3, h4, h5, h6, h7, h8, h9, h10⟩, rfl, rfl, h11, h12, h13, h14⟩ := h
  exact ⟨h1, h2, h3, h4, h5, h6, h7, h8, Nat.le_of_eq h9, h10, by decide, by decide, ha, hs⟩
theorem LX_sc (h : LX_ C G b L xs) : scX_ (ca_ C a sl) G b L xs := by
  obtain ⟨p, l, e, R, s, m, args, below, meth, c, cs, s0⟩ := C
  obtain ⟨⟨h1, h2, h3, h4, h5, h6, h7, h8, h9, h10⟩, rfl, rfl, h11, h12, h13, h14⟩ := h
  exact ⟨h13, h14, fun z => by have z2 : G.2.2.2 ≤ b := z; omega⟩
theorem LX_gd (h : LX_ C G b L xs) : gd_ G := by
  obtain ⟨p, l, e, R, s, m, args, below, meth, c, cs, s0⟩ := C
  exact h.1.2.2.2.2.2.2.2.1
theorem w_sld {i : Int32} (X : cx_ C G own cc nL ry d) (hs : scX_ C G b L xs) (hd : decode cc pc = .ok (.iaload, 1)) (hin : vp_in i L) (k : wq_ C G Q (pc + 1) lv (.int (xs i.toNatClampNeg) :: st) M) : wq_ C G Q pc lv (.int i :: .ref b :: st) M := by
  obtain ⟨p, l, e, R, s, m, args, below, meth, c, cs, s0⟩ := C
  obtain ⟨hx, hb, hml, hrt, hown, hts, ⟨hK, hox⟩, hG, hbs, hlk, hfr, hlo, hcs, hsl⟩ := X
  obtain ⟨h1, h2, h3⟩ := hs
  intro H locs ls hl hP hS
  exact va_sld hx hb h1 h2 h3 hS hin hd (k H locs ls hl hP hS)
theorem w_sclen (X : cx_ C G own cc nL ry d) (hs : scX_ C G b L xs) (hd : decode cc pc = .ok (.arraylength, 1)) (k : wq_ C G Q (pc + 1) lv (.int (nI L) :: st) M) : wq_ C G Q pc lv (.ref b :: st) M := by
  obtain ⟨p, l, e, R, s, m, args, below, meth, c, cs, s0⟩ := C
  obtain ⟨hx, hb, hml, hrt, hown, hts, ⟨hK, hox⟩, hG, hbs, hlk, hfr, hlo, hcs, hsl⟩ := X
  obtain ⟨h1, h2, h3⟩ := hs
  intro H locs ls hl hP hS
  exact va_slen hx hb h1 h2 h3 hS hd (k H locs ls hl hP hS)
/-- script[i + k] -/
theorem w_scr {k : Int} {v x w : Int32} (X : cx_ C G own cc nL ry d) (hs : scX_ C G b L xs) (d0 : decode cc pc = .ok (.aload_n 0, 1)) (d1 : decode cc (pc + 1) = .ok (.iload 4, 2)) (d2 : decode cc (pc + 3) = .ok (.iconst k, 1)) (d3 : decode cc (pc + 4) = .ok (.iadd, 1)) (d4 : decode cc (pc + 5) = .ok (.iaload, 1)) (hk : Int32.ofInt k = v) (h0 : lv[0]? = some (some (.ref b))) (h4 : lv[4]? = some (some (.int x))) (hin : vp_in (x + v) L) (hw : xs (x + v).toNatClampNeg = w)
    (kk : wq_ C G Q (pc + 6) lv (.int w :: st) M) : wq_ C G Q pc lv st M := by
  refine w_aload_n X d0 rfl h0 ?_
  refine w_iload X d1 h4 ?_
  refine w_iconst X d2 hk ?_
  refine w_iadd X d3 ?_
  refine w_sld X hs d4 hin ?_
  rw [hw]
  exact kk
theorem w_widen {a2 s2 : Nat} (h1 : a ≤ a2) (h2 : sl ≤ s2) (k : wq_ (ca_ C a2 s2) G Q pc lv st M) : wq_ (ca_ C a sl) G Q pc lv st M := by
  obtain ⟨p, l, e, R, s, m, args, below, meth, c, cs, s0⟩ := C
  intro H locs ls hl hP hS
  exact W.widen (k := a2) (n := s2) h1 h2 (k H locs ls hl hP hS)
theorem w_lawret (h : LX_ C G b L xs) (ha : a ≤ 601024) (hs : sl ≤ 7293034) (hd : decode cL_law pc = .ok (.ireturn, 1)) : wq_ (ca_ C a sl) G (lwq_ C) pc lv [.int 1] M := by
  obtain ⟨p, l, e, R, s, m, args, below, meth, c, cs, s0⟩ := C
  obtain ⟨⟨h1, h2, h3, h4, h5, h6, h7, h8, h9, h10⟩, rfl, rfl, h11, h12, h13, h14⟩ := h
  intro H locs ls hl hP hS
  exact va_forget (fun q hq => by have z : G.2.2.2 ≤ q.base := hS.2.2 q hq; omega) (W.widen (k := 601024) (n := 7293034) ha hs (lw_ret h1 h2 h4 h10 hd))
theorem w_help (As : List Value) {y : MethodName} {cy : ByteArray} {ny idx dd : Nat} {hh : List (Nat × Nat × Nat × Nat)} {post : Option Value → mm_ → Prop} (h : LX_ C G b L xs) (ha : a + 1 ≤ 601024) (hs : sl + 6 ≤ 7293034) (hd : decode cL_law pc = .ok (.invokestatic idx, 3)) (hk : lkH_ RL idx y cy ny hh As.length) (hM : chx_ G y cy ny hh dd As M post) (hdd : dd ≤ 1299) (hr : (st.map fun v => v.category).sum ≤ 8)
    (k : ∀ (v : Option Value) (N : mm_), post v N → wq_ (ca_ C (a + 1) (sl + 6)) G Q (pc + 3) lv (v.toList ++ st) N) : wq_ (ca_ C a sl) G Q pc lv (As.reverse ++ st) M := by
  obtain ⟨p, l, e, R, s, m, args, below, meth, c, cs, s0⟩ := C
  obtain ⟨⟨h1, h2, h3, h4, h5, h6, h7, h8, h9, h10⟩, rfl, rfl, h11, h12, h13, h14⟩ := h
  obtain ⟨k1, k2, k3, k4, k5, k6⟩ := hk
  intro H locs ls hl hP hS
  have hgood : GoodIn gw_ (va_wsS RL idx y (.codeWith y cy ny (some .int) hh :: gw_)) := fun w hw => by
    simp only [va_wsS, List.cons_append, List.nil_append, List.mem_cons] at hw
    rcases hw with rfl | rfl | rfl | rfl | h
    · exact gw_gg _ k1
    · exact gw_gg _ k2
    · exact gw_gg _ k3
    · exact gw_gg _ k4
    · exact gw_gg _ h
  have hrun := vx_runSW (R := room_1) (As := As) (rest := st) (g := F0 m pc ls (As.reverse ++ st)) (locs := locs) (cells := a) (slots := sl) (p := p) (e := e) (below := below) (meth := meth) (H := H) ⟨h1, h2, h3, h5, h6⟩ (hM l h11) (vx_cwSW As.length h6 hgood rfl rfl rfl k5 ⟨by show dd + 1 ≤ 2048; omega, by show 8 + (ny + 11) + 64 * dd ≤ 84000; omega⟩) ⟨pcn_blind, fun U hU hW => ⟨rfl, by rw [hU, h9]; exact hS.1, by rw [hU]; exact hP, kw_call h7 hS hU hW, va_Nc.moved hW.alike h12⟩⟩ rfl rfl (hl.1.trans h3) rfl (lv_room hr) hd ⟨ha, hs⟩
  intro T hT X
  obtain ⟨v, st₀, t, T', L2, h0, X', hL, e1, e2, ⟨⟨v', N, hv, hp, hbb⟩, hF⟩, stp⟩ := hrun T hT X
  cases hv
  obtain ⟨k1, k2, k3⟩ := vx_keep h0 e1 hS (fun q _ z => z) (fun q z => z) hL hF
  obtain ⟨t2, a1, b1⟩ := k v N hp T'.heap (locs ++ L2) ls hl (by rw [e1]; exact hbb) k3 T' rfl X'
  exact ⟨t2, stp t2 a1, b1⟩
end LAW
theorem sc_in {i k L : Nat} (h : i + k < L) (hL : L ≤ 2560) : vp_in (nI i + nI k) L := by
  rw [nI_add]
  exact vp_in_nI h (by omega)
