section
/-! the law's own rows: its script, its helpers, its end -/
def scX_ : mc_ → gg_ → Nat → Nat → (Nat → Int32) → Prop
  | (_, _, _, _, s, _, _, _, _, _, _, _), G, b, L, xs => va_X b L xs s s.heap ∧ b < s.heap.size ∧ ¬ aw_ G b
def lkH_ (own : String) (idx : Nat) (y : MethodName) (cy : ByteArray) (ny : Nat) (hh : List (Nat × Nat × Nat × Nat)) (n : Nat) : Prop := Cond.methodLink own idx y ∈ gw_ ∧ Cond.static y ∈ gw_ ∧ Cond.initialized y.cls ∈ gw_ ∧ Cond.codeWith y cy ny (some .int) hh ∈ gw_ ∧ (y.cls ≠ "java/lang/invoke/MethodHandle" ∧ y.cls ≠ "java/lang/invoke/VarHandle" ∧ (parseMethodDescriptor y.desc).map (fun d => d.parameters.length) = some n) ∧ ny ≤ 45
/-- the law's context -/
def LX_ : mc_ → gg_ → Nat → Nat → (Nat → Int32) → Prop
  | (p, l, e, R, s, m, args, below, meth, c, x, y), G, b, L, xs => (p.tables.exec = Jvm.exec ∧ c.code = cL_law ∧ c.maxLocals = 7 ∧ meth.sig.returnType = ret ∧ s.vm.findClass RL = some m.cls ∧ (∀ w ∈ gw_, w.before args s = true) ∧ kw_ G s ∧ gd_ G ∧ G.2.2.2 = s.heap.size ∧ meth.locks = false) ∧ R = room_1 ∧ args = #[Value.ref b] ∧ l.stackTraces = false ∧ va_Nc "java/lang/IllegalArgumentException" "java/lang/IndexOutOfBoundsException" s ∧ va_X b L xs s s.heap ∧ b < s.heap.size
def lwq_ : mc_ → State → Prop
  | (_, _, _, _, s, _, args, below, _, _, _, _) => lw_Z below args s
section LAW
variable {C : mc_} {G : gg_} {Q : State → Prop} {pc : Nat} {lv : List (Option Value)} {st : List Value} {M : mm_} {own : String} {cc : ByteArray} {nL : Nat} {ry : Option FieldType} {d : Nat} {b L a sl : Nat} {xs : Nat → Int32}
theorem LX_cx (h : LX_ C G b L xs) (ha : a ≤ 601024) (hs : sl ≤ 7293034) : cx_ (ca_ C a sl) G RL cL_law 7 ret 1300 := by
  obtain ⟨p, l, e, R, s, m, args, below, meth, c, cs, s0⟩ := C
  obtain ⟨⟨h1, h2, h3, h4, h5, h6, h7, h8, h9, h10⟩, rfl, rfl, h11, h12, h13, h14⟩ := h
  exact ⟨h1, h2, h3, h4, h5, h6, h7, h8, Nat.le_of_eq h9, h10, by decide, by decide, ha, hs⟩
theorem LX_sc (h : LX_ C G b L xs) : scX_ (ca_ C a sl) G b L xs := by
  obtain ⟨p, l, e, R, s, m, args, below, meth, c, cs, s0⟩ := C
  obtain ⟨⟨h1, h2, h3, h4, h5, h6, h7, h8, h9, h10⟩, rfl, rfl, h11, h12, h13, h14⟩ := h
  exact ⟨h13, h14, fun z => by have z2 : G.2.2.2 ≤ b := z; omega⟩
theorem LX_gd (h : LX_ C G b L xs) : gd_ G := by
  obtain ⟨p, l, e, R, s, m, args, below, meth, c, cs, s0⟩ := C
  exact h.1.2.2.2.2.2.2.2.1
theorem w_sld {i : Int32} (X : cx_ C G own cc nL ry d) (hs : scX_ C G b L xs) (hd : decode cc pc = .ok (.iaload, 1)) (hin : vp_in i L) (k : wq_ C G Q (pc + 1) lv (.int (xs i.toNatClampNeg) :: st) M) : wq_ C G Q pc lv (.int i :: .ref b :: st) M := by
  obtain ⟨p, l, e, R, s, m, args, below, meth, c, cs, s0⟩ := C
  obtain ⟨hx, hb, hml, hrt, hown, hts, ⟨hK, hox⟩, hG, hbs, hlk, hfr, hlo, hcs, hsl⟩ := X
  obtain ⟨h1, h2, h3⟩ := hs
  intro H locs ls hl hP hS
  exact va_sld hx hb h1 h2 h3 hS hin hd (k H locs ls hl hP hS)
theorem w_sclen (X : cx_ C G own cc nL ry d) (hs : scX_ C G b L xs) (hd : decode cc pc = .ok (.arraylength, 1)) (k : wq_ C G Q (pc + 1) lv (.int (nI L) :: st) M) : wq_ C G Q pc lv (.ref b :: st) M := by
  obtain ⟨p, l, e, R, s, m, args, below, meth, c, cs, s0⟩ := C
  obtain ⟨hx, hb, hml, hrt, hown, hts, ⟨hK, hox⟩, hG, hbs, hlk, hfr, hlo, hcs, hsl⟩ := X
  obtain ⟨h1, h2, h3⟩ := hs
  intro H locs ls hl hP hS
  exact va_slen hx hb h1 h2 h3 hS hd (k H locs ls hl hP hS)
/-- script[i + k] -/
theorem w_scr {k : Int} {v x w : Int32} (X : cx_ C G own cc nL ry d) (hs : scX_ C G b L xs) (d0 : decode cc pc = .ok (.aload_n 0, 1)) (d1 : decode cc (pc + 1) = .ok (.iload 4, 2)) (d2 : decode cc (pc + 3) = .ok (.iconst k, 1)) (d3 : decode cc (pc + 4) = .ok (.iadd, 1)) (d4 : decode cc (pc + 5) = .ok (.iaload, 1)) (hk : Int32.ofInt k = v) (h0 : lv[0]? = some (some (.ref b))) (h4 : lv[4]? = some (some (.int x))) (hin : vp_in (x + v) L) (hw : xs (x + v).toNatClampNeg = w)
    (kk : wq_ C G Q (pc + 6) lv (.int w :: st) M) : wq_ C G Q pc lv st M := by
  refine w_aload_n X d0 rfl h0 ?_
  refine w_iload X d1 h4 ?_
  refine w_iconst X d2 hk ?_
  refine w_iadd X d3 ?_
  refine w_sld X hs d4 hin ?_
  rw [hw]
  exact kk
theorem w_widen {a2 s2 : Nat} (h1 : a ≤ a2) (h2 : sl ≤ s2) (k : wq_ (ca_ C a2 s2) G Q pc lv st M) : wq_ (ca_ C a sl) G Q pc lv st M := by
  obtain ⟨p, l, e, R, s, m, args, below, meth, c, cs, s0⟩ := C
  intro H locs ls hl hP hS
  exact W.widen (k := a2) (n := s2) h1 h2 (k H locs ls hl hP hS)
theorem w_lawret (h : LX_ C G b L xs) (ha : a ≤ 601024) (hs : sl ≤ 7293034) (hd : decode cL_law pc = .ok (.ireturn, 1)) : wq_ (ca_ C a sl) G (lwq_ C) pc lv [.int 1] M := by
  obtain ⟨p, l, e, R, s, m, args, below, meth, c, cs, s0⟩ := C
  obtain ⟨⟨h1, h2, h3, h4, h5, h6, h7, h8, h9, h10⟩, rfl, rfl, h11, h12, h13, h14⟩ := h
  intro H locs ls hl hP hS
  exact va_forget (fun q hq => by have z : G.2.2.2 ≤ q.base := hS.2.2 q hq; omega) (W.widen (k := 601024) (n := 7293034) ha hs (lw_ret h1 h2 h4 h10 hd))
theorem w_help (As : List Value) {y : MethodName} {cy : ByteArray} {ny idx dd : Nat} {hh : List (Nat × Nat × Nat × Nat)} {post : Option Value → mm_ → Prop} (h : LX_ C G b L xs) (ha : a + 1 ≤ 601024) (hs : sl + 6 ≤ 7293034) (hd : decode cL_law pc = .ok (.invokestatic idx, 3)) (hk : lkH_ RL idx y cy ny hh As.length) (hM : chx_ G y cy ny hh dd As M post) (hdd : dd ≤ 1299) (hr : (st.map fun v => v.category).sum ≤ 8)
    (k : ∀ (v : Option Value) (N : mm_), post v N → wq_ (ca_ C (a + 1) (sl + 6)) G Q (pc + 3) lv (v.toList ++ st) N) : wq_ (ca_ C a sl) G Q pc lv (As.reverse ++ st) M := by
  obtain ⟨p, l, e, R, s, m, args, below, meth, c, cs, s0⟩ := C
  obtain ⟨⟨h1, h2, h3, h4, h5, h6, h7, h8, h9, h10⟩, rfl, rfl, h11, h12, h13, h14⟩ := h
  obtain ⟨k1, k2, k3, k4, k5, k6⟩ := hk
  intro H locs ls hl hP hS
  have hgood : GoodIn gw_ (va_wsS RL idx y (.codeWith y cy ny (some .int) hh :: gw_)) := fun w hw => by
    simp only [va_wsS, List.cons_append, List.nil_append, List.mem_cons] at hw
    rcases hw with rfl | rfl | rfl | rfl | h
    · exact gw_gg _ k1
    · exact gw_gg _ k2
    · exact gw_gg _ k3
    · exact gw_gg _ k4
    · exact gw_gg _ h
  have hrun := vx_runSW (R := room_1) (As := As) (rest := st) (g := F0 m pc ls (As.reverse ++ st)) (locs := locs) (cells := a) (slots := sl) (p := p) (e := e) (below := below) (meth := meth) (H := H) ⟨h1, h2, h3, h5, h6⟩ (hM l h11) (vx_cwSW As.length h6 hgood rfl rfl rfl k5 ⟨by show dd + 1 ≤ 2048; omega, by show 8 + (ny + 11) + 64 * dd ≤ 84000; omega⟩) ⟨pcn_blind, fun U hU hW => ⟨rfl, by rw [hU, h9]; exact hS.1, by rw [hU]; exact hP, kw_call h7 hS hU hW, va_Nc.moved hW.alike h12⟩⟩ rfl rfl (hl.1.trans h3) rfl (lv_room hr) hd ⟨ha, hs⟩
  intro T hT X
  obtain ⟨v, st₀, t, T', L2, h0, X', hL, e1, e2, ⟨⟨v', N, hv, hp, hbb⟩, hF⟩, stp⟩ := hrun T hT X
  cases hv
  obtain ⟨k1, k2, k3⟩ := vx_keep h0 e1 hS (fun q _ z => z) (fun q z => z) hL hF
  obtain ⟨t2, a1, b1⟩ := k v N hp T'.heap (locs ++ L2) ls hl (by rw [e1]; exact hbb) k3 T' rfl X'
  exact ⟨t2, stp t2 a1, b1⟩
end LAW
theorem sc_in {i k L : Nat} (h : i + k < L) (hL : L ≤ 2560) : vp_in (nI i + nI k) L := by
  rw [nI_add]
  exact vp_in_nI h (by omega)

end
section
theorem chx_post {G : gg_} {y : MethodName} {cy : ByteArray} {ny d : Nat} {hh : List (Nat × Nat × Nat × Nat)} {As : List Value} {M : mm_} {post post2 : Option Value → mm_ → Prop} (h : chx_ G y cy ny hh d As M post) (hp : ∀ v N, post v N → post2 v N) : chx_ G y cy ny hh d As M post2 := by
  intro l hl p e ha hc hk s m args below hf happ hP hK
  obtain ⟨k, o, h1, h2, h3, ⟨⟨v, N, e1, e2, e3⟩, e4⟩, h5⟩ := h l hl p e ha hc hk s m args below hf happ hP hK
  exact ⟨k, o, h1, h2, h3, ⟨⟨v, N, e1, hp v N e2, e3⟩, e4⟩, h5⟩
end
section
/-! every method that the law calls, by the invariant: the answers of both are the same, but fault and place -/
def iv_p : Option Value → mm_ → Prop := rI_ (fun _ N => IV_ N)
theorem iv_fI {r : Int32} {N : mm_} (h : IV_ N) : ∀ v N2, fI_ r N v N2 → iv_p v N2 := fun v N2 z => ⟨r, z.1, by rw [z.2]; exact h⟩
/-- both answers, where no throw can be -/
def eq_p (r : Int32) : Option Value → mm_ → Prop := rI_ (fun q N => IV_ N ∧ q = r)
theorem eq_fI {r q : Int32} {N : mm_} (h : IV_ N) (e : q = r) : ∀ v N2, fI_ q N v N2 → eq_p r v N2 := fun v N2 z => ⟨q, z.1, by rw [z.2]; exact ⟨h, e⟩⟩
/-- both answers, or both throws -/
def th_p (r : Int32) : Option Value → mm_ → Prop := rI_ (fun q N => IV_ N ∧ N.1 0 0 = r ∧ (r = 0 → N.2.1 262 0 = q.toInt64))
theorem th_fI {r q : Int32} {N : mm_} (h : IV_ N) (e : N.1 0 0 = r) (e2 : r = 0 → N.2.1 262 0 = q.toInt64) : ∀ v N2, fI_ q N v N2 → th_p r v N2 := fun v N2 z => ⟨q, z.1, by rw [z.2]; exact ⟨h, e, e2⟩⟩
theorem IV_ir {n c S : Nat} {J : Nat → Nat} {M N : mm_} (h1 : ∀ a i, ¬ (a = 0 ∧ i = 0) → N.1 a i = M.1 a i) (h2 : ∀ a i, ¬ a = 262 → N.2.1 a i = M.2.1 a i) (h3 : N.2.2 = M.2.2) (g : IVc_ n c J S M) : IVc_ n c J S N :=
  ⟨TC_s ⟨fun a i z => h1 a i (by unfold rT_ at z; omega), fun a i z => h2 a i (by unfold rU_ at z; omega)⟩ ⟨fun a i z1 z2 => h1 a i (by omega), fun a i z1 z2 => h2 a i (by omega), h1 35 1 (by omega), fun i => h1 36 i (by omega)⟩ g.1, IVr_cg g.1 (fun a i z1 _ _ => h1 a i (by omega)) (fun i z => h1 0 i (by omega)) h2 h3 g.2⟩
theorem IVc_0 {n c S : Nat} {J : Nat → Nat} {M : mm_} {v : Int32} (g : IVc_ n c J S M) : IVc_ n c J S (sI_ M 0 0 v) := IV_ir (M := M) (fun a i z => by rw [gI_sI, if_neg z]) (fun _ _ _ => rfl) rfl g
theorem IVc_262 {n c S : Nat} {J : Nat → Nat} {M : mm_} {v : Int64} (g : IVc_ n c J S M) : IVc_ n c J S (sL_ M 262 0 v) := IV_ir (M := M) (fun _ _ _ => rfl) (fun a i z => by rw [gL_sL, if_neg (by omega)]) rfl g
theorem IV_0 {M : mm_} {v : Int32} (h : IV_ M) : IV_ (sI_ M 0 0 v) := by
  obtain ⟨n, c, J, S, g⟩ := h
  exact ⟨n, c, J, S, IVc_0 g⟩
theorem IV_262 {M : mm_} {v : Int64} (h : IV_ M) : IV_ (sL_ M 262 0 v) := by
  obtain ⟨n, c, J, S, g⟩ := h
  exact ⟨n, c, J, S, IVc_262 g⟩
theorem IV_wipe {M : mm_} (h : IV_ M) : IV_ (sI_ (sI_ (sI_ M 35 1 0) 0 0 0) 0 2 0) := by
  obtain ⟨n, c, J, S, g⟩ := h
  exact ⟨0, c, J, S, TC_wipe g.1, IVr_cg g.1 (fun a i z1 z2 z3 => by rw [gI_sI, if_neg (by omega), gI_sI, if_neg (by omega), gI_sI, if_neg (by omega)]) (fun i z => by rw [gI_sI, if_neg (by omega), gI_sI, if_neg (by omega), gI_sI, if_neg (by omega)]) (fun _ _ _ => rfl) rfl g.2⟩
/-! fault and place: they may differ -/
theorem uX_fault {G : gg_} (hG : gd_ G) {M : mm_} (hB : IV_ M) : cm_ G yX11_fault cX11_fault 1 (some .int) 1299 [.ref (G.1 34)] M iv_p := cm_post (c11_fault G hG 1299 M) (iv_fI hB)
theorem uX_place {G : gg_} (hG : gd_ G) {M : mm_} (hB : IV_ M) : cm_ G yX11_place cX11_place 1 (some .int) 1299 [.ref (G.1 34)] M iv_p := cm_post (c11_place G hG 1299 M) (iv_fI hB)
theorem uR_fault {G : gg_} (hG : gd_ G) {M : mm_} (hB : IV_ M) : cm_ G yX12_fault cX12_fault 1 (some .int) 1299 [.ref (G.1 0)] M iv_p := cm_post (c12_fault G hG 1299 M) (iv_fI (IV_0 hB))
theorem uR_place {G : gg_} (hG : gd_ G) {M : mm_} (hB : IV_ M) : cm_ G yX12_place cX12_place 1 (some .int) 1299 [.ref (G.1 0)] M iv_p := cm_post (c12_place G hG 1299 M) (iv_fI (IV_0 hB))
/-! value, invoked, records, keeps -/
def rd_q (a i : Nat) (r : Int32) (N : mm_) : Prop := IV_ N ∧ r = N.1 a i
theorem rd_fI {a i : Nat} {N : mm_} (h : IV_ N) : ∀ v N2, fI_ (N.1 a i) N v N2 → rI_ (rd_q a i) v N2 := fun v N2 z => ⟨_, z.1, by rw [z.2]; exact ⟨h, rfl⟩⟩
theorem IV_tl {M : mm_} (h : IV_ M) : M.1 0 41 = M.1 247 0 ∧ M.1 0 40 = M.1 247 1 ∧ M.1 0 35 = M.1 243 3 ∧ M.1 0 37 = M.1 245 3 := by
  obtain ⟨n, c, J, S, g⟩ := h
  obtain ⟨⟨a, b, r1, r2, r3, r4, r5, r6, r7, r8, r9, r10, r11, r12⟩, g2, g3⟩ := g.2.2.2.2.1
  exact ⟨g2.symm, g3.symm, r5.trans r4.symm, r11.trans r10.symm⟩
theorem uX_value {G : gg_} (hG : gd_ G) {M : mm_} (hB : IV_ M) : cm_ G yX11_value cX11_value 1 (some .int) 1299 [.ref (G.1 34)] M (rI_ (rd_q 247 0)) := cm_post (c11_value G hG 1299 M) (rd_fI hB)
theorem uX_invoked {G : gg_} (hG : gd_ G) {M : mm_} (hB : IV_ M) : cm_ G yX11_invoked cX11_invoked 1 (some .int) 1299 [.ref (G.1 34)] M (rI_ (rd_q 247 1)) := cm_post (c11_invoked G hG 1299 M) (rd_fI hB)
theorem uX_records {G : gg_} (hG : gd_ G) {M : mm_} (hB : IV_ M) : cm_ G yX11_records cX11_records 1 (some .int) 1299 [.ref (G.1 34)] M (rI_ (rd_q 243 3)) := cm_post (c11_records G hG 1299 M) (rd_fI hB)
theorem uX_keeps {G : gg_} (hG : gd_ G) {M : mm_} (hB : IV_ M) : cm_ G yX11_keeps cX11_keeps 1 (some .int) 1299 [.ref (G.1 34)] M (rI_ (rd_q 245 3)) := cm_post (c11_keeps G hG 1299 M) (rd_fI hB)
theorem uR_value {G : gg_} (hG : gd_ G) {M : mm_} {r : Int32} (h : rd_q 247 0 r M) : cm_ G yX12_value cX12_value 1 (some .int) 1299 [.ref (G.1 0)] M (eq_p r) := cm_post (c12_value G hG 1299 M) (eq_fI (IV_0 h.1) ((IV_tl h.1).1.trans h.2.symm))
theorem uR_invoked {G : gg_} (hG : gd_ G) {M : mm_} {r : Int32} (h : rd_q 247 1 r M) : cm_ G yX12_invoked cX12_invoked 1 (some .int) 1299 [.ref (G.1 0)] M (eq_p r) := cm_post (c12_invoked G hG 1299 M) (eq_fI (IV_0 h.1) ((IV_tl h.1).2.1.trans h.2.symm))
theorem uR_records {G : gg_} (hG : gd_ G) {M : mm_} {r : Int32} (h : rd_q 243 3 r M) : cm_ G yX12_records cX12_records 1 (some .int) 1299 [.ref (G.1 0)] M (eq_p r) := cm_post (c12_records G hG 1299 M) (eq_fI (IV_0 h.1) ((IV_tl h.1).2.2.1.trans h.2.symm))
theorem uR_keeps {G : gg_} (hG : gd_ G) {M : mm_} {r : Int32} (h : rd_q 245 3 r M) : cm_ G yX12_keeps cX12_keeps 1 (some .int) 1299 [.ref (G.1 0)] M (eq_p r) := cm_post (c12_keeps G hG 1299 M) (eq_fI (IV_0 h.1) ((IV_tl h.1).2.2.2.trans h.2.symm))
/-! clear -/
def cl_q (r : Int32) (N : mm_) : Prop := ∃ M, IV_ M ∧ r = M.1 243 3 ∧ N = sI_ (sI_ M 243 3 0) 245 3 0
theorem uX_clear {G : gg_} (hG : gd_ G) {M : mm_} (hB : IV_ M) : cm_ G yX11_clear cX11_clear 2 (some .int) 1299 [.ref (G.1 34)] M (rI_ cl_q) := cm_post (c11_clear G hG 1299 M) (fun v N2 z => ⟨_, z.1, M, hB, rfl, z.2⟩)
theorem uR_clear {G : gg_} (hG : gd_ G) {M : mm_} {r : Int32} (h : cl_q r M) : cm_ G yX12_clear cX12_clear 2 (some .int) 1299 [.ref (G.1 0)] M (eq_p r) := by
  obtain ⟨M0, h, rfl, rfl⟩ := h
  have ht := IV_tl h
  obtain ⟨n, c, J, S, g⟩ := h
  refine cm_post (c12_clear G hG 1299 _) (eq_fI ?_ (by rw [gI_sI, if_neg (by omega), gI_sI, if_neg (by omega)]; exact ht.2.2.1))
  have k : ∀ a i, ¬ ((a = 243 ∨ a = 245) ∧ i = 3) → ¬ (a = 0 ∧ (i = 0 ∨ i = 35 ∨ i = 37)) → (sI_ (sI_ (sI_ (sI_ (sI_ M0 243 3 0) 245 3 0) 0 0 0) 0 35 0) 0 37 0).1 a i = M0.1 a i := fun a i z1 z2 => by rw [gI_sI, if_neg (by omega), gI_sI, if_neg (by omega), gI_sI, if_neg (by omega), gI_sI, if_neg (by omega), gI_sI, if_neg (by omega)]
  have k1 : (sI_ (sI_ (sI_ (sI_ (sI_ M0 243 3 0) 245 3 0) 0 0 0) 0 35 0) 0 37 0).1 243 3 = 0 := by rw [gI_sI, if_neg (by omega), gI_sI, if_neg (by omega), gI_sI, if_neg (by omega), gI_sI, if_neg (by omega), gI_sI, if_pos ⟨rfl, rfl⟩]
  have k2 : (sI_ (sI_ (sI_ (sI_ (sI_ M0 243 3 0) 245 3 0) 0 0 0) 0 35 0) 0 37 0).1 245 3 = 0 := by rw [gI_sI, if_neg (by omega), gI_sI, if_neg (by omega), gI_sI, if_neg (by omega), gI_sI, if_pos ⟨rfl, rfl⟩]
  have k3 : (sI_ (sI_ (sI_ (sI_ (sI_ M0 243 3 0) 245 3 0) 0 0 0) 0 35 0) 0 37 0).1 0 35 = 0 := by rw [gI_sI, if_neg (by omega), gI_sI, if_pos ⟨rfl, rfl⟩]
  have k4 : (sI_ (sI_ (sI_ (sI_ (sI_ M0 243 3 0) 245 3 0) 0 0 0) 0 35 0) 0 37 0).1 0 37 = 0 := by rw [gI_sI, if_pos ⟨rfl, rfl⟩]
  have kL : (sI_ (sI_ (sI_ (sI_ (sI_ M0 243 3 0) 245 3 0) 0 0 0) 0 35 0) 0 37 0).2 = M0.2 := rfl
  generalize sI_ (sI_ (sI_ (sI_ (sI_ M0 243 3 0) 245 3 0) 0 0 0) 0 35 0) 0 37 0 = N at *
  obtain ⟨t, g1, g2, g3, ⟨⟨a, b, r1, r2, r3, r4, r5, r6, r7, r8, r9, r10, r11, r12⟩, g4, g5⟩, g6, g7⟩ := g
  have hJ : ∀ j, j < 8 → J j < 9 := fun j hj => (g1.2.2.1.1 j hj).1
  obtain ⟨s1, s2⟩ := JT_same g2 g3 (TC_NK t) (fun m _ => by rw [kL]) (fun j hj a i z1 z2 => by
    have := hJ j hj
    exact ⟨k a i (by omega) (by omega), by rw [kL]⟩) (fun j hj => ⟨fun a i z => by
    unfold jcQ_ at z
    exact k a i (by omega) (by omega), fun i _ _ => by rw [kL]⟩)
  refine ⟨n, c, J, S, TC_s ⟨fun a i z => k a i (by unfold rT_ at z; omega) (by unfold rT_ at z; omega), fun a i _ => by rw [kL]⟩ ⟨fun a i z1 z2 => k a i (by omega) (by omega), fun a i _ _ => by rw [kL], k 35 1 (by omega) (by omega), fun i => k 36 i (by omega) (by omega)⟩ t, SV_cg (by rw [kL]) g1, s1, s2, ⟨⟨0, 0, by omega, by rw [k _ _ (by omega) (by omega)]; exact r2, by rw [k _ _ (by omega) (by omega)]; exact r3, k1, k3, fun i hi => by omega, by omega, by rw [k _ _ (by omega) (by omega)]; exact r8, by rw [k _ _ (by omega) (by omega)]; exact r9, k2, k4, fun i hi => by omega⟩, by rw [k 247 0 (by omega) (by omega), k 0 41 (by omega) (by omega)]; exact g4, by rw [k 247 1 (by omega) (by omega), k 0 40 (by omega) (by omega)]; exact g5⟩, ⟨0, by omega, k2, fun i hi => by omega⟩, by rw [k 247 10 (by omega) (by omega)]; exact g7⟩
/-! method -/
def me_q (r : Int32) (N : mm_) : Prop := ∃ M n c J S, IVc_ n c J S M ∧ MR_ n c S J M r N
theorem uX_method {G : gg_} (hG : gd_ G) {M : mm_} (hB : IV_ M) : cm_ G yX11_method cX11_method 4 (some .int) 1299 [.ref (G.1 34)] M (rI_ me_q) := by
  obtain ⟨n, c, J, S, g⟩ := hB
  refine cm_post (c11_method G hG 392 M n g.1.1 c g.1.2.2.2.1 g.2.1.1 J S g.2.1.2.2.1) (fun v N z => ?_)
  obtain ⟨r, hv, h⟩ := z
  exact ⟨r, hv, M, n, c, J, S, g, h⟩
theorem uR_method {G : gg_} (hG : gd_ G) {M : mm_} {r : Int32} (h : me_q r M) : cm_ G yX12_method cX12_method 5 (some .int) 1299 [.ref (G.1 0)] M (eq_p r) := by
  obtain ⟨M0, n, c, J, S, g, hMR⟩ := h
  have hm := MDc_of g.1 hMR
  refine cm_post (c12_method G hG 1291 M n c ⟨hm.2.1, hm.1.1⟩ hm.2.2.2.1 hm.2.2.2.2.1) (fun v N z => ?_)
  obtain ⟨q, hv, z⟩ := z
  obtain ⟨t, g1, g2, g3, g4, g5, g6⟩ := g
  have hJ : ∀ j, j < 8 → J j < 9 := fun j hj => (g1.2.2.1.1 j hj).1
  obtain ⟨e, c2, t2, q2, j2, b2, tl⟩ := met_st g1.2.2.1.2.1 hJ g1.2.2.2.2 g1.2.2.1 g2 g3 t hMR hm z
  have hc : c ≤ c2 := by
    obtain ⟨m1, m2⟩ := t2.2.2.2.1
    have h9 := t2.2.2.2.2.1
    rcases hm.2.2.2.2.2.2 with ⟨-, a4, -⟩ | ⟨-, a4, -⟩
    · have := (nI_eq (by omega) (by have := a4.1; omega)).mp (m2.symm.trans ((hR_mo z).2.2.1 45 2 (by omega) |>.trans a4.2))
      omega
    · have := (nI_eq (by omega) (by have := a4.1; omega)).mp (m2.symm.trans ((hR_mo z).2.2.1 45 2 (by omega) |>.trans a4.2))
      omega
  have r2 : ∀ a i, ¬ a = 39 → N.2.2 a i = M0.2.2 a i := fun a i ha => by
    rw [(hR_mo z).1]
    obtain ⟨key, A, hRM, hMR⟩ := hMR
    have aR : ∀ a i, a ≠ 39 → A.2.2 a i = M0.2.2 a i := hRM.1.1
    rcases hMR with ⟨-, -, rfl⟩ | ⟨-, -, -, -, rfl⟩ | ⟨-, -, -, -, rfl⟩
    · rw [fi_22]; exact aR a i ha
    · exact aR a i ha
    · rw [jm_2]; exact aR a i ha
  exact ⟨q, hv, ⟨n, c2, J, S, t2, ⟨fun i hi => by rw [r2 47 i (by omega)]; exact g1.1 i hi, fun i hi => by rw [r2 248 i (by omega)]; exact g1.2.1 i hi, q2, g1.2.2.2⟩, j2, b2, TL_cg tl g4, KPc_up hc (KPc_cg tl g5), by rw [tl 247 10 (by unfold tlc_; omega)]; exact g6⟩, e⟩
/-! command -/
def co_q (r : Int32) (N : mm_) : Prop := ∃ M n c J S, IVc_ n c J S M ∧ CR_ n c S J M r N
theorem uX_command {G : gg_} (hG : gd_ G) {M : mm_} (hB : IV_ M) : cm_ G yX11_command cX11_command 3 (some .int) 1299 [.ref (G.1 34)] M (rI_ co_q) := by
  obtain ⟨n, c, J, S, g⟩ := hB
  refine cm_post (c11_command G hG 391 M n g.1.1 c g.1.2.2.2.1 J S g.2.1.2.2.1) (fun v N z => ?_)
  obtain ⟨r, hv, h⟩ := z
  exact ⟨r, hv, M, n, c, J, S, g, h⟩
theorem uR_command {G : gg_} (hG : gd_ G) {M : mm_} {r : Int32} (h : co_q r M) : cm_ G yX12_command cX12_command 16 (some .int) 1299 [.ref (G.1 0)] M (eq_p r) := by
  obtain ⟨M0, n, c, J, S, g, hCR⟩ := h
  obtain ⟨t, g1, g2, g3, g4, g5, g6⟩ := g
  have hX := hX_CR hCR
  have hJ : ∀ j, j < 8 → J j < 9 := fun j hj => (g1.2.2.1.1 j hj).1
  have hS := g1.2.2.1.2.1
  have hJS : ∀ i, i < 8 → J i < 9 ∧ ¬ J i = S := fun i hi => ⟨hJ i hi, g1.2.2.2.1 i hi⟩
  have hTF := TF_of (N := M) t.1 t.2.2.1 (fun i => hX.1 1 i (by omega))
  have hkd : kdE_ J M0 M := fun i hi => by rw [hX.1 12 i (by omega)]; exact g2.1 i hi
  refine cm_post (c12_command G hG 1290 M n _ _ _ ⟨by rw [hX.1 0 2 (by omega)]; exact t.2.1, t.1.1⟩ rfl rfl rfl) (fun v N z => ?_)
  obtain ⟨q, hv, z⟩ := z
  have e := cmd_ans hS hJS g1.2.2.2.2 hTF hkd hCR rfl z
  obtain ⟨J2, S2, s1, s2, s3, s4⟩ := cmd_st hS hJS g1.2.2.2.2 g1.2.2.1 t.2.2.2.1.1 g2 g3 (fun m hm => (t.2.2.2.2.2 m hm).1) hTF hCR rfl z
  obtain ⟨c1, c2⟩ := CR_hi hS hJ hCR
  have tl : tlK_ M0 N := tlK_tr (fun a i y => by
    unfold tlc_ at y
    by_cases q : a < 34
    · exact hX.1 a i q
    · exact c1 a i (by omega)) (cmd_tl z)
  exact ⟨q, hv, ⟨n, c, J2, S2, TC_s (hT_tr (hT_hX hX) (hT_cmd z)) (hC_tr (hC_CR hCR) (hC_hR (hR_cmd z))) t, ⟨fun i hi => by rw [(hR_cmd z).1, c2 47 i (by omega) (by omega) (by omega)]; exact g1.1 i hi, fun i hi => by rw [(hR_cmd z).1, c2 248 i (by omega) (by omega) (by omega)]; exact g1.2.1 i hi, s1, s2⟩, s3, s4, TL_cg tl g4, KPc_cg tl g5, by rw [tl 247 10 (by unfold tlc_; omega)]; exact g6⟩, e⟩
/-! call -/
theorem sp_P {M : mm_} {q3 : Nat} {x y w : Int32} (hq : q3 ≤ 3) : ∀ i, i < 3 → (sp1_ M (nI q3) x y w).1 250 i = if i < q3 then (if i = 0 then x else if i = 1 then y else w) else 0 := by
  have e : ∀ i q, i < 3 → q ≤ 3 → ((nI i < nI q) ↔ i < q) := fun i q h1 h2 => nI_ltI (by omega) (by omega)
  intro i hi
  have e0 := e 0 q3 (by omega) hq
  have e1 := e 1 q3 (by omega) hq
  have e2 := e 2 q3 (by omega) hq
  rw [show nI 0 = (0 : Int32) from rfl] at e0
  rw [show nI 1 = (1 : Int32) from rfl] at e1
  rw [show nI 2 = (2 : Int32) from rfl] at e2
  unfold sp1_
  have hi3 : i = 0 ∨ i = 1 ∨ i = 2 := by omega
  rcases hi3 with rfl | rfl | rfl
  · rw [gI_sI, if_neg (by omega), gI_sI, if_neg (by omega), gI_sI, if_pos ⟨rfl, rfl⟩]
    by_cases q : 0 < q3
    · rw [if_pos (e0.mpr q), if_pos q, if_pos rfl]
    · rw [if_neg (fun z => q (e0.mp z)), if_neg q]
  · rw [gI_sI, if_neg (by omega), gI_sI, if_pos ⟨rfl, rfl⟩]
    by_cases q : 1 < q3
    · rw [if_pos (e1.mpr q), if_pos q, if_neg (by decide), if_pos rfl]
    · rw [if_neg (fun z => q (e1.mp z)), if_neg q]
  · rw [gI_sI, if_pos ⟨rfl, rfl⟩]
    by_cases q : 2 < q3
    · rw [if_pos (e2.mpr q), if_pos q, if_neg (by decide), if_neg (by decide)]
    · rw [if_neg (fun z => q (e2.mp z)), if_neg q]
theorem NK_po {K a : Int64} {p : Int32} (h : NK_ K a p) : ∃ q, q ≤ 3 ∧ p = nI q ∧ poX_ K = nI q := by
  obtain ⟨f, k, z, j, h1, h2, h3, rfl, -, rfl⟩ := h
  have h1 : LE_ f k z < 2 ^ 60 := Nat.lt_of_lt_of_le (LE_lt z h1) (p32_le h2)
  exact ⟨j, by omega, rfl, po_ky h3 (by rw [tbl_ (by omega)]; exact h1)⟩
theorem kf_at {M : mm_} {c m : Nat} (hc : c ≤ 16) (hm : m < c) : kf_ M c (nI m) = M.2.1 46 m := by
  unfold kf_
  rw [if_pos ⟨Int32.not_lt.mp (nI_n0 m (by omega)), nI_lt (by omega) (by omega)⟩, nI_clamp (by omega)]
/-- the class's start of a method with arguments, behind which both are one -/
theorem start_c {G : gg_} (hG : gd_ G) (e : Nat) {n c S m q3 : Nat} {J : Nat → Nat} {E : se_} {s : sgA_} {M : mm_} {x y w z : Int32} {b : Bool} (g : IVc_ n c J S M) (hE : EE_ E s J c M b) (hm : m < c) (e4 : (z = 1 ∧ b = true) ∨ (z = 0 ∧ b = false)) : cm_ G yX4_start cX4_start 3 (some .int) (e + 61) [.ref (G.1 247), .int (nI m), .int z] (sp1_ M (nI q3) x y w) (rI_ (CLQ_ J (sp1_ M (nI q3) x y w) (inA_ E 10 m (fun i => (sp1_ M (nI q3) x y w).1 250 i) s))) := by
  obtain ⟨E1, E2, E3, E4, E5, E6, E7, E8, E9, E10, E11⟩ := hE
  obtain ⟨t, g1, g2, g3, g4, g5, g6⟩ := g
  exact start_X hG e t.2.2.2.1 g1.1 g1.2.1 g1.2.2.1 g1.2.2.2.2 E1 E2 E3 (by rw [E4]; exact e4) E5 E8 E9 g6 hm (fun i _ => rfl)
/-- behind the class's call or replay of method m with arguments x, y, w; b: probes see -/
def ca_q (b : Bool) (n c S : Nat) (J : Nat → Nat) (M : mm_) (m : Nat) (x y w : Int32) (r0 : Int32) (N0 : mm_) : Prop := ∃ E s q3, EE_ E s J c M b ∧ q3 ≤ 3 ∧ M.1 6 m = nI q3 ∧ CLQ_ J (sp1_ M (nI q3) x y w) (inA_ E 10 m (fun i => (sp1_ M (nI q3) x y w).1 250 i) s) r0 N0
theorem start_q {G : gg_} (hG : gd_ G) (e : Nat) {n c S m : Nat} {J : Nat → Nat} {M : mm_} {x y w z : Int32} {b : Bool} (g : IVc_ n c J S M) (hm : m < c) (e4 : (z = 1 ∧ b = true) ∨ (z = 0 ∧ b = false)) : cm_ G yX4_start cX4_start 3 (some .int) (e + 61) [.ref (G.1 247), .int (nI m), .int z] (sp1_ M (poX_ (kf_ M c (nI m))) x y w) (rI_ (ca_q b n c S J M m x y w)) := by
  obtain ⟨E, s, hE⟩ := E_of g.2.2.1 g.1.2.2.2.2.2 g.2.2.2.2.1.1 b
  obtain ⟨q3, h1, h2, h3⟩ := NK_po (g.1.2.2.2.2.2 m hm).1
  rw [kf_at g.1.2.2.2.1.1 hm, h3]
  refine cm_post (start_c hG e g hE hm e4) (fun v N z => ?_)
  obtain ⟨r, hv, z⟩ := z
  exact ⟨r, hv, E, s, q3, hE, h1, h2, z⟩
theorem ca_ctr {G : gg_} (hG : gd_ G) (d : Nat) {n c S m : Nat} {J : Nat → Nat} {M N0 : mm_} {x y w z r0 : Int32} {b : Bool} (g : IVc_ n c J S M) (hm : m < c) (h : ca_q b n c S J M m x y w r0 N0) (e4 : (z = 0 ∧ b = true) ∨ (z = 1 ∧ b = false)) : cm_ G yX12_play cX12_play 6 (some .int) (d + 7) [.ref (G.1 0), .int (nI m), .int x, .int y, .int w, .int z] (sI_ (sL_ N0 262 0 r0.toInt64) 0 0 0) (th_p 0) := by
  obtain ⟨E, s, q3, hE, h1, h2, h3⟩ := h
  have o : ∀ a i, ¬ a = 250 → (sp1_ M (nI q3) x y w).1 a i = M.1 a i := fun a i h => by unfold sp1_; rw [gI_sI, if_neg (by omega), gI_sI, if_neg (by omega), gI_sI, if_neg (by omega)]
  refine cm_post (play_ctr (A0 := sp1_ M (nI q3) x y w) hG d g hE hm rfl o h3 e4 h1 h2 (sp_P h1)) (fun v N z => ?_)
  obtain ⟨q, hv, z⟩ := z
  obtain ⟨f1, f2, f3, f4⟩ := play_fin (A0 := sp1_ M (nI q3) x y w) g hE hm rfl o h3 z
  exact ⟨q, hv, f1, f2, fun _ => by rw [f4, f3]⟩
theorem ca_9 {n c S m : Nat} {J : Nat → Nat} {M N0 : mm_} {x y w r0 : Int32} {b : Bool} (h : ca_q b n c S J M m x y w r0 N0) : ∀ a i, a < 34 → N0.1 a i = M.1 a i := fun a i ha => by
  obtain ⟨E, s, q3, hE, h1, h2, h3⟩ := h
  rw [h3.2.1 a i (Or.inl (by omega))]
  unfold sp1_; rw [gI_sI, if_neg (by omega), gI_sI, if_neg (by omega), gI_sI, if_neg (by omega)]
def cl8_ (m x y w : Int32) (r : Int32) (N : mm_) : Prop := ∃ M n c J S, IVc_ n c J S M ∧ ((r = 1 ∧ N = M ∧ mH_ c m = 0) ∨ (r = 0 ∧ ∃ m2 r0 N0, m2 < c ∧ m = nI m2 ∧ ca_q true n c S J M m2 x y w r0 N0 ∧ N = sL_ N0 262 0 r0.toInt64))
theorem uL_call {G : gg_} (hG : gd_ G) {M : mm_} (hB : IV_ M) (m x y w : Int32) : chx_ G yL_call cL_call 7 [(0, 14, 17, 19)] 1299 [.ref (G.1 34), .int m, .int x, .int y, .int w, .ref (G.1 262)] M (rI_ (cl8_ m x y w)) := by
  obtain ⟨n, c, J, S, g⟩ := hB
  refine chx_post (cLE_call_ G hG 1235 M m x y w c g.1.2.2.2.1 g.2.1.2.1 (fun r0 N0 => ∃ m2, m2 < c ∧ m = nI m2 ∧ ca_q true n c S J M m2 x y w r0 N0) (fun m2 h1 h2 => ?_)) (fun v N h => ?_)
  · refine cm_post (start_q hG 1236 g h1 (Or.inl ⟨rfl, rfl⟩)) (fun v N z => ?_)
    obtain ⟨r, hv, z⟩ := z
    exact ⟨r, hv, m2, h1, h2, z⟩
  · obtain ⟨r, hv, h⟩ := h
    refine ⟨r, hv, M, n, c, J, S, g, ?_⟩
    rcases h with ⟨hr, r0, N0, ⟨-, m2, h1, h2, h3⟩, rfl⟩ | ⟨hr, rfl, -, h0⟩
    · exact Or.inr ⟨hr, m2, r0, N0, h1, h2, h3, rfl⟩
    · exact Or.inl ⟨hr, rfl, h0⟩
theorem mH_n {c m2 : Nat} (hc : c ≤ 16) (hm : m2 < c) : ¬ mH_ c (nI m2) = 0 := by
  unfold mH_
  rw [if_pos ⟨Int32.not_lt.mp (nI_n0 m2 (by omega)), nI_lt (by omega) (by omega)⟩]
  decide
theorem mH_o {c : Nat} {m : Int32} (h : ¬ (m < 0 ∨ nI c ≤ m)) : ¬ mH_ c m = 0 := by
  unfold mH_
  rw [if_pos ⟨Int32.not_lt.mp (fun y => h (Or.inl y)), Int32.not_le.mp (fun y => h (Or.inr y))⟩]
  decide
theorem in_no {c m2 : Nat} (hc : c < 2 ^ 30) (hm : m2 < c) : ¬ (nI m2 < 0 ∨ nI c ≤ nI m2) := fun y => y.elim (fun y => absurd ((nI_ltI (a := m2) (b := 0) (by omega) (by decide)).mp y) (by omega)) (fun y => absurd ((nI_leI (by omega) (by omega)).mp y) (by omega))
theorem uR_call {G : gg_} (hG : gd_ G) {M : mm_} {m x y w r : Int32} (h : cl8_ m x y w r M) (a1 a2 a3 a4 : Int32) (h1 : a1 = m := by rfl) (h2 : a2 = x := by rfl) (h3 : a3 = y := by rfl) (h4 : a4 = w := by rfl) : cm_ G yX12_call cX12_call 5 (some .int) 1299 [.ref (G.1 0), .int a1, .int a2, .int a3, .int a4] M (th_p r) := by
  subst h1 h2 h3 h4
  obtain ⟨M0, n, c, J, S, g, h⟩ := h
  have hc := g.1.2.2.2.1.1
  rcases h with ⟨rfl, rfl, h0⟩ | ⟨rfl, m2, r0, N0, h1, rfl, h3, rfl⟩
  · refine cm_post (c12_callE G hG 1291 M c hc g.1.2.2.2.2.1 a1 a2 a3 a4 (fun _ _ => False) (fun m2 k1 k2 => absurd h0 (by rw [k2]; exact mH_n hc k1))) (fun v N z => ?_)
    obtain ⟨q, hv, z⟩ := z
    rcases z with ⟨-, rfl, rfl⟩ | ⟨k, -⟩
    · exact ⟨0, hv, ⟨n, c, J, S, IVc_0 g⟩, by rw [gI_sI, if_pos ⟨rfl, rfl⟩], fun y => absurd y (by decide)⟩
    · exact absurd h0 (mH_o k)
  · have h9 : (sL_ N0 262 0 r0.toInt64).1 0 9 = nI c := by rw [gI_sL, ca_9 h3 0 9 (by omega)]; exact g.1.2.2.2.2.1
    refine cm_post (c12_callE G hG 1291 _ c hc h9 (nI m2) a2 a3 a4 (fun q N => IV_ N ∧ N.1 0 0 = 0 ∧ ((0 : Int32) = 0 → N.2.1 262 0 = q.toInt64)) (fun m3 k1 k2 => ?_)) (fun v N z => ?_)
    · obtain rfl : m2 = m3 := (nI_eq (by omega) (by omega)).mp k2
      exact ca_ctr hG 1291 g h1 h3 (Or.inl ⟨rfl, rfl⟩)
    · obtain ⟨q, hv, z⟩ := z
      rcases z with ⟨k, -⟩ | ⟨-, z⟩
      · exact absurd k (in_no (by omega) h1)
      · exact ⟨q, hv, z⟩
/-! replay -/
def rp8_ (i : Int32) (r : Int32) (N : mm_) : Prop := ∃ M n c J S z, IVc_ n c J S M ∧ z ≤ 40 ∧ M.1 245 3 = nI z ∧ ((r = 1 ∧ N = M ∧ rH_ M 245 i = 0) ∨ (r = 0 ∧ ∃ i2 m2 r0 N0, i2 < z ∧ i = nI i2 ∧ m2 < c ∧ M.1 246 (7 * i2 + 1) = nI m2 ∧ ca_q false n c S J M m2 (M.1 246 (7 * i2 + 2)) (M.1 246 (7 * i2 + 3)) (M.1 246 (7 * i2 + 4)) r0 N0 ∧ N = sL_ N0 262 0 r0.toInt64))
theorem uL_replay {G : gg_} (hG : gd_ G) {M : mm_} (hB : IV_ M) (i : Int32) : chx_ G yL_replay cL_replay 4 [(0, 9, 12, 19)] 1299 [.ref (G.1 34), .int i, .ref (G.1 262)] M (rI_ (rp8_ i)) := by
  obtain ⟨n, c, J, S, g⟩ := hB
  obtain ⟨z, z1, z2, z3⟩ := g.2.2.2.2.2.1
  obtain ⟨⟨a, b, r1, r2, r3, r4, r5, r6, r7, r8, r9, r10, r11, r12⟩, -, -⟩ := id g.2.2.2.2.1
  refine chx_post (cLE_replay_ G hG 1235 M i c g.1.2.2.2.1 g.2.1.2.1 z z1 r9 z2 (fun r0 N0 => ∃ i2 m2, i2 < z ∧ i = nI i2 ∧ m2 < c ∧ M.1 246 (7 * i2 + 1) = nI m2 ∧ ca_q false n c S J M m2 (M.1 246 (7 * i2 + 2)) (M.1 246 (7 * i2 + 3)) (M.1 246 (7 * i2 + 4)) r0 N0) (fun i2 h1 h2 => ?_)) (fun v N h => ?_)
  · obtain ⟨m2, k1, k2⟩ := z3 i2 h1
    refine ⟨m2, k2, cm_post (start_q hG 1236 g k1 (Or.inr ⟨rfl, rfl⟩)) (fun v N q => ?_)⟩
    obtain ⟨r, hv, q⟩ := q
    exact ⟨r, hv, i2, m2, h1, h2, k1, k2, q⟩
  · obtain ⟨r, hv, h⟩ := h
    refine ⟨r, hv, M, n, c, J, S, z, g, z1, z2, ?_⟩
    rcases h with ⟨hr, r0, N0, ⟨-, i2, m2, h1, h2, h3, h4, h5⟩, rfl⟩ | ⟨hr, rfl, -, h0⟩
    · exact Or.inr ⟨hr, i2, m2, r0, N0, h1, h2, h3, h4, h5, rfl⟩
    · exact Or.inl ⟨hr, rfl, h0⟩
theorem rH_n {M : mm_} {k z i : Nat} (hz : z < 2 ^ 30) (h : M.1 k 3 = nI z) (hi : i < z) : ¬ rH_ M k (nI i) = 0 := by
  unfold rH_
  rw [h, if_pos ⟨nI_le (a := 0) (by omega) (by omega), nI_lt (by omega) (by omega)⟩]
  decide
theorem rH_o {M : mm_} {k z : Nat} {i : Int32} (h : M.1 k 3 = nI z) : ¬ rH_ M k i = 0 ↔ ¬ (i < 0 ∨ nI z ≤ i) := by
  unfold rH_
  rw [h]
  constructor
  · intro y q
    rw [if_neg (fun p => q.elim (fun q => Int32.not_lt.mpr p.1 q) (fun q => Int32.not_le.mpr p.2 q))] at y
    exact y rfl
  · intro y
    rw [if_pos ⟨Int32.not_lt.mp (fun z => y (Or.inl z)), Int32.not_le.mp (fun z => y (Or.inr z))⟩]
    decide
theorem uR_replay {G : gg_} (hG : gd_ G) {M : mm_} {i r : Int32} (h : rp8_ i r M) (a1 : Int32) (h1 : a1 = i := by rfl) : cm_ G yX12_replay cX12_replay 2 (some .int) 1299 [.ref (G.1 0), .int a1] M (th_p r) := by
  subst h1
  obtain ⟨M0, n, c, J, S, z, g, z1, z2, h⟩ := h
  have hc := g.1.2.2.2.1.1
  obtain ⟨⟨a, b, r1, r2, r3, r4, r5, r6, r7, r8, r9, r10, r11, r12⟩, -, -⟩ := id g.2.2.2.2.1
  obtain rfl : z = b := (nI_eq (by omega) (by omega)).mp (z2.symm.trans r10)
  rcases h with ⟨rfl, rfl, h0⟩ | ⟨rfl, i2, m2, r0, N0, k1, rfl, k2, k3, k4, rfl⟩
  · refine cm_post (c12_replayE G hG 1291 M z z1 r11 a1 (fun _ _ => False) (fun i2 k1 k2 => absurd h0 (by rw [k2]; exact rH_n (by omega) z2 k1))) (fun v N q => ?_)
    obtain ⟨q, hv, q1⟩ := q
    rcases q1 with ⟨-, rfl, rfl⟩ | ⟨k, -⟩
    · exact ⟨0, hv, ⟨n, c, J, S, IVc_0 g⟩, by rw [gI_sI, if_pos ⟨rfl, rfl⟩], fun y => absurd y (by decide)⟩
    · exact absurd h0 ((rH_o z2).mpr k)
  · have o := ca_9 k4
    have e22 : ∀ q, q < 7 → (sL_ N0 262 0 r0.toInt64).1 22 (7 * i2 + q) = M0.1 246 (7 * i2 + q) := fun q hq => by
      rw [gI_sL, o 22 _ (by omega)]
      exact (r12 _ (by omega)).symm
    have h37 : (sL_ N0 262 0 r0.toInt64).1 0 37 = nI z := by rw [gI_sL, o 0 37 (by omega)]; exact r11
    refine cm_post (c12_replayE G hG 1291 _ z z1 h37 (nI i2) (fun q N => IV_ N ∧ N.1 0 0 = 0 ∧ ((0 : Int32) = 0 → N.2.1 262 0 = q.toInt64)) (fun i3 j1 j2 => ?_)) (fun v N q => ?_)
    · obtain rfl : i2 = i3 := (nI_eq (by omega) (by omega)).mp j2
      refine ⟨m2, (e22 1 (by omega)).trans k3, ?_⟩
      rw [e22 2 (by omega), e22 3 (by omega), e22 4 (by omega)]
      exact ca_ctr hG 1291 g k2 k4 (Or.inr ⟨rfl, rfl⟩)
    · obtain ⟨q, hv, q1⟩ := q
      rcases q1 with ⟨k, -⟩ | ⟨-, q1⟩
      · exact absurd k (in_no (by omega) k1)
      · exact ⟨q, hv, q1⟩
/-! record, kept -/
def re8_ (k cc : Nat) (W : Int32) (i w : Int32) (r : Int32) (N : mm_) : Prop := IV_ N ∧ ((r = 0 ∧ ¬ rH_ N k i = 0 ∧ 0 ≤ w ∧ w < W ∧ N.2.1 262 0 = (rC_ N k cc i w).toInt64) ∨ (r = 1 ∧ rH_ N k i = 0) ∨ (r = 2 ∧ ¬ rH_ N k i = 0 ∧ (w < 0 ∨ W ≤ w)))
theorem uL_record {G : gg_} (hG : gd_ G) {M : mm_} (hB : IV_ M) (i w : Int32) : chx_ G yL_record cL_record 5 [(0, 10, 13, 19), (0, 10, 17, 13)] 1299 [.ref (G.1 34), .int i, .int w, .ref (G.1 262)] M (rI_ (re8_ 243 1500 5 i w)) := by
  refine chx_post (cL_record_ G hG 1292 M i w) (fun v N h => ?_)
  obtain ⟨r, hv, h⟩ := h
  refine ⟨r, hv, ?_⟩
  rcases h with ⟨hr, r0, N0, ⟨rfl, rfl, h1, h2, h3⟩, rfl⟩ | ⟨hr, rfl, h⟩ | ⟨hr, rfl, h⟩
  · exact ⟨IV_262 hB, Or.inl ⟨hr, h1, h2, h3, by rw [gL_sL, if_pos ⟨rfl, rfl⟩]; rfl⟩⟩
  · rcases h with ⟨-, h⟩ | ⟨h, -⟩
    · exact ⟨hB, Or.inr (Or.inl ⟨hr, h⟩)⟩
    · exact absurd h (by decide)
  · rcases h with ⟨h, -⟩ | ⟨-, h1, h2⟩
    · exact absurd h (by decide)
    · exact ⟨hB, Or.inr (Or.inr ⟨hr, h1, h2⟩)⟩
theorem uL_kept {G : gg_} (hG : gd_ G) {M : mm_} (hB : IV_ M) (i w : Int32) : chx_ G yL_kept cL_kept 5 [(0, 10, 13, 19), (0, 10, 17, 13)] 1299 [.ref (G.1 34), .int i, .int w, .ref (G.1 262)] M (rI_ (re8_ 245 280 7 i w)) := by
  refine chx_post (cL_kept_ G hG 1292 M i w) (fun v N h => ?_)
  obtain ⟨r, hv, h⟩ := h
  refine ⟨r, hv, ?_⟩
  rcases h with ⟨hr, r0, N0, ⟨rfl, rfl, h1, h2, h3⟩, rfl⟩ | ⟨hr, rfl, h⟩ | ⟨hr, rfl, h⟩
  · exact ⟨IV_262 hB, Or.inl ⟨hr, h1, h2, h3, by rw [gL_sL, if_pos ⟨rfl, rfl⟩]; rfl⟩⟩
  · rcases h with ⟨-, h⟩ | ⟨h, -⟩
    · exact ⟨hB, Or.inr (Or.inl ⟨hr, h⟩)⟩
    · exact absurd h (by decide)
  · rcases h with ⟨h, -⟩ | ⟨-, h1, h2⟩
    · exact absurd h (by decide)
    · exact ⟨hB, Or.inr (Or.inr ⟨hr, h1, h2⟩)⟩
/-- thrown, by how many there are -/
theorem kt_T {z : Nat} {i w W : Int32} {N : mm_} {k : Nat} (hz : N.1 k 3 = nI z) (hW : ∀ w : Int32, w < W ↔ w ≤ W - 1) : (rH_ N k i = 0 → kt_ (nI z) i w (W - 1) = 1) ∧ (¬ rH_ N k i = 0 → (w < 0 ∨ W ≤ w) → kt_ (nI z) i w (W - 1) = 2) ∧ (¬ rH_ N k i = 0 → 0 ≤ w → w < W → kt_ (nI z) i w (W - 1) = 0) := by
  unfold kt_
  refine ⟨fun h => ?_, fun h h2 => ?_, fun h h2 h3 => ?_⟩
  · rw [if_pos (Decidable.not_not.mp (fun y => absurd h ((rH_o hz).mpr (fun q => y (q.elim Or.inl (fun q => Or.inr (Int32.not_lt.mpr q)))))))]
  · have := (rH_o hz).mp h
    rw [if_neg (fun y => this (y.elim Or.inl (fun q => Or.inr (Int32.not_lt.mp q)))), if_pos (h2.elim Or.inl (fun q => Or.inr (fun p => Int32.not_lt.mpr q ((hW w).mpr p))))]
  · have := (rH_o hz).mp h
    rw [if_neg (fun y => this (y.elim Or.inl (fun q => Or.inr (Int32.not_lt.mp q)))), if_neg (fun y => y.elim (Int32.not_lt.mpr h2) (fun q => q ((hW w).mp h3)))]
theorem lt5_ (w : Int32) : w < 5 ↔ w ≤ 4 := by rw [Int32.lt_iff_toInt_lt, Int32.le_iff_toInt_le]; show w.toInt < 5 ↔ w.toInt ≤ 4; omega
theorem lt7_ (w : Int32) : w < 7 ↔ w ≤ 6 := by rw [Int32.lt_iff_toInt_lt, Int32.le_iff_toInt_le]; show w.toInt < 7 ↔ w.toInt ≤ 6; omega
theorem rC_w {N : mm_} {k W i w : Nat} {cc : Nat} (h1 : N.1 k 1 = nI W) (hi : i * W + w < cc) (hc : cc < 2 ^ 30) : rC_ N k cc (nI i) (nI w) = N.1 (k + 1) (i * W + w) := by
  have e : nI i * N.1 k 1 + nI w = nI (i * W + w) := by rw [h1, pk_mul, nI_add]
  unfold rC_
  rw [e, if_pos ⟨nI_le (a := 0) (by omega) (by omega), nI_lt (by omega) (by omega)⟩, nI_clamp (by omega)]
theorem uR_record {G : gg_} (hG : gd_ G) {M : mm_} {i w r : Int32} (h : re8_ 243 1500 5 i w r M) (a1 a2 : Int32) (h1 : a1 = i := by rfl) (h2 : a2 = w := by rfl) : cm_ G yX12_record_ cX12_record_ 3 (some .int) 1299 [.ref (G.1 0), .int a1, .int a2] M (th_p r) := by
  subst h1 h2
  obtain ⟨hI, h⟩ := h
  obtain ⟨n, c, J, S, g⟩ := id hI
  obtain ⟨⟨a, b, r1, r2, r3, r4, r5, r6, r7, r8, r9, r10, r11, r12⟩, -, -⟩ := id g.2.2.2.2.1
  obtain ⟨k1, k2, k3⟩ := kt_T (w := a2) (i := a1) (W := 5) r4 lt5_
  rw [show (5 : Int32) - 1 = 4 from rfl] at k1 k2 k3
  refine cm_post (c12_record_ G hG 1299 M a r5 r1 a1 a2) (th_fI (IV_0 hI) ?_ (fun e => ?_))
  · rw [gI_sI, if_pos ⟨rfl, rfl⟩]
    rcases h with ⟨rfl, y1, y2, y3, -⟩ | ⟨rfl, y1⟩ | ⟨rfl, y1, y2⟩
    · exact k3 y1 y2 y3
    · exact k1 y1
    · exact k2 y1 y2
  · rcases h with ⟨rfl, y1, y2, y3, y4⟩ | ⟨rfl, y1⟩ | ⟨rfl, y1, y2⟩
    · rw [k3 y1 y2 y3, if_neg (by decide), gL_sI, y4]
      obtain ⟨i2, i3, rfl⟩ := rH_in r4 (by omega) y1
      obtain ⟨w2, w3, rfl⟩ := ix_ (n := 5) (by decide) (Int32.not_lt.mpr y2) (Int32.not_le.mpr y3)
      rw [rC_w (W := 5) r3 (by omega) (by decide), r6 _ (by omega), show (5 : Int32) * nI i2 + nI w2 = nI (i2 * 5 + w2) by rw [show (5 : Int32) = nI 5 from rfl, pk_mul, nI_add, Nat.mul_comm], nI_clamp (by omega)]
    · exact absurd e (by decide)
    · exact absurd e (by decide)
theorem uR_kept {G : gg_} (hG : gd_ G) {M : mm_} {i w r : Int32} (h : re8_ 245 280 7 i w r M) (a1 a2 : Int32) (h1 : a1 = i := by rfl) (h2 : a2 = w := by rfl) : cm_ G yX12_kept cX12_kept 3 (some .int) 1299 [.ref (G.1 0), .int a1, .int a2] M (th_p r) := by
  subst h1 h2
  obtain ⟨hI, h⟩ := h
  obtain ⟨n, c, J, S, g⟩ := id hI
  obtain ⟨⟨a, b, r1, r2, r3, r4, r5, r6, r7, r8, r9, r10, r11, r12⟩, -, -⟩ := id g.2.2.2.2.1
  obtain ⟨k1, k2, k3⟩ := kt_T (w := a2) (i := a1) (W := 7) r10 lt7_
  rw [show (7 : Int32) - 1 = 6 from rfl] at k1 k2 k3
  refine cm_post (c12_kept G hG 1299 M b r11 r7 a1 a2) (th_fI (IV_0 hI) ?_ (fun e => ?_))
  · rw [gI_sI, if_pos ⟨rfl, rfl⟩]
    rcases h with ⟨rfl, y1, y2, y3, -⟩ | ⟨rfl, y1⟩ | ⟨rfl, y1, y2⟩
    · exact k3 y1 y2 y3
    · exact k1 y1
    · exact k2 y1 y2
  · rcases h with ⟨rfl, y1, y2, y3, y4⟩ | ⟨rfl, y1⟩ | ⟨rfl, y1, y2⟩
    · rw [k3 y1 y2 y3, if_neg (by decide), gL_sI, y4]
      obtain ⟨i2, i3, rfl⟩ := rH_in r10 (by omega) y1
      obtain ⟨w2, w3, rfl⟩ := ix_ (n := 7) (by decide) (Int32.not_lt.mpr y2) (Int32.not_le.mpr y3)
      rw [rC_w (W := 7) r9 (by omega) (by decide), r12 _ (by omega), show (7 : Int32) * nI i2 + nI w2 = nI (i2 * 7 + w2) by rw [show (7 : Int32) = nI 7 from rfl, pk_mul, nI_add, Nat.mul_comm], nI_clamp (by omega)]
    · exact absurd e (by decide)
    · exact absurd e (by decide)
/-! job -/
def jo8_ (j w : Int32) (r : Int32) (N : mm_) : Prop := ∃ n c J S, IVc_ n c J S N ∧ ((r = 0 ∧ ∃ i, i < 8 ∧ j = nI i ∧ 0 ≤ w ∧ w ≤ 1 ∧ N.2.1 262 0 = (if w = 0 then N.1 (135 + 12 * J i) 0 else lft_ N (135 + 12 * J i)).toInt64) ∨ (r = 1 ∧ (j < 0 ∨ 8 ≤ j)) ∨ (r = 2 ∧ ¬ (j < 0 ∨ 8 ≤ j) ∧ (w < 0 ∨ 1 < w)))
theorem uL_job {G : gg_} (hG : gd_ G) {M : mm_} (hB : IV_ M) (j w : Int32) : chx_ G yL_job cL_job 5 [(0, 10, 13, 19), (0, 10, 17, 13)] 1299 [.ref (G.1 34), .int j, .int w, .ref (G.1 262)] M (rI_ (jo8_ j w)) := by
  obtain ⟨n, c, J, S, g⟩ := hB
  refine chx_post (cL_job_ G hG 1292 M J S g.2.1.2.2.1 j w) (fun v N h => ?_)
  obtain ⟨r, hv, h⟩ := h
  refine ⟨r, hv, n, c, J, S, ?_⟩
  rcases h with ⟨hr, r0, N0, ⟨rfl, i, h1, h2, h3, h4, h5⟩, rfl⟩ | ⟨hr, rfl, h⟩ | ⟨hr, rfl, h⟩
  · refine ⟨IVc_262 g, Or.inl ⟨hr, i, h1, h2, h3, h4, ?_⟩⟩
    rw [gL_sL, if_pos ⟨rfl, rfl⟩, h5]
    rfl
  · rcases h with ⟨-, h⟩ | ⟨h, -⟩
    · exact ⟨g, Or.inr (Or.inl ⟨hr, h⟩)⟩
    · exact absurd h (by decide)
  · rcases h with ⟨h, -⟩ | ⟨-, h1, h2⟩
    · exact absurd h (by decide)
    · exact ⟨g, Or.inr (Or.inr ⟨hr, h1, h2⟩)⟩
theorem uR_job {G : gg_} (hG : gd_ G) {M : mm_} {j w r : Int32} (h : jo8_ j w r M) (a1 a2 : Int32) (h1 : a1 = j := by rfl) (h2 : a2 = w := by rfl) : cm_ G yX12_job cX12_job 3 (some .int) 1299 [.ref (G.1 0), .int a1, .int a2] M (th_p r) := by
  subst h1 h2
  obtain ⟨n, c, J, S, g, h⟩ := h
  have k0 : ∀ i, i < 8 → a1 = nI i → 0 ≤ a2 → a2 ≤ 1 → jt_ a1 a2 = 0 := fun i h1 h2 h3 h4 => by
    unfold jt_
    rw [if_neg (fun y => y.elim (fun y => absurd y (by rw [h2]; exact nI_n0 i (by omega))) (fun y => y (by rw [h2]; exact nI_lt (a := i) (b := 8) h1 (by decide)))), if_neg (fun y => y.elim (Int32.not_lt.mpr h3) (fun y => y h4))]
  refine cm_post (c12_job G hG 1299 M a1 a2) (th_fI ⟨n, c, J, S, IVc_0 g⟩ ?_ (fun e => ?_))
  · rw [gI_sI, if_pos ⟨rfl, rfl⟩]
    rcases h with ⟨rfl, i, y1, y2, y3, y4, -⟩ | ⟨rfl, y1⟩ | ⟨rfl, y1, y2⟩
    · exact k0 i y1 y2 y3 y4
    · unfold jt_; rw [if_pos (y1.elim Or.inl (fun y => Or.inr (Int32.not_lt.mpr y)))]
    · unfold jt_; rw [if_neg (fun y => y1 (y.elim Or.inl (fun y => Or.inr (Int32.not_lt.mp y)))), if_pos (y2.elim Or.inl (fun y => Or.inr (Int32.not_le.mpr y)))]
  · rcases h with ⟨rfl, i, y1, y2, y3, y4, y5⟩ | ⟨rfl, y1⟩ | ⟨rfl, y1, y2⟩
    · rw [k0 i y1 y2 y3 y4, if_neg (by decide), gL_sI, y5, y2, nI_clamp (by omega)]
      have kd := (g.2.2.1.1 i y1).1
      by_cases q : a2 = 0
      · rw [if_pos q, if_pos q, kd]
      · rw [if_neg q, if_neg q]
        unfold lft_
        rw [kd]
        by_cases q1 : M.1 12 i = 1
        · rw [if_pos q1, if_pos q1]
          obtain ⟨z, -, -, -, -, -, k6, -⟩ := g.2.2.1.2 i y1 (by rw [q1]; decide)
          obtain ⟨w1, w2, w3, -⟩ := k6 q1
          rw [w2, w3]
        · rw [if_neg q1, if_neg q1]
    · exact absurd e (by decide)
    · exact absurd e (by decide)
/-! counted -/
def cn8_ (j m w : Int32) (r : Int32) (N : mm_) : Prop := ∃ n c J S, IVc_ n c J S N ∧ ((r = 0 ∧ ∃ i m2 w2, i < 8 ∧ j = nI i ∧ m2 < c ∧ m = nI m2 ∧ w2 < 3 ∧ w = nI w2 ∧ N.1 (135 + 12 * J i) 0 = 2 ∧ N.2.1 262 0 = (N.1 (135 + 12 * J i + 11) (m2 * 3 + w2)).toInt64) ∨ (r = 1 ∧ ¬ cnB_ J c N j m) ∨ (r = 2 ∧ cnB_ J c N j m ∧ (w < 0 ∨ 3 ≤ w)))
theorem uL_counted {G : gg_} (hG : gd_ G) {M : mm_} (hB : IV_ M) (j m w : Int32) : chx_ G yL_counted cL_counted 6 [(0, 12, 15, 19), (0, 12, 19, 13)] 1299 [.ref (G.1 34), .int j, .int m, .int w, .ref (G.1 262)] M (rI_ (cn8_ j m w)) := by
  obtain ⟨n, c, J, S, g⟩ := hB
  refine chx_post (cLE_counted_ G hG 1292 M j m w J S g.2.1.2.2.1 c g.1.2.2.2.1) (fun v N h => ?_)
  obtain ⟨r, hv, h⟩ := h
  refine ⟨r, hv, n, c, J, S, ?_⟩
  rcases h with ⟨hr, r0, N0, ⟨rfl, i, m2, w2, h1, h2, h3, h4, h5, h6, h7, h8⟩, rfl⟩ | ⟨hr, rfl, h⟩ | ⟨hr, rfl, h⟩
  · refine ⟨IVc_262 g, Or.inl ⟨hr, i, m2, w2, h1, h2, h3, h4, h5, h6, h7, ?_⟩⟩
    rw [gL_sL, if_pos ⟨rfl, rfl⟩, h8]
    rfl
  · rcases h with ⟨-, h⟩ | ⟨h, -⟩
    · exact ⟨g, Or.inr (Or.inl ⟨hr, h⟩)⟩
    · exact absurd h (by decide)
  · rcases h with ⟨h, -⟩ | ⟨-, h1, h2⟩
    · exact absurd h (by decide)
    · exact ⟨g, Or.inr (Or.inr ⟨hr, h1, h2⟩)⟩
theorem lt3_ (w : Int32) : w < 3 ↔ w ≤ 2 := by rw [Int32.lt_iff_toInt_lt, Int32.le_iff_toInt_le]; show w.toInt < 3 ↔ w.toInt ≤ 2; omega
theorem uR_counted {G : gg_} (hG : gd_ G) {M : mm_} {j m w r : Int32} (h : cn8_ j m w r M) (a1 a2 a3 : Int32) (h1 : a1 = j := by rfl) (h2 : a2 = m := by rfl) (h3 : a3 = w := by rfl) : cm_ G yX12_counted cX12_counted 5 (some .int) 1299 [.ref (G.1 0), .int a1, .int a2, .int a3] M (th_p r) := by
  subst h1 h2 h3
  obtain ⟨n, c, J, S, g, h⟩ := h
  have hc := g.1.2.2.2.1.1
  have kd : ∀ i, i < 8 → M.1 (135 + 12 * J i) 0 = M.1 12 i := fun i hi => (g.2.2.1.1 i hi).1
  -- which jobs and methods there are
  have inB : ∀ i m2, i < 8 → a1 = nI i → m2 < c → a2 = nI m2 → M.1 (135 + 12 * J i) 0 = 2 → ¬ ((a1 < 0 ∨ 8 ≤ a1 ∨ a2 < 0 ∨ nI c ≤ a2) ∨ ¬ M.1 12 a1.toNatClampNeg = 2) := fun i m2 y1 y2 y3 y4 y5 y => by
    have e1 := in_no (c := 8) (by decide) y1
    have e2 := in_no (c := c) (by omega) y3
    rw [y2, y4, nI_clamp (by omega), ← kd i y1] at y
    rcases y with (y | y | y | y) | y
    · exact e1 (Or.inl y)
    · exact e1 (Or.inr y)
    · exact e2 (Or.inl y)
    · exact e2 (Or.inr y)
    · exact y y5
  have ofB : ¬ ((a1 < 0 ∨ 8 ≤ a1 ∨ a2 < 0 ∨ nI c ≤ a2) ∨ ¬ M.1 12 a1.toNatClampNeg = 2) → cnB_ J c M a1 a2 := fun y => by
    obtain ⟨i, y1, y2⟩ := ix_ (n := 8) (x := a1) (by decide) (fun q => y (Or.inl (Or.inl q))) (fun q => y (Or.inl (Or.inr (Or.inl q))))
    obtain ⟨m2, y3, y4⟩ := ix_ (n := c) (x := a2) (by omega) (fun q => y (Or.inl (Or.inr (Or.inr (Or.inl q))))) (fun q => y (Or.inl (Or.inr (Or.inr (Or.inr q)))))
    refine ⟨i, m2, y1, y2, y3, y4, ?_⟩
    rw [kd i y1]
    have := Decidable.not_not.mp (fun q => y (Or.inr q))
    rw [y2, nI_clamp (by omega)] at this
    exact this
  refine cm_post (c12_counted G hG 1299 M c g.1.2.2.2.2.1 hc a1 a2 a3) (th_fI ⟨n, c, J, S, IVc_0 g⟩ ?_ (fun e => ?_))
  · rw [gI_sI, if_pos ⟨rfl, rfl⟩]
    unfold ct_
    rcases h with ⟨rfl, i, m2, w2, y1, y2, y3, y4, y5, y6, y7, -⟩ | ⟨rfl, y1⟩ | ⟨rfl, ⟨i, m2, y1, y2, y3, y4, y5⟩, y6⟩
    · rw [if_neg (inB i m2 y1 y2 y3 y4 y7), if_neg]
      rw [y6]
      intro q
      have e1 := in_no (c := 3) (by decide) y5
      exact q.elim (fun q => e1 (Or.inl q)) (fun q => q ((lt3_ _).mp (nI_lt (a := w2) (b := 3) y5 (by decide))))
    · rw [if_pos (Decidable.not_not.mp (fun q => y1 (ofB q)))]
    · rw [if_neg (inB i m2 y1 y2 y3 y4 y5), if_pos (y6.elim Or.inl (fun q => Or.inr (fun p => Int32.not_lt.mpr q ((lt3_ _).mpr p))))]
  · rcases h with ⟨rfl, i, m2, w2, y1, y2, y3, y4, y5, y6, y7, y8⟩ | ⟨rfl, y1⟩ | ⟨rfl, y1, y2⟩
    · have e0 : ct_ (nI c) a1 a2 a3 (M.1 12 a1.toNatClampNeg) = 0 := by
        unfold ct_
        rw [if_neg (inB i m2 y1 y2 y3 y4 y7), if_neg]
        rw [y6]
        intro q
        have e1 := in_no (c := 3) (by decide) y5
        exact q.elim (fun q => e1 (Or.inl q)) (fun q => q ((lt3_ _).mp (nI_lt (a := w2) (b := 3) y5 (by decide))))
      have k2 : M.1 12 i = 2 := (kd i y1).symm.trans y7
      obtain ⟨z, -, -, -, -, -, -, k7⟩ := g.2.2.1.2 i y1 (by rw [k2]; decide)
      rw [e0, if_neg (by decide), gL_sI, y8, k7 k2 _ (by omega), y2, y4, y6, show (48 : Int32) * nI i + 3 * nI m2 + nI w2 = nI (48 * i + (m2 * 3 + w2)) by rw [show (48 : Int32) = nI 48 from rfl, show (3 : Int32) = nI 3 from rfl, pk_mul, pk_mul, nI_add, nI_add, Nat.mul_comm 3 m2, Nat.add_assoc], nI_clamp (by omega)]
    · exact absurd e (by decide)
    · exact absurd e (by decide)
/-! feed -/
def fd8_ (w : Int32) (x : Int64) (r : Int32) (N : mm_) : Prop := (∃ M0 n c J S k, w = nI k ∧ 1 ≤ k ∧ k ≤ 8 ∧ n + k ≤ 200 ∧ IVc_ n c J S M0 ∧ N = sL_ (apX_ M0 x n k) 262 0 (nI (n + k)).toInt64 ∧ r = 0) ∨ (∃ n k, w = nI k ∧ 1 ≤ k ∧ k ≤ 8 ∧ 200 < n + k ∧ n ≤ 200 ∧ N.1 0 2 = nI n ∧ IV_ N ∧ r = 0 ∧ N.2.1 262 0 = (-1 : Int32).toInt64) ∨ ((w < 1 ∨ 8 < w) ∧ IV_ N ∧ r = 1)
theorem uL_feed {G : gg_} (hG : gd_ G) {M : mm_} (hB : IV_ M) (w : Int32) (x : Int64) : chx_ G yL_feed cL_feed 6 [(0, 11, 14, 13)] 1299 [.ref (G.1 34), .int w, .long x, .ref (G.1 262)] M (rI_ (fd8_ w x)) := by
  obtain ⟨n, c, J, S, g⟩ := id hB
  refine chx_post (cL_feed_ G hG 1292 M n g.1.1 w x) (fun v N h => ?_)
  obtain ⟨r, hv, h⟩ := h
  refine ⟨r, hv, ?_⟩
  rcases h with ⟨hr, r0, N0, ⟨k, k1, k2, k3, h0⟩, rfl⟩ | ⟨hr, rfl, h0⟩
  · rcases h0 with ⟨f1, rfl, rfl⟩ | ⟨f1, rfl, rfl⟩
    · exact Or.inr (Or.inl ⟨n, k, k1, k2, k3, f1, g.1.1.1, g.1.2.1, IV_262 hB, hr, by rw [gL_sL, if_pos ⟨rfl, rfl⟩]⟩)
    · exact Or.inl ⟨M, n, c, J, S, k, k1, k2, k3, f1, g, rfl, hr⟩
  · exact Or.inr (Or.inr ⟨h0.2, hB, hr⟩)
theorem fd_00 {M : mm_} {x : Int64} {z : Nat} : ∀ j : Nat, (fd_ M x z j).1 0 0 = M.1 0 0
  | 0 => rfl
  | j + 1 => by rw [fd_, gI_sI, if_neg (by omega), gI_sI, if_neg (by omega), fd_00 j]
theorem uR_feed {G : gg_} (hG : gd_ G) {M : mm_} {w r : Int32} {x : Int64} (h : fd8_ w x r M) : cm_ G yX12_feed cX12_feed 5 (some .int) 1299 [.ref (G.1 0), .int w, .long x] M (th_p r) := by
  rcases h with ⟨M0, n, c, J, S, k, rfl, k2, k3, k4, g, rfl, rfl⟩ | ⟨n, k, rfl, k2, k3, k4, k5, k6, h, rfl, ho⟩ | ⟨h0, h, rfl⟩
  · have e2 : (sL_ (apX_ M0 x n k) 262 0 (nI (n + k)).toInt64).1 0 2 = nI n := by rw [gI_sL, ap_o k 0 2 (by omega) (by omega)]; exact g.1.2.1
    refine cm_post (c12_feed_ok G hG 1299 _ n k x e2 ⟨k2, k3⟩ k4) (th_fI ⟨n + k, c, J, S, TC_fd k3 k4 g.1, IVr_cg g.1 (fun a i z1 z2 z3 => ?_) (fun i z => ?_) (fun a i z => ?_) ?_ g.2⟩ ?_ (fun _ => ?_))
    · rw [fd_o k a i (by omega) (by omega), gI_sI, if_neg (by omega), gI_sL, ap_o k a i (by omega) (by omega)]
    · rw [fd_o k 0 i (by omega) (by omega), gI_sI, if_neg (by omega), gI_sL, ap_o k 0 i (by omega) (by omega)]
    · rw [fd_R9, gL_sI, gL_sL, if_neg (by omega), ap_2]
    · rw [fd_R9]
      show (apX_ M0 x n k).2.2 = M0.2.2
      rw [ap_2]
    · rw [fd_00, gI_sI, if_pos ⟨rfl, rfl⟩]
    · rw [fd_R9, gL_sI, gL_sL, if_pos ⟨rfl, rfl⟩]
  · exact cm_post (c12_feed_full G hG 1299 M n k x k6 ⟨k2, k3⟩ k4 k5) (th_fI (IV_0 h) (by rw [gI_sI, if_pos ⟨rfl, rfl⟩]) (fun _ => ho))
  · exact cm_post (c12_feed_bad G hG 1299 M w x h0) (th_fI (IV_0 h) (by rw [gI_sI, if_pos ⟨rfl, rfl⟩]) (fun q => absurd q (by decide)))
/-! the start -/
set_option maxRecDepth 100000 in
theorem m1_x : M1_.1 243 0 = 300 ∧ M1_.1 243 1 = 5 ∧ M1_.1 243 3 = nI 0 ∧ M1_.1 247 0 = 0 ∧ M1_.1 0 41 = 0 ∧ M1_.1 247 1 = 0 ∧ M1_.1 0 40 = 0 := by decide +kernel
theorem MQ_0 {M : mm_} : MQ_ 0 M := fun m hm => by omega
theorem IV_of {M : mm_} (hmb : mb2_ M) (hvq : vq_ M) (hjq : ∀ i, i < 8 → i < 9 ∧ M.2.2 134 i = some (135 + 12 * i)) (hsp : M.2.2 133 1 = some (135 + 12 * 8)) (zk : ∀ i, i < 8 → M.1 (135 + 12 * i) 0 = 0) (h18 : ∀ i, i < 8 → M.1 18 i = nI 0 ∧ M.1 12 i = 0) (hn : M.1 35 1 = nI 0 ∧ M.1 0 2 = nI 0 ∧ M.1 45 2 = nI 0 ∧ M.1 245 0 = 40 ∧ M.1 245 1 = 7 ∧ M.1 245 3 = nI 0 ∧ M.1 247 10 = 0 ∧ M.1 0 9 = nI 0 ∧ M.1 0 35 = nI 0 ∧ M.1 0 37 = nI 0) (hx : M.1 243 0 = 300 ∧ M.1 243 1 = 5 ∧ M.1 243 3 = nI 0 ∧ M.1 247 0 = 0 ∧ M.1 0 41 = 0 ∧ M.1 247 1 = 0 ∧ M.1 0 40 = 0) : IV_ M := by
  obtain ⟨a1, a2, a3, a4, a5, a6, a7, a8, a9, a10⟩ := hn
  obtain ⟨b1, b2, b3, b4, b5, b6, b7⟩ := hx
  have z12 : ∀ j, j < 8 → M.1 12 j = 0 := fun j hj => (h18 j hj).2
  refine ⟨0, 0, fun i => i, 8, ⟨⟨by omega, a1⟩, a2, fun k hk => by omega, ⟨by omega, a3⟩, a8, MQ_0⟩, ⟨hmb, hvq, ⟨hjq, by omega, hsp⟩, fun i hi => by show ¬ i = 8; omega, fun i j _ _ e => e⟩, ⟨fun j hj => ⟨?_, Or.inl (z12 j hj)⟩, fun j hj h0 => absurd (z12 j hj) h0⟩, fun j hj h0 => absurd (z12 j hj) h0, ⟨⟨0, 0, by omega, b1, b2, b3, a9, fun i hi => by omega, by omega, a4, a5, a6, a10, fun i hi => by omega⟩, b4.trans b5.symm, b6.trans b7.symm⟩, ⟨0, by omega, a6, fun i hi => by omega⟩, Or.inl a7⟩
  show M.1 (135 + 12 * j) 0 = M.1 12 j
  rw [zk j hj, z12 j hj]
theorem IV_1 : IV_ M1_ := IV_of m1_mb m1_vq m1_jq m1_sp m1_jk m1_18 m1_n m1_x
/-! thrown -/
set_option maxRecDepth 100000 in
theorem c12_thrown (G : gg_) (hG : gd_ G) (d : Nat) (M : mm_) : cm_ G yX12_thrown cX12_thrown 1 (some .int) (d) [.ref (G.1 0)] M (fI_ (M.1 0 0) M) := by
  refine cm_of hG (by decide) (Nat.le_of_ble_eq_true rfl) (fun C X => ?_)
  refine w_aload_n X dX12_thrown_0 rfl rfl ?_
  refine g12_thrown X dX12_thrown_1 ?_
  exact w_irF X dX12_thrown_4 rfl rfl
theorem lgc_ (x : Int64) : lg_cmp x x = 0 := by
  unfold lg_cmp
  simp

end
