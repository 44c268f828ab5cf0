def vx_L (C n d : String) (A : Nat → Prop) (U : State) (H : Heap) : Prop := ∃ (c : ClassId) (k : Class) (i : Nat) (f : Field) (a : Nat) (cell : Cell), U.vm.findClass C = some c ∧ U.fieldFound? C n d = some (c, k, i, f) ∧ f.isStatic = true ∧ k.statics = some a ∧ H[a]? = some cell ∧ cell.vm.isStatics = true ∧ cell.cls = c ∧ f.slot < cell.slots.size ∧ k.staticTypes[f.slot]? = some f.type ∧ ¬ A a
theorem vx_L.moved {C n d : String} {A : Nat → Prop} {u U : State} {H : Heap} (hvm : u.vm.Alike U.vm) (h : vx_L C n d A u H) : vx_L C n d A U H := by
  obtain ⟨c, k, i, f, a, cell, h1, h2, h3, h4, h5, h6, h7, h8, h9, h10⟩ := h
  obtain ⟨k', hi', he⟩ := State.fieldFound?_setVm hvm h2
  exact ⟨c, k', i, f, a, cell, by rw [hvm.findClass]; exact h1, hi', h3, by rw [he]; exact h4, h5, h6, h7, h8, by rw [he]; exact h9, h10⟩
theorem vx_L.kept {C n d : String} {A : Nat → Prop} {U : State} {H H1 : Heap} (h : vx_L C n d A U H) (hq : ∀ a : Nat, a < H.size → ¬ A a → H1[a]? = H[a]?) : vx_L C n d A U H1 := by
  obtain ⟨c, k, i, f, a, cell, h1, h2, h3, h4, h5, h6, h7, h8, h9, h10⟩ := h
  exact ⟨c, k, i, f, a, cell, h1, h2, h3, h4, by rw [hq a (Array.getElem?_eq_some_iff.mp h5).1 h10]; exact h5, h6, h7, h8, h9, h10⟩
theorem vx_L.narrow {C n d : String} {A B : Nat → Prop} {U : State} {H : Heap} (h : vx_L C n d A U H) (hAB : ∀ q, B q → A q) : vx_L C n d B U H := by
  obtain ⟨c, k, i, f, a, cell, h1, h2, h3, h4, h5, h6, h7, h8, h9, h10⟩ := h
  exact ⟨c, k, i, f, a, cell, h1, h2, h3, h4, h5, h6, h7, h8, h9, fun z => h10 (hAB _ z)⟩
theorem vx_L.word {C n d : String} {A : Nat → Prop} {s : State} {args : Array Value} (h : vx_L C n d A s s.heap) : (Cond.laysStatic C n d).before args s = true := by
  obtain ⟨c, k, i, f, a, cell, h1, h2, h3, h4, h5, h6, h7, h8, h9, -⟩ := h
  show (Cond.laysStatic C n d).holds args s none s [] = true
  exact Cond.laysStatic_of h1 h2 h3 h4 h5 h6 h7 h8 h9
/-- .. and what it holds: null or some reference -/
def vx_Zq (C n d : String) (A : Nat → Prop) (U : State) (H : Heap) : Prop := va_Zq C n d A U H ∧ vx_L C n d A U H
theorem vx_Zq.moved {C n d : String} {A : Nat → Prop} {u U : State} {H : Heap} (hvm : u.vm.Alike U.vm) (h : vx_Zq C n d A u H) : vx_Zq C n d A U H := ⟨va_Zq.moved hvm h.1, vx_L.moved hvm h.2⟩
theorem vx_Zq.kept {C n d : String} {A : Nat → Prop} {U : State} {H H1 : Heap} (h : vx_Zq C n d A U H) (hq : ∀ a : Nat, a < H.size → ¬ A a → H1[a]? = H[a]?) : vx_Zq C n d A U H1 := ⟨va_Zq.kept h.1 hq, vx_L.kept h.2 hq⟩
theorem vx_Zq.narrow {C n d : String} {A B : Nat → Prop} {U : State} {H : Heap} (h : vx_Zq C n d A U H) (hAB : ∀ q, B q → A q) : vx_Zq C n d B U H := ⟨va_Zq.narrow h.1 hAB, vx_L.narrow h.2 hAB⟩
theorem vx_Zqof {args : Array Value} {s : State} {C n d : String} {A : Nat → Prop} (hl : (Cond.laysStatic C n d).before args s = true) (hini : (Cond.initialized C).before args s = true) (h : (Cond.isRef (.static C n d)).before args s = true) (hA : ∀ a : Nat, a < s.heap.size → ¬ A a) : vx_Zq C n d A s s.heap := by
  refine ⟨va_Zqof hl hini h hA, ?_⟩
  obtain ⟨c, k, i, f, a, cell, h1, h2, h3, h4, h5, h6, h7, h8, h9⟩ := Cond.laysStatic_spec hl
  exact ⟨c, k, i, f, a, cell, h1, h2, h3, h4, h5, h6, h7, h8, h9, hA a (Array.getElem?_eq_some_iff.mp h5).1⟩

def aoX_ (U : State) : Prop := va_AO RX0 U ∧ va_AO RX2 U ∧ (Cond.arrayOver (.array .int)).before #[] U = true
theorem aoa_moved {t : FieldType} {u U : State} (hvm : u.vm.Alike U.vm) (h : (Cond.arrayOver (.array t)).before #[] u = true) : (Cond.arrayOver (.array t)).before #[] U = true := by
  obtain ⟨comp, c, k, h1, h2, h3, h4, h5⟩ := arrayOverA_spec h
  obtain ⟨k', hk', he⟩ := hvm.2.2 _ _ h3
  have hb9 : U.vm.bare = u.vm.bare := hvm.bare_eq
  have hi0 := (va_idx_bare u.vm comp).trans h2
  rw [← hb9] at hi0
  have hi := (va_idx_bare U.vm comp).symm.trans hi0
  have hkind : k'.kind = .array comp (.array t) := by rw [he]; exact h4
  have f1 : U.vm.findClass (FieldType.array t).toString = some comp := by rw [hvm.findClass]; exact h1
  have f2 : U.vm.findClass ("[" ++ (FieldType.array t).toString) = some c := by rw [hvm.findClass]; exact h5
  unfold Cond.before Cond.holds
  simp only [Cond.value]
  rw [f1, Option.bind_some]
  refine (congrArg (fun o : Option Nat => (o.bind (fun c => (U.vm.classes[c]?).map fun (k : Class) => match k.kind with | .array _ ty => decide (ty = FieldType.array t) && decide (U.vm.findClass ("[" ++ (FieldType.array t).toString) = some c) | _ => false) == some true)) hi).trans ?_
  simp [hk', hkind, f2]
/-- the String constants: owner, entry, text, number; the address of text i is G.1 (1000 + i), of its bytes G.1 (2000 + i) -/
def skX_ : List (String × Nat × String × Nat) := [(RX1, 129, "abcrxnk", 0), (RX10, 102, "watch", 1), (RX10, 108, "monitor", 2), (RX10, 110, "keep", 3), (RX10, 112, "kill", 4), (RX10, 114, "reset", 5), (RX10, 146, "enter", 6), (RX10, 148, "return", 7), (RX10, 150, "throw", 8), (RX10, 125, "abcrxnk", 0)]
def sLen_ : List Nat := [7, 5, 7, 4, 4, 5, 5, 6, 5]
def sByt_ : List (List Int32) := [[97, 98, 99, 114, 120, 110, 107], [119, 97, 116, 99, 104], [109, 111, 110, 105, 116, 111, 114], [107, 101, 101, 112], [107, 105, 108, 108], [114, 101, 115, 101, 116], [101, 110, 116, 101, 114], [114, 101, 116, 117, 114, 110], [116, 104, 114, 111, 119]]
def srX_ (G : gg_) (U : State) : Prop := ∀ q ∈ skX_, vk_R q.1 q.2.1 q.2.2.1 (G.1 (1000 + q.2.2.2)) U
def nx_ : List String := ["java/lang/IllegalArgumentException", "java/lang/IndexOutOfBoundsException"]
def dl_ : List MethodName := [⟨"java/lang/RuntimeException", "<init>", "()V"⟩, ⟨"java/lang/Exception", "<init>", "()V"⟩, ⟨"java/lang/Throwable", "<init>", "()V"⟩]
def nwX_ (U : State) : Prop := (∀ E ∈ nx_, va_Nw (.castable E E) U) ∧ ∀ y ∈ dl_, va_Nw (.declares y) U
def oh_ (G : gg_) (U : State) (H : Heap) : Prop := vk_S 9 sLen_ sByt_ (fun i => G.1 (1000 + i)) (fun i => G.1 (2000 + i)) (aw_ G) U H ∧ va_Z "java/lang/String" "COMPACT_STRINGS" "Z" (.int 1) (aw_ G) U H ∧ vx_Zq "java/lang/Throwable" "UNASSIGNED_STACK" "[Ljava/lang/StackTraceElement;" (aw_ G) U H ∧ vx_Zq "java/lang/Throwable" "SUPPRESSED_SENTINEL" "Ljava/util/List;" (aw_ G) U H ∧ va_Zq "jdk/internal/util/Preconditions" "SIOOBE_FORMATTER" "Ljava/util/function/BiFunction;" (aw_ G) U H
def ox_ (G : gg_) (U : State) : Prop := aoX_ U ∧ srX_ G U ∧ nwX_ U ∧ oh_ G U U.heap
def kw_ (G : gg_) (U : State) : Prop := va_K G.2.2.1 vwCl (tt_ G) U ∧ ox_ G U
theorem oh_kept {G : gg_} {U : State} {H H1 : Heap} (h : oh_ G U H) (hq : ∀ a : Nat, a < H.size → ¬ aw_ G a → H1[a]? = H[a]?) : oh_ G U H1 := ⟨h.1.kept hq, h.2.1.kept hq, h.2.2.1.kept hq, h.2.2.2.1.kept hq, h.2.2.2.2.kept hq⟩
theorem oh_moved {G : gg_} {u U : State} {H : Heap} (hvm : u.vm.Alike U.vm) (h : oh_ G u H) : oh_ G U H := ⟨vk_S.moved hvm h.1, va_Z.moved hvm h.2.1, vx_Zq.moved hvm h.2.2.1, vx_Zq.moved hvm h.2.2.2.1, va_Zq.moved hvm h.2.2.2.2⟩
/-- at a call: the caller's facts are the callee's -/
theorem kw_call {G : gg_} {s U : State} {H : Heap} {locs : List Loc} (h : kw_ G s) (hS : va_S (aw_ G) s.heap H locs) (hU : U.heap = H) (hW : s.WarmedH U.vm) : kw_ G U := by
  obtain ⟨hK, ⟨h1, h2, h3⟩, h4, ⟨h5, h6⟩, h7⟩ := h
  refine ⟨va_K.moved hW.alike hK, ⟨va_AO.moved hW.alike h1, va_AO.moved hW.alike h2, aoa_moved hW.alike h3⟩, fun q hq => vk_R.warm hW (h4 q hq), ⟨fun E hE => va_Nw.warmC hW (h5 E hE), fun y hy => va_Nw.warmD hW (h6 y hy)⟩, ?_⟩
  rw [hU]
  exact oh_moved hW.alike (oh_kept h7 hS.2.1)
theorem kw_same {G : gg_} {u U : State} (h : kw_ G u) (hv : U.vm = u.vm) (hh : U.heap = u.heap) : kw_ G U := by
  have hA : u.vm.Alike U.vm := by rw [hv]; exact Vm.Alike.refl _
  obtain ⟨hK, ⟨h1, h2, h3⟩, h4, ⟨h5, h6⟩, h7⟩ := h
  refine ⟨va_K.moved hA hK, ⟨va_AO.moved hA h1, va_AO.moved hA h2, aoa_moved hA h3⟩, fun q hq => vk_R.same hv (h4 q hq), ⟨fun E hE => va_Nw.same rfl hv.symm (h5 E hE), fun y hy => va_Nw.same rfl hv.symm (h6 y hy)⟩, ?_⟩
  rw [hh]
  exact oh_moved hA h7

