section
/-! the start of the law: what the tables and the Statement say of the classes, the arrays, the texts and the statics -/
theorem tbA0 : Cond.arrayOver (.object RX0) ∈ lw_tbl := List.mem_append_right _ (List.mem_of_getElem? (i := 168) (by decide +kernel))
theorem tbA2 : Cond.arrayOver (.object RX2) ∈ lw_tbl := List.mem_append_right _ (List.mem_of_getElem? (i := 187) (by decide +kernel))
theorem tbAi : Cond.arrayOver (.array .int) ∈ lw_tbl := List.mem_append_right _ (List.mem_of_getElem? (i := 277) (by decide +kernel))
theorem tbS0 : Cond.stringRef RX1 129 "abcrxnk" ∈ lw_tbl := List.mem_append_right _ (List.mem_of_getElem? (i := 495) (by decide +kernel))
theorem tbS1 : Cond.stringRef RX10 102 "watch" ∈ lw_tbl := List.mem_append_right _ (List.mem_of_getElem? (i := 664) (by decide +kernel))
theorem tbS2 : Cond.stringRef RX10 108 "monitor" ∈ lw_tbl := List.mem_append_right _ (List.mem_of_getElem? (i := 691) (by decide +kernel))
theorem tbS3 : Cond.stringRef RX10 110 "keep" ∈ lw_tbl := List.mem_append_right _ (List.mem_of_getElem? (i := 692) (by decide +kernel))
theorem tbS4 : Cond.stringRef RX10 112 "kill" ∈ lw_tbl := List.mem_append_right _ (List.mem_of_getElem? (i := 693) (by decide +kernel))
theorem tbS5 : Cond.stringRef RX10 114 "reset" ∈ lw_tbl := List.mem_append_right _ (List.mem_of_getElem? (i := 694) (by decide +kernel))
theorem tbS6 : Cond.stringRef RX10 146 "enter" ∈ lw_tbl := List.mem_append_right _ (List.mem_of_getElem? (i := 708) (by decide +kernel))
theorem tbS7 : Cond.stringRef RX10 148 "return" ∈ lw_tbl := List.mem_append_right _ (List.mem_of_getElem? (i := 709) (by decide +kernel))
theorem tbS8 : Cond.stringRef RX10 150 "throw" ∈ lw_tbl := List.mem_append_right _ (List.mem_of_getElem? (i := 710) (by decide +kernel))
theorem tbS9 : Cond.stringRef RX10 125 "abcrxnk" ∈ lw_tbl := List.mem_append_right _ (List.mem_of_getElem? (i := 717) (by decide +kernel))
theorem tbLC : Cond.laysStatic "java/lang/String" "COMPACT_STRINGS" "Z" ∈ lw_tbl := List.mem_append_right _ (List.mem_of_getElem? (i := 509) (by decide +kernel))
theorem tbIC : Cond.initialized "java/lang/String" ∈ lw_tbl := List.mem_append_right _ (List.mem_of_getElem? (i := 19) (by decide +kernel))
theorem tbLU : Cond.laysStatic "java/lang/Throwable" "UNASSIGNED_STACK" "[Ljava/lang/StackTraceElement;" ∈ lw_tbl := List.mem_append_right _ (List.mem_of_getElem? (i := 814) (by decide +kernel))
theorem tbIU : Cond.initialized "java/lang/Throwable" ∈ lw_tbl := List.mem_append_right _ (List.mem_of_getElem? (i := 13) (by decide +kernel))
theorem tbLP : Cond.laysStatic "java/lang/Throwable" "SUPPRESSED_SENTINEL" "Ljava/util/List;" ∈ lw_tbl := List.mem_append_right _ (List.mem_of_getElem? (i := 816) (by decide +kernel))
theorem tbIP : Cond.initialized "java/lang/Throwable" ∈ lw_tbl := List.mem_append_right _ (List.mem_of_getElem? (i := 13) (by decide +kernel))
theorem tbLF : Cond.laysStatic "jdk/internal/util/Preconditions" "SIOOBE_FORMATTER" "Ljava/util/function/BiFunction;" ∈ lw_tbl := List.mem_append_right _ (List.mem_of_getElem? (i := 550) (by decide +kernel))
theorem tbIF : Cond.initialized "jdk/internal/util/Preconditions" ∈ lw_tbl := List.mem_append_right _ (List.mem_of_getElem? (i := 22) (by decide +kernel))
theorem tbC0 : Cond.castable "java/lang/IllegalArgumentException" "java/lang/IllegalArgumentException" ∈ lw_tbl := List.mem_append_right _ (List.mem_of_getElem? (i := 789) (by decide +kernel))
theorem tbC1 : Cond.castable "java/lang/IndexOutOfBoundsException" "java/lang/IndexOutOfBoundsException" ∈ lw_tbl := List.mem_append_right _ (List.mem_of_getElem? (i := 864) (by decide +kernel))
theorem tbD0 : Cond.declares ⟨"java/lang/RuntimeException", "<init>", "()V"⟩ ∈ lw_tbl := List.mem_append_right _ (List.mem_of_getElem? (i := 790) (by decide +kernel))
theorem tbD1 : Cond.declares ⟨"java/lang/Exception", "<init>", "()V"⟩ ∈ lw_tbl := List.mem_append_right _ (List.mem_of_getElem? (i := 792) (by decide +kernel))
theorem tbD2 : Cond.declares ⟨"java/lang/Throwable", "<init>", "()V"⟩ ∈ lw_tbl := List.mem_append_right _ (List.mem_of_getElem? (i := 794) (by decide +kernel))
theorem kd_prim {s : State} {args : Array Value} {ty : FieldType} (h : (Cond.arrayClass ty).before args s = true) (hr : ∀ c, s.vm.findClass ("[" ++ ty.toString) = some c → va_RA s c ty) : ∃ cA : ClassId, ArrOfT s cA ty ∧ va_RA s cA ty := by
  obtain ⟨c, k, comp, h1, h2, h3⟩ := Cond.arrayClass_spec h
  exact ⟨c, fun n z => ⟨(fun k h => by cases h), k, h2, comp, h3⟩, hr c h1⟩
theorem kd_obj {s : State} {args : Array Value} {n : String} (h : (Cond.arrayOver (.object n)).before args s = true) : ∃ cA : ClassId, ArrOfT s cA (.object n) ∧ va_RA s cA (.object n) := by
  obtain ⟨comp, c, k, h1, h2, h3, h4, h5⟩ := Cond.arrayOver_spec h
  exact ⟨c, fun m z => ⟨(fun k h => by cases h), k, h3, comp, h4⟩, k, comp, h3, h4, h1, h5⟩
theorem kd_arr {s : State} {args : Array Value} {t : FieldType} (h : (Cond.arrayOver (.array t)).before args s = true) : ∃ cA : ClassId, ArrOfT s cA (.array t) ∧ va_RA s cA (.array t) := by
  obtain ⟨comp, c, k, h1, h2, h3, h4, h5⟩ := arrayOverA_spec h
  exact ⟨c, fun m z => ⟨(fun k h => by cases h), k, h3, comp, h4⟩, h5⟩
def tmS_ (i : Nat) : Term := (([.string RX1 129, .string RX10 102, .string RX10 108, .string RX10 110, .string RX10 112, .string RX10 114, .string RX10 146, .string RX10 148, .string RX10 150] : List Term)).getD i (.string RX1 129)
def flS_ : List Cond := flatC (Jvm.Cond.and given_1 narrow_1)
theorem flE_ : ∀ i : Nat, i < 9 → Cond.exactly (tmS_ i) "java/lang/String" ∈ flS_ := by decide +kernel
theorem flC_ : ∀ i : Nat, i < 9 → Cond.eq (.field (tmS_ i) "java/lang/String" "coder" "B") (.int 0) ∈ flS_ := by decide +kernel
theorem flA_ : ∀ i : Nat, i < 9 → Cond.arrayOf (.field (tmS_ i) "java/lang/String" "value" "[B") .byte ∈ flS_ := by decide +kernel
theorem flL_ : ∀ i : Nat, i < 9 → Cond.eq (.length (.field (tmS_ i) "java/lang/String" "value" "[B")) (.int (Int32.ofNat (sLen_.getD i 0))) ∈ flS_ := by decide +kernel
theorem flB_ : ∀ i : Nat, i < 9 → ∀ j : Nat, j < sLen_.getD i 0 → Cond.eq (.elem (.field (tmS_ i) "java/lang/String" "value" "[B") (.int (Int32.ofNat j))) (.int ((sByt_.getD i []).getD j 0)) ∈ flS_ := by decide +kernel
theorem flN_ : ∀ i : Nat, i < 9 → ∀ j : Nat, j < 9 → i ≠ j → Cond.not (Cond.eq (tmS_ i) (tmS_ j)) ∈ flS_ ∨ Cond.not (Cond.eq (tmS_ j) (tmS_ i)) ∈ flS_ := by decide +kernel
theorem flQ_ : Cond.eq (.string RX1 129) (.string RX10 125) ∈ flS_ := by decide +kernel
theorem flK_ : Cond.not (.castable "java/lang/IllegalArgumentException" "java/lang/IndexOutOfBoundsException") ∈ flS_ := by decide +kernel
theorem flZC_ : Cond.eq (.static "java/lang/String" "COMPACT_STRINGS" "Z") (.int 1) ∈ flS_ := by decide +kernel
theorem flZU_ : Cond.isRef (.static "java/lang/Throwable" "UNASSIGNED_STACK" "[Ljava/lang/StackTraceElement;") ∈ flS_ := by decide +kernel
theorem flZP_ : Cond.isRef (.static "java/lang/Throwable" "SUPPRESSED_SENTINEL" "Ljava/util/List;") ∈ flS_ := by decide +kernel
theorem flZF_ : Cond.isRef (.static "jdk/internal/util/Preconditions" "SIOOBE_FORMATTER" "Ljava/util/function/BiFunction;") ∈ flS_ := by decide +kernel
theorem st_kw {s : State} {args : Array Value} (hts : ∀ w ∈ lw_tbl, w.before args s = true) (hgv : (Jvm.Cond.and given_1 narrow_1).before args s = true) : ∃ G : gg_, G.2.2.2 = s.heap.size ∧ ga_ G ∧ kw_ G s ∧ va_Nc "java/lang/IllegalArgumentException" "java/lang/IndexOutOfBoundsException" s := by
  have hA : ∀ a : Nat, a < s.heap.size → ¬ (fun q : Nat => s.heap.size ≤ q) a := fun a h1 h2 => by
    have h3 : s.heap.size ≤ a := h2
    omega
  have hg := gw_hts hts
  have hfl := flat_of_before _ hgv
  obtain ⟨c0, iS0, hK0⟩ := u_known (C := RX0) (T := TX0) (N := 6) (n := 6) hg inG0 (hg _ ins0_)
  obtain ⟨c1, iS1, hK1⟩ := u_known (C := RX1) (T := TX1) (N := 7) (n := 7) hg inG1 (hg _ ins1_)
  obtain ⟨c2, iS2, hK2⟩ := u_known (C := RX2) (T := TX2) (N := 10) (n := 10) hg inG2 (hg _ ins2_)
  obtain ⟨c3, iS3, hK3⟩ := u_known (C := RX3) (T := TX3) (N := 2) (n := 2) hg inG3 (hg _ ins3_)
  obtain ⟨c4, iS4, hK4⟩ := u_known (C := RX4) (T := TX4) (N := 13) (n := 13) hg inG4 (hg _ ins4_)
  obtain ⟨c5, iS5, hK5⟩ := u_known (C := RX5) (T := TX5) (N := 3) (n := 3) hg inG5 (hg _ ins5_)
  obtain ⟨c6, iS6, hK6⟩ := u_known (C := RX7) (T := TX7) (N := 7) (n := 7) hg inG7 (hg _ ins7_)
  obtain ⟨c7, iS7, hK7⟩ := u_known (C := RX8) (T := TX8) (N := 4) (n := 4) hg inG8 (hg _ ins8_)
  obtain ⟨c8, iS8, hK8⟩ := u_known (C := RX9) (T := TX9) (N := 2) (n := 2) hg inG9 (hg _ ins9_)
  obtain ⟨c9, iS9, hK9⟩ := u_known (C := RX10) (T := TX10) (N := 3) (n := 3) hg inG10 (hg _ ins10_)
  obtain ⟨c10, iS10, hK10⟩ := u_known (C := RX11) (T := TX11) (N := 8) (n := 8) hg inG11 (hg _ ins11_)
  obtain ⟨c11, iS11, hK11⟩ := u_known (C := RX12) (T := TX12) (N := 60) (n := 60) hg inG12 (hg _ ins12_)
  obtain ⟨k0, hk0⟩ := kd_prim (ty := .int) (hg _ ac_int) (fun c h => h)
  obtain ⟨k1, hk1⟩ := kd_prim (ty := .long) (hg _ ac_long) (fun c h => h)
  obtain ⟨k2, hk2⟩ := kd_prim (ty := .boolean) (hg _ ac_boolean) (fun c h => h)
  obtain ⟨k3, hk3⟩ := kd_obj (hts _ tbA0)
  obtain ⟨k4, hk4⟩ := kd_obj (hts _ tbA2)
  obtain ⟨k5, hk5⟩ := kd_arr (hts _ tbAi)
  obtain ⟨adK, adV, hSt, hev⟩ := vk_Sof (A := fun q : Nat => s.heap.size ≤ q) (args := args) (N := 9) (tm := tmS_) (len := sLen_) (byt := sByt_) (by decide) (fun i hi => hfl _ (flE_ i hi)) (fun i hi => hfl _ (flC_ i hi)) (fun i hi => hfl _ (flA_ i hi)) (fun i hi => hfl _ (flL_ i hi)) (fun i hi j hj => hfl _ (flB_ i hi j hj)) (fun i j hi hj hn => (flN_ i hi j hj hn).elim (fun h => Or.inl (hfl _ h)) (fun h => Or.inr (hfl _ h))) hA
  have hev9 : (Term.string RX10 125).eval args s none [] s = some (.ref (adK 0)) := va_eqR (hfl _ flQ_) (hev 0 (by decide))
  let G : gg_ := (fun k => if k < 1000 then s.heap.size + pi_ k else if k < 2000 then adK (k - 1000) else adV (k - 2000), fun t => if t = 0 then k0 else if t = 1 then k1 else if t = 2 then k2 else if t = 3 then k3 else if t = 4 then k4 else k5, (fun i => if i = 0 then c0 else if i = 1 then c1 else if i = 2 then c2 else if i = 3 then c3 else if i = 4 then c4 else if i = 5 then c5 else if i = 6 then c6 else if i = 7 then c7 else if i = 8 then c8 else if i = 9 then c9 else if i = 10 then c10 else c11, fun i => if i = 0 then iS0 else if i = 1 then iS1 else if i = 2 then iS2 else if i = 3 then iS3 else if i = 4 then iS4 else if i = 5 then iS5 else if i = 6 then iS6 else if i = 7 then iS7 else if i = 8 then iS8 else if i = 9 then iS9 else if i = 10 then iS10 else iS11), s.heap.size)
  have e1 : ∀ i, i < 9 → G.1 (1000 + i) = adK i := fun i hi => by
    show (if 1000 + i < 1000 then _ else if 1000 + i < 2000 then adK (1000 + i - 1000) else _) = _
    rw [if_neg (by omega), if_pos (by omega), Nat.add_sub_cancel_left]
  have e2 : ∀ i, i < 9 → G.1 (2000 + i) = adV i := fun i hi => by
    show (if 2000 + i < 1000 then _ else if 2000 + i < 2000 then _ else adV (2000 + i - 2000)) = _
    rw [if_neg (by omega), if_neg (by omega), Nat.add_sub_cancel_left]
  refine ⟨G, rfl, ?_, ⟨⟨?_, ?_⟩, ⟨va_AO.of (hts _ tbA0), va_AO.of (hts _ tbA2), hts _ tbAi⟩, ?_, ⟨?_, ?_⟩, ?_⟩, va_Nc.of (hfl _ flK_)⟩
  · intro k hk
    have hk2 : k < 263 := hk
    show (if k < 1000 then _ else _) = _
    rw [if_pos (by omega)]
  · intro k q hq
    match k, hq with
    | 0, hq => cases hq; exact hK0
    | 1, hq => cases hq; exact hK1
    | 2, hq => cases hq; exact hK2
    | 3, hq => cases hq; exact hK3
    | 4, hq => cases hq; exact hK4
    | 5, hq => cases hq; exact hK5
    | 6, hq => cases hq; exact hK6
    | 7, hq => cases hq; exact hK7
    | 8, hq => cases hq; exact hK8
    | 9, hq => cases hq; exact hK9
    | 10, hq => cases hq; exact hK10
    | 11, hq => cases hq; exact hK11
    | k + 12, hq => cases hq
  · intro k q hq
    match k, hq with
    | 0, hq => cases hq; exact hk0
    | 1, hq => cases hq; exact hk1
    | 2, hq => cases hq; exact hk2
    | 3, hq => cases hq; exact hk3
    | 4, hq => cases hq; exact hk4
    | 5, hq => cases hq; exact hk5
    | k + 6, hq => cases hq
  · intro q hq
    have hq2 : q ∈ skX_ := hq
    unfold skX_ at hq2
    simp only [List.mem_cons, List.mem_singleton, List.not_mem_nil, or_false] at hq2
    rcases hq2 with rfl | rfl | rfl | rfl | rfl | rfl | rfl | rfl | rfl | rfl
    · rw [e1 0 (by decide)]; exact vk_R.of (hts _ tbS0) (hev 0 (by decide))
    · rw [e1 1 (by decide)]; exact vk_R.of (hts _ tbS1) (hev 1 (by decide))
    · rw [e1 2 (by decide)]; exact vk_R.of (hts _ tbS2) (hev 2 (by decide))
    · rw [e1 3 (by decide)]; exact vk_R.of (hts _ tbS3) (hev 3 (by decide))
    · rw [e1 4 (by decide)]; exact vk_R.of (hts _ tbS4) (hev 4 (by decide))
    · rw [e1 5 (by decide)]; exact vk_R.of (hts _ tbS5) (hev 5 (by decide))
    · rw [e1 6 (by decide)]; exact vk_R.of (hts _ tbS6) (hev 6 (by decide))
    · rw [e1 7 (by decide)]; exact vk_R.of (hts _ tbS7) (hev 7 (by decide))
    · rw [e1 8 (by decide)]; exact vk_R.of (hts _ tbS8) (hev 8 (by decide))
    · rw [e1 0 (by decide)]; exact vk_R.of (hts _ tbS9) hev9
  · intro E hE
    have hE2 : E = "java/lang/IllegalArgumentException" ∨ E = "java/lang/IndexOutOfBoundsException" := by
      unfold nx_ at hE
      simpa only [List.mem_cons, List.not_mem_nil, or_false] using hE
    rcases hE2 with rfl | rfl
    · exact va_Nw.of rfl (hts _ tbC0)
    · exact va_Nw.of rfl (hts _ tbC1)
  · intro y hy
    unfold dl_ at hy
    simp only [List.mem_cons, List.not_mem_nil, or_false] at hy
    rcases hy with rfl | rfl | rfl
    · exact va_Nw.of rfl (hts _ tbD0)
    · exact va_Nw.of rfl (hts _ tbD1)
    · exact va_Nw.of rfl (hts _ tbD2)
  · refine ⟨⟨fun i hi => ?_, fun i j hi hj h => hSt.2 i j hi hj ?_⟩, va_Zof (hts _ tbLC) (hts _ tbIC) (va_eqi (hfl _ flZC_)) hA, vx_Zqof (hts _ tbLU) (hts _ tbIU) (hfl _ flZU_) hA, vx_Zqof (hts _ tbLP) (hts _ tbIP) (hfl _ flZP_) hA, va_Zqof (hts _ tbLF) (hts _ tbIF) (hfl _ flZF_) hA⟩
    · have h3 := hSt.1 i hi
      rw [← e1 i hi, ← e2 i hi] at h3
      exact h3
    · have h2 : G.1 (1000 + i) = G.1 (1000 + j) := h
      rw [e1 i hi, e1 j hj] at h2
      exact h2
/-! THE CLAIM OUT OF ONE WALK OF THE LAW'S BODY. Your part is whole_start (and what it stands on); all else here is the same for every law, but numbers. -/
def R_law : String := "ProbeConsoleLaw"
def lw_P (b : Addr) (xs : List Int32) (args : Array Value) (s : State) : Prop := args = #[.ref b] ∧ s.IntsAt b xs ∧ xs.length ≤ 2560 ∧ (Jvm.Cond.and given_1 narrow_1).before args s = true
def lw_Q (_ : Array Value) (s : State) (o : Outcome) (t : State) : Prop := o = .returned (some (.int 1)) ∧ Framed s o t [] 601024 7293034
def lw_Z (below : List Frame) (a : Array Value) (s : State) : State → Prop := fun t => ∃ o, t.status = .running ∧ Ended t below o ∧ lw_Q a s o t
/-- the law's own end, with 1 on the stack, nothing written that was there before, its room as the claim has it -/
theorem lw_ret {p : Program} {l : Launch} {e : Env} {s : State} {m : MethodId} {below : List Frame} {meth : Method} {c : Code} {b : Nat} (hx : p.tables.exec = Jvm.exec) (hb : c.code = code) (hr : meth.sig.returnType = ret) (hlocks : meth.locks = false) {pc : Nat} {H : Heap} {ls : Array Slot} (hdg : decode code pc = .ok (.ireturn, 1)) : W p l e room_1 s m #[Value.ref b] below meth c H [] 601024 7293034 (lw_Z below #[Value.ref b] s) (F0 m pc ls [.int 1]) := by
  intro T hT X
  obtain ⟨fs, hret, hrun, hended, hW, hframe⟩ := X.leave (v := some (.int 1)) (hlocks := hlocks) (fun h => by rw [hr] at h; cases h)
  have hmeth' : T.vm.method? m = some meth := X.method'
  refine ⟨T.setFrames fs, ?_, .returned (some (.int 1)), hrun, hended, rfl, ⟨_, rfl⟩, hW, hframe⟩
  jvm_step X.here [X.here.top, hx, hb, hdg, hmeth', hr, ret, narrow_b1]
  (try refine ⟨rfl, ?_⟩); (try refine ⟨rfl, ?_⟩)
  first | (intro acts; rw [hret _ acts rfl rfl rfl]) | rw [hret _ _ rfl rfl rfl]
  exact Steps.refl _
/-- what holds at the law's entry: the machine, the code, the tables' words (any of lw_tbl by 'hts w (by decide +kernel)'), the script of L ints xs at the cell b, what the Statement gives of the start (any of its parts by flat_of_before) -/
def lw_At (p : Program) (s : State) (m : MethodId) (meth : Method) (c : Code) (b L : Nat) (xs : Nat → Int32) : Prop :=
  p.tables.exec = Jvm.exec ∧ c.code = code ∧ meth.sig.returnType = ret ∧ c.maxLocals = 7 ∧ s.vm.findClass R_law = some m.cls ∧ (∀ w ∈ lw_tbl, w.before #[Value.ref b] s = true) ∧ va_X b L xs s s.heap ∧ b < s.heap.size ∧ meth.locks = false ∧ (Jvm.Cond.and given_1 narrow_1).before #[Value.ref b] s = true

end
section
/-! the two halves: what the reference's methods keep of the class, and the class's of the reference -/
def hR_ (M N : mm_) : Prop := N.2.2 = M.2.2 ∧ N.1 0 2 = M.1 0 2 ∧ (∀ a i, 34 ≤ a → N.1 a i = M.1 a i) ∧ ∀ a i, 34 ≤ a → N.2.1 a i = M.2.1 a i
def hX_ (M N : mm_) : Prop := (∀ a i, a < 34 → N.1 a i = M.1 a i) ∧ ∀ a i, a < 34 → N.2.1 a i = M.2.1 a i
theorem hR_rf {M : mm_} : hR_ M M := ⟨rfl, rfl, fun _ _ _ => rfl, fun _ _ _ => rfl⟩
theorem hR_tr {A B D : mm_} (h : hR_ A B) (g : hR_ B D) : hR_ A D := ⟨g.1.trans h.1, g.2.1.trans h.2.1, fun a i z => (g.2.2.1 a i z).trans (h.2.2.1 a i z), fun a i z => (g.2.2.2 a i z).trans (h.2.2.2 a i z)⟩
theorem hR_I {M : mm_} {a i : Nat} {v : Int32} (ha : a < 34) (hn : ¬ (a = 0 ∧ i = 2)) : hR_ M (sI_ M a i v) := ⟨rfl, by rw [gI_sI, if_neg (by omega)], fun b j z => by rw [gI_sI, if_neg (by omega)], fun _ _ _ => rfl⟩
theorem hR_L {M : mm_} {a i : Nat} {v : Int64} (ha : a < 34) : hR_ M (sL_ M a i v) := ⟨rfl, rfl, fun _ _ _ => rfl, fun b j z => by rw [gL_sL, if_neg (by omega)]⟩
theorem hR_pf {M N : mm_} (h : pf_ M N) : hR_ M N := ⟨h.2.2.1, h.1 0 2 (by omega) (by omega) (by omega) (by omega) (by omega) (by omega), fun a i z => h.1 a i (by omega) (by omega) (by omega) (by omega) (by omega) (by omega), fun a i z => h.2.1 a i (by omega) (by omega) (by omega)⟩
theorem hR_pg {M N : mm_} (h : pg_ M N) : hR_ M N := ⟨h.2.2.1, h.1 0 2 (by omega) (by omega) (by omega) (by omega) (by omega) (by omega) (by omega), fun a i z => h.1 a i (by omega) (by omega) (by omega) (by omega) (by omega) (by omega) (by omega), fun a i z => h.2.1 a i (by omega) (by omega) (by omega)⟩
theorem hR_ph {J : Nat} {M N : mm_} (h : ph_ J M N) : hR_ M N := ⟨h.2.2.1, h.1 0 2 (by omega) (by omega) (by omega) (by omega) (by omega) (by omega) (by omega) (by omega) (by omega), fun a i z => h.1 a i (by omega) (by omega) (by omega) (by omega) (by omega) (by omega) (by omega) (by omega) (by omega), fun a i z => h.2.1 a i (by omega) (by omega) (by omega) (by omega)⟩
theorem hR_kx {M : mm_} {t : Nat} : ∀ l : Nat, hR_ M (kx_ M t l)
  | 0 => hR_rf
  | l + 1 => hR_tr (hR_kx l) (hR_tr (hR_I (a := 2) (by omega) (by omega)) (hR_L (a := 3) (by omega)))
theorem hR_fa {M : mm_} {f w : Int32} : hR_ M (fa_ M f w) := by
  unfold fa_; split
  · exact hR_tr (hR_I (by omega) (by omega)) (hR_I (by omega) (by omega))
  · exact hR_rf
theorem hR_nj {M : mm_} {b z : Nat} {kd : Int32} : hR_ M (nj_ M b z kd) := by
  refine ⟨?_, nj_o (by omega) (by omega) (by omega), fun a i h => nj_o (by omega) (by omega) (by omega), fun a i h => ?_⟩
  · rw [nj_R2]
  · rw [nj_R2]
theorem hR_zk {M : mm_} : ∀ j : Nat, hR_ M (zk_ M j)
  | 0 => hR_rf
  | j + 1 => hR_tr (hR_zk j) (hR_I (by omega) (by omega))
theorem hR_bg {M : mm_} : hR_ M (bg_ M) := hR_tr (hR_tr (hR_tr (hR_I (by omega) (by omega)) (hR_I (by omega) (by omega))) (hR_I (by omega) (by omega))) (hR_I (by omega) (by omega))
theorem hR_mw {M : mm_} {v : Int32} : hR_ M (mw_ M v) := hR_tr (hR_tr hR_bg (hR_I (by omega) (by omega))) (hR_I (by omega) (by omega))
theorem hR_ra {M : mm_} {n s : Nat} : hR_ M (ra_ M n s) := hR_tr (hR_I (by omega) (by omega)) (hR_L (by omega))
theorem hR_cb {M : mm_} : hR_ M (cb_ M) := hR_tr (hR_tr hR_bg (hR_I (by omega) (by omega))) (hR_I (by omega) (by omega))
theorem hR_mo {M N : mm_} {n c : Nat} {r : Int32} (h : mo_ M n c (me_ M n c) r N) : hR_ M N := by
  cases hm : me_ M n c with
  | inr q =>
    rw [hm] at h
    obtain ⟨f, w⟩ := q
    obtain ⟨-, ⟨v, h1⟩, -⟩ := h
    exact hR_tr hR_mw (hR_pf h1)
  | inl y =>
    rw [hm] at h
    obtain ⟨e, av, p⟩ := y
    obtain ⟨-, hc16, N0, k, nd, op, h1, h2, h3, rfl⟩ := h
    exact hR_tr (hR_tr hR_mw (hR_pf h1)) (hR_tr (hR_tr (hR_tr (hR_tr (hR_L (a := 5) (by omega)) (hR_I (a := 6) (by omega) (by omega))) (hR_kx _)) (hR_I (a := 4) (by omega) (by omega))) (hR_I (a := 0) (by omega) (by omega)))
theorem hR_cmd {M N : mm_} {n s z : Nat} {v : Int64} {r : Int32} (h : cmd_ M n s z v r N) : hR_ M N := by
  unfold cmd_ at h
  split at h
  · rw [h.2]; exact hR_tr (hR_tr hR_cb hR_ra) hR_fa
  · have gB : hR_ M (ce5_ M n s z) := hR_tr (hR_tr hR_cb hR_ra) (hR_I (by omega) (by omega))
    generalize ce5_ M n s z = B at h gB
    generalize sp_ M n (s + z) = t at h
    refine hR_tr gB ?_
    unfold cd5_ at h
    split at h
    · cases hw : wt_ B n t (rz_ B n t) (rv_ (bf_ B n) t (rz_ B n t)) with
      | inr q =>
        rw [hw] at h
        obtain ⟨f, w⟩ := q
        obtain ⟨-, ⟨J, j1, j2⟩, -⟩ := h
        exact hR_ph j2
      | inl x =>
        rw [hw] at h
        obtain ⟨pt, s3, p, e1, e2, lim⟩ := x
        obtain ⟨b, N0, -, hb, hj, hph, -, hp, -, sd1, sd2, rfl⟩ := h
        exact hR_tr (hR_ph hph) (hR_tr (hR_tr (hR_tr hR_nj (hR_I (by omega) (by omega))) (hR_I (by omega) (by omega))) (hR_I (by omega) (by omega)))
    · split at h
      · cases hs : sb_ B n (pd_ B n t) with
        | inr q =>
          rw [hs] at h
          obtain ⟨f, w⟩ := q
          exact hR_pg h.2.1
        | inl p =>
          rw [hs] at h
          obtain ⟨b, N0, -, hb, -, hb0, hpg, -, hp, -, rfl⟩ := h
          exact hR_tr (hR_pg hpg) hR_nj
      · split at h
        · cases hs : kl2_ B n (sm_ B n t 0) with
          | inr q =>
            rw [hs] at h
            obtain ⟨f, w⟩ := q
            exact hR_pf h.2.1
          | inl j =>
            rw [hs] at h
            obtain ⟨-, hj, -, rfl⟩ := h
            exact hR_tr (hR_I (by omega) (by omega)) (hR_I (by omega) (by omega))
        · split at h
          · rw [h.2]; exact hR_tr (hR_I (by omega) (by omega)) hR_fa
          · rw [h.2]; exact hR_tr (hR_I (by omega) (by omega)) (hR_zk 8)
theorem hX_rf {M : mm_} : hX_ M M := ⟨fun _ _ _ => rfl, fun _ _ _ => rfl⟩
theorem hX_tr {A B D : mm_} (h : hX_ A B) (g : hX_ B D) : hX_ A D := ⟨fun a i z => (g.1 a i z).trans (h.1 a i z), fun a i z => (g.2 a i z).trans (h.2 a i z)⟩
theorem hX_I {M : mm_} {a i : Nat} {v : Int32} (ha : 34 ≤ a) : hX_ M (sI_ M a i v) := ⟨fun b j z => by rw [gI_sI, if_neg (by omega)], fun _ _ _ => rfl⟩
theorem hX_L {M : mm_} {a i : Nat} {v : Int64} (ha : 34 ≤ a) : hX_ M (sL_ M a i v) := ⟨fun _ _ _ => rfl, fun b j z => by rw [gL_sL, if_neg (by omega)]⟩
theorem hX_fi {M : mm_} {f w : Int32} : hX_ M (fiX_ M f w) := by
  unfold fiX_; split
  · exact hX_tr (hX_I (by omega)) (hX_I (by omega))
  · exact hX_rf
theorem hX_mee {M : mm_} {k : Nat} {x : Int32} {y : Int64} (hk : 34 ≤ k) : hX_ M (mee_ M k x y) := by
  unfold mee_; split
  · exact hX_rf
  · exact hX_I hk
theorem hX_jm {J : Nat → Nat} {x : Int32} {y : Int64} : ∀ (u i : Nat) (M : mm_), hX_ M (jm1_ J x y u i M)
  | 0, _, _ => hX_rf
  | u + 1, i, M => hX_tr (hX_mee (by omega)) (hX_jm u (i + 1) _)
theorem hX_me {c k : Nat} (hk : 34 ≤ k) : ∀ (u m : Nat) (M : mm_), hX_ M (me1_ c k u m M)
  | 0, _, _ => hX_rf
  | u + 1, m, M => hX_tr (hX_mee hk) (hX_me hk u (m + 1) _)
theorem hX_ea {J : Nat → Nat} : ∀ (u i : Nat) (r : Int32) (M : mm_), hX_ M (ea1_ J u i r M).2
  | 0, _, _, _ => hX_rf
  | u + 1, i, r, M => hX_tr (hX_I (by omega)) (hX_ea u (i + 1) _ _)
theorem hX_MR {n c S : Nat} {J : Nat → Nat} {M N : mm_} {r : Int32} (h : MR_ n c S J M r N) : hX_ M N := by
  obtain ⟨key, A, ⟨hcr, -⟩, h⟩ := h
  have hA : hX_ M A := ⟨fun a i z => hcr.2.1 a i (by omega) (by omega) (by omega), fun a i z => hcr.2.2 a i (by omega) (by omega)⟩
  rcases h with ⟨-, -, rfl⟩ | ⟨-, -, -, -, rfl⟩ | ⟨h16, -, h0, -, rfl⟩
  · exact hX_tr hA hX_fi
  · exact hA
  · exact hX_tr hA (hX_tr (hX_tr (hX_L (by omega)) (hX_I (by omega))) (hX_jm 8 0 _))
theorem hX_CE {x r : Int32} {B N : mm_} (h : CE_ x B r N) : hX_ B N := by
  rcases h with ⟨-, -, rfl⟩ | ⟨-, -, rfl⟩
  · exact hX_rf
  · exact hX_fi
theorem hX_CR {n c S : Nat} {J : Nat → Nat} {M N : mm_} {r : Int32} (h : CR_ n c S J M r N) : hX_ M N := by
  obtain ⟨v, A, ⟨hcz, -⟩, h⟩ := h
  have hA : hX_ M A := ⟨fun a i z => hcz.2.1 a i (by omega) (by omega) (by omega) (by omega), fun a i z => hcz.2.2 a i (by omega) (by omega) (by omega)⟩
  refine hX_tr hA ?_
  rcases h with ⟨-, -, rfl⟩ | ⟨h0, h⟩
  · exact hX_rf
  rcases h with ⟨-, -, rfl⟩ | ⟨-, x, D, hD, hCE⟩ | ⟨-, x, D, ⟨-, hD⟩, hCE⟩
  · exact hX_ea 8 0 0 A
  · refine hX_tr ?_ (hX_CE hCE)
    rcases hD with ⟨-, -, rfl⟩ | ⟨i, hi, -, -, rfl⟩
    · exact hX_rf
    · split
      · exact hX_rf
      · exact hX_I (by omega)
  · refine hX_tr ?_ (hX_CE hCE)
    cases hf : fj1_ A J 8 0 with
    | none => rw [hf] at hD; rw [hD]; exact hX_rf
    | some i =>
      rw [hf] at hD
      simp only at hD
      rw [hD]
      exact hX_tr (B := sR_ (sR_ A 133 1 (some (135 + 12 * J i))) 134 i (some (135 + 12 * S))) ⟨fun _ _ _ => rfl, fun _ _ _ => rfl⟩ (hX_me (by omega) _ _ _)
end
section
/-! what the two constructors make -/
def Z0_ : mm_ := (fun _ _ => 0, fun _ _ => 0, fun _ _ => none)
def M1_ : mm_ := y12_ (x8_ (x7_ (x6_ (x5_ (x4_ (x3_ (x2_ (x1_ Z0_))))))))
def fok_ (M : mm_) (k : Nat) : Nat → List Nat → List Nat → Bool
  | _, [], [] => true
  | j, f :: fs, g :: gs => (decide (f = g) || (decide (f = 2) && (decide (3 ≤ g) && decide (M.2.2 k j = some (g - 3))))) && fok_ M k (j + 1) fs gs
  | _, _, _ => false
def cok_ (M : mm_) (k : Nat) : dd_ → dd_ → Bool
  | .inl a, .inl b => decide (a = b)
  | .inr (c, fs), .inr (e, gs) => decide (c = e) && fok_ M k 0 fs gs
  | _, _ => false
theorem fok_fl {G : gg_} {M : mm_} {k : Nat} : ∀ (fs gs : List Nat) (j : Nat), fok_ M k j fs gs = true → fl_ G M k j fs = fl_ G M k j gs
  | [], [], _, _ => rfl
  | [], _ :: _, _, h => by cases h
  | _ :: _, [], _, h => by cases h
  | f :: fs, g :: gs, j, h => by
    rw [fok_, Bool.and_eq_true, Bool.or_eq_true, Bool.and_eq_true, Bool.and_eq_true, decide_eq_true_iff, decide_eq_true_iff, decide_eq_true_iff, decide_eq_true_iff] at h
    rw [fl_, fl_, fok_fl fs gs (j + 1) h.2]
    rcases h.1 with e | ⟨rfl, e2, e3⟩
    · rw [e]
    · obtain ⟨t, rfl⟩ : ∃ t, g = t + 3 := ⟨g - 3, by omega⟩
      rw [Nat.add_sub_cancel] at e3
      show va_rf ((M.2.2 k j).map G.1) :: _ = Value.ref (G.1 t) :: _
      rw [e3]
      rfl
theorem cok_ce {G : gg_} {M : mm_} {k : Nat} {d e : dd_} (h : cok_ M k d e = true) : ce_ G M k d = ce_ G M k e := by
  match d, e, h with
  | .inl a, .inl b, h => rw [of_decide_eq_true (show decide (a = b) = true from h)]
  | .inr (c, fs), .inr (c2, gs), h =>
    have h2 : decide (c = c2) = true ∧ fok_ M k 0 fs gs = true := by
      have h3 : (decide (c = c2) && fok_ M k 0 fs gs) = true := h
      rw [Bool.and_eq_true] at h3
      exact h3
    show (Sum.inr (c, fl_ G M k 0 fs) : va_E) = Sum.inr (c2, fl_ G M k 0 gs)
    rw [of_decide_eq_true h2.1, fok_fl fs gs 0 h2.2]
  | .inl a, .inr b, h => cases h
  | .inr (c, fs), .inl b, h => cases h
def aok_ (M : mm_) (k : Nat) : Bool := match dall_[pi_ k]?, ds_[k]? with
  | some (k2, d), some e => decide (k2 = k) && cok_ M k d e
  | _, _ => false
theorem aok_1 : ∀ k, k < 263 → aok_ M1_ k = true := by decide +kernel
theorem ds_len : ds_.length = 263 := by decide +kernel
theorem pi_lt : ∀ k, k < 263 → pi_ k < 263 := by decide +kernel
theorem pi_inj : ∀ i, i < 263 → ∀ j, j < 263 → pi_ i = pi_ j → i = j := by
  intro i hi j hj h
  unfold pi_ at h
  split at h <;> split at h <;> (try split at h) <;> (try split at h) <;> omega
theorem ga_gd {G : gg_} (h : ga_ G) : gd_ G := by
  refine ⟨fun i j hi hj e => ?_, fun k hk => ?_⟩
  · rw [ds_len] at hi hj
    rw [h i hi, h j hj] at e
    exact pi_inj i hi j hj (by omega)
  · rw [ds_len] at hk
    rw [h k hk]
    exact Nat.le_add_right _ _
theorem hp_wl {G : gg_} {M : mm_} {H : Heap} (ha : ∀ k, k < 263 → aok_ M k = true) (h : hp_ G M 263 H) : va_P G.2.2.1 vwCl (wl_ G M) H := by
  intro k q hq
  rw [wk_get, Nat.zero_add] at hq
  cases hd : ds_[k]? with
  | none => rw [hd] at hq; cases hq
  | some e =>
    have hk : k < 263 := by rw [← ds_len]; exact (List.getElem?_eq_some_iff.mp hd).1
    rw [hd] at hq
    have hq2 : (G.1 k, ce_ G M k e) = q := Option.some.inj hq
    have hz := ha k hk
    unfold aok_ at hz
    rw [hd] at hz
    cases hd2 : dall_[pi_ k]? with
    | none => rw [hd2] at hz; cases hz
    | some y =>
      obtain ⟨k2, d⟩ := y
      rw [hd2] at hz
      have hz2 : (decide (k2 = k) && cok_ M k d e) = true := hz
      rw [Bool.and_eq_true] at hz2
      have hkk : k2 = k := of_decide_eq_true hz2.1
      rw [hkk] at hd2
      rw [← hq2, ← cok_ce hz2.2]
      exact h.1 (pi_ k) _ (wm_at hd2 (pi_lt k hk))
theorem m1_mb : mb2_ M1_ := by unfold mb2_; decide +kernel
theorem m1_vq : vq_ M1_ := by unfold vq_; decide +kernel
theorem m1_jq : ∀ i, i < 8 → i < 9 ∧ M1_.2.2 134 i = some (135 + 12 * i) := by decide +kernel
theorem m1_sp : M1_.2.2 133 1 = some (135 + 12 * 8) := by decide +kernel
theorem m1_jk : ∀ i, i < 8 → M1_.1 (135 + 12 * i) 0 = 0 := by decide +kernel
theorem m1_18 : ∀ i, i < 8 → M1_.1 18 i = nI 0 ∧ M1_.1 12 i = 0 := by decide +kernel
theorem m1_n : M1_.1 35 1 = nI 0 ∧ M1_.1 0 2 = nI 0 ∧ M1_.1 45 2 = nI 0 ∧ M1_.1 245 0 = 40 ∧ M1_.1 245 1 = 7 ∧ M1_.1 245 3 = nI 0 ∧ M1_.1 247 10 = 0 ∧ M1_.1 0 9 = nI 0 ∧ M1_.1 0 35 = nI 0 ∧ M1_.1 0 37 = nI 0 := by decide +kernel
end
section
/-! The two readers of expressions: the class's (recursive descent, pz2_) and the reference's (frames that wait, lo_) find the same trees, or both a fault. -/
def LO_ (M : mm_) (n : Nat) (S : ss_) : ss_ ⊕ (Int32 × Nat) := lo_ M n (n + 1 - S.1) S
def FX_ (M : mm_) (n : Nat) (S : ss_) : (Term × Nat) ⊕ (Int32 × Nat) := fx_ (LO_ M n S)
abbrev en_d (M : mm_) (n k : Nat) : Prop := bf_ M n k < 0 ∨ (¬ M.1 0 14 = 0 ∧ bf_ M n k ≤ 32)
theorem en_n {M : mm_} {n k : Nat} (h : n ≤ k) : en_d M n k := Or.inl (by unfold bf_; rw [if_neg (by omega)]; decide)
theorem lo_fuel {M : mm_} {n : Nat} : ∀ (u t : Nat) (S : ss_), n + 1 - S.1 ≤ u → n + 1 - S.1 ≤ t → S.1 ≤ n → lo_ M n t S = lo_ M n (n + 1 - S.1) S
  | 0, _, S, h, _, hk => by omega
  | u + 1, t, S, h, ht, hk => by
    obtain ⟨t, rfl⟩ : ∃ t2, t = t2 + 1 := ⟨t - 1, by omega⟩
    obtain ⟨w, hw⟩ : ∃ w, n + 1 - S.1 = w + 1 := ⟨n - S.1, by omega⟩
    rw [hw, lo_, lo_]
    obtain ⟨k, W, o, nd, op⟩ := S
    simp only at h ht hk hw ⊢
    cases o with
    | none =>
      simp only
      have g := gk_so (M := M) (n := n) (k := k) (nd := nd) (op := op) (W := W)
      cases hs : so_ M n k W nd op with
      | inr q => rfl
      | inl S2 =>
        rw [hs] at g
        have g2 : k < S2.1 ∧ S2.1 ≤ n := g
        simp only
        rw [lo_fuel u t S2 (by omega) (by omega) g2.2, lo_fuel u w S2 (by omega) (by omega) g2.2]
    | some e =>
      simp only
      by_cases he : en_d M n k
      · rw [if_pos he, if_pos he]
      · rw [if_neg he, if_neg he]
        have hkn : k < n := by
          rcases Nat.lt_or_ge k n with z | z
          · exact z
          · exact absurd (en_n z) he
        have g := s1_si (f := bf_ M n) (k := k) (nd := nd) (op := op) (W := W) (e := e)
        cases hs : si_ (bf_ M n k) k W e nd op with
        | inr q => rfl
        | inl S2 =>
          rw [hs] at g
          have g2 : S2.1 = k + 1 := g.1
          simp only
          rw [lo_fuel u t S2 (by omega) (by omega) (by omega), lo_fuel u w S2 (by omega) (by omega) (by omega)]
theorem FX_none {M : mm_} {n k nd op : Nat} {W : List fr_} (hk : k ≤ n) : FX_ M n (k, W, none, nd, op) = match so_ M n k W nd op with | .inl S => FX_ M n S | .inr z => .inr z := by
  have g := gk_so (M := M) (n := n) (k := k) (nd := nd) (op := op) (W := W)
  unfold FX_ LO_
  obtain ⟨w, hw⟩ : ∃ w, n + 1 - k = w + 1 := ⟨n - k, by omega⟩
  show fx_ (lo_ M n (n + 1 - k) (k, W, none, nd, op)) = _
  rw [hw, lo_]
  simp only
  cases hs : so_ M n k W nd op with
  | inr q => rfl
  | inl S2 =>
    rw [hs] at g
    have g2 : k < S2.1 ∧ S2.1 ≤ n := g
    simp only
    rw [lo_fuel (n + 1) w S2 (by omega) (by omega) g2.2]
theorem FX_some {M : mm_} {n k nd op : Nat} {W : List fr_} {e : Term} (hk : k ≤ n) (he : ¬ en_d M n k) : FX_ M n (k, W, some e, nd, op) = match si_ (bf_ M n k) k W e nd op with | .inl S => FX_ M n S | .inr z => .inr z := by
  have hkn : k < n := by
    rcases Nat.lt_or_ge k n with z | z
    · exact z
    · exact absurd (en_n z) he
  have g := s1_si (f := bf_ M n) (k := k) (nd := nd) (op := op) (W := W) (e := e)
  unfold FX_ LO_
  obtain ⟨w, hw⟩ : ∃ w, n + 1 - k = w + 1 := ⟨n - k, by omega⟩
  show fx_ (lo_ M n (n + 1 - k) (k, W, some e, nd, op)) = _
  rw [hw, lo_]
  simp only
  rw [if_neg he]
  cases hs : si_ (bf_ M n k) k W e nd op with
  | inr q => rfl
  | inl S2 =>
    rw [hs] at g
    have g2 : S2.1 = k + 1 := g.1
    simp only
    rw [lo_fuel (n + 1) w S2 (by omega) (by omega) (by omega)]
theorem FX_end {M : mm_} {n k nd op : Nat} {W : List fr_} {e : Term} (hk : k ≤ n) (he : en_d M n k) : FX_ M n (k, W, some e, nd, op) = fx_ (.inl (k, W, some e, nd, op)) := by
  unfold FX_ LO_
  obtain ⟨w, hw⟩ : ∃ w, n + 1 - k = w + 1 := ⟨n - k, by omega⟩
  show fx_ (lo_ M n (n + 1 - k) (k, W, some e, nd, op)) = _
  rw [hw, lo_]
  simp only
  rw [if_pos he]
def BD_ (M : mm_) (n : Nat) (S : ss_) : Prop := ∃ z, FX_ M n S = .inr z
theorem BD_none {M : mm_} {n k nd op : Nat} {W : List fr_} {z : Int32 × Nat} (hk : k ≤ n) (h : so_ M n k W nd op = .inr z) : BD_ M n (k, W, none, nd, op) := ⟨z, by rw [FX_none hk, h]⟩
theorem BD_some {M : mm_} {n k nd op : Nat} {W : List fr_} {e : Term} {z : Int32 × Nat} (hk : k ≤ n) (he : ¬ en_d M n k) (h : si_ (bf_ M n k) k W e nd op = .inr z) : BD_ M n (k, W, some e, nd, op) := ⟨z, by rw [FX_some hk he, h]⟩
/-! frames put together -/
def CL_ (F : List fr_) (e : Term) : Term := F.foldl (fun e g => rf_ g e) e
theorem CL_app {F H : List fr_} {e : Term} : CL_ (F ++ H) e = CL_ H (CL_ F e) := by unfold CL_; rw [List.foldl_append]
def lv_all (L : Nat) (F : List fr_) : Prop := ∀ g ∈ F, L ≤ g.1 ∧ g.1 ≤ 6
theorem lv_app {L : Nat} {F H : List fr_} (h1 : lv_all L F) (h2 : lv_all L H) : lv_all L (F ++ H) := fun g hg => (List.mem_append.mp hg).elim (h1 g) (h2 g)
theorem lv_mono {L K : Nat} {F : List fr_} (h : lv_all L F) (hk : K ≤ L) : lv_all K F := fun g hg => ⟨Nat.le_trans hk (h g hg).1, (h g hg).2⟩
theorem lv_1 {L : Nat} {g : fr_} (h1 : L ≤ g.1) (h2 : g.1 ≤ 6) : lv_all L [g] := fun x hx => by rw [List.mem_singleton.mp hx]; exact ⟨h1, h2⟩
theorem lv_nil {L : Nat} : lv_all L [] := fun _ h => by cases h
def tp9_ (L : Nat) : List fr_ → Prop
  | [] => True
  | g :: _ => (g.1 < L ∨ 6 < g.1) ∧ g.1 ≤ 8
theorem rt_app {L : Nat} : ∀ (F W : List fr_) (e : Term), lv_all L F → rt_ L (F ++ W) e = rt_ L W (CL_ F e)
  | [], _, _, _ => rfl
  | g :: F, W, e, h => by
    rw [List.cons_append, rt_, if_pos (h g List.mem_cons_self), rt_app F W _ (fun x hx => h x (List.mem_cons_of_mem _ hx))]
    rfl
theorem rt_stop {L : Nat} : ∀ {W : List fr_} {e : Term}, tp9_ L W → rt_ L W e = (W, e)
  | [], _, _ => rfl
  | g :: W, e, h => by
    rw [rt_, if_neg]
    have h2 : (g.1 < L ∨ 6 < g.1) ∧ g.1 ≤ 8 := h
    omega
theorem rt_all {L : Nat} {F W : List fr_} {e : Term} (h : lv_all L F) (ht : tp9_ L W) : rt_ L (F ++ W) e = (W, CL_ F e) := by rw [rt_app F W e h, rt_stop ht]
/-- a comparison stands among the frames, with sums and closer signs alone above it -/
def CMP_ (F : List fr_) : Prop := ∃ (F1 : List fr_) (g : fr_) (F2 : List fr_), F = F1 ++ g :: F2 ∧ lv_all 4 F1 ∧ g.1 = 3
theorem CMP_app {F H : List fr_} (h : CMP_ F) : CMP_ (F ++ H) := by
  obtain ⟨F1, g, F2, rfl, h1, h2⟩ := h
  exact ⟨F1, g, F2 ++ H, by simp, h1, h2⟩
theorem CMP_bt {F : List fr_} {W : List fr_} {k nd op : Nat} {c : Int32} {e : Term} (h : CMP_ F) : bt_ 3 c k (F ++ W) e nd op = .inr (1, k) := by
  obtain ⟨F1, g, F2, rfl, h1, h2⟩ := h
  unfold bt_
  rw [if_pos (rfl : 3 = 3), List.append_assoc, List.cons_append, rt_app F1 _ e h1, rt_stop (show tp9_ 4 (g :: (F2 ++ W)) from ⟨Or.inl (by omega), by omega⟩), if_pos]
  exact ⟨rfl, by show nI g.1 = 3; rw [h2]; rfl⟩
/-- what can't stand behind a tree of the kind q -/
def MU_ (q : Nat) (c : Int32) (F : List fr_) : Prop := (q ≤ 5 → ¬ kd_ c = 5) ∧ (q ≤ 4 → ¬ kd_ c = 4) ∧ (q ≤ 3 → kd_ c = 3 → CMP_ F) ∧ (q ≤ 2 → ¬ c = 63) ∧ (q ≤ 1 → ¬ c = 35)
theorem kd_3 {c : Int32} : c = 60 ∨ c = 61 ∨ c = 62 ↔ kd_ c = 3 := by
  unfold kd_
  split
  · simp_all
  · split
    · simp_all
    · split <;> simp_all
theorem kd_4 {c : Int32} : c = 43 ∨ c = 45 ↔ kd_ c = 4 := by
  unfold kd_
  split
  · rename_i h
    rcases h with rfl | rfl | rfl <;> decide
  · split
    · simp_all
    · split <;> simp_all
theorem kd_5 {c : Int32} : c = 42 ∨ c = 47 ∨ c = 37 ↔ kd_ c = 5 := by
  unfold kd_
  split
  · rename_i h
    rcases h with rfl | rfl | rfl <;> decide
  · split
    · rename_i h
      rcases h with rfl | rfl <;> decide
    · split
      · rename_i h
        constructor
        · intro _; rfl
        · intro _; rcases h with h | h | h
          · exact Or.inr (Or.inr h)
          · exact Or.inl h
          · exact Or.inr (Or.inl h)
      · rename_i h
        constructor
        · intro z; exact absurd (by rcases z with z | z | z; exact Or.inr (Or.inl z); exact Or.inr (Or.inr z); exact Or.inl z) h
        · intro z; exact absurd z (by decide)
def tp6_ : List fr_ → Nat
  | [] => 100
  | g :: _ => g.1
/-- a whole expression has been read, and nothing of it can go on -/
theorem si_end2 {k nd op : Nat} {F W : List fr_} {e : Term} {c : Int32} (hF : lv_all 1 F) (hm : MU_ 1 c F) (ht : W = [] ∨ tp6_ W = 0 ∨ tp6_ W = 7 ∨ tp6_ W = 8) (h7 : c = 58 → ¬ tp6_ W = 7) (h8 : c = 44 → ¬ tp6_ W = 8) (h0 : c = 41 → tp6_ W = 7 ∨ W = []) : ∃ z, si_ c k (F ++ W) e nd op = .inr z := by
  have hst : tp9_ 1 W := by
    cases W with
    | nil => trivial
    | cons g W =>
      have : g.1 = 0 ∨ g.1 = 7 ∨ g.1 = 8 := ht.resolve_left (by simp)
      show (g.1 < 1 ∨ 6 < g.1) ∧ g.1 ≤ 8
      omega
  have er := rt_all (e := e) hF hst
  unfold si_
  rw [if_neg (hm.2.2.2.2 (by omega)), if_neg (hm.2.2.2.1 (by omega))]
  by_cases c1 : c = 58
  · rw [if_pos c1]
    unfold cl_
    rw [er]
    cases W with
    | nil => exact ⟨_, rfl⟩
    | cons g W =>
      simp only
      rw [if_neg (show ¬ g.1 = 7 from h7 c1)]
      exact ⟨_, rfl⟩
  rw [if_neg c1]
  by_cases c2 : c = 60 ∨ c = 61 ∨ c = 62
  · rw [if_pos c2, CMP_bt (hm.2.2.1 (by omega) (kd_3.mp c2))]
    exact ⟨_, rfl⟩
  rw [if_neg c2, if_neg (fun z => hm.2.1 (by omega) (kd_4.mp z)), if_neg (fun z => hm.1 (by omega) (kd_5.mp z))]
  by_cases c3 : c = 44
  · rw [if_pos c3]
    unfold cm2_
    rw [er]
    cases W with
    | nil => exact ⟨_, rfl⟩
    | cons g W =>
      simp only
      rw [if_neg (show ¬ g.1 = 8 from h8 c3)]
      exact ⟨_, rfl⟩
  rw [if_neg c3]
  by_cases c4 : c = 41
  · rw [if_pos c4]
    unfold cz_
    rw [er]
    cases W with
    | nil => exact ⟨_, rfl⟩
    | cons g W =>
      have z : g.1 = 7 := (h0 c4).resolve_right (by simp)
      simp only
      rw [if_neg (by omega), if_neg (by omega)]
      exact ⟨_, rfl⟩
  rw [if_neg c4]
  exact ⟨_, rfl⟩
theorem BD_stuck {M : mm_} {n k nd op : Nat} {F W : List fr_} {e : Term} (hk : k ≤ n) (hF : lv_all 1 F) (hm : MU_ 1 (bf_ M n k) F) (hW : ¬ W = []) (ht : tp6_ W = 0 ∨ tp6_ W = 7 ∨ tp6_ W = 8) (h7 : bf_ M n k = 58 → ¬ tp6_ W = 7) (h8 : bf_ M n k = 44 → ¬ tp6_ W = 8) (h0 : bf_ M n k = 41 → tp6_ W = 7) : BD_ M n (k, F ++ W, some e, nd, op) := by
  by_cases he : en_d M n k
  · refine ⟨(1, k), ?_⟩
    rw [FX_end hk he]
    have hst : tp9_ 1 W := by
      cases W with
      | nil => trivial
      | cons g W =>
        have : g.1 = 0 ∨ g.1 = 7 ∨ g.1 = 8 := ht
        show (g.1 < 1 ∨ 6 < g.1) ∧ g.1 ≤ 8
        omega
    unfold fx_
    simp only
    rw [rt_all hF hst, if_neg]
    cases W with
    | nil => exact absurd rfl hW
    | cons g W => simp
  · obtain ⟨z, hz⟩ := si_end2 (k := k) (nd := nd) (op := op) (e := e) hF hm (Or.inr ht) h7 h8 (fun c => Or.inl (h0 c))
    exact BD_some hk he hz

end
section
/-! numbers, rows, names and variables: the class's and the reference's ways of reading them -/
def TF_ (T : Int32 → Int32) (f : Nat → Int32) (n : Nat) : Prop := n ≤ 200 ∧ (∀ k, k < 1073741824 → T (nI k) = f k) ∧ (∀ k, n ≤ k → f k = -1) ∧ ∀ k, k < n → 0 ≤ f k
def nr_ (a w : Nat) : Prop := a ≤ 1099511627776 ∧ w ≤ 9999999999 ∧ ((a = w ∧ w ≤ 9999999999) ∨ (9999999999 ≤ a ∧ w = 9999999999))
theorem tbl_ {a : Nat} (h : a < 2 ^ 64) : (lN a).toBitVec.toNat = a := by
  show (BitVec.ofNat 64 a).toNat = a
  rw [BitVec.toNat_ofNat, Nat.mod_eq_of_lt h]
theorem lN_toInt2 {n : Nat} (h : n < 2 ^ 63) : (lN n).toInt = (n : Int) := lg_ofNat_toInt h
theorem lN_lt2 {a b : Nat} (ha : a < 2 ^ 63) (hb : b < 2 ^ 63) : lN a < lN b ↔ a < b := by
  rw [Int64.lt_iff_toInt_lt, lN_toInt2 ha, lN_toInt2 hb]; omega
theorem lN_le2 {a b : Nat} (ha : a < 2 ^ 63) (hb : b < 2 ^ 63) : lN a ≤ lN b ↔ a ≤ b := by
  rw [Int64.le_iff_toInt_le, lN_toInt2 ha, lN_toInt2 hb]; omega
theorem fg_ig (c : Int32) : fg_ c = ig_ c := rfl
theorem ig_dg {c : Int32} (h : ig_ c = 1) : ∃ e, e ≤ 9 ∧ c = nI (48 + e) := by
  unfold ig_ at h
  split at h
  · rename_i z
    obtain ⟨j, hj, rfl⟩ := ix_ (x := c) (n := 58) (by decide) (fun y => absurd (Int32.le_trans z.1 (Int32.le_of_lt y)) (by decide)) (fun y => absurd (Int32.le_trans y z.2) (by decide))
    have h48 : 48 ≤ j := by
      rcases Nat.lt_or_ge j 48 with q | q
      · exact absurd (Int32.lt_of_lt_of_le (nI_lt q (by decide)) z.1) Int32.lt_irrefl
      · exact q
    exact ⟨j - 48, by omega, by congr 1; omega⟩
  · exact absurd h (by decide)
theorem nuP_nv {T : Int32 → Int32} {f : Nat → Int32} {n : Nat} (h : TF_ T f n) : ∀ (u2 u1 k a w : Nat), u2 ≤ u1 → n ≤ k + u2 → k ≤ 1000 - u2 → u2 ≤ 200 → nr_ a w → ∃ a2, (nuP_ T u1 k (lN a)) = ((nv_ f u2 k w).1, lN a2) ∧ nr_ a2 (nv_ f u2 k w).2
  | 0, u1, k, a, w, hu, hn, hk, h2, hr => by
    refine ⟨a, ?_, hr⟩
    cases u1 with
    | zero => rfl
    | succ u1 =>
      rw [nuP_, if_pos]
      · rfl
      · rw [h.2.1 k (by omega), h.2.2.1 k (by omega)]; decide
  | u2 + 1, u1, k, a, w, hu, hn, hk, h2, hr => by
    obtain ⟨u1, rfl⟩ : ∃ v, u1 = v + 1 := ⟨u1 - 1, by omega⟩
    rw [nuP_, nv_, h.2.1 k (by omega), fg_ig]
    rcases ig_01 (f k) with z | z
    · rw [if_pos z, if_neg (by rw [z]; decide)]
      exact ⟨a, rfl, hr⟩
    · rw [if_neg (by rw [z]; decide), if_pos z]
      obtain ⟨e, he, hc⟩ := ig_dg z
      rw [hc, dg_nI he]
      have e1 : lN a * 10 + (nI (48 + e)).toInt64 - 48 = lN (a * 10 + e) := by
        rw [show (10 : Int64) = lN 10 from rfl, show (48 : Int64) = lN 48 from rfl, lN_mul, nI_l (by omega), lN_add, lN_sub (by omega)]
        congr 1
        omega
      obtain ⟨r1, r2, r3⟩ := hr
      have e2 : mn_ (lN (a * 10 + e)) 1099511627776 = lN (if 1099511627776 < a * 10 + e then 1099511627776 else a * 10 + e) := by
        unfold mn_
        rw [show (1099511627776 : Int64) = lN 1099511627776 from rfl]
        by_cases q : 1099511627776 < a * 10 + e
        · rw [if_pos ((lN_lt2 (by omega) (by omega)).mpr q), if_pos q]
        · rw [if_neg (fun y => q ((lN_lt2 (by omega) (by omega)).mp y)), if_neg q]
      rw [e1, e2]
      refine nuP_nv h u2 u1 (k + 1) _ _ (by omega) (by omega) (by omega) (by omega) ⟨by split <;> omega, dn_le _ _, ?_⟩
      unfold dn_
      split <;> split <;> omega
/-! rows -/
theorem rb_io (c : Int32) : rb_ c = io_ c := by
  unfold rb_ io_ il_
  by_cases h : 97 ≤ c ∧ c ≤ 122
  · simp [h]
  · simp [h]
def dN_ (c : Int32) : Nat := (nc_ c).toNatClampNeg
theorem il_j {c : Int32} (h : il_ c = 1) : ∃ j, 97 ≤ j ∧ j ≤ 122 ∧ c = nI j := by
  unfold il_ at h
  split at h
  · rename_i z
    obtain ⟨j, hj, rfl⟩ := ix_ (x := c) (n := 123) (by decide) (fun y => absurd (Int32.le_trans z.1 (Int32.le_of_lt y)) (by decide)) (fun y => absurd (Int32.le_trans y z.2) (by decide))
    have h48 : 97 ≤ j := by
      rcases Nat.lt_or_ge j 97 with q | q
      · exact absurd (Int32.lt_of_lt_of_le (nI_lt q (by decide)) z.1) Int32.lt_irrefl
      · exact q
    exact ⟨j, h48, by omega, rfl⟩
  · exact absurd h (by decide)
theorem nc_j : ∀ j, j < 123 → 97 ≤ j → nc_ (nI j) = nI (j - 96) ∧ sgX_ (nI j) = nI (j - 96) := by decide +kernel
theorem nc_io {c : Int32} (h : io_ c = 1) : nc_ c = nI (dN_ c) ∧ sgX_ c = nI (dN_ c) ∧ 1 ≤ dN_ c ∧ dN_ c ≤ 27 := by
  unfold io_ at h
  split at h
  · rename_i z
    rcases z with z | rfl
    · obtain ⟨j, h1, h2, rfl⟩ := il_j z
      obtain ⟨e1, e2⟩ := nc_j j (by omega) h1
      have e3 : dN_ (nI j) = j - 96 := by unfold dN_; rw [e1]; exact pk_cl (j - 96) rfl (by omega)
      rw [e3]
      exact ⟨e1, e2, by omega, by omega⟩
    · decide
  · exact absurd h (by decide)
def BE_ (f : Nat → Int32) (k : Nat) : Nat → Nat
  | 0 => 0
  | j + 1 => BE_ f k j * 32 + dN_ (f (k + j))
def LE_ (f : Nat → Int32) (k : Nat) : Nat → Nat
  | 0 => 0
  | j + 1 => LE_ f k j + dN_ (f (k + j)) * 32 ^ j
def ry_ (f : Nat → Int32) (k z : Nat) : Prop := ∀ j, j < z → io_ (f (k + j)) = 1
theorem BE_lt {f : Nat → Int32} {k : Nat} : ∀ z, ry_ f k z → BE_ f k z < 32 ^ z
  | 0, _ => by simp [BE_]
  | z + 1, h => by
    have i := BE_lt z (fun j hj => h j (by omega))
    have d := (nc_io (h z (by omega))).2.2.2
    rw [BE_, Nat.pow_succ]
    omega
theorem LE_lt {f : Nat → Int32} {k : Nat} : ∀ z, ry_ f k z → LE_ f k z < 32 ^ z
  | 0, _ => by simp [LE_]
  | z + 1, h => by
    have i := LE_lt z (fun j hj => h j (by omega))
    have d := (nc_io (h z (by omega))).2.2.2
    rw [LE_, Nat.pow_succ]
    have : dN_ (f (k + z)) * 32 ^ z ≤ 27 * 32 ^ z := Nat.mul_le_mul_right _ d
    omega
theorem p32_ : (32 : Nat) ^ 12 = 2 ^ 60 := by decide
theorem p32_le {z : Nat} (h : z ≤ 12) : (32 : Nat) ^ z ≤ 2 ^ 60 := by rw [← p32_]; exact Nat.pow_le_pow_right (by decide) h
theorem sh5_ : (((5 : Int32).toInt64 &&& 63).toBitVec.smod 64).toNat = 5 := by decide +kernel
theorem nm_st {a d : Nat} (ha : a < 2 ^ 58) (hd : d < 32) : (lN a <<< ((5 : Int32).toInt64 &&& 63)) ||| (nI d).toInt64 = lN (a * 32 + d) := by
  apply Int64.toBitVec_inj.mp
  apply BitVec.eq_of_toNat_eq
  rw [Int64.toBitVec_or, BitVec.toNat_or, nI_l (by omega), tbl_ (by omega), tbl_ (by omega)]
  show ((lN a).toBitVec <<< (((5 : Int32).toInt64 &&& 63).toBitVec.smod 64).toNat).toNat ||| d = _
  rw [sh5_, BitVec.toNat_shiftLeft, Nat.shiftLeft_eq, tbl_ (by omega), Nat.mod_eq_of_lt (by omega), Nat.mul_comm a (2 ^ 5), ← Nat.two_pow_add_eq_or_of_lt (show d < 2 ^ 5 by omega)]
theorem nm_BE {f : Nat → Int32} {k : Nat} : ∀ z, z ≤ 12 → ry_ f k z → nm_ f k z = lN (BE_ f k z)
  | 0, _, _ => rfl
  | z + 1, hz, h => by
    have i := BE_lt z (fun j hj => h j (by omega))
    have p : (32 : Nat) ^ z ≤ 32 ^ 11 := Nat.pow_le_pow_right (by decide) (by omega)
    have p2 : (32 : Nat) ^ 11 = 2 ^ 55 := by decide
    obtain ⟨e1, -, e2, e3⟩ := nc_io (h z (by omega))
    rw [nm_, nm_BE z (by omega) (fun j hj => h j (by omega)), e1, nm_st (by omega) (by omega)]
    rfl
theorem wi_s2 : ∀ j, j < 12 → ∀ c, c < 32 → ((nI c).toInt64 <<< ((5 * nI j).toInt64 &&& 63)).toBitVec.toNat = c * 32 ^ j := by decide +kernel
theorem wi_st {a d j : Nat} (hj : j < 12) (ha : a < 32 ^ j) (hd : d < 32) : wi_ (lN a) (nI j) (nI d) = lN (a + d * 32 ^ j) := by
  have p := p32_le (show j ≤ 12 by omega)
  have e : (32 : Nat) ^ j = 2 ^ (5 * j) := by rw [Nat.pow_mul]
  have p2 : d * 32 ^ j < 2 ^ 64 := by
    have : d * 32 ^ j ≤ 15 * 2 ^ 60 ∨ d * 32 ^ j ≤ 31 * 32 ^ 11 := Or.inr (Nat.mul_le_mul (by omega) (Nat.pow_le_pow_right (by decide) (by omega)))
    have p3 : (31 : Nat) * 32 ^ 11 < 2 ^ 61 := by decide
    omega
  have p4 : d * 32 ^ j ≤ 31 * 32 ^ 11 := Nat.mul_le_mul (by omega) (Nat.pow_le_pow_right (by decide) (by omega))
  have p3 : (31 : Nat) * 32 ^ 11 < 2 ^ 60 := by decide
  unfold wi_
  apply Int64.toBitVec_inj.mp
  apply BitVec.eq_of_toNat_eq
  rw [Int64.toBitVec_or, BitVec.toNat_or, wi_s2 j hj d hd, tbl_ (by omega), tbl_ (by omega), Nat.or_comm, e, Nat.mul_comm d, ← Nat.two_pow_add_eq_or_of_lt (by rw [← e]; exact ha)]
  omega
/-- the row that stands at k, as the class scans it -/
theorem srT_rn {T : Int32 → Int32} {f : Nat → Int32} {n k : Nat} (h : TF_ T f n) (hk : k ≤ 300) : ∀ (u2 u1 j : Nat), u2 ≤ u1 → n ≤ k + j + u2 → j + u2 ≤ 300 → ry_ f k j → srT_ T (nI k) u1 j (nI (dt_ f k j)) (lN (LE_ f k (min j 12))) = (j + rn_ f u2 (k + j), nI (dt_ f k (j + rn_ f u2 (k + j))), lN (LE_ f k (min (j + rn_ f u2 (k + j)) 12))) ∧ ry_ f k (j + rn_ f u2 (k + j))
  | 0, u1, j, hu, hn, h3, hr => by
    rw [rn_, Nat.add_zero]
    refine ⟨?_, hr⟩
    cases u1 with
    | zero => rfl
    | succ u1 =>
      rw [srT_, if_pos]
      rw [nI_add, h.2.1 (k + j) (by omega), h.2.2.1 (k + j) (by omega)]; decide
  | u2 + 1, u1, j, hu, hn, h3, hr => by
    obtain ⟨u1, rfl⟩ : ∃ v, u1 = v + 1 := ⟨u1 - 1, by omega⟩
    rw [srT_, rn_, nI_add, h.2.1 (k + j) (by omega), rb_io]
    rcases io_01 (f (k + j)) with z | z
    · rw [if_pos z, if_neg (by rw [z]; decide), Nat.add_zero]
      exact ⟨rfl, hr⟩
    · rw [if_neg (by rw [z]; decide), if_pos z]
      obtain ⟨e1, e2, e3, e4⟩ := nc_io z
      have r2 : ry_ f k (j + 1) := fun i hi => by
        rcases Nat.lt_or_ge i j with q | q
        · exact hr i q
        · rw [show i = j by omega]; exact z
      have d1 : nI (dt_ f k j) + (if f (k + j) = 46 then 1 else 0) = nI (dt_ f k (j + 1)) := by
        rw [dt_]
        split
        · rw [show (1 : Int32) = nI 1 from rfl, nI_add]
        · rw [show (0 : Int32) = nI 0 from rfl, nI_add]; rfl
      have w1 : (if j < 12 then wi_ (lN (LE_ f k (min j 12))) (nI j) (sgX_ (f (k + j))) else lN (LE_ f k (min j 12))) = lN (LE_ f k (min (j + 1) 12)) := by
        by_cases q : j < 12
        · rw [if_pos q, e2, Nat.min_eq_left (by omega), Nat.min_eq_left (by omega), wi_st q (LE_lt j hr) (by omega)]
          rfl
        · rw [if_neg q, Nat.min_eq_right (by omega), Nat.min_eq_right (by omega)]
      rw [d1, w1]
      have i := srT_rn h hk u2 u1 (j + 1) (by omega) (by omega) (by omega) r2
      rw [show k + (j + 1) = k + j + 1 by omega] at i
      rw [show j + (rn_ f u2 (k + j + 1) + 1) = j + 1 + rn_ f u2 (k + j + 1) by omega]
      exact i
theorem srT_rz {T : Int32 → Int32} {M : mm_} {n k : Nat} (h : TF_ T (bf_ M n) n) (hk : k ≤ n) : srT_ T (nI k) 200 0 0 0 = (rz_ M n k, nI (dt_ (bf_ M n) k (rz_ M n k)), lN (LE_ (bf_ M n) k (min (rz_ M n k) 12))) ∧ ry_ (bf_ M n) k (rz_ M n k) := by
  have hn := h.1
  have i := srT_rn h (show k ≤ 300 by omega) (n - k) 200 0 (by omega) (by omega) (by omega) (fun j hj => by omega)
  rw [Nat.zero_add, Nat.add_zero] at i
  exact i
theorem dt_1 {f : Nat → Int32} {k : Nat} : dt_ f k 1 = if f k = 46 then 1 else 0 := by
  rw [dt_, dt_, Nat.add_zero]
/-- a row is a name -/
theorem isn_ne {T : Int32 → Int32} {f : Nat → Int32} {n k z : Nat} (h : TF_ T f n) (hk : k ≤ n) (hz : 1 ≤ z) (hz2 : k + z ≤ n) : (nI (dt_ f k z) = 1 ∧ ¬ T (nI k) = 46 ∧ ¬ T (nI k + nI z - 1) = 46) ↔ ne_ f k z := by
  have hn := h.1
  have e1 : nI k + nI z - 1 = nI (k + z - 1) := by rw [nI_add, nI_p _ (by omega)]
  rw [e1, h.2.1 k (by omega), h.2.1 (k + z - 1) (by omega)]
  have hd := dt_le f k z
  have e2 : nI (dt_ f k z) = 1 ↔ dt_ f k z = 1 := by
    rw [show (1 : Int32) = nI 1 from rfl]
    exact nI_eq (by omega) (by decide)
  rw [e2]
  constructor
  · rintro ⟨a, b, c⟩
    refine ⟨?_, a, b, c⟩
    rcases Nat.lt_or_ge 2 z with q | q
    · exact q
    · exfalso
      rcases (show z = 1 ∨ z = 2 by omega) with rfl | rfl
      · rw [dt_1, if_neg b] at a; omega
      · rw [dt_, dt_1, if_neg b] at a
        rw [show k + 2 - 1 = k + 1 by omega] at c
        rw [if_neg c] at a
        omega
  · rintro ⟨-, a, b, c⟩
    exact ⟨a, b, c⟩
/-! variables -/
def xx_ (j : Nat) : Int32 := ixo_ 0 (((nI j).toUInt32 % 65536).toInt32)
theorem vr_k1 : ∀ j, j < 26 → ∀ v, v < 4 → (decide (¬ xx_ (97 + j) < 0 ∧ xx_ (97 + j) < nI v) = decide (¬ ow_ (nI (97 + j)) = 0 ∧ vv_ (nI (97 + j)) < nI v)) := by decide +kernel
theorem vr_k2 : ∀ j, j < 26 → ∀ v, v < 4 → (decide (¬ ow_ (nI (97 + j)) = 0 ∧ vv_ (nI (97 + j)) < nI v) = false ∨ (xx_ (97 + j) = vv_ (nI (97 + j)) ∧ ¬ vv_ (nI (97 + j)) < 0)) := by decide +kernel
theorem vr_k : ∀ j, j < 123 → 97 ≤ j → ∀ v, v < 4 → ((¬ xx_ j < 0 ∧ xx_ j < nI v) ↔ (¬ ow_ (nI j) = 0 ∧ vv_ (nI j) < nI v)) ∧ ((¬ ow_ (nI j) = 0 ∧ vv_ (nI j) < nI v) → xx_ j = vv_ (nI j) ∧ ¬ vv_ (nI j) < 0) := by
  intro j h1 h2 v hv
  obtain ⟨i, rfl⟩ : ∃ i, j = 97 + i := ⟨j - 97, by omega⟩
  have a := vr_k1 i (by omega) v hv
  have b := vr_k2 i (by omega) v hv
  refine ⟨by rw [decide_eq_decide] at a; exact a, fun c => b.resolve_left (fun q => ?_)⟩
  rw [decide_eq_false_iff_not] at q
  exact q c
def cv_ (c : Int32) : Prop := ¬ ow_ c = 0 ∨ (¬ vv_ c < 3 ∧ ¬ 6 < vv_ c ∧ ¬ c = 100 ∧ ¬ c = 101 ∧ ¬ c = 102 ∧ ¬ c = 103)
def cb2_ (c : Int32) : Bool := !decide (ow_ c = 0) || (!decide (vv_ c < 3) && !decide (6 < vv_ c) && !decide (c = 100) && !decide (c = 101) && !decide (c = 102) && !decide (c = 103))
theorem cv_b (c : Int32) : cv_ c ↔ cb2_ c = true := by
  unfold cv_ cb2_
  simp [and_assoc]
theorem vr_c1 : ∀ j, j < 26 → (decide (¬ xx_ (97 + j) < 0 ∧ xx_ (97 + j) < 7) = cb2_ (nI (97 + j))) ∧ (cb2_ (nI (97 + j)) = false ∨ (xx_ (97 + j) = vv_ (nI (97 + j)) ∧ ¬ vv_ (nI (97 + j)) < 0)) := by decide +kernel
theorem vr_c : ∀ j, j < 123 → 97 ≤ j → ((¬ xx_ j < 0 ∧ xx_ j < 7) ↔ cv_ (nI j)) ∧ (cv_ (nI j) → xx_ j = vv_ (nI j) ∧ ¬ vv_ (nI j) < 0) := by
  intro j h1 h2
  obtain ⟨i, rfl⟩ : ∃ i, j = 97 + i := ⟨j - 97, by omega⟩
  obtain ⟨a, b⟩ := vr_c1 i (by omega)
  rw [cv_b]
  refine ⟨by rw [← a, decide_eq_true_iff], fun c => b.resolve_left (fun q => ?_)⟩
  rw [c] at q; exact absurd q (by decide)
/-- what the two readers know alike: in a method v parameters and names, in a command seven variables -/
def KN_ (M : mm_) (v : Int32) (nm : Bool) : Prop := (nm = true ∧ M.1 0 14 = 0 ∧ ∃ j, j < 4 ∧ v = nI j ∧ M.1 0 15 = v) ∨ (nm = false ∧ ¬ M.1 0 14 = 0 ∧ v = 7 ∧ M.1 0 15 = 3)
theorem vx_vo {T : Int32 → Int32} {M : mm_} {n k : Nat} {v : Int32} {nm : Bool} (h : TF_ T (bf_ M n) n) (hk : k ≤ n) (hK : KN_ M v nm) (hl : il_ (bf_ M n k) = 1) : ((¬ vx2_ T k < 0 ∧ vx2_ T k < v) ↔ ¬ vo_ M (bf_ M n k) < 0) ∧ (¬ vo_ M (bf_ M n k) < 0 → vx2_ T k = vo_ M (bf_ M n k)) := by
  have hn := h.1
  unfold vx2_
  rw [h.2.1 k (by omega)]
  obtain ⟨j, h1, h2, e⟩ := il_j hl
  rw [e]
  show ((¬ xx_ j < 0 ∧ xx_ j < v) ↔ ¬ vo_ M (nI j) < 0) ∧ (¬ vo_ M (nI j) < 0 → xx_ j = vo_ M (nI j))
  rcases hK with ⟨-, k1, q, hq, rfl, k3⟩ | ⟨-, k1, rfl, k3⟩
  · obtain ⟨a1, a2⟩ := vr_k j (by omega) h1 q hq
    unfold vo_
    rw [k1, k3]
    by_cases c : ¬ ow_ (nI j) = 0 ∧ vv_ (nI j) < nI q
    · rw [if_pos (Or.inl c)]
      obtain ⟨b1, b2⟩ := a2 c
      exact ⟨⟨fun _ => b2, fun _ => a1.mpr c⟩, fun _ => b1⟩
    · rw [if_neg (fun z => by rcases z with z | z; exact c z; exact z.1 rfl)]
      exact ⟨⟨fun z => absurd (a1.mp z) c, fun z => absurd (by decide) z⟩, fun z => absurd (by decide) z⟩
  · obtain ⟨a1, a2⟩ := vr_c j (by omega) h1
    unfold vo_
    by_cases c : cv_ (nI j)
    · rw [if_pos (Or.inr ⟨k1, c⟩)]
      obtain ⟨b1, b2⟩ := a2 c
      exact ⟨⟨fun _ => b2, fun _ => a1.mpr c⟩, fun _ => b1⟩
    · rw [if_neg (fun z => by rcases z with z | z; exact c (Or.inl z.1); exact c z.2)]
      exact ⟨⟨fun z => absurd (a1.mp z) c, fun z => absurd (by decide) z⟩, fun z => absurd (by decide) z⟩

end
