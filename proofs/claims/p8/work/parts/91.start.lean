/-! the start of the law: what the tables and the Statement say of the classes, the arrays, the texts and the statics -/
theorem tbA0 : Cond.arrayOver (.object RX0) ∈ lw_tbl := List.mem_append_right _ (List.mem_of_getElem? (i := 168) (by decide +kernel))
theorem tbA2 : Cond.arrayOver (.object RX2) ∈ lw_tbl := List.mem_append_right _ (List.mem_of_getElem? (i := 187) (by decide +kernel))
theorem tbAi : Cond.arrayOver (.array .int) ∈ lw_tbl := List.mem_append_right _ (List.mem_of_getElem? (i := 277) (by decide +kernel))
theorem tbS0 : Cond.stringRef RX1 129 "abcrxnk" ∈ lw_tbl := List.mem_append_right _ (List.mem_of_getElem? (i := 495) (by decide +kernel))
theorem tbS1 : Cond.stringRef RX10 102 "watch" ∈ lw_tbl := List.mem_append_right _ (List.mem_of_getElem? (i := 664) (by decide +kernel))
theorem tbS2 : Cond.stringRef RX10 108 "monitor" ∈ lw_tbl := List.mem_append_right _ (List.mem_of_getElem? (i := 691) (by decide +kernel))
theorem tbS3 : Cond.stringRef RX10 110 "keep" ∈ lw_tbl := List.mem_append_right _ (List.mem_of_getElem? (i := 692) (by decide +kernel))
theorem tbS4 : Cond.stringRef RX10 112 "kill" ∈ lw_tbl := List.mem_append_right _ (List.mem_of_getElem? (i := 693) (by decide +kernel))
theorem tbS5 : Cond.stringRef RX10 114 "reset" ∈ lw_tbl := List.mem_append_right _ (List.mem_of_getElem? (i := 694) (by decide +kernel))
theorem tbS6 : Cond.stringRef RX10 146 "enter" ∈ lw_tbl := List.mem_append_right _ (List.mem_of_getElem? (i := 708) (by decide +kernel))
theorem tbS7 : Cond.stringRef RX10 148 "return" ∈ lw_tbl := List.mem_append_right _ (List.mem_of_getElem? (i := 709) (by decide +kernel))
theorem tbS8 : Cond.stringRef RX10 150 "throw" ∈ lw_tbl := List.mem_append_right _ (List.mem_of_getElem? (i := 710) (by decide +kernel))
theorem tbS9 : Cond.stringRef RX10 125 "abcrxnk" ∈ lw_tbl := List.mem_append_right _ (List.mem_of_getElem? (i := 717) (by decide +kernel))
theorem tbLC : Cond.laysStatic "java/lang/String" "COMPACT_STRINGS" "Z" ∈ lw_tbl := List.mem_append_right _ (List.mem_of_getElem? (i := 509) (by decide +kernel))
theorem tbIC : Cond.initialized "java/lang/String" ∈ lw_tbl := List.mem_append_right _ (List.mem_of_getElem? (i := 19) (by decide +kernel))
theorem tbLU : Cond.laysStatic "java/lang/Throwable" "UNASSIGNED_STACK" "[Ljava/lang/StackTraceElement;" ∈ lw_tbl := List.mem_append_right _ (List.mem_of_getElem? (i := 814) (by decide +kernel))
theorem tbIU : Cond.initialized "java/lang/Throwable" ∈ lw_tbl := List.mem_append_right _ (List.mem_of_getElem? (i := 13) (by decide +kernel))
theorem tbLP : Cond.laysStatic "java/lang/Throwable" "SUPPRESSED_SENTINEL" "Ljava/util/List;" ∈ lw_tbl := List.mem_append_right _ (List.mem_of_getElem? (i := 816) (by decide +kernel))
theorem tbIP : Cond.initialized "java/lang/Throwable" ∈ lw_tbl := List.mem_append_right _ (List.mem_of_getElem? (i := 13) (by decide +kernel))
theorem tbLF : Cond.laysStatic "jdk/internal/util/Preconditions" "SIOOBE_FORMATTER" "Ljava/util/function/BiFunction;" ∈ lw_tbl := List.mem_append_right _ (List.mem_of_getElem? (i := 550) (by decide +kernel))
theorem tbIF : Cond.initialized "jdk/internal/util/Preconditions" ∈ lw_tbl := List.mem_append_right _ (List.mem_of_getElem? (i := 22) (by decide +kernel))
theorem tbC0 : Cond.castable "java/lang/IllegalArgumentException" "java/lang/IllegalArgumentException" ∈ lw_tbl := List.mem_append_right _ (List.mem_of_getElem? (i := 789) (by decide +kernel))
theorem tbC1 : Cond.castable "java/lang/IndexOutOfBoundsException" "java/lang/IndexOutOfBoundsException" ∈ lw_tbl := List.mem_append_right _ (List.mem_of_getElem? (i := 864) (by decide +kernel))
theorem tbD0 : Cond.declares ⟨"java/lang/RuntimeException", "<init>", "()V"⟩ ∈ lw_tbl := List.mem_append_right _ (List.mem_of_getElem? (i := 790) (by decide +kernel))
theorem tbD1 : Cond.declares ⟨"java/lang/Exception", "<init>", "()V"⟩ ∈ lw_tbl := List.mem_append_right _ (List.mem_of_getElem? (i := 792) (by decide +kernel))
theorem tbD2 : Cond.declares ⟨"java/lang/Throwable", "<init>", "()V"⟩ ∈ lw_tbl := List.mem_append_right _ (List.mem_of_getElem? (i := 794) (by decide +kernel))
theorem kd_prim {s : State} {args : Array Value} {ty : FieldType} (h : (Cond.arrayClass ty).before args s = true) (hr : ∀ c, s.vm.findClass ("[" ++ ty.toString) = some c → va_RA s c ty) : ∃ cA : ClassId, ArrOfT s cA ty ∧ va_RA s cA ty := by
  obtain ⟨c, k, comp, h1, h2, h3⟩ := Cond.arrayClass_spec h
  exact ⟨c, fun n z => ⟨(fun k h => by cases h), k, h2, comp, h3⟩, hr c h1⟩
theorem kd_obj {s : State} {args : Array Value} {n : String} (h : (Cond.arrayOver (.object n)).before args s = true) : ∃ cA : ClassId, ArrOfT s cA (.object n) ∧ va_RA s cA (.object n) := by
  obtain ⟨comp, c, k, h1, h2, h3, h4, h5⟩ := Cond.arrayOver_spec h
  exact ⟨c, fun m z => ⟨(fun k h => by cases h), k, h3, comp, h4⟩, k, comp, h3, h4, h1, h5⟩
theorem kd_arr {s : State} {args : Array Value} {t : FieldType} (h : (Cond.arrayOver (.array t)).before args s = true) : ∃ cA : ClassId, ArrOfT s cA (.array t) ∧ va_RA s cA (.array t) := by
  obtain ⟨comp, c, k, h1, h2, h3, h4, h5⟩ := arrayOverA_spec h
  exact ⟨c, fun m z => ⟨(fun k h => by cases h), k, h3, comp, h4⟩, h5⟩
def tmS_ (i : Nat) : Term := (([.string RX1 129, .string RX10 102, .string RX10 108, .string RX10 110, .string RX10 112, .string RX10 114, .string RX10 146, .string RX10 148, .string RX10 150] : List Term)).getD i (.string RX1 129)
def flS_ : List Cond := flatC (Jvm.Cond.and given_1 narrow_1)
theorem flE_ : ∀ i : Nat, i < 9 → Cond.exactly (tmS_ i) "java/lang/String" ∈ flS_ := by decide +kernel
theorem flC_ : ∀ i : Nat, i < 9 → Cond.eq (.field (tmS_ i) "java/lang/String" "coder" "B") (.int 0) ∈ flS_ := by decide +kernel
theorem flA_ : ∀ i : Nat, i < 9 → Cond.arrayOf (.field (tmS_ i) "java/lang/String" "value" "[B") .byte ∈ flS_ := by decide +kernel
theorem flL_ : ∀ i : Nat, i < 9 → Cond.eq (.length (.field (tmS_ i) "java/lang/String" "value" "[B")) (.int (Int32.ofNat (sLen_.getD i 0))) ∈ flS_ := by decide +kernel
theorem flB_ : ∀ i : Nat, i < 9 → ∀ j : Nat, j < sLen_.getD i 0 → Cond.eq (.elem (.field (tmS_ i) "java/lang/String" "value" "[B") (.int (Int32.ofNat j))) (.int ((sByt_.getD i []).getD j 0)) ∈ flS_ := by decide +kernel
theorem flN_ : ∀ i : Nat, i < 9 → ∀ j : Nat, j < 9 → i ≠ j → Cond.not (Cond.eq (tmS_ i) (tmS_ j)) ∈ flS_ ∨ Cond.not (Cond.eq (tmS_ j) (tmS_ i)) ∈ flS_ := by decide +kernel
theorem flQ_ : Cond.eq (.string RX1 129) (.string RX10 125) ∈ flS_ := by decide +kernel
theorem flK_ : Cond.not (.castable "java/lang/IllegalArgumentException" "java/lang/IndexOutOfBoundsException") ∈ flS_ := by decide +kernel
theorem flZC_ : Cond.eq (.static "java/lang/String" "COMPACT_STRINGS" "Z") (.int 1) ∈ flS_ := by decide +kernel
theorem flZU_ : Cond.isRef (.static "java/lang/Throwable" "UNASSIGNED_STACK" "[Ljava/lang/StackTraceElement;") ∈ flS_ := by decide +kernel
theorem flZP_ : Cond.isRef (.static "java/lang/Throwable" "SUPPRESSED_SENTINEL" "Ljava/util/List;") ∈ flS_ := by decide +kernel
theorem flZF_ : Cond.isRef (.static "jdk/internal/util/Preconditions" "SIOOBE_FORMATTER" "Ljava/util/function/BiFunction;") ∈ flS_ := by decide +kernel
theorem st_kw {s : State} {args : Array Value} (hts : ∀ w ∈ lw_tbl, w.before args s = true) (hgv : (Jvm.Cond.and given_1 narrow_1).before args s = true) : ∃ G : gg_, G.2.2.2 = s.heap.size ∧ ga_ G ∧ kw_ G s ∧ va_Nc "java/lang/IllegalArgumentException" "java/lang/IndexOutOfBoundsException" s := by
  have hA : ∀ a : Nat, a < s.heap.size → ¬ (fun q : Nat => s.heap.size ≤ q) a := fun a h1 h2 => by
    have h3 : s.heap.size ≤ a := h2
    omega
  have hg := gw_hts hts
  have hfl := flat_of_before _ hgv
  obtain ⟨c0, iS0, hK0⟩ := u_known (C := RX0) (T := TX0) (N := 6) (n := 6) hg inG0 (hg _ ins0_)
  obtain ⟨c1, iS1, hK1⟩ := u_known (C := RX1) (T := TX1) (N := 7) (n := 7) hg inG1 (hg _ ins1_)
  obtain ⟨c2, iS2, hK2⟩ := u_known (C := RX2) (T := TX2) (N := 10) (n := 10) hg inG2 (hg _ ins2_)
  obtain ⟨c3, iS3, hK3⟩ := u_known (C := RX3) (T := TX3) (N := 2) (n := 2) hg inG3 (hg _ ins3_)
  obtain ⟨c4, iS4, hK4⟩ := u_known (C := RX4) (T := TX4) (N := 13) (n := 13) hg inG4 (hg _ ins4_)
  obtain ⟨c5, iS5, hK5⟩ := u_known (C := RX5) (T := TX5) (N := 3) (n := 3) hg inG5 (hg _ ins5_)
  obtain ⟨c6, iS6, hK6⟩ := u_known (C := RX7) (T := TX7) (N := 7) (n := 7) hg inG7 (hg _ ins7_)
  obtain ⟨c7, iS7, hK7⟩ := u_known (C := RX8) (T := TX8) (N := 4) (n := 4) hg inG8 (hg _ ins8_)
  obtain ⟨c8, iS8, hK8⟩ := u_known (C := RX9) (T := TX9) (N := 2) (n := 2) hg inG9 (hg _ ins9_)
  obtain ⟨c9, iS9, hK9⟩ := u_known (C := RX10) (T := TX10) (N := 3) (n := 3) hg inG10 (hg _ ins10_)
  obtain ⟨c10, iS10, hK10⟩ := u_known (C := RX11) (T := TX11) (N := 8) (n := 8) hg inG11 (hg _ ins11_)
  obtain ⟨c11, iS11, hK11⟩ := u_known (C := RX12) (T := TX12) (N := 60) (n := 60) hg inG12 (hg _ ins12_)
  obtain ⟨k0, hk0⟩ := kd_prim (ty := .int) (hg _ ac_int) (fun c h => h)
  obtain ⟨k1, hk1⟩ := kd_prim (ty := .long) (hg _ ac_long) (fun c h => h)
  obtain ⟨k2, hk2⟩ := kd_prim (ty := .boolean) (hg _ ac_boolean) (fun c h => h)
  obtain ⟨k3, hk3⟩ := kd_obj (hts _ tbA0)
  obtain ⟨k4, hk4⟩ := kd_obj (hts _ tbA2)
  obtain ⟨k5, hk5⟩ := kd_arr (hts _ tbAi)
  obtain ⟨adK, adV, hSt, hev⟩ := vk_Sof (A := fun q : Nat => s.heap.size ≤ q) (args := args) (N := 9) (tm := tmS_) (len := sLen_) (byt := sByt_) (by decide) (fun i hi => hfl _ (flE_ i hi)) (fun i hi => hfl _ (flC_ i hi)) (fun i hi => hfl _ (flA_ i hi)) (fun i hi => hfl _ (flL_ i hi)) (fun i hi j hj => hfl _ (flB_ i hi j hj)) (fun i j hi hj hn => (flN_ i hi j hj hn).elim (fun h => Or.inl (hfl _ h)) (fun h => Or.inr (hfl _ h))) hA
  have hev9 : (Term.string RX10 125).eval args s none [] s = some (.ref (adK 0)) := va_eqR (hfl _ flQ_) (hev 0 (by decide))
  let G : gg_ := (fun k => if k < 1000 then s.heap.size + pi_ k else if k < 2000 then adK (k - 1000) else adV (k - 2000), fun t => if t = 0 then k0 else if t = 1 then k1 else if t = 2 then k2 else if t = 3 then k3 else if t = 4 then k4 else k5, (fun i => if i = 0 then c0 else if i = 1 then c1 else if i = 2 then c2 else if i = 3 then c3 else if i = 4 then c4 else if i = 5 then c5 else if i = 6 then c6 else if i = 7 then c7 else if i = 8 then c8 else if i = 9 then c9 else if i = 10 then c10 else c11, fun i => if i = 0 then iS0 else if i = 1 then iS1 else if i = 2 then iS2 else if i = 3 then iS3 else if i = 4 then iS4 else if i = 5 then iS5 else if i = 6 then iS6 else if i = 7 then iS7 else if i = 8 then iS8 else if i = 9 then iS9 else if i = 10 then iS10 else iS11), s.heap.size)
  have e1 : ∀ i, i < 9 → G.1 (1000 + i) = adK i := fun i hi => by
    show (if 1000 + i < 1000 then _ else if 1000 + i < 2000 then adK (1000 + i - 1000) else _) = _
    rw [if_neg (by omega), if_pos (by omega), Nat.add_sub_cancel_left]
  have e2 : ∀ i, i < 9 → G.1 (2000 + i) = adV i := fun i hi => by
    show (if 2000 + i < 1000 then _ else if 2000 + i < 2000 then _ else adV (2000 + i - 2000)) = _
    rw [if_neg (by omega), if_neg (by omega), Nat.add_sub_cancel_left]
  refine ⟨G, rfl, ?_, ⟨⟨?_, ?_⟩, ⟨va_AO.of (hts _ tbA0), va_AO.of (hts _ tbA2), hts _ tbAi⟩, ?_, ⟨?_, ?_⟩, ?_⟩, va_Nc.of (hfl _ flK_)⟩
  · intro k hk
    have hk2 : k < 263 := hk
    show (if k < 1000 then _ else _) = _
    rw [if_pos (by omega)]
  · intro k q hq
    match k, hq with
    | 0, hq => cases hq; exact hK0
    | 1, hq => cases hq; exact hK1
    | 2, hq => cases hq; exact hK2
    | 3, hq => cases hq; exact hK3
    | 4, hq => cases hq; exact hK4
    | 5, hq => cases hq; exact hK5
    | 6, hq => cases hq; exact hK6
    | 7, hq => cases hq; exact hK7
    | 8, hq => cases hq; exact hK8
    | 9, hq => cases hq; exact hK9
    | 10, hq => cases hq; exact hK10
    | 11, hq => cases hq; exact hK11
    | k + 12, hq => cases hq
  · intro k q hq
    match k, hq with
    | 0, hq => cases hq; exact hk0
    | 1, hq => cases hq; exact hk1
    | 2, hq => cases hq; exact hk2
    | 3, hq => cases hq; exact hk3
    | 4, hq => cases hq; exact hk4
    | 5, hq => cases hq; exact hk5
    | k + 6, hq => cases hq
  · intro q hq
    have hq2 : q ∈ skX_ := hq
    unfold skX_ at hq2
    simp only [List.mem_cons, List.mem_singleton, List.not_mem_nil, or_false] at hq2
    rcases hq2 with rfl | rfl | rfl | rfl | rfl | rfl | rfl | rfl | rfl | rfl
    · rw [e1 0 (by decide)]; exact vk_R.of (hts _ tbS0) (hev 0 (by decide))
    · rw [e1 1 (by decide)]; exact vk_R.of (hts _ tbS1) (hev 1 (by decide))
    · rw [e1 2 (by decide)]; exact vk_R.of (hts _ tbS2) (hev 2 (by decide))
    · rw [e1 3 (by decide)]; exact vk_R.of (hts _ tbS3) (hev 3 (by decide))
    · rw [e1 4 (by decide)]; exact vk_R.of (hts _ tbS4) (hev 4 (by decide))
    · rw [e1 5 (by decide)]; exact vk_R.of (hts _ tbS5) (hev 5 (by decide))
    · rw [e1 6 (by decide)]; exact vk_R.of (hts _ tbS6) (hev 6 (by decide))
    · rw [e1 7 (by decide)]; exact vk_R.of (hts _ tbS7) (hev 7 (by decide))
    · rw [e1 8 (by decide)]; exact vk_R.of (hts _ tbS8) (hev 8 (by decide))
    · rw [e1 0 (by decide)]; exact vk_R.of (hts _ tbS9) hev9
  · intro E hE
    have hE2 : E = "java/lang/IllegalArgumentException" ∨ E = "java/lang/IndexOutOfBoundsException" := by
      unfold nx_ at hE
      simpa only [List.mem_cons, List.not_mem_nil, or_false] using hE
    rcases hE2 with rfl | rfl
    · exact va_Nw.of rfl (hts _ tbC0)
    · exact va_Nw.of rfl (hts _ tbC1)
  · intro y hy
    unfold dl_ at hy
    simp only [List.mem_cons, List.not_mem_nil, or_false] at hy
    rcases hy with rfl | rfl | rfl
    · exact va_Nw.of rfl (hts _ tbD0)
    · exact va_Nw.of rfl (hts _ tbD1)
    · exact va_Nw.of rfl (hts _ tbD2)
  · refine ⟨⟨fun i hi => ?_, fun i j hi hj h => hSt.2 i j hi hj ?_⟩, va_Zof (hts _ tbLC) (hts _ tbIC) (va_eqi (hfl _ flZC_)) hA, vx_Zqof (hts _ tbLU) (hts _ tbIU) (hfl _ flZU_) hA, vx_Zqof (hts _ tbLP) (hts _ tbIP) (hfl _ flZP_) hA, va_Zqof (hts _ tbLF) (hts _ tbIF) (hfl _ flZF_) hA⟩
    · have h3 := hSt.1 i hi
      rw [← e1 i hi, ← e2 i hi] at h3
      exact h3
    · have h2 : G.1 (1000 + i) = G.1 (1000 + j) := h
      rw [e1 i hi, e1 j hj] at h2
      exact h2
/-! THE CLAIM OUT OF ONE WALK OF THE LAW'S BODY. Your part is whole_start (and what it stands on); all else here is the same for every law, but numbers. -/
def R_law : String := "ProbeConsoleLaw"
def lw_P (b : Addr) (xs : List Int32) (args : Array Value) (s : State) : Prop := args = #[.ref b] ∧ s.IntsAt b xs ∧ xs.length ≤ 2560 ∧ (Jvm.Cond.and given_1 narrow_1).before args s = true
def lw_Q (_ : Array Value) (s : State) (o : Outcome) (t : State) : Prop := o = .returned (some (.int 1)) ∧ Framed s o t [] 601024 7293034
def lw_Z (below : List Frame) (a : Array Value) (s : State) : State → Prop := fun t => ∃ o, t.status = .running ∧ Ended t below o ∧ lw_Q a s o t
/-- the law's own end, with 1 on the stack, nothing written that was there before, its room as the claim has it -/
theorem lw_ret {p : Program} {l : Launch} {e : Env} {s : State} {m : MethodId} {below : List Frame} {meth : Method} {c : Code} {b : Nat} (hx : p.tables.exec = Jvm.exec) (hb : c.code = code) (hr : meth.sig.returnType = ret) (hlocks : meth.locks = false) {pc : Nat} {H : Heap} {ls : Array Slot} (hdg : decode code pc = .ok (.ireturn, 1)) : W p l e room_1 s m #[Value.ref b] below meth c H [] 601024 7293034 (lw_Z below #[Value.ref b] s) (F0 m pc ls [.int 1]) := by
  intro T hT X
  obtain ⟨fs, hret, hrun, hended, hW, hframe⟩ := X.leave (v := some (.int 1)) (hlocks := hlocks) (fun h => by rw [hr] at h; cases h)
  have hmeth' : T.vm.method? m = some meth := X.method'
  refine ⟨T.setFrames fs, ?_, .returned (some (.int 1)), hrun, hended, rfl, ⟨_, rfl⟩, hW, hframe⟩
  jvm_step X.here [X.here.top, hx, hb, hdg, hmeth', hr, ret, narrow_b1]
  (try refine ⟨rfl, ?_⟩); (try refine ⟨rfl, ?_⟩)
  first | (intro acts; rw [hret _ acts rfl rfl rfl]) | rw [hret _ _ rfl rfl rfl]
  exact Steps.refl _
/-- what holds at the law's entry: the machine, the code, the tables' words (any of lw_tbl by 'hts w (by decide +kernel)'), the script of L ints xs at the cell b, what the Statement gives of the start (any of its parts by flat_of_before) -/
def lw_At (p : Program) (s : State) (m : MethodId) (meth : Method) (c : Code) (b L : Nat) (xs : Nat → Int32) : Prop :=
  p.tables.exec = Jvm.exec ∧ c.code = code ∧ meth.sig.returnType = ret ∧ c.maxLocals = 7 ∧ s.vm.findClass R_law = some m.cls ∧ (∀ w ∈ lw_tbl, w.before #[Value.ref b] s = true) ∧ va_X b L xs s s.heap ∧ b < s.heap.size ∧ meth.locks = false ∧ (Jvm.Cond.and given_1 narrow_1).before #[Value.ref b] s = true
