section
/-! the law's helpers: they catch what the class throws -/
def pcn_ (G : gg_) (As : List Value) (M : mm_) : Array Value → State → Prop := va_Pc As (fun U => G.2.2.2 ≤ U.heap.size ∧ va_P G.2.2.1 vwCl (wl_ G M) U.heap ∧ kw_ G U ∧ va_Nc "java/lang/IllegalArgumentException" "java/lang/IndexOutOfBoundsException" U)
def chx_ (G : gg_) (y : MethodName) (cy : ByteArray) (ny : Nat) (hh : List (Nat × Nat × Nat × Nat)) (d : Nat) (As : List Value) (M : mm_) (post : Option Value → mm_ → Prop) : Prop := ∀ l : Launch, l.stackTraces = false → Met l y (.codeWith y cy ny (some .int) hh :: gw_) (rnX_ d 1 6) (pcn_ G As M) (qg_ G post) 1 6 (aw_ G)
theorem pcn_blind {G : gg_} {As : List Value} {M : mm_} : FrameBlind (pcn_ G As M) := fun a U g mk q => by
  obtain ⟨q0, q1, qP, qK, qN⟩ := q
  exact ⟨q0, q1, qP, kw_same (u := U) (U := U.calling g mk a) qK rfl rfl, qN⟩
theorem chx_of {G : gg_} {y : MethodName} {cy : ByteArray} {ny d : Nat} {hh : List (Nat × Nat × Nat × Nat)} {As : List Value} {M : mm_} {post : Option Value → mm_ → Prop} (hG : gd_ G) (hy : plainName y.cls = true) (hn : (lg_sl As).length ≤ ny)
    (h : ∀ C : mc_, cx_ C G y.cls cy ny (some .int) d → cx_ (ca_ C 1 6) G y.cls cy ny (some .int) d → lcX_ C → (csX_ C = 0 ∧ slX_ C = 0 ∧ rmX_ C 1 6) → tbX_ (ca_ C 1 6) (tableOf hh) → ncX2_ (ca_ C 1 6) "java/lang/IllegalArgumentException" "java/lang/IndexOutOfBoundsException" → wq_ C G (qe_ (ca_ C 1 6) G post) 0 (en_ ny As) [] M) : chx_ G y cy ny hh d As M post := by
  intro l hl
  refine va_MetW (cc := cy) (maxL := ny) (ret := some .int) hy rfl ?_
  intro p e s m args below meth c s₁ B hml hv
  obtain ⟨rfl, hbs, hP, hK, hN⟩ := hv
  have hts0 := atoms_spec (ws := .codeWith y cy ny (some .int) hh :: gw_) B.pre
  have hown : s.vm.findClass y.cls = some m.cls := findClass_of_methodNamed B.named
  have hll := lv_entry As (n := ny) hn
  rw [lg_entry_eq]
  generalize (lg_sl As ++ List.replicate (ny - (lg_sl As).length) Slot.unset).toArray = ls at hll ⊢
  refine h (p, l, e, rnX_ d 1 6, s, m, As.toArray, below, meth, c, 0, 0) ⟨B.exec, B.bytes, hml, B.returns, hown, fun w hw => hts0 w (List.mem_cons_of_mem _ hw), hK, hG, hbs, B.notSynchronized, Nat.le_refl _, Nat.le_refl _, Nat.zero_le _, Nat.zero_le _⟩ ⟨B.exec, B.bytes, hml, B.returns, hown, fun w hw => hts0 w (List.mem_cons_of_mem _ hw), hK, hG, hbs, B.notSynchronized, Nat.le_refl _, Nat.le_refl _, Nat.le_refl _, Nat.le_refl _⟩ hl ⟨rfl, rfl, Nat.le_refl _, Nat.le_refl _⟩ (vx_table (x := y) B (hts0 _ List.mem_cons_self)) hN s.heap [] ls ?_ hP va_S.rf
  refine lh_sub (l := lv_args 0 As) ?_ (en_mem As ny 0)
  rw [hml]
  exact hll
theorem xl13 : Cond.classLink RL 13 "java/lang/IllegalArgumentException" ∈ gw_ := gw_of (by decide +kernel) (by decide)
theorem xl19 : Cond.classLink RL 19 "java/lang/IndexOutOfBoundsException" ∈ gw_ := gw_of (by decide +kernel) (by decide)
set_option maxRecDepth 100000 in
set_option maxHeartbeats 600000 in
theorem cL_feed_ (G : gg_) (hG : gd_ G) (d : Nat) (M : mm_) (n : Nat) (ht : tpX_ M n) (w : Int32) (x : Int64) : chx_ G yL_feed cL_feed 6 [(0, 11, 14, 13)] (d + 7) [.ref (G.1 34), .int w, .long x, .ref (G.1 262)] M (rI_ (fun r N => (r = 0 ∧ ∃ (r0 : Int32) (N0 : mm_), (FDX_ n w x M) r0 N0 ∧ N = sL_ N0 262 0 r0.toInt64) ∨ (r = 1 ∧ N = M ∧ (fun E => E = "java/lang/IllegalArgumentException" ∧ (w < 1 ∨ 8 < w)) "java/lang/IllegalArgumentException"))) := by
  refine chx_of hG (by decide) (Nat.le_of_ble_eq_true rfl) (fun C X X2 hlc hcs htb hnc => ?_)
  refine w_aload X dL_feed_0 rfl ?_
  refine w_iconst (v := 0) X dL_feed_2 (by decide) ?_
  refine w_aload_n X dL_feed_3 rfl rfl ?_
  refine w_iload_n X dL_feed_4 rfl rfl ?_
  refine w_lload_n X dL_feed_5 rfl rfl ?_
  refine w_callX (xe := fun E => E = "java/lang/IllegalArgumentException" ∧ (w < 1 ∨ 8 < w)) (post := rI_ (FDX_ n w x M)) [.int w, .long x] X hlc dL_feed_6 kL_7 rfl s_34 (c11_feed G hG d M n ht w x) (Nat.le_of_ble_eq_true rfl) (by rw [hcs.1, hcs.2.1]; exact hcs.2.2) ?_ ?_
  · rw [hcs.1, hcs.2.1]
    rintro v N ⟨r0, rfl, h0⟩
    refine w_i2l X2 dL_feed_9 ?_
    refine w_lastoreN X2 dL_feed_10 s_262 rfl (⟨by decide, by decide⟩) ?_
    refine w_goto (tgt := 18) X2 dL_feed_11 (by decide) ?_
    refine w_iconst (v := 0) X2 dL_feed_18 (by decide) ?_
    exact w_irR X2 dL_feed_19 (Or.inl ⟨rfl, r0, N, h0, rfl⟩)
  · rw [hcs.1, hcs.2.1]
    intro E q hE
    obtain ⟨rfl, hE2⟩ := hE
    refine w_catch X2 [] ⟨0, 11, 14, 13⟩ [] htb (by decide) (fun z hz => by cases hz) (by decide) (by decide) xl13 ?_
    refine w_astore X2 dL_feed_14 (by decide) ?_
    refine w_iconst (v := 1) X2 dL_feed_16 (by decide) ?_
    exact w_irR X2 dL_feed_17 (Or.inr (⟨rfl, rfl, ⟨rfl, hE2⟩⟩))
set_option maxRecDepth 100000 in
set_option maxHeartbeats 600000 in
theorem cL_record_ (G : gg_) (hG : gd_ G) (d : Nat) (M : mm_)  (i : Int32) (w : Int32) : chx_ G yL_record cL_record 5 [(0, 10, 13, 19), (0, 10, 17, 13)] (d + 7) [.ref (G.1 34), .int i, .int w, .ref (G.1 262)] M (rI_ (fun r N => (r = 0 ∧ ∃ (r0 : Int32) (N0 : mm_), (fun r N => N = M ∧ r = rC_ M 243 1500 i w ∧ ¬ rH_ M 243 i = 0 ∧ 0 ≤ w ∧ w < 5) r0 N0 ∧ N = sL_ N0 262 0 r0.toInt64) ∨ (r = 1 ∧ N = M ∧ (fun E => (E = "java/lang/IndexOutOfBoundsException" ∧ rH_ M 243 i = 0) ∨ (E = "java/lang/IllegalArgumentException" ∧ ¬ rH_ M 243 i = 0 ∧ (w < 0 ∨ 5 ≤ w))) "java/lang/IndexOutOfBoundsException") ∨ (r = 2 ∧ N = M ∧ (fun E => (E = "java/lang/IndexOutOfBoundsException" ∧ rH_ M 243 i = 0) ∨ (E = "java/lang/IllegalArgumentException" ∧ ¬ rH_ M 243 i = 0 ∧ (w < 0 ∨ 5 ≤ w))) "java/lang/IllegalArgumentException"))) := by
  refine chx_of hG (by decide) (Nat.le_of_ble_eq_true rfl) (fun C X X2 hlc hcs htb hnc => ?_)
  refine w_aload_n X dL_record_0 rfl rfl ?_
  refine w_iconst (v := 0) X dL_record_1 (by decide) ?_
  refine w_aload_n X dL_record_2 rfl rfl ?_
  refine w_iload_n X dL_record_3 rfl rfl ?_
  refine w_iload_n X dL_record_4 rfl rfl ?_
  refine w_callX (xe := fun E => (E = "java/lang/IndexOutOfBoundsException" ∧ rH_ M 243 i = 0) ∨ (E = "java/lang/IllegalArgumentException" ∧ ¬ rH_ M 243 i = 0 ∧ (w < 0 ∨ 5 ≤ w))) (post := rI_ (fun r N => N = M ∧ r = rC_ M 243 1500 i w ∧ ¬ rH_ M 243 i = 0 ∧ 0 ≤ w ∧ w < 5)) [.int i, .int w] X hlc dL_record_5 kL_21 rfl s_34 (c11_record G hG d M i w) (Nat.le_of_ble_eq_true rfl) (by rw [hcs.1, hcs.2.1]; exact hcs.2.2) ?_ ?_
  · rw [hcs.1, hcs.2.1]
    rintro v N ⟨r0, rfl, h0⟩
    refine w_i2l X2 dL_record_8 ?_
    refine w_lastoreN X2 dL_record_9 s_262 rfl (⟨by decide, by decide⟩) ?_
    refine w_goto (tgt := 21) X2 dL_record_10 (by decide) ?_
    refine w_iconst (v := 0) X2 dL_record_21 (by decide) ?_
    exact w_irR X2 dL_record_22 (Or.inl ⟨rfl, r0, N, h0, rfl⟩)
  · rw [hcs.1, hcs.2.1]
    intro E q hE
    rcases hE with ⟨rfl, hE2⟩ | ⟨rfl, hE2⟩
    · refine w_catch X2 [] ⟨0, 10, 13, 19⟩ [⟨0, 10, 17, 13⟩] htb (by decide) (fun z hz => by cases hz) (by decide) (by decide) xl19 ?_
      refine w_astore X2 dL_record_13 (by decide) ?_
      refine w_iconst (v := 1) X2 dL_record_15 (by decide) ?_
      exact w_irR X2 dL_record_16 (Or.inr (Or.inl ⟨rfl, rfl, Or.inl ⟨rfl, hE2⟩⟩))
    · refine w_catch X2 [⟨0, 10, 13, 19⟩] ⟨0, 10, 17, 13⟩ [] htb (by decide) (fun z hz => by obtain rfl := List.mem_singleton.mp hz; exact ⟨by decide, _, xl19, hnc⟩) (by decide) (by decide) xl13 ?_
      refine w_astore X2 dL_record_17 (by decide) ?_
      refine w_iconst (v := 2) X2 dL_record_19 (by decide) ?_
      exact w_irR X2 dL_record_20 (Or.inr (Or.inr ⟨rfl, rfl, Or.inr ⟨rfl, hE2⟩⟩))
set_option maxRecDepth 100000 in
set_option maxHeartbeats 600000 in
theorem cL_job_ (G : gg_) (hG : gd_ G) (d : Nat) (M : mm_) (J : Nat → Nat) (S : Nat) (hq : jq_ M J S) (j : Int32) (w : Int32) : chx_ G yL_job cL_job 5 [(0, 10, 13, 19), (0, 10, 17, 13)] (d + 7) [.ref (G.1 34), .int j, .int w, .ref (G.1 262)] M (rI_ (fun r N => (r = 0 ∧ ∃ (r0 : Int32) (N0 : mm_), (fun r N => N = M ∧ ∃ i, i < 8 ∧ j = nI i ∧ 0 ≤ w ∧ w ≤ 1 ∧ r = (if w = 0 then M.1 (135 + 12 * J i) 0 else lft_ M (135 + 12 * J i))) r0 N0 ∧ N = sL_ N0 262 0 r0.toInt64) ∨ (r = 1 ∧ N = M ∧ (fun E => (E = "java/lang/IndexOutOfBoundsException" ∧ (j < 0 ∨ 8 ≤ j)) ∨ (E = "java/lang/IllegalArgumentException" ∧ ¬ (j < 0 ∨ 8 ≤ j) ∧ (w < 0 ∨ 1 < w))) "java/lang/IndexOutOfBoundsException") ∨ (r = 2 ∧ N = M ∧ (fun E => (E = "java/lang/IndexOutOfBoundsException" ∧ (j < 0 ∨ 8 ≤ j)) ∨ (E = "java/lang/IllegalArgumentException" ∧ ¬ (j < 0 ∨ 8 ≤ j) ∧ (w < 0 ∨ 1 < w))) "java/lang/IllegalArgumentException"))) := by
  refine chx_of hG (by decide) (Nat.le_of_ble_eq_true rfl) (fun C X X2 hlc hcs htb hnc => ?_)
  refine w_aload_n X dL_job_0 rfl rfl ?_
  refine w_iconst (v := 0) X dL_job_1 (by decide) ?_
  refine w_aload_n X dL_job_2 rfl rfl ?_
  refine w_iload_n X dL_job_3 rfl rfl ?_
  refine w_iload_n X dL_job_4 rfl rfl ?_
  refine w_callX (xe := fun E => (E = "java/lang/IndexOutOfBoundsException" ∧ (j < 0 ∨ 8 ≤ j)) ∨ (E = "java/lang/IllegalArgumentException" ∧ ¬ (j < 0 ∨ 8 ≤ j) ∧ (w < 0 ∨ 1 < w))) (post := rI_ (fun r N => N = M ∧ ∃ i, i < 8 ∧ j = nI i ∧ 0 ≤ w ∧ w ≤ 1 ∧ r = (if w = 0 then M.1 (135 + 12 * J i) 0 else lft_ M (135 + 12 * J i)))) [.int j, .int w] X hlc dL_job_5 kL_25 rfl s_34 (c11_job G hG d M J S hq j w) (Nat.le_of_ble_eq_true rfl) (by rw [hcs.1, hcs.2.1]; exact hcs.2.2) ?_ ?_
  · rw [hcs.1, hcs.2.1]
    rintro v N ⟨r0, rfl, h0⟩
    refine w_i2l X2 dL_job_8 ?_
    refine w_lastoreN X2 dL_job_9 s_262 rfl (⟨by decide, by decide⟩) ?_
    refine w_goto (tgt := 21) X2 dL_job_10 (by decide) ?_
    refine w_iconst (v := 0) X2 dL_job_21 (by decide) ?_
    exact w_irR X2 dL_job_22 (Or.inl ⟨rfl, r0, N, h0, rfl⟩)
  · rw [hcs.1, hcs.2.1]
    intro E q hE
    rcases hE with ⟨rfl, hE2⟩ | ⟨rfl, hE2⟩
    · refine w_catch X2 [] ⟨0, 10, 13, 19⟩ [⟨0, 10, 17, 13⟩] htb (by decide) (fun z hz => by cases hz) (by decide) (by decide) xl19 ?_
      refine w_astore X2 dL_job_13 (by decide) ?_
      refine w_iconst (v := 1) X2 dL_job_15 (by decide) ?_
      exact w_irR X2 dL_job_16 (Or.inr (Or.inl ⟨rfl, rfl, Or.inl ⟨rfl, hE2⟩⟩))
    · refine w_catch X2 [⟨0, 10, 13, 19⟩] ⟨0, 10, 17, 13⟩ [] htb (by decide) (fun z hz => by obtain rfl := List.mem_singleton.mp hz; exact ⟨by decide, _, xl19, hnc⟩) (by decide) (by decide) xl13 ?_
      refine w_astore X2 dL_job_17 (by decide) ?_
      refine w_iconst (v := 2) X2 dL_job_19 (by decide) ?_
      exact w_irR X2 dL_job_20 (Or.inr (Or.inr ⟨rfl, rfl, Or.inr ⟨rfl, hE2⟩⟩))
set_option maxRecDepth 100000 in
set_option maxHeartbeats 600000 in
theorem cL_kept_ (G : gg_) (hG : gd_ G) (d : Nat) (M : mm_)  (i : Int32) (w : Int32) : chx_ G yL_kept cL_kept 5 [(0, 10, 13, 19), (0, 10, 17, 13)] (d + 7) [.ref (G.1 34), .int i, .int w, .ref (G.1 262)] M (rI_ (fun r N => (r = 0 ∧ ∃ (r0 : Int32) (N0 : mm_), (fun r N => N = M ∧ r = rC_ M 245 280 i w ∧ ¬ rH_ M 245 i = 0 ∧ 0 ≤ w ∧ w < 7) r0 N0 ∧ N = sL_ N0 262 0 r0.toInt64) ∨ (r = 1 ∧ N = M ∧ (fun E => (E = "java/lang/IndexOutOfBoundsException" ∧ rH_ M 245 i = 0) ∨ (E = "java/lang/IllegalArgumentException" ∧ ¬ rH_ M 245 i = 0 ∧ (w < 0 ∨ 7 ≤ w))) "java/lang/IndexOutOfBoundsException") ∨ (r = 2 ∧ N = M ∧ (fun E => (E = "java/lang/IndexOutOfBoundsException" ∧ rH_ M 245 i = 0) ∨ (E = "java/lang/IllegalArgumentException" ∧ ¬ rH_ M 245 i = 0 ∧ (w < 0 ∨ 7 ≤ w))) "java/lang/IllegalArgumentException"))) := by
  refine chx_of hG (by decide) (Nat.le_of_ble_eq_true rfl) (fun C X X2 hlc hcs htb hnc => ?_)
  refine w_aload_n X dL_kept_0 rfl rfl ?_
  refine w_iconst (v := 0) X dL_kept_1 (by decide) ?_
  refine w_aload_n X dL_kept_2 rfl rfl ?_
  refine w_iload_n X dL_kept_3 rfl rfl ?_
  refine w_iload_n X dL_kept_4 rfl rfl ?_
  refine w_callX (xe := fun E => (E = "java/lang/IndexOutOfBoundsException" ∧ rH_ M 245 i = 0) ∨ (E = "java/lang/IllegalArgumentException" ∧ ¬ rH_ M 245 i = 0 ∧ (w < 0 ∨ 7 ≤ w))) (post := rI_ (fun r N => N = M ∧ r = rC_ M 245 280 i w ∧ ¬ rH_ M 245 i = 0 ∧ 0 ≤ w ∧ w < 7)) [.int i, .int w] X hlc dL_kept_5 kL_32 rfl s_34 (c11_kept G hG d M i w) (Nat.le_of_ble_eq_true rfl) (by rw [hcs.1, hcs.2.1]; exact hcs.2.2) ?_ ?_
  · rw [hcs.1, hcs.2.1]
    rintro v N ⟨r0, rfl, h0⟩
    refine w_i2l X2 dL_kept_8 ?_
    refine w_lastoreN X2 dL_kept_9 s_262 rfl (⟨by decide, by decide⟩) ?_
    refine w_goto (tgt := 21) X2 dL_kept_10 (by decide) ?_
    refine w_iconst (v := 0) X2 dL_kept_21 (by decide) ?_
    exact w_irR X2 dL_kept_22 (Or.inl ⟨rfl, r0, N, h0, rfl⟩)
  · rw [hcs.1, hcs.2.1]
    intro E q hE
    rcases hE with ⟨rfl, hE2⟩ | ⟨rfl, hE2⟩
    · refine w_catch X2 [] ⟨0, 10, 13, 19⟩ [⟨0, 10, 17, 13⟩] htb (by decide) (fun z hz => by cases hz) (by decide) (by decide) xl19 ?_
      refine w_astore X2 dL_kept_13 (by decide) ?_
      refine w_iconst (v := 1) X2 dL_kept_15 (by decide) ?_
      exact w_irR X2 dL_kept_16 (Or.inr (Or.inl ⟨rfl, rfl, Or.inl ⟨rfl, hE2⟩⟩))
    · refine w_catch X2 [⟨0, 10, 13, 19⟩] ⟨0, 10, 17, 13⟩ [] htb (by decide) (fun z hz => by obtain rfl := List.mem_singleton.mp hz; exact ⟨by decide, _, xl19, hnc⟩) (by decide) (by decide) xl13 ?_
      refine w_astore X2 dL_kept_17 (by decide) ?_
      refine w_iconst (v := 2) X2 dL_kept_19 (by decide) ?_
      exact w_irR X2 dL_kept_20 (Or.inr (Or.inr ⟨rfl, rfl, Or.inr ⟨rfl, hE2⟩⟩))
end
section
/-! new int[12][7], in a constructor -/
theorem vr_outer (c : ClassId) (N h0 : Nat) : ∀ i : Nat, Jvm.Free.Multi.outerC c N h0 i = arrV c N (fun j => va_rf (if j < i then some (h0 + 1 + j) else none))
  | 0 => by
    show ({ cls := c, slots := Array.replicate N .null, vm := .none } : Cell) = _
    rw [arrV_new]
    refine congrArg (arrV c N) (funext fun j => ?_)
    simp [va_rf]
  | i + 1 => by
    show (Jvm.Free.Multi.outerC c N h0 i).setSlot i (.ref (h0 + 1 + i)) = _
    rw [vr_outer c N h0 i, arrV_store]
    refine congrArg (arrV c N) (funext fun j => ?_)
    by_cases e : j = i
    · subst e
      simp [updV, va_rf]
    · by_cases h : j < i
      · simp [updV, e, h, Nat.lt_succ_of_lt h]
      · simp [updV, e, h, show ¬ j < i + 1 by omega]
def vrM_ (M : mm_) : mm_ := (M.1, M.2.1, fun x j => if x = 248 ∧ j < 12 then some (249 + j) else M.2.2 x j)
section MNA
variable {C : mc_} {G : gg_} {Q : State → Prop} {pc : Nat} {lv : List (Option Value)} {st : List Value} {M : mm_} {nn : Nat} {own : String} {cc : ByteArray} {nL : Nat} {ry : Option FieldType} {d MC MS a b : Nat}
set_option maxRecDepth 100000 in
set_option maxHeartbeats 4000000 in
theorem n_mna {index : Nat} (X : cnX_ C G own cc nL ry d MC MS) (hd : decode cc pc = .ok (.multianewarray index 2, 4)) (hcl : Cond.classLink own index ("[" ++ (FieldType.array .int).toString) ∈ gw_) (hac : Cond.arrayClass .int ∈ gw_) (hn : nn = 214) (hA : a + 13 ≤ MC) (hB : b + 96 ≤ MS)
    (kk : wn_ (ca_ C (a + 13) (b + 96)) G Q (pc + 4) lv (.ref (G.1 248) :: st) (vrM_ M) (nn + 13)) : wn_ (ca_ C a b) G Q pc lv (.int 7 :: .int 12 :: st) M nn := by
  obtain ⟨p, l, e, R, s, m, args, below, meth, c, cs, sl⟩ := C
  obtain ⟨hx, hb, hml, hrt, hown, hts, ⟨hK, hox⟩, ⟨hbs, hg⟩, hlk, hfr, hlo, hcs, hsl⟩ := X
  intro H locs ls hl hP hS
  obtain ⟨hP, hs, hz⟩ := hP
  have hov : (Cond.arrayOver (.array .int)).before args s = true := by
    have h := hox.1.2.2
    unfold Cond.before Cond.holds at h ⊢
    simp only [Cond.value] at h ⊢
    exact h
  have g248 : G.1 248 = H.size := by rw [hg 248 (by decide), hs, hn]; rfl
  have grow : ∀ i, i < 12 → G.1 (249 + i) = H.size + 1 + i := fun i hi => by
    rw [hg (249 + i) (by unfold dnX_; omega), hs, hn]
    show G.2.2.2 + pi_ (249 + i) = _
    unfold pi_
    rw [if_neg (by omega), if_pos (by omega)]
    omega
  intro T hT Xs
  obtain ⟨vm₁, cA, comp, -, fA, fC, hO, -, X', step⟩ := Xs.multianewarray2F hx hown (hts _ hcl) hov (hts _ hac) (g := F0 m pc ls (.int 7 :: .int 12 :: st)) rfl (by rw [hb]; exact hd) rfl (by decide) (by decide) (by decide) (by decide) (by decide) (by decide) (by decide) (by show a + (1 + 12) ≤ R.cells; omega) (by show b + (12 + 12 * 7) ≤ R.slots; omega)
  have hcA : G.2.1 5 = cA := Option.some.inj ((show s.vm.findClass ("[" ++ (FieldType.array .int).toString) = some (G.2.1 5) from (hK.2 5 _ rfl).2).symm.trans fA)
  have hcy : G.2.1 0 = comp := Option.some.inj ((show s.vm.findClass ("[" ++ FieldType.int.toString) = some (G.2.1 0) from (hK.2 0 _ rfl).2).symm.trans fC)
  generalize hF : Jvm.Free.Multi.fill (T.setVm vm₁) cA comp (12 : Int32).toNatClampNeg (7 : Int32).toNatClampNeg (defaultValue .int) (12 : Int32).toNatClampNeg = F at X' step
  have hTh : (T.setVm vm₁).heap = H := hT
  obtain ⟨f1, f2, -, -⟩ := Jvm.Free.Multi.fill_facts (T.setVm vm₁) cA comp (12 : Int32).toNatClampNeg (7 : Int32).toNatClampNeg (defaultValue .int) (12 : Int32).toNatClampNeg
  rw [hF, hTh] at f1 f2
  have hold : ∀ x : Nat, x < H.size → F.heap[x]? = H[x]? := fun x hx => by
    have := Jvm.Free.Multi.fill_old (T.setVm vm₁) cA comp (12 : Int32).toNatClampNeg (7 : Int32).toNatClampNeg (defaultValue .int) (a := x) (by rw [hTh]; exact hx) (12 : Int32).toNatClampNeg
    rw [hF, hTh] at this
    exact this
  have hrow : ∀ j : Nat, j < 12 → F.heap[H.size + 1 + j]? = some (Jvm.Free.Multi.innerC comp 7 (defaultValue .int)) := fun j hj => by
    have := Jvm.Free.Multi.fill_inner (T.setVm vm₁) cA comp (12 : Int32).toNatClampNeg (7 : Int32).toNatClampNeg (defaultValue .int) (12 : Int32).toNatClampNeg j hj
    rw [hF, hTh] at this
    exact this
  have f1b : F.heap.size = H.size + 13 := by rw [f1]; show H.size + 1 + 12 = H.size + 13; omega
  have hout : F.heap[H.size]? = some (arrV cA 12 (fun j => va_rf (if j < 12 then some (H.size + 1 + j) else none))) := by
    rw [f2]
    exact congrArg some (vr_outer cA 12 H.size 12)
  have hP2 : va_P G.2.2.1 vwCl (wm_ G (vrM_ M) (nn + 13)) F.heap := by
    intro i q hq
    obtain ⟨hi, k, dd, h1, rfl⟩ := wm_key hq
    by_cases h2 : i < nn
    · have hk := (da_pi h1).1
      have hne : k ≠ 248 := fun z => by rw [z] at hk; have : pi_ 248 = 214 := rfl; omega
      have hw := wm_at (G := G) (M := M) h1 h2
      have e : ce_ G (vrM_ M) k dd = ce_ G M k dd := ce_eq (M := M) (M' := vrM_ M) rfl rfl (funext fun x => by show (if k = 248 ∧ x < 12 then some (249 + x) else M.2.2 k x) = M.2.2 k x; rw [if_neg (fun y => hne y.1)]) dd
      rw [e]
      exact (hP i _ hw).kept (hold _ (hP i _ hw).lt)
    · by_cases h3 : i = 214
      · rw [h3, show dall_[214]? = some (248, .inl (5, 12, 2)) by decide +kernel] at h1
        cases h1
        show F.heap[G.1 248]? = some (vp_cell (G.2.1 5) (12, .inr (.inr (.inr (.inr (fun i => ((vrM_ M).2.2 248 i).map G.1))))))
        rw [g248, hout, hcA, vp_cell_q]
        congr 2
        funext j
        show va_rf (if j < 12 then some (H.size + 1 + j) else none) = va_rf ((if 248 = 248 ∧ j < 12 then some (249 + j) else M.2.2 248 j).map G.1)
        by_cases hj : j < 12
        · rw [if_pos hj, if_pos ⟨rfl, hj⟩]
          show _ = va_rf (some (G.1 (249 + j)))
          rw [grow j hj]
        · rw [if_neg hj, if_neg (fun y => hj y.2), (hz 248 (by rw [hn]; decide)).2.2]
          rfl
      · obtain ⟨j, hj⟩ : ∃ j, i = 215 + j := ⟨i - 215, by omega⟩
        have hj12 : j < 12 := by omega
        have key : ∀ j, j < 12 → dall_[215 + j]? = some (249 + j, .inl (0, 7, 0)) := fun j h => dq_ok ((by decide +kernel : ∀ j, j < 12 → dq_ (249 + j) (215 + j) (.inl (0, 7, 0)) = true) j h)
        rw [hj, key j hj12] at h1
        cases h1
        show F.heap[G.1 (249 + j)]? = some (vp_cell (G.2.1 0) (7, .inl ((vrM_ M).1 (249 + j))))
        rw [grow j hj12, hrow j hj12, hcy, vp_cell_i]
        show some (Jvm.Free.Multi.innerC comp 7 (.int 0)) = some (arrV comp 7 (fun i => .int (M.1 (249 + j) i)))
        have hz0 := (hz (249 + j) (by rw [hn]; unfold pi_; rw [if_neg (by omega), if_pos (by omega)]; omega)).1
        have e0 : (fun i => Value.int (M.1 (249 + j) i)) = fun _ => Value.int 0 := funext fun i => by rw [hz0]
        rw [e0]
        exact congrArg some (arrV_new ..)
  have hz2 : zz_ (vrM_ M) (nn + 13) := fun k hk => by
    obtain ⟨y1, y2, y3⟩ := hz k (by omega)
    refine ⟨y1, y2, fun i => ?_⟩
    show (if k = 248 ∧ i < 12 then some (249 + i) else M.2.2 k i) = none
    rw [if_neg (fun y => by rw [y.1] at hk; have : pi_ 248 = 214 := rfl; omega)]
    exact y3 i
  obtain ⟨t, a1, b1⟩ := kk F.heap locs ls hl ⟨hP2, by rw [f1b, hs]; omega, hz2⟩ ⟨by rw [f1b]; have := hS.1; omega, fun x h1 h2 => (hold x (Nat.lt_of_lt_of_le h1 hS.1)).trans (hS.2.1 x h1 h2), hS.2.2⟩ F rfl X'
  refine ⟨t, step t ?_, b1⟩
  have e : T.heap.size = H.size := by rw [hT]
  rw [e, ← g248]
  exact a1
end MNA
end
section
/-! constructors: Machine, ProbeConsole, the reference -/
def m0_ (M : mm_) : mm_ := sR_ (sR_ (vrM_ (sR_ (sR_ (sR_ (sR_ M 247 2 (some 45)) 247 3 (some 133)) 247 4 (some 243)) 247 5 (some 245))) 247 6 (some 248)) 247 7 (some 261)
def x1_ (M : mm_) : mm_ := sR_ (sI_ (sR_ M 35 0 (some 36)) 35 1 0) 34 0 (some 35)
def x2_ (M : mm_) : mm_ := sR_ (sI_ (sI_ (sR_ M 37 0 (some 35)) 37 2 0) 37 3 (-1)) 34 1 (some 37)
def x3_ (M : mm_) : mm_ := sR_ (sR_ (sR_ (sR_ (k0_ (sR_ M 38 1 (some 37)) 40) 39 0 (some 37)) 39 1 (some 40)) 38 2 (some 39)) 34 2 (some 38)
def x4_ (M : mm_) : mm_ := sR_ (mb_ (sR_ (sR_ M 45 0 (some 46)) 45 1 (some 47)) 17) 34 3 (some 45)
def x5_ (M : mm_) : mm_ := sR_ (jz_ M) 34 4 (some 133)
def x6_ (M : mm_) : mm_ := sR_ (sR_ (sI_ (sI_ M 243 0 (nI 300)) 243 1 (nI 5)) 243 2 (some 244)) 34 5 (some 243)
def x7_ (M : mm_) : mm_ := sR_ (sR_ (sI_ (sI_ M 245 0 (nI 40)) 245 1 (nI 7)) 245 2 (some 246)) 34 6 (some 245)
def x8_ (M : mm_) : mm_ := sR_ (m0_ M) 34 7 (some 247)
set_option maxRecDepth 100000 in
set_option maxHeartbeats 4000000 in
theorem i4_ (G : gg_) (hg : ga_ G) (d : Nat) (M : mm_) : ctX_ G yX4_init cX4_init 5 (d + 1) 14 316 [.ref (G.1 247), .ref (G.1 45), .ref (G.1 133), .ref (G.1 243), .ref (G.1 245)] M 214 (m0_ M) 228 := by
  refine ct_of hg (by decide) rfl (Nat.le_of_ble_eq_true rfl) (fun C X hC => ?_)
  refine n_aload_n X dX4_init_0 rfl rfl ?_
  refine n_obj X dX4_init_1 ob4_ obI_ obC_ (Nat.le_of_ble_eq_true rfl) ?_
  refine n_aload_n X dX4_init_4 rfl rfl ?_
  refine n_aload_n X dX4_init_5 rfl rfl ?_
  refine n_putRF (j := 2) (ty := tyX4 2) X dX4_init_6 inG4 tyX4_ok nmX4 rfl (by decide) f4_9 hC rfl rfl (by decide +kernel) rfl rfl (by decide) rfl rfl ?_
  refine n_aload_n X dX4_init_9 rfl rfl ?_
  refine n_aload_n X dX4_init_10 rfl rfl ?_
  refine n_putRF (j := 3) (ty := tyX4 3) X dX4_init_11 inG4 tyX4_ok nmX4 rfl (by decide) f4_15 hC rfl rfl (by decide +kernel) rfl rfl (by decide) rfl rfl ?_
  refine n_aload_n X dX4_init_14 rfl rfl ?_
  refine n_aload_n X dX4_init_15 rfl rfl ?_
  refine n_putRF (j := 4) (ty := tyX4 4) X dX4_init_16 inG4 tyX4_ok nmX4 rfl (by decide) f4_19 hC rfl rfl (by decide +kernel) rfl rfl (by decide) rfl rfl ?_
  refine n_aload_n X dX4_init_19 rfl rfl ?_
  refine n_aload X dX4_init_20 rfl ?_
  refine n_putRF (j := 5) (ty := tyX4 5) X dX4_init_22 inG4 tyX4_ok nmX4 rfl (by decide) f4_23 hC rfl rfl (by decide +kernel) rfl rfl (by decide) rfl rfl ?_
  refine n_aload_n X dX4_init_25 rfl rfl ?_
  refine n_bipush (v := 12) X dX4_init_26 (by decide) ?_
  refine n_bipush (v := 7) X dX4_init_28 (by decide) ?_
  refine n_mna X dX4_init_30 cl4_26 ac_int rfl (by decide) (by decide) ?_
  refine n_putRF (j := 6) (ty := tyX4 6) X dX4_init_34 inG4 tyX4_ok nmX4 rfl (by decide) f4_28 hC rfl rfl (by decide +kernel) rfl rfl (by decide) rfl rfl ?_
  refine n_aload_n X dX4_init_37 rfl rfl ?_
  refine n_sipush (v := 220) X dX4_init_38 (by decide) ?_
  refine n_newI X dX4_init_41 rfl rfl ac_int rfl (fun _ _ h => h) rfl (by decide) (by decide) (by decide) (by decide) (by decide) ?_
  refine n_putRF (j := 7) (ty := tyX4 7) X dX4_init_43 inG4 tyX4_ok nmX4 rfl (by decide) f4_33 hC rfl rfl (by decide +kernel) rfl rfl (by decide) rfl rfl ?_
  exact n_vret X dX4_init_46 rfl rfl rfl rfl
set_option maxRecDepth 100000 in
set_option maxHeartbeats 4000000 in
theorem i11_ (G : gg_) (hg : ga_ G) (d : Nat) (M : mm_) : ctX_ G yX11_init cX11_init 1 (d + 4) 227 6864 [.ref (G.1 34)] M (1) (x8_ (x7_ (x6_ (x5_ (x4_ (x3_ (x2_ (x1_ M)))))))) (228) := by
  refine ct_of hg (by decide) rfl (Nat.le_of_ble_eq_true rfl) (fun C X hC => ?_)
  refine n_aload_n X dX11_init_0 rfl rfl ?_
  refine n_obj X dX11_init_1 ob11_ obI_ obC_ (Nat.le_of_ble_eq_true rfl) ?_
  refine n_aload_n X dX11_init_4 rfl rfl ?_
  refine n_new X dX11_init_5 rfl inG9 tyX9_ok cl11_7 ins9_ in9_ rfl (by decide +kernel) (by decide) (by decide) (by decide) ?_
  refine n_dup X dX11_init_8 rfl ?_
  refine n_ctor [] X dX11_init_9 k11_9 (i9_ G hg _ _) (Nat.le_of_ble_eq_true rfl) (by decide) (by decide) ?_
  refine n_putRF (j := 0) (ty := tyX11 0) X dX11_init_12 inG11 tyX11_ok nmX11 rfl (by decide) f11_10 hC rfl rfl (by decide +kernel) rfl rfl (by decide) rfl rfl ?_
  refine n_aload_n X dX11_init_15 rfl rfl ?_
  refine n_new X dX11_init_16 rfl inG7 tyX7_ok cl11_16 ins7_ in7_ rfl (by decide +kernel) (by decide) (by decide) (by decide) ?_
  refine n_dup X dX11_init_19 rfl ?_
  refine n_aload_n X dX11_init_20 rfl rfl ?_
  refine n_getR X dX11_init_21 inG11 rfl (by decide) f11_10 rfl rfl (by decide) (rfl) ?_
  refine n_ctor [.ref (G.1 35)] X dX11_init_24 k11_18 (i7_ G hg _ _) (Nat.le_of_ble_eq_true rfl) (by decide) (by decide) ?_
  refine n_putRF (j := 1) (ty := tyX11 1) X dX11_init_27 inG11 tyX11_ok nmX11 rfl (by decide) f11_21 hC rfl rfl (by decide +kernel) rfl rfl (by decide) rfl rfl ?_
  refine n_aload_n X dX11_init_30 rfl rfl ?_
  refine n_new X dX11_init_31 rfl inG10 tyX10_ok cl11_25 ins10_ in10_ rfl (by decide +kernel) (by decide) (by decide) (by decide) ?_
  refine n_dup X dX11_init_34 rfl ?_
  refine n_aload_n X dX11_init_35 rfl rfl ?_
  refine n_getR X dX11_init_36 inG11 rfl (by decide) f11_21 rfl rfl (by decide) (rfl) ?_
  refine n_ctor [.ref (G.1 37)] X dX11_init_39 k11_27 (i10_ G hg _ _) (Nat.le_of_ble_eq_true rfl) (by decide) (by decide) ?_
  refine n_putRF (j := 2) (ty := tyX11 2) X dX11_init_42 inG11 tyX11_ok nmX11 rfl (by decide) f11_30 hC rfl rfl (by decide +kernel) rfl rfl (by decide) rfl rfl ?_
  refine n_aload_n X dX11_init_45 rfl rfl ?_
  refine n_new X dX11_init_46 rfl inG5 tyX5_ok cl11_34 ins5_ in5_ rfl (by decide +kernel) (by decide) (by decide) (by decide) ?_
  refine n_dup X dX11_init_49 rfl ?_
  refine n_ctor [] X dX11_init_50 k11_36 (i5_ G hg _ _) (Nat.le_of_ble_eq_true rfl) (by decide) (by decide) ?_
  refine n_putRF (j := 3) (ty := tyX11 3) X dX11_init_53 inG11 tyX11_ok nmX11 rfl (by decide) f11_37 hC rfl rfl (by decide +kernel) rfl rfl (by decide) rfl rfl ?_
  refine n_aload_n X dX11_init_56 rfl rfl ?_
  refine n_new X dX11_init_57 rfl inG3 tyX3_ok cl11_41 ins3_ in3_ rfl (by decide +kernel) (by decide) (by decide) (by decide) ?_
  refine n_dup X dX11_init_60 rfl ?_
  refine n_ctor [] X dX11_init_61 k11_43 (i3_ G hg _ _) (Nat.le_of_ble_eq_true rfl) (by decide) (by decide) ?_
  refine n_putRF (j := 4) (ty := tyX11 4) X dX11_init_64 inG11 tyX11_ok nmX11 rfl (by decide) f11_44 hC rfl rfl (by decide +kernel) rfl rfl (by decide) rfl rfl ?_
  refine n_aload_n X dX11_init_67 rfl rfl ?_
  refine n_new X dX11_init_68 rfl inG8 tyX8_ok cl11_48 ins8_ in8_ rfl (by decide +kernel) (by decide) (by decide) (by decide) ?_
  refine n_dup X dX11_init_71 rfl ?_
  refine n_sipush (v := 300) X dX11_init_72 (by decide) ?_
  refine n_iconst (v := 5) X dX11_init_75 (by decide) ?_
  refine n_ctor [.int (nI 300), .int (nI 5)] X dX11_init_76 k11_50 (i8X_ G hg _ _ 243 210 300 5 1500 (by decide) rfl rfl rfl (by decide)) (Nat.le_of_ble_eq_true rfl) (by decide) (by decide) ?_
  refine n_putRF (j := 5) (ty := tyX11 5) X dX11_init_79 inG11 tyX11_ok nmX11 rfl (by decide) f11_53 hC rfl rfl (by decide +kernel) rfl rfl (by decide) rfl rfl ?_
  refine n_aload_n X dX11_init_82 rfl rfl ?_
  refine n_new X dX11_init_83 rfl inG8 tyX8_ok cl11_48 ins8_ in8_ rfl (by decide +kernel) (by decide) (by decide) (by decide) ?_
  refine n_dup X dX11_init_86 rfl ?_
  refine n_bipush (v := 40) X dX11_init_87 (by decide) ?_
  refine n_bipush (v := 7) X dX11_init_89 (by decide) ?_
  refine n_ctor [.int (nI 40), .int (nI 7)] X dX11_init_91 k11_50 (i8X_ G hg _ _ 245 212 40 7 280 (by decide) rfl rfl rfl (by decide)) (Nat.le_of_ble_eq_true rfl) (by decide) (by decide) ?_
  refine n_putRF (j := 6) (ty := tyX11 6) X dX11_init_94 inG11 tyX11_ok nmX11 rfl (by decide) f11_57 hC rfl rfl (by decide +kernel) rfl rfl (by decide) rfl rfl ?_
  refine n_aload_n X dX11_init_97 rfl rfl ?_
  refine n_new X dX11_init_98 rfl inG4 tyX4_ok cl11_60 ins4_ in4_ rfl (by decide +kernel) (by decide) (by decide) (by decide) ?_
  refine n_dup X dX11_init_101 rfl ?_
  refine n_aload_n X dX11_init_102 rfl rfl ?_
  refine n_getR X dX11_init_103 inG11 rfl (by decide) f11_37 rfl rfl (by decide) (rfl) ?_
  refine n_aload_n X dX11_init_106 rfl rfl ?_
  refine n_getR X dX11_init_107 inG11 rfl (by decide) f11_44 rfl rfl (by decide) (rfl) ?_
  refine n_aload_n X dX11_init_110 rfl rfl ?_
  refine n_getR X dX11_init_111 inG11 rfl (by decide) f11_53 rfl rfl (by decide) (rfl) ?_
  refine n_aload_n X dX11_init_114 rfl rfl ?_
  refine n_getR X dX11_init_115 inG11 rfl (by decide) f11_57 rfl rfl (by decide) (rfl) ?_
  refine n_ctor [.ref (G.1 45), .ref (G.1 133), .ref (G.1 243), .ref (G.1 245)] X dX11_init_118 k11_62 (i4_ G hg _ _) (Nat.le_of_ble_eq_true rfl) (by decide) (by decide) ?_
  refine n_putRF (j := 7) (ty := tyX11 7) X dX11_init_121 inG11 tyX11_ok nmX11 rfl (by decide) f11_65 hC rfl rfl (by decide +kernel) rfl rfl (by decide) rfl rfl ?_
  exact n_vret X dX11_init_124 rfl rfl rfl rfl
def y12_ (M : mm_) : mm_ := sR_ (sR_ (sR_ (sR_ (sR_ (sR_ (sR_ (sR_ (sR_ (sR_ (sR_ (sR_ (sR_ (sR_ (sR_ (sR_ (sR_ (sR_ (sR_ (sR_ (sR_ (sR_ (sR_ (sR_ (sR_ (sR_ (sR_ (sR_ (sR_ (sR_ (sR_ (sR_ (sI_ (sR_ (M) 0 1 (some 1)) 0 4 (-1)) 0 6 (some 2)) 0 7 (some 3)) 0 8 (some 4)) 0 10 (some 5)) 0 11 (some 6)) 0 16 (some 7)) 0 17 (some 8)) 0 18 (some 9)) 0 19 (some 10)) 0 21 (some 11)) 0 25 (some 12)) 0 26 (some 13)) 0 27 (some 14)) 0 28 (some 15)) 0 29 (some 16)) 0 30 (some 17)) 0 31 (some 18)) 0 32 (some 19)) 0 34 (some 20)) 0 36 (some 21)) 0 38 (some 22)) 0 43 (some 23)) 0 44 (some 24)) 0 45 (some 25)) 0 46 (some 26)) 0 48 (some 27)) 0 49 (some 28)) 0 50 (some 29)) 0 54 (some 30)) 0 55 (some 31)) 0 56 (some 32)) 0 57 (some 33)
set_option maxRecDepth 100000 in
set_option maxHeartbeats 4000000 in
theorem i12_ (G : gg_) (hg : ga_ G) (d : Nat) (M : mm_) : ctX_ G yX12_init cX12_init 1 (d + 1) 33 8599 [.ref (G.1 0)] M (229) (y12_ M) (262) := by
  refine ct_of hg (by decide) rfl (Nat.le_of_ble_eq_true rfl) (fun C X hC => ?_)
  refine n_aload_n X dX12_init_0 rfl rfl ?_
  refine n_obj X dX12_init_1 ob12_ obI_ obC_ (Nat.le_of_ble_eq_true rfl) ?_
  refine n_aload_n X dX12_init_4 rfl rfl ?_
  refine n_sipush (v := 200) X dX12_init_5 (by decide) ?_
  refine n_newI X dX12_init_8 rfl rfl ac_int rfl (fun _ _ h => h) rfl (by decide) (by decide) (by decide) (by decide) (by decide) ?_
  refine n_putRF (j := 1) (ty := tyX12 1) X dX12_init_10 inG12 tyX12_ok nmX12 rfl (by decide) f12_tape hC rfl rfl (by decide +kernel) rfl rfl (by decide) rfl rfl ?_
  refine n_aload_n X dX12_init_13 rfl rfl ?_
  refine n_iconst (v := -1) X dX12_init_14 (by decide) ?_
  refine n_putI (j := 4) (ty := .int) X dX12_init_15 inG12 tyX12_ok nmX12 rfl (by decide) f12_place rfl (by decide +kernel) rfl rfl (by decide) rfl rfl ?_
  refine n_aload_n X dX12_init_18 rfl rfl ?_
  refine n_sipush (v := 2112) X dX12_init_19 (by decide) ?_
  refine n_newI X dX12_init_22 rfl rfl ac_int rfl (fun _ _ h => h) rfl (by decide) (by decide) (by decide) (by decide) (by decide) ?_
  refine n_putRF (j := 6) (ty := tyX12 6) X dX12_init_24 inG12 tyX12_ok nmX12 rfl (by decide) f12_steps hC rfl rfl (by decide +kernel) rfl rfl (by decide) rfl rfl ?_
  refine n_aload_n X dX12_init_27 rfl rfl ?_
  refine n_sipush (v := 2112) X dX12_init_28 (by decide) ?_
  refine n_newL X dX12_init_31 rfl rfl ac_long rfl (fun _ _ h => h) rfl (by decide) (by decide) (by decide) (by decide) (by decide) ?_
  refine n_putRF (j := 7) (ty := tyX12 7) X dX12_init_33 inG12 tyX12_ok nmX12 rfl (by decide) f12_values hC rfl rfl (by decide +kernel) rfl rfl (by decide) rfl rfl ?_
  refine n_aload_n X dX12_init_36 rfl rfl ?_
  refine n_bipush (v := 33) X dX12_init_37 (by decide) ?_
  refine n_newI X dX12_init_39 rfl rfl ac_int rfl (fun _ _ h => h) rfl (by decide) (by decide) (by decide) (by decide) (by decide) ?_
  refine n_putRF (j := 8) (ty := tyX12 8) X dX12_init_41 inG12 tyX12_ok nmX12 rfl (by decide) f12_lengths hC rfl rfl (by decide +kernel) rfl rfl (by decide) rfl rfl ?_
  refine n_aload_n X dX12_init_44 rfl rfl ?_
  refine n_bipush (v := 16) X dX12_init_45 (by decide) ?_
  refine n_newL X dX12_init_47 rfl rfl ac_long rfl (fun _ _ h => h) rfl (by decide) (by decide) (by decide) (by decide) (by decide) ?_
  refine n_putRF (j := 10) (ty := tyX12 10) X dX12_init_49 inG12 tyX12_ok nmX12 rfl (by decide) f12_names hC rfl rfl (by decide +kernel) rfl rfl (by decide) rfl rfl ?_
  refine n_aload_n X dX12_init_52 rfl rfl ?_
  refine n_bipush (v := 16) X dX12_init_53 (by decide) ?_
  refine n_newI X dX12_init_55 rfl rfl ac_int rfl (fun _ _ h => h) rfl (by decide) (by decide) (by decide) (by decide) (by decide) ?_
  refine n_putRF (j := 11) (ty := tyX12 11) X dX12_init_57 inG12 tyX12_ok nmX12 rfl (by decide) f12_parameters hC rfl rfl (by decide +kernel) rfl rfl (by decide) rfl rfl ?_
  refine n_aload_n X dX12_init_60 rfl rfl ?_
  refine n_bipush (v := 64) X dX12_init_61 (by decide) ?_
  refine n_newI X dX12_init_63 rfl rfl ac_int rfl (fun _ _ h => h) rfl (by decide) (by decide) (by decide) (by decide) (by decide) ?_
  refine n_putRF (j := 16) (ty := tyX12 16) X dX12_init_65 inG12 tyX12_ok nmX12 rfl (by decide) f12_waits hC rfl rfl (by decide +kernel) rfl rfl (by decide) rfl rfl ?_
  refine n_aload_n X dX12_init_68 rfl rfl ?_
  refine n_bipush (v := 64) X dX12_init_69 (by decide) ?_
  refine n_newI X dX12_init_71 rfl rfl ac_int rfl (fun _ _ h => h) rfl (by decide) (by decide) (by decide) (by decide) (by decide) ?_
  refine n_putRF (j := 17) (ty := tyX12 17) X dX12_init_73 inG12 tyX12_ok nmX12 rfl (by decide) f12_waitPlaces hC rfl rfl (by decide +kernel) rfl rfl (by decide) rfl rfl ?_
  refine n_aload_n X dX12_init_76 rfl rfl ?_
  refine n_bipush (v := 64) X dX12_init_77 (by decide) ?_
  refine n_newI X dX12_init_79 rfl rfl ac_int rfl (fun _ _ h => h) rfl (by decide) (by decide) (by decide) (by decide) (by decide) ?_
  refine n_putRF (j := 18) (ty := tyX12 18) X dX12_init_81 inG12 tyX12_ok nmX12 rfl (by decide) f12_waitValues hC rfl rfl (by decide +kernel) rfl rfl (by decide) rfl rfl ?_
  refine n_aload_n X dX12_init_84 rfl rfl ?_
  refine n_bipush (v := 64) X dX12_init_85 (by decide) ?_
  refine n_newL X dX12_init_87 rfl rfl ac_long rfl (fun _ _ h => h) rfl (by decide) (by decide) (by decide) (by decide) (by decide) ?_
  refine n_putRF (j := 19) (ty := tyX12 19) X dX12_init_89 inG12 tyX12_ok nmX12 rfl (by decide) f12_waitNames hC rfl rfl (by decide +kernel) rfl rfl (by decide) rfl rfl ?_
  refine n_aload_n X dX12_init_92 rfl rfl ?_
  refine n_bipush (v := 64) X dX12_init_93 (by decide) ?_
  refine n_newI X dX12_init_95 rfl rfl ac_int rfl (fun _ _ h => h) rfl (by decide) (by decide) (by decide) (by decide) (by decide) ?_
  refine n_putRF (j := 21) (ty := tyX12 21) X dX12_init_97 inG12 tyX12_ok nmX12 rfl (by decide) f12_operands hC rfl rfl (by decide +kernel) rfl rfl (by decide) rfl rfl ?_
  refine n_aload_n X dX12_init_100 rfl rfl ?_
  refine n_bipush (v := 8) X dX12_init_101 (by decide) ?_
  refine n_newI X dX12_init_103 rfl rfl ac_int rfl (fun _ _ h => h) rfl (by decide) (by decide) (by decide) (by decide) (by decide) ?_
  refine n_putRF (j := 25) (ty := tyX12 25) X dX12_init_105 inG12 tyX12_ok nmX12 rfl (by decide) f12_kinds hC rfl rfl (by decide +kernel) rfl rfl (by decide) rfl rfl ?_
  refine n_aload_n X dX12_init_108 rfl rfl ?_
  refine n_bipush (v := 8) X dX12_init_109 (by decide) ?_
  refine n_newI X dX12_init_111 rfl rfl ac_int rfl (fun _ _ h => h) rfl (by decide) (by decide) (by decide) (by decide) (by decide) ?_
  refine n_putRF (j := 26) (ty := tyX12 26) X dX12_init_113 inG12 tyX12_ok nmX12 rfl (by decide) f12_points hC rfl rfl (by decide +kernel) rfl rfl (by decide) rfl rfl ?_
  refine n_aload_n X dX12_init_116 rfl rfl ?_
  refine n_bipush (v := 8) X dX12_init_117 (by decide) ?_
  refine n_newI X dX12_init_119 rfl rfl ac_int rfl (fun _ _ h => h) rfl (by decide) (by decide) (by decide) (by decide) (by decide) ?_
  refine n_putRF (j := 27) (ty := tyX12 27) X dX12_init_121 inG12 tyX12_ok nmX12 rfl (by decide) f12_limits hC rfl rfl (by decide +kernel) rfl rfl (by decide) rfl rfl ?_
  refine n_aload_n X dX12_init_124 rfl rfl ?_
  refine n_bipush (v := 8) X dX12_init_125 (by decide) ?_
  refine n_newI X dX12_init_127 rfl rfl ac_int rfl (fun _ _ h => h) rfl (by decide) (by decide) (by decide) (by decide) (by decide) ?_
  refine n_putRF (j := 28) (ty := tyX12 28) X dX12_init_129 inG12 tyX12_ok nmX12 rfl (by decide) f12_mades hC rfl rfl (by decide +kernel) rfl rfl (by decide) rfl rfl ?_
  refine n_aload_n X dX12_init_132 rfl rfl ?_
  refine n_bipush (v := 8) X dX12_init_133 (by decide) ?_
  refine n_newI X dX12_init_135 rfl rfl ac_boolean rfl (fun _ _ h => h) rfl (by decide) (by decide) (by decide) (by decide) (by decide) ?_
  refine n_putRF (j := 29) (ty := tyX12 29) X dX12_init_137 inG12 tyX12_ok nmX12 rfl (by decide) f12_conditioned hC rfl rfl (by decide +kernel) rfl rfl (by decide) rfl rfl ?_
  refine n_aload_n X dX12_init_140 rfl rfl ?_
  refine n_bipush (v := 96) X dX12_init_141 (by decide) ?_
  refine n_newI X dX12_init_143 rfl rfl ac_int rfl (fun _ _ h => h) rfl (by decide) (by decide) (by decide) (by decide) (by decide) ?_
  refine n_putRF (j := 30) (ty := tyX12 30) X dX12_init_145 inG12 tyX12_ok nmX12 rfl (by decide) f12_patterns hC rfl rfl (by decide +kernel) rfl rfl (by decide) rfl rfl ?_
  refine n_aload_n X dX12_init_148 rfl rfl ?_
  refine n_bipush (v := 8) X dX12_init_149 (by decide) ?_
  refine n_newI X dX12_init_151 rfl rfl ac_int rfl (fun _ _ h => h) rfl (by decide) (by decide) (by decide) (by decide) (by decide) ?_
  refine n_putRF (j := 31) (ty := tyX12 31) X dX12_init_153 inG12 tyX12_ok nmX12 rfl (by decide) f12_patternSizes hC rfl rfl (by decide +kernel) rfl rfl (by decide) rfl rfl ?_
  refine n_aload_n X dX12_init_156 rfl rfl ?_
  refine n_bipush (v := 12) X dX12_init_157 (by decide) ?_
  refine n_newI X dX12_init_159 rfl rfl ac_int rfl (fun _ _ h => h) rfl (by decide) (by decide) (by decide) (by decide) (by decide) ?_
  refine n_putRF (j := 32) (ty := tyX12 32) X dX12_init_161 inG12 tyX12_ok nmX12 rfl (by decide) f12_newPattern hC rfl rfl (by decide +kernel) rfl rfl (by decide) rfl rfl ?_
  refine n_aload_n X dX12_init_164 rfl rfl ?_
  refine n_sipush (v := 384) X dX12_init_165 (by decide) ?_
  refine n_newI X dX12_init_168 rfl rfl ac_int rfl (fun _ _ h => h) rfl (by decide) (by decide) (by decide) (by decide) (by decide) ?_
  refine n_putRF (j := 34) (ty := tyX12 34) X dX12_init_170 inG12 tyX12_ok nmX12 rfl (by decide) f12_counts hC rfl rfl (by decide +kernel) rfl rfl (by decide) rfl rfl ?_
  refine n_aload_n X dX12_init_173 rfl rfl ?_
  refine n_sipush (v := 1500) X dX12_init_174 (by decide) ?_
  refine n_newI X dX12_init_177 rfl rfl ac_int rfl (fun _ _ h => h) rfl (by decide) (by decide) (by decide) (by decide) (by decide) ?_
  refine n_putRF (j := 36) (ty := tyX12 36) X dX12_init_179 inG12 tyX12_ok nmX12 rfl (by decide) f12_records hC rfl rfl (by decide +kernel) rfl rfl (by decide) rfl rfl ?_
  refine n_aload_n X dX12_init_182 rfl rfl ?_
  refine n_sipush (v := 280) X dX12_init_183 (by decide) ?_
  refine n_newI X dX12_init_186 rfl rfl ac_int rfl (fun _ _ h => h) rfl (by decide) (by decide) (by decide) (by decide) (by decide) ?_
  refine n_putRF (j := 38) (ty := tyX12 38) X dX12_init_188 inG12 tyX12_ok nmX12 rfl (by decide) f12_keptOnes hC rfl rfl (by decide +kernel) rfl rfl (by decide) rfl rfl ?_
  refine n_aload_n X dX12_init_191 rfl rfl ?_
  refine n_bipush (v := 11) X dX12_init_192 (by decide) ?_
  refine n_newI X dX12_init_194 rfl rfl ac_int rfl (fun _ _ h => h) rfl (by decide) (by decide) (by decide) (by decide) (by decide) ?_
  refine n_putRF (j := 43) (ty := tyX12 43) X dX12_init_196 inG12 tyX12_ok nmX12 rfl (by decide) f12_runMethods hC rfl rfl (by decide +kernel) rfl rfl (by decide) rfl rfl ?_
  refine n_aload_n X dX12_init_199 rfl rfl ?_
  refine n_bipush (v := 33) X dX12_init_200 (by decide) ?_
  refine n_newI X dX12_init_202 rfl rfl ac_int rfl (fun _ _ h => h) rfl (by decide) (by decide) (by decide) (by decide) (by decide) ?_
  refine n_putRF (j := 44) (ty := tyX12 44) X dX12_init_204 inG12 tyX12_ok nmX12 rfl (by decide) f12_runParameters hC rfl rfl (by decide +kernel) rfl rfl (by decide) rfl rfl ?_
  refine n_aload_n X dX12_init_207 rfl rfl ?_
  refine n_bipush (v := 11) X dX12_init_208 (by decide) ?_
  refine n_newI X dX12_init_210 rfl rfl ac_int rfl (fun _ _ h => h) rfl (by decide) (by decide) (by decide) (by decide) (by decide) ?_
  refine n_putRF (j := 45) (ty := tyX12 45) X dX12_init_212 inG12 tyX12_ok nmX12 rfl (by decide) f12_runPlaces hC rfl rfl (by decide +kernel) rfl rfl (by decide) rfl rfl ?_
  refine n_aload_n X dX12_init_215 rfl rfl ?_
  refine n_sipush (v := 512) X dX12_init_216 (by decide) ?_
  refine n_newI X dX12_init_219 rfl rfl ac_int rfl (fun _ _ h => h) rfl (by decide) (by decide) (by decide) (by decide) (by decide) ?_
  refine n_putRF (j := 46) (ty := tyX12 46) X dX12_init_221 inG12 tyX12_ok nmX12 rfl (by decide) f12_stack hC rfl rfl (by decide +kernel) rfl rfl (by decide) rfl rfl ?_
  refine n_aload_n X dX12_init_224 rfl rfl ?_
  refine n_sipush (v := 256) X dX12_init_225 (by decide) ?_
  refine n_newI X dX12_init_228 rfl rfl ac_int rfl (fun _ _ h => h) rfl (by decide) (by decide) (by decide) (by decide) (by decide) ?_
  refine n_putRF (j := 48) (ty := tyX12 48) X dX12_init_230 inG12 tyX12_ok nmX12 rfl (by decide) f12_tryPlaces hC rfl rfl (by decide +kernel) rfl rfl (by decide) rfl rfl ?_
  refine n_aload_n X dX12_init_233 rfl rfl ?_
  refine n_sipush (v := 256) X dX12_init_234 (by decide) ?_
  refine n_newI X dX12_init_237 rfl rfl ac_int rfl (fun _ _ h => h) rfl (by decide) (by decide) (by decide) (by decide) (by decide) ?_
  refine n_putRF (j := 49) (ty := tyX12 49) X dX12_init_239 inG12 tyX12_ok nmX12 rfl (by decide) f12_tryHeights hC rfl rfl (by decide +kernel) rfl rfl (by decide) rfl rfl ?_
  refine n_aload_n X dX12_init_242 rfl rfl ?_
  refine n_sipush (v := 256) X dX12_init_243 (by decide) ?_
  refine n_newI X dX12_init_246 rfl rfl ac_int rfl (fun _ _ h => h) rfl (by decide) (by decide) (by decide) (by decide) (by decide) ?_
  refine n_putRF (j := 50) (ty := tyX12 50) X dX12_init_248 inG12 tyX12_ok nmX12 rfl (by decide) f12_tryDepths hC rfl rfl (by decide +kernel) rfl rfl (by decide) rfl rfl ?_
  refine n_aload_n X dX12_init_251 rfl rfl ?_
  refine n_bipush (v := 7) X dX12_init_252 (by decide) ?_
  refine n_newI X dX12_init_254 rfl rfl ac_int rfl (fun _ _ h => h) rfl (by decide) (by decide) (by decide) (by decide) (by decide) ?_
  refine n_putRF (j := 54) (ty := tyX12 54) X dX12_init_256 inG12 tyX12_ok nmX12 rfl (by decide) f12_seen hC rfl rfl (by decide +kernel) rfl rfl (by decide) rfl rfl ?_
  refine n_aload_n X dX12_init_259 rfl rfl ?_
  refine n_bipush (v := 64) X dX12_init_260 (by decide) ?_
  refine n_newI X dX12_init_262 rfl rfl ac_int rfl (fun _ _ h => h) rfl (by decide) (by decide) (by decide) (by decide) (by decide) ?_
  refine n_putRF (j := 55) (ty := tyX12 55) X dX12_init_264 inG12 tyX12_ok nmX12 rfl (by decide) f12_probeStack hC rfl rfl (by decide +kernel) rfl rfl (by decide) rfl rfl ?_
  refine n_aload_n X dX12_init_267 rfl rfl ?_
  refine n_bipush (v := 32) X dX12_init_268 (by decide) ?_
  refine n_newI X dX12_init_270 rfl rfl ac_int rfl (fun _ _ h => h) rfl (by decide) (by decide) (by decide) (by decide) (by decide) ?_
  refine n_putRF (j := 56) (ty := tyX12 56) X dX12_init_272 inG12 tyX12_ok nmX12 rfl (by decide) f12_probeTries hC rfl rfl (by decide +kernel) rfl rfl (by decide) rfl rfl ?_
  refine n_aload_n X dX12_init_275 rfl rfl ?_
  refine n_bipush (v := 32) X dX12_init_276 (by decide) ?_
  refine n_newI X dX12_init_278 rfl rfl ac_int rfl (fun _ _ h => h) rfl (by decide) (by decide) (by decide) (by decide) (by decide) ?_
  refine n_putRF (j := 57) (ty := tyX12 57) X dX12_init_280 inG12 tyX12_ok nmX12 rfl (by decide) f12_probeHeights hC rfl rfl (by decide +kernel) rfl rfl (by decide) rfl rfl ?_
  exact n_vret X dX12_init_283 rfl rfl rfl rfl

end
