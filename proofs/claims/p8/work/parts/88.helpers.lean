/-! the law's helpers: they catch what the class throws -/
def pcn_ (G : gg_) (As : List Value) (M : mm_) : Array Value → State → Prop := va_Pc As (fun U => G.2.2.2 ≤ U.heap.size ∧ va_P G.2.2.1 vwCl (wl_ G M) U.heap ∧ kw_ G U ∧ va_Nc "java/lang/IllegalArgumentException" "java/lang/IndexOutOfBoundsException" U)
def chx_ (G : gg_) (y : MethodName) (cy : ByteArray) (ny : Nat) (hh : List (Nat × Nat × Nat × Nat)) (d : Nat) (As : List Value) (M : mm_) (post : Option Value → mm_ → Prop) : Prop := ∀ l : Launch, l.stackTraces = false → Met l y (.codeWith y cy ny (some .int) hh :: gw_) (rnX_ d 1 6) (pcn_ G As M) (qg_ G post) 1 6 (aw_ G)
theorem pcn_blind {G : gg_} {As : List Value} {M : mm_} : FrameBlind (pcn_ G As M) := fun a U g mk q => by
  obtain ⟨q0, q1, qP, qK, qN⟩ := q
  exact ⟨q0, q1, qP, kw_same (u := U) (U := U.calling g mk a) qK rfl rfl, qN⟩
theorem chx_of {G : gg_} {y : MethodName} {cy : ByteArray} {ny d : Nat} {hh : List (Nat × Nat × Nat × Nat)} {As : List Value} {M : mm_} {post : Option Value → mm_ → Prop} (hG : gd_ G) (hy : plainName y.cls = true) (hn : (lg_sl As).length ≤ ny)
    (h : ∀ C : mc_, cx_ C G y.cls cy ny (some .int) d → cx_ (ca_ C 1 6) G y.cls cy ny (some .int) d → lcX_ C → (csX_ C = 0 ∧ slX_ C = 0 ∧ rmX_ C 1 6) → tbX_ (ca_ C 1 6) (tableOf hh) → ncX2_ (ca_ C 1 6) "java/lang/IllegalArgumentException" "java/lang/IndexOutOfBoundsException" → wq_ C G (qe_ (ca_ C 1 6) G post) 0 (en_ ny As) [] M) : chx_ G y cy ny hh d As M post := by
  intro l hl
  refine va_MetW (cc := cy) (maxL := ny) (ret := some .int) hy rfl ?_
  intro p e s m args below meth c s₁ B hml hv
  obtain ⟨rfl, hbs, hP, hK, hN⟩ := hv
  have hts0 := atoms_spec (ws := .codeWith y cy ny (some .int) hh :: gw_) B.pre
  have hown : s.vm.findClass y.cls = some m.cls := findClass_of_methodNamed B.named
  have hll := lv_entry As (n := ny) hn
  rw [lg_entry_eq]
  generalize (lg_sl As ++ List.replicate (ny - (lg_sl As).length) Slot.unset).toArray = ls at hll ⊢
  refine h (p, l, e, rnX_ d 1 6, s, m, As.toArray, below, meth, c, 0, 0) ⟨B.exec, B.bytes, hml, B.returns, hown, fun w hw => hts0 w (List.mem_cons_of_mem _ hw), hK, hG, hbs, B.notSynchronized, Nat.le_refl _, Nat.le_refl _, Nat.zero_le _, Nat.zero_le _⟩ ⟨B.exec, B.bytes, hml, B.returns, hown, fun w hw => hts0 w (List.mem_cons_of_mem _ hw), hK, hG, hbs, B.notSynchronized, Nat.le_refl _, Nat.le_refl _, Nat.le_refl _, Nat.le_refl _⟩ hl ⟨rfl, rfl, Nat.le_refl _, Nat.le_refl _⟩ (vx_table (x := y) B (hts0 _ List.mem_cons_self)) hN s.heap [] ls ?_ hP va_S.rf
  refine lh_sub (l := lv_args 0 As) ?_ (en_mem As ny 0)
  rw [hml]
  exact hll
theorem xl13 : Cond.classLink RL 13 "java/lang/IllegalArgumentException" ∈ gw_ := gw_of (by decide +kernel) (by decide)
theorem xl19 : Cond.classLink RL 19 "java/lang/IndexOutOfBoundsException" ∈ gw_ := gw_of (by decide +kernel) (by decide)
set_option maxRecDepth 100000 in
set_option maxHeartbeats 600000 in
theorem cL_feed_ (G : gg_) (hG : gd_ G) (d : Nat) (M : mm_) (n : Nat) (ht : tpX_ M n) (w : Int32) (x : Int64) : chx_ G yL_feed cL_feed 6 [(0, 11, 14, 13)] (d + 7) [.ref (G.1 34), .int w, .long x, .ref (G.1 262)] M (rI_ (fun r N => (r = 0 ∧ ∃ (r0 : Int32) (N0 : mm_), (FDX_ n w x M) r0 N0 ∧ N = sL_ N0 262 0 r0.toInt64) ∨ (r = 1 ∧ N = M ∧ (fun E => E = "java/lang/IllegalArgumentException" ∧ (w < 1 ∨ 8 < w)) "java/lang/IllegalArgumentException"))) := by
  refine chx_of hG (by decide) (Nat.le_of_ble_eq_true rfl) (fun C X X2 hlc hcs htb hnc => ?_)
  refine w_aload X dL_feed_0 rfl ?_
  refine w_iconst (v := 0) X dL_feed_2 (by decide) ?_
  refine w_aload_n X dL_feed_3 rfl rfl ?_
  refine w_iload_n X dL_feed_4 rfl rfl ?_
  refine w_lload_n X dL_feed_5 rfl rfl ?_
  refine w_callX (xe := fun E => E = "java/lang/IllegalArgumentException" ∧ (w < 1 ∨ 8 < w)) (post := rI_ (FDX_ n w x M)) [.int w, .long x] X hlc dL_feed_6 kL_7 rfl s_34 (c11_feed G hG d M n ht w x) (Nat.le_of_ble_eq_true rfl) (by rw [hcs.1, hcs.2.1]; exact hcs.2.2) ?_ ?_
  · rw [hcs.1, hcs.2.1]
    rintro v N ⟨r0, rfl, h0⟩
    refine w_i2l X2 dL_feed_9 ?_
    refine w_lastoreN X2 dL_feed_10 s_262 rfl (⟨by decide, by decide⟩) ?_
    refine w_goto (tgt := 18) X2 dL_feed_11 (by decide) ?_
    refine w_iconst (v := 0) X2 dL_feed_18 (by decide) ?_
    exact w_irR X2 dL_feed_19 (Or.inl ⟨rfl, r0, N, h0, rfl⟩)
  · rw [hcs.1, hcs.2.1]
    intro E q hE
    obtain ⟨rfl, hE2⟩ := hE
    refine w_catch X2 [] ⟨0, 11, 14, 13⟩ [] htb (by decide) (fun z hz => by cases hz) (by decide) (by decide) xl13 ?_
    refine w_astore X2 dL_feed_14 (by decide) ?_
    refine w_iconst (v := 1) X2 dL_feed_16 (by decide) ?_
    exact w_irR X2 dL_feed_17 (Or.inr (⟨rfl, rfl, ⟨rfl, hE2⟩⟩))
set_option maxRecDepth 100000 in
set_option maxHeartbeats 600000 in
theorem cL_call_ (G : gg_) (hG : gd_ G) (d : Nat) (M : mm_) (c : Nat) (J : Nat → Nat) (S : Nat) (hM : kmX_ c J S M) (hz : zoX_ (M.1 247 10)) (m : Int32) (x : Int32) (y : Int32) (w : Int32) : chx_ G yL_call cL_call 7 [(0, 14, 17, 19)] (d + 64) [.ref (G.1 34), .int m, .int x, .int y, .int w, .ref (G.1 262)] M (rI_ (fun r N => (r = 0 ∧ ∃ (r0 : Int32) (N0 : mm_), (fun _ N => fyX_ 0 M N ∧ zoX_ (N.1 247 10)) r0 N0 ∧ N = sL_ N0 262 0 r0.toInt64) ∨ (r = 1 ∧ N = M ∧ (fun E => E = "java/lang/IndexOutOfBoundsException") "java/lang/IndexOutOfBoundsException"))) := by
  refine chx_of hG (by decide) (Nat.le_of_ble_eq_true rfl) (fun C X X2 hlc hcs htb hnc => ?_)
  refine w_aload X dL_call_0 rfl ?_
  refine w_iconst (v := 0) X dL_call_2 (by decide) ?_
  refine w_aload_n X dL_call_3 rfl rfl ?_
  refine w_iload_n X dL_call_4 rfl rfl ?_
  refine w_iload_n X dL_call_5 rfl rfl ?_
  refine w_iload_n X dL_call_6 rfl rfl ?_
  refine w_iload X dL_call_7 rfl ?_
  refine w_callX (xe := fun E => E = "java/lang/IndexOutOfBoundsException") (post := rI_ (fun _ N => fyX_ 0 M N ∧ zoX_ (N.1 247 10))) [.int m, .int x, .int y, .int w] X hlc dL_call_9 kL_15 rfl s_34 (c11_call G hG d M c J S hM hz m x y w) (Nat.le_of_ble_eq_true rfl) (by rw [hcs.1, hcs.2.1]; exact hcs.2.2) ?_ ?_
  · rw [hcs.1, hcs.2.1]
    rintro v N ⟨r0, rfl, h0⟩
    refine w_i2l X2 dL_call_12 ?_
    refine w_lastoreN X2 dL_call_13 s_262 rfl (⟨by decide, by decide⟩) ?_
    refine w_goto (tgt := 21) X2 dL_call_14 (by decide) ?_
    refine w_iconst (v := 0) X2 dL_call_21 (by decide) ?_
    exact w_irR X2 dL_call_22 (Or.inl ⟨rfl, r0, N, h0, rfl⟩)
  · rw [hcs.1, hcs.2.1]
    intro E q hE
    obtain rfl : E = "java/lang/IndexOutOfBoundsException" := hE
    refine w_catch X2 [] ⟨0, 14, 17, 19⟩ [] htb (by decide) (fun z hz => by cases hz) (by decide) (by decide) xl19 ?_
    refine w_astore X2 dL_call_17 (by decide) ?_
    refine w_iconst (v := 1) X2 dL_call_19 (by decide) ?_
    exact w_irR X2 dL_call_20 (Or.inr (⟨rfl, rfl, rfl⟩))
set_option maxRecDepth 100000 in
set_option maxHeartbeats 600000 in
theorem cL_record_ (G : gg_) (hG : gd_ G) (d : Nat) (M : mm_)  (i : Int32) (w : Int32) : chx_ G yL_record cL_record 5 [(0, 10, 13, 19), (0, 10, 17, 13)] (d + 7) [.ref (G.1 34), .int i, .int w, .ref (G.1 262)] M (rI_ (fun r N => (r = 0 ∧ ∃ (r0 : Int32) (N0 : mm_), (fun r N => N = M ∧ r = rC_ M 243 1500 i w ∧ ¬ rH_ M 243 i = 0 ∧ 0 ≤ w ∧ w < 5) r0 N0 ∧ N = sL_ N0 262 0 r0.toInt64) ∨ (r = 1 ∧ N = M ∧ (fun E => (E = "java/lang/IndexOutOfBoundsException" ∧ rH_ M 243 i = 0) ∨ (E = "java/lang/IllegalArgumentException" ∧ ¬ rH_ M 243 i = 0 ∧ (w < 0 ∨ 5 ≤ w))) "java/lang/IndexOutOfBoundsException") ∨ (r = 2 ∧ N = M ∧ (fun E => (E = "java/lang/IndexOutOfBoundsException" ∧ rH_ M 243 i = 0) ∨ (E = "java/lang/IllegalArgumentException" ∧ ¬ rH_ M 243 i = 0 ∧ (w < 0 ∨ 5 ≤ w))) "java/lang/IllegalArgumentException"))) := by
  refine chx_of hG (by decide) (Nat.le_of_ble_eq_true rfl) (fun C X X2 hlc hcs htb hnc => ?_)
  refine w_aload_n X dL_record_0 rfl rfl ?_
  refine w_iconst (v := 0) X dL_record_1 (by decide) ?_
  refine w_aload_n X dL_record_2 rfl rfl ?_
  refine w_iload_n X dL_record_3 rfl rfl ?_
  refine w_iload_n X dL_record_4 rfl rfl ?_
  refine w_callX (xe := fun E => (E = "java/lang/IndexOutOfBoundsException" ∧ rH_ M 243 i = 0) ∨ (E = "java/lang/IllegalArgumentException" ∧ ¬ rH_ M 243 i = 0 ∧ (w < 0 ∨ 5 ≤ w))) (post := rI_ (fun r N => N = M ∧ r = rC_ M 243 1500 i w ∧ ¬ rH_ M 243 i = 0 ∧ 0 ≤ w ∧ w < 5)) [.int i, .int w] X hlc dL_record_5 kL_21 rfl s_34 (c11_record G hG d M i w) (Nat.le_of_ble_eq_true rfl) (by rw [hcs.1, hcs.2.1]; exact hcs.2.2) ?_ ?_
  · rw [hcs.1, hcs.2.1]
    rintro v N ⟨r0, rfl, h0⟩
    refine w_i2l X2 dL_record_8 ?_
    refine w_lastoreN X2 dL_record_9 s_262 rfl (⟨by decide, by decide⟩) ?_
    refine w_goto (tgt := 21) X2 dL_record_10 (by decide) ?_
    refine w_iconst (v := 0) X2 dL_record_21 (by decide) ?_
    exact w_irR X2 dL_record_22 (Or.inl ⟨rfl, r0, N, h0, rfl⟩)
  · rw [hcs.1, hcs.2.1]
    intro E q hE
    rcases hE with ⟨rfl, hE2⟩ | ⟨rfl, hE2⟩
    · refine w_catch X2 [] ⟨0, 10, 13, 19⟩ [⟨0, 10, 17, 13⟩] htb (by decide) (fun z hz => by cases hz) (by decide) (by decide) xl19 ?_
      refine w_astore X2 dL_record_13 (by decide) ?_
      refine w_iconst (v := 1) X2 dL_record_15 (by decide) ?_
      exact w_irR X2 dL_record_16 (Or.inr (Or.inl ⟨rfl, rfl, Or.inl ⟨rfl, hE2⟩⟩))
    · refine w_catch X2 [⟨0, 10, 13, 19⟩] ⟨0, 10, 17, 13⟩ [] htb (by decide) (fun z hz => by obtain rfl := List.mem_singleton.mp hz; exact ⟨by decide, _, xl19, hnc⟩) (by decide) (by decide) xl13 ?_
      refine w_astore X2 dL_record_17 (by decide) ?_
      refine w_iconst (v := 2) X2 dL_record_19 (by decide) ?_
      exact w_irR X2 dL_record_20 (Or.inr (Or.inr ⟨rfl, rfl, Or.inr ⟨rfl, hE2⟩⟩))
set_option maxRecDepth 100000 in
set_option maxHeartbeats 600000 in
theorem cL_job_ (G : gg_) (hG : gd_ G) (d : Nat) (M : mm_) (J : Nat → Nat) (S : Nat) (hq : jq_ M J S) (j : Int32) (w : Int32) : chx_ G yL_job cL_job 5 [(0, 10, 13, 19), (0, 10, 17, 13)] (d + 7) [.ref (G.1 34), .int j, .int w, .ref (G.1 262)] M (rI_ (fun r N => (r = 0 ∧ ∃ (r0 : Int32) (N0 : mm_), (fun r N => N = M ∧ ∃ i, i < 8 ∧ j = nI i ∧ 0 ≤ w ∧ w ≤ 1 ∧ r = (if w = 0 then M.1 (135 + 12 * J i) 0 else lft_ M (135 + 12 * J i))) r0 N0 ∧ N = sL_ N0 262 0 r0.toInt64) ∨ (r = 1 ∧ N = M ∧ (fun E => (E = "java/lang/IndexOutOfBoundsException" ∧ (j < 0 ∨ 8 ≤ j)) ∨ (E = "java/lang/IllegalArgumentException" ∧ ¬ (j < 0 ∨ 8 ≤ j) ∧ (w < 0 ∨ 1 < w))) "java/lang/IndexOutOfBoundsException") ∨ (r = 2 ∧ N = M ∧ (fun E => (E = "java/lang/IndexOutOfBoundsException" ∧ (j < 0 ∨ 8 ≤ j)) ∨ (E = "java/lang/IllegalArgumentException" ∧ ¬ (j < 0 ∨ 8 ≤ j) ∧ (w < 0 ∨ 1 < w))) "java/lang/IllegalArgumentException"))) := by
  refine chx_of hG (by decide) (Nat.le_of_ble_eq_true rfl) (fun C X X2 hlc hcs htb hnc => ?_)
  refine w_aload_n X dL_job_0 rfl rfl ?_
  refine w_iconst (v := 0) X dL_job_1 (by decide) ?_
  refine w_aload_n X dL_job_2 rfl rfl ?_
  refine w_iload_n X dL_job_3 rfl rfl ?_
  refine w_iload_n X dL_job_4 rfl rfl ?_
  refine w_callX (xe := fun E => (E = "java/lang/IndexOutOfBoundsException" ∧ (j < 0 ∨ 8 ≤ j)) ∨ (E = "java/lang/IllegalArgumentException" ∧ ¬ (j < 0 ∨ 8 ≤ j) ∧ (w < 0 ∨ 1 < w))) (post := rI_ (fun r N => N = M ∧ ∃ i, i < 8 ∧ j = nI i ∧ 0 ≤ w ∧ w ≤ 1 ∧ r = (if w = 0 then M.1 (135 + 12 * J i) 0 else lft_ M (135 + 12 * J i)))) [.int j, .int w] X hlc dL_job_5 kL_25 rfl s_34 (c11_job G hG d M J S hq j w) (Nat.le_of_ble_eq_true rfl) (by rw [hcs.1, hcs.2.1]; exact hcs.2.2) ?_ ?_
  · rw [hcs.1, hcs.2.1]
    rintro v N ⟨r0, rfl, h0⟩
    refine w_i2l X2 dL_job_8 ?_
    refine w_lastoreN X2 dL_job_9 s_262 rfl (⟨by decide, by decide⟩) ?_
    refine w_goto (tgt := 21) X2 dL_job_10 (by decide) ?_
    refine w_iconst (v := 0) X2 dL_job_21 (by decide) ?_
    exact w_irR X2 dL_job_22 (Or.inl ⟨rfl, r0, N, h0, rfl⟩)
  · rw [hcs.1, hcs.2.1]
    intro E q hE
    rcases hE with ⟨rfl, hE2⟩ | ⟨rfl, hE2⟩
    · refine w_catch X2 [] ⟨0, 10, 13, 19⟩ [⟨0, 10, 17, 13⟩] htb (by decide) (fun z hz => by cases hz) (by decide) (by decide) xl19 ?_
      refine w_astore X2 dL_job_13 (by decide) ?_
      refine w_iconst (v := 1) X2 dL_job_15 (by decide) ?_
      exact w_irR X2 dL_job_16 (Or.inr (Or.inl ⟨rfl, rfl, Or.inl ⟨rfl, hE2⟩⟩))
    · refine w_catch X2 [⟨0, 10, 13, 19⟩] ⟨0, 10, 17, 13⟩ [] htb (by decide) (fun z hz => by obtain rfl := List.mem_singleton.mp hz; exact ⟨by decide, _, xl19, hnc⟩) (by decide) (by decide) xl13 ?_
      refine w_astore X2 dL_job_17 (by decide) ?_
      refine w_iconst (v := 2) X2 dL_job_19 (by decide) ?_
      exact w_irR X2 dL_job_20 (Or.inr (Or.inr ⟨rfl, rfl, Or.inr ⟨rfl, hE2⟩⟩))
set_option maxRecDepth 100000 in
set_option maxHeartbeats 600000 in
theorem cL_counted_ (G : gg_) (hG : gd_ G) (d : Nat) (M : mm_) (J : Nat → Nat) (S : Nat) (hq : jq_ M J S) (c : Nat) (hc : mt_ M c) (j : Int32) (m : Int32) (w : Int32) : chx_ G yL_counted cL_counted 6 [(0, 12, 15, 19), (0, 12, 19, 13)] (d + 7) [.ref (G.1 34), .int j, .int m, .int w, .ref (G.1 262)] M (rI_ (fun r N => (r = 0 ∧ ∃ (r0 : Int32) (N0 : mm_), (fun _ N => N = M) r0 N0 ∧ N = sL_ N0 262 0 r0.toInt64) ∨ (r = 1 ∧ N = M ∧ (fun E => E = "java/lang/IndexOutOfBoundsException" ∨ E = "java/lang/IllegalArgumentException") "java/lang/IndexOutOfBoundsException") ∨ (r = 2 ∧ N = M ∧ (fun E => E = "java/lang/IndexOutOfBoundsException" ∨ E = "java/lang/IllegalArgumentException") "java/lang/IllegalArgumentException"))) := by
  refine chx_of hG (by decide) (Nat.le_of_ble_eq_true rfl) (fun C X X2 hlc hcs htb hnc => ?_)
  refine w_aload X dL_counted_0 rfl ?_
  refine w_iconst (v := 0) X dL_counted_2 (by decide) ?_
  refine w_aload_n X dL_counted_3 rfl rfl ?_
  refine w_iload_n X dL_counted_4 rfl rfl ?_
  refine w_iload_n X dL_counted_5 rfl rfl ?_
  refine w_iload_n X dL_counted_6 rfl rfl ?_
  refine w_callX (xe := fun E => E = "java/lang/IndexOutOfBoundsException" ∨ E = "java/lang/IllegalArgumentException") (post := rI_ (fun _ N => N = M)) [.int j, .int m, .int w] X hlc dL_counted_7 kL_28 rfl s_34 (c11_counted G hG d M J S hq c hc j m w) (Nat.le_of_ble_eq_true rfl) (by rw [hcs.1, hcs.2.1]; exact hcs.2.2) ?_ ?_
  · rw [hcs.1, hcs.2.1]
    rintro v N ⟨r0, rfl, h0⟩
    refine w_i2l X2 dL_counted_10 ?_
    refine w_lastoreN X2 dL_counted_11 s_262 rfl (⟨by decide, by decide⟩) ?_
    refine w_goto (tgt := 23) X2 dL_counted_12 (by decide) ?_
    refine w_iconst (v := 0) X2 dL_counted_23 (by decide) ?_
    exact w_irR X2 dL_counted_24 (Or.inl ⟨rfl, r0, N, h0, rfl⟩)
  · rw [hcs.1, hcs.2.1]
    intro E q hE
    rcases hE with rfl | rfl
    · refine w_catch X2 [] ⟨0, 12, 15, 19⟩ [⟨0, 12, 19, 13⟩] htb (by decide) (fun z hz => by cases hz) (by decide) (by decide) xl19 ?_
      refine w_astore X2 dL_counted_15 (by decide) ?_
      refine w_iconst (v := 1) X2 dL_counted_17 (by decide) ?_
      exact w_irR X2 dL_counted_18 (Or.inr (Or.inl ⟨rfl, rfl, Or.inl rfl⟩))
    · refine w_catch X2 [⟨0, 12, 15, 19⟩] ⟨0, 12, 19, 13⟩ [] htb (by decide) (fun z hz => by obtain rfl := List.mem_singleton.mp hz; exact ⟨by decide, _, xl19, hnc⟩) (by decide) (by decide) xl13 ?_
      refine w_astore X2 dL_counted_19 (by decide) ?_
      refine w_iconst (v := 2) X2 dL_counted_21 (by decide) ?_
      exact w_irR X2 dL_counted_22 (Or.inr (Or.inr ⟨rfl, rfl, Or.inr rfl⟩))
set_option maxRecDepth 100000 in
set_option maxHeartbeats 600000 in
theorem cL_kept_ (G : gg_) (hG : gd_ G) (d : Nat) (M : mm_)  (i : Int32) (w : Int32) : chx_ G yL_kept cL_kept 5 [(0, 10, 13, 19), (0, 10, 17, 13)] (d + 7) [.ref (G.1 34), .int i, .int w, .ref (G.1 262)] M (rI_ (fun r N => (r = 0 ∧ ∃ (r0 : Int32) (N0 : mm_), (fun r N => N = M ∧ r = rC_ M 245 280 i w ∧ ¬ rH_ M 245 i = 0 ∧ 0 ≤ w ∧ w < 7) r0 N0 ∧ N = sL_ N0 262 0 r0.toInt64) ∨ (r = 1 ∧ N = M ∧ (fun E => (E = "java/lang/IndexOutOfBoundsException" ∧ rH_ M 245 i = 0) ∨ (E = "java/lang/IllegalArgumentException" ∧ ¬ rH_ M 245 i = 0 ∧ (w < 0 ∨ 7 ≤ w))) "java/lang/IndexOutOfBoundsException") ∨ (r = 2 ∧ N = M ∧ (fun E => (E = "java/lang/IndexOutOfBoundsException" ∧ rH_ M 245 i = 0) ∨ (E = "java/lang/IllegalArgumentException" ∧ ¬ rH_ M 245 i = 0 ∧ (w < 0 ∨ 7 ≤ w))) "java/lang/IllegalArgumentException"))) := by
  refine chx_of hG (by decide) (Nat.le_of_ble_eq_true rfl) (fun C X X2 hlc hcs htb hnc => ?_)
  refine w_aload_n X dL_kept_0 rfl rfl ?_
  refine w_iconst (v := 0) X dL_kept_1 (by decide) ?_
  refine w_aload_n X dL_kept_2 rfl rfl ?_
  refine w_iload_n X dL_kept_3 rfl rfl ?_
  refine w_iload_n X dL_kept_4 rfl rfl ?_
  refine w_callX (xe := fun E => (E = "java/lang/IndexOutOfBoundsException" ∧ rH_ M 245 i = 0) ∨ (E = "java/lang/IllegalArgumentException" ∧ ¬ rH_ M 245 i = 0 ∧ (w < 0 ∨ 7 ≤ w))) (post := rI_ (fun r N => N = M ∧ r = rC_ M 245 280 i w ∧ ¬ rH_ M 245 i = 0 ∧ 0 ≤ w ∧ w < 7)) [.int i, .int w] X hlc dL_kept_5 kL_32 rfl s_34 (c11_kept G hG d M i w) (Nat.le_of_ble_eq_true rfl) (by rw [hcs.1, hcs.2.1]; exact hcs.2.2) ?_ ?_
  · rw [hcs.1, hcs.2.1]
    rintro v N ⟨r0, rfl, h0⟩
    refine w_i2l X2 dL_kept_8 ?_
    refine w_lastoreN X2 dL_kept_9 s_262 rfl (⟨by decide, by decide⟩) ?_
    refine w_goto (tgt := 21) X2 dL_kept_10 (by decide) ?_
    refine w_iconst (v := 0) X2 dL_kept_21 (by decide) ?_
    exact w_irR X2 dL_kept_22 (Or.inl ⟨rfl, r0, N, h0, rfl⟩)
  · rw [hcs.1, hcs.2.1]
    intro E q hE
    rcases hE with ⟨rfl, hE2⟩ | ⟨rfl, hE2⟩
    · refine w_catch X2 [] ⟨0, 10, 13, 19⟩ [⟨0, 10, 17, 13⟩] htb (by decide) (fun z hz => by cases hz) (by decide) (by decide) xl19 ?_
      refine w_astore X2 dL_kept_13 (by decide) ?_
      refine w_iconst (v := 1) X2 dL_kept_15 (by decide) ?_
      exact w_irR X2 dL_kept_16 (Or.inr (Or.inl ⟨rfl, rfl, Or.inl ⟨rfl, hE2⟩⟩))
    · refine w_catch X2 [⟨0, 10, 13, 19⟩] ⟨0, 10, 17, 13⟩ [] htb (by decide) (fun z hz => by obtain rfl := List.mem_singleton.mp hz; exact ⟨by decide, _, xl19, hnc⟩) (by decide) (by decide) xl13 ?_
      refine w_astore X2 dL_kept_17 (by decide) ?_
      refine w_iconst (v := 2) X2 dL_kept_19 (by decide) ?_
      exact w_irR X2 dL_kept_20 (Or.inr (Or.inr ⟨rfl, rfl, Or.inr ⟨rfl, hE2⟩⟩))
set_option maxRecDepth 100000 in
set_option maxHeartbeats 600000 in
theorem cL_replay_ (G : gg_) (hG : gd_ G) (d : Nat) (M : mm_) (c : Nat) (J : Nat → Nat) (S : Nat) (hM : kmX_ c J S M) (hz : zoX_ (M.1 247 10)) (hk : kpX_ M) (i : Int32) : chx_ G yL_replay cL_replay 4 [(0, 9, 12, 19)] (d + 64) [.ref (G.1 34), .int i, .ref (G.1 262)] M (rI_ (fun r N => (r = 0 ∧ ∃ (r0 : Int32) (N0 : mm_), (fun _ N => fyX_ 0 M N ∧ zoX_ (N.1 247 10)) r0 N0 ∧ N = sL_ N0 262 0 r0.toInt64) ∨ (r = 1 ∧ N = M ∧ (fun E => E = "java/lang/IndexOutOfBoundsException") "java/lang/IndexOutOfBoundsException"))) := by
  refine chx_of hG (by decide) (Nat.le_of_ble_eq_true rfl) (fun C X X2 hlc hcs htb hnc => ?_)
  refine w_aload_n X dL_replay_0 rfl rfl ?_
  refine w_iconst (v := 0) X dL_replay_1 (by decide) ?_
  refine w_aload_n X dL_replay_2 rfl rfl ?_
  refine w_iload_n X dL_replay_3 rfl rfl ?_
  refine w_callX (xe := fun E => E = "java/lang/IndexOutOfBoundsException") (post := rI_ (fun _ N => fyX_ 0 M N ∧ zoX_ (N.1 247 10))) [.int i] X hlc dL_replay_4 kL_35 rfl s_34 (c11_replay G hG d M c J S hM hz hk i) (Nat.le_of_ble_eq_true rfl) (by rw [hcs.1, hcs.2.1]; exact hcs.2.2) ?_ ?_
  · rw [hcs.1, hcs.2.1]
    rintro v N ⟨r0, rfl, h0⟩
    refine w_i2l X2 dL_replay_7 ?_
    refine w_lastoreN X2 dL_replay_8 s_262 rfl (⟨by decide, by decide⟩) ?_
    refine w_goto (tgt := 15) X2 dL_replay_9 (by decide) ?_
    refine w_iconst (v := 0) X2 dL_replay_15 (by decide) ?_
    exact w_irR X2 dL_replay_16 (Or.inl ⟨rfl, r0, N, h0, rfl⟩)
  · rw [hcs.1, hcs.2.1]
    intro E q hE
    obtain rfl : E = "java/lang/IndexOutOfBoundsException" := hE
    refine w_catch X2 [] ⟨0, 9, 12, 19⟩ [] htb (by decide) (fun z hz => by cases hz) (by decide) (by decide) xl19 ?_
    refine w_astore_n X2 dL_replay_12 rfl (by decide) ?_
    refine w_iconst (v := 1) X2 dL_replay_13 (by decide) ?_
    exact w_irR X2 dL_replay_14 (Or.inr (⟨rfl, rfl, rfl⟩))
