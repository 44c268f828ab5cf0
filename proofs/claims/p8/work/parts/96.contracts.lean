/-! every method that the law calls, by the invariant alone -/
def bi_ : Option Value → mm_ → Prop := rI_ (fun _ N => BI_ N)
theorem bi_fI {r : Int32} {N : mm_} (h : BI_ N) : ∀ v N2, fI_ r N v N2 → bi_ v N2 := fun v N2 z => ⟨r, z.1, by rw [z.2]; exact h⟩
theorem bi_rI {f : Int32 → mm_ → Prop} (h : ∀ r N, f r N → BI_ N) : ∀ v N2, rI_ f v N2 → bi_ v N2 := fun v N2 z => by
  obtain ⟨r, z1, z2⟩ := z
  exact ⟨r, z1, h r N2 z2⟩
theorem chx_post {G : gg_} {y : MethodName} {cy : ByteArray} {ny d : Nat} {hh : List (Nat × Nat × Nat × Nat)} {As : List Value} {M : mm_} {post post2 : Option Value → mm_ → Prop} (h : chx_ G y cy ny hh d As M post) (hp : ∀ v N, post v N → post2 v N) : chx_ G y cy ny hh d As M post2 := by
  intro l hl p e ha hc hk s m args below hf happ hP hK
  obtain ⟨k, o, h1, h2, h3, ⟨⟨v, N, e1, e2, e3⟩, e4⟩, h5⟩ := h l hl p e ha hc hk s m args below hf happ hP hK
  exact ⟨k, o, h1, h2, h3, ⟨⟨v, N, e1, hp v N e2, e3⟩, e4⟩, h5⟩
theorem bX_fault {G : gg_} (hG : gd_ G) {M : mm_} (hB : BI_ M) : cm_ G yX11_fault cX11_fault 1 (some .int) 1299 [.ref (G.1 34)] M bi_ := cm_post (c11_fault G hG 1299 M) (bi_fI hB)
theorem bX_place {G : gg_} (hG : gd_ G) {M : mm_} (hB : BI_ M) : cm_ G yX11_place cX11_place 1 (some .int) 1299 [.ref (G.1 34)] M bi_ := cm_post (c11_place G hG 1299 M) (bi_fI hB)
theorem bX_value {G : gg_} (hG : gd_ G) {M : mm_} (hB : BI_ M) : cm_ G yX11_value cX11_value 1 (some .int) 1299 [.ref (G.1 34)] M bi_ := cm_post (c11_value G hG 1299 M) (bi_fI hB)
theorem bX_invoked {G : gg_} (hG : gd_ G) {M : mm_} (hB : BI_ M) : cm_ G yX11_invoked cX11_invoked 1 (some .int) 1299 [.ref (G.1 34)] M bi_ := cm_post (c11_invoked G hG 1299 M) (bi_fI hB)
theorem bX_records {G : gg_} (hG : gd_ G) {M : mm_} (hB : BI_ M) : cm_ G yX11_records cX11_records 1 (some .int) 1299 [.ref (G.1 34)] M bi_ := cm_post (c11_records G hG 1299 M) (bi_fI hB)
theorem bX_keeps {G : gg_} (hG : gd_ G) {M : mm_} (hB : BI_ M) : cm_ G yX11_keeps cX11_keeps 1 (some .int) 1299 [.ref (G.1 34)] M bi_ := cm_post (c11_keeps G hG 1299 M) (bi_fI hB)
theorem bX_clear {G : gg_} (hG : gd_ G) {M : mm_} (hB : BI_ M) : cm_ G yX11_clear cX11_clear 2 (some .int) 1299 [.ref (G.1 34)] M bi_ := cm_post (c11_clear G hG 1299 M) (bi_fI (B_clearX hB))
theorem bX_method {G : gg_} (hG : gd_ G) {M : mm_} (hB : BI_ M) : cm_ G yX11_method cX11_method 4 (some .int) 1299 [.ref (G.1 34)] M bi_ := by
  obtain ⟨n, hn, ⟨ht, c, J, S, g⟩, hT, hR⟩ := hB
  exact cm_post (c11_method G hG 392 M n ht c g.1.1 g.1.2.1 J S g.1.2.2.1) (bi_rI fun r N h => ⟨n, hn, XI_MR ht g h, by rw [(hX_MR h).1 0 2 (by omega)]; exact hT, RI_hX (hX_MR h) hR⟩)
theorem bX_command {G : gg_} (hG : gd_ G) {M : mm_} (hB : BI_ M) : cm_ G yX11_command cX11_command 3 (some .int) 1299 [.ref (G.1 34)] M bi_ := by
  obtain ⟨n, hn, ⟨ht, c, J, S, g⟩, hT, hR⟩ := hB
  exact cm_post (c11_command G hG 391 M n ht c g.1.1 J S g.1.2.2.1) (bi_rI fun r N h => ⟨n, hn, XI_CR ht g h, by rw [(hX_CR h).1 0 2 (by omega)]; exact hT, RI_hX (hX_CR h) hR⟩)
theorem bL_call {G : gg_} (hG : gd_ G) {M : mm_} (hB : BI_ M) (m x y w : Int32) : chx_ G yL_call cL_call 7 [(0, 14, 17, 19)] 1299 [.ref (G.1 34), .int m, .int x, .int y, .int w, .ref (G.1 262)] M bi_ := by
  obtain ⟨n, hn, ⟨ht, c, J, S, g⟩, hT, hR⟩ := id hB
  refine chx_post (cL_call_ G hG 1235 M c J S g.1 g.2.2.2 m x y w) (bi_rI fun r N h => ?_)
  rcases h with ⟨-, r0, N0, h0, rfl⟩ | ⟨-, rfl, -⟩
  · exact B_262 (B_fy h0.1 h0.2 hB)
  · exact hB
theorem bL_replay {G : gg_} (hG : gd_ G) {M : mm_} (hB : BI_ M) (i : Int32) : chx_ G yL_replay cL_replay 4 [(0, 9, 12, 19)] 1299 [.ref (G.1 34), .int i, .ref (G.1 262)] M bi_ := by
  obtain ⟨n, hn, ⟨ht, c, J, S, g⟩, hT, hR⟩ := id hB
  refine chx_post (cL_replay_ G hG 1235 M c J S g.1 g.2.2.2 g.2.2.1 i) (bi_rI fun r N h => ?_)
  rcases h with ⟨-, r0, N0, h0, rfl⟩ | ⟨-, rfl, -⟩
  · exact B_262 (B_fy h0.1 h0.2 hB)
  · exact hB
theorem bL_record {G : gg_} (hG : gd_ G) {M : mm_} (hB : BI_ M) (i w : Int32) : chx_ G yL_record cL_record 5 [(0, 10, 13, 19), (0, 10, 17, 13)] 1299 [.ref (G.1 34), .int i, .int w, .ref (G.1 262)] M bi_ := by
  refine chx_post (cL_record_ G hG 1292 M i w) (bi_rI fun r N h => ?_)
  rcases h with ⟨-, r0, N0, ⟨rfl, -⟩, rfl⟩ | ⟨-, rfl, -⟩ | ⟨-, rfl, -⟩
  · exact B_262 hB
  · exact hB
  · exact hB
theorem bL_kept {G : gg_} (hG : gd_ G) {M : mm_} (hB : BI_ M) (i w : Int32) : chx_ G yL_kept cL_kept 5 [(0, 10, 13, 19), (0, 10, 17, 13)] 1299 [.ref (G.1 34), .int i, .int w, .ref (G.1 262)] M bi_ := by
  refine chx_post (cL_kept_ G hG 1292 M i w) (bi_rI fun r N h => ?_)
  rcases h with ⟨-, r0, N0, ⟨rfl, -⟩, rfl⟩ | ⟨-, rfl, -⟩ | ⟨-, rfl, -⟩
  · exact B_262 hB
  · exact hB
  · exact hB
theorem bL_job {G : gg_} (hG : gd_ G) {M : mm_} (hB : BI_ M) (j w : Int32) : chx_ G yL_job cL_job 5 [(0, 10, 13, 19), (0, 10, 17, 13)] 1299 [.ref (G.1 34), .int j, .int w, .ref (G.1 262)] M bi_ := by
  obtain ⟨n, hn, ⟨ht, c, J, S, g⟩, hT, hR⟩ := id hB
  refine chx_post (cL_job_ G hG 1292 M J S g.1.2.2.1 j w) (bi_rI fun r N h => ?_)
  rcases h with ⟨-, r0, N0, ⟨rfl, -⟩, rfl⟩ | ⟨-, rfl, -⟩ | ⟨-, rfl, -⟩
  · exact B_262 hB
  · exact hB
  · exact hB
theorem bL_counted {G : gg_} (hG : gd_ G) {M : mm_} (hB : BI_ M) (j m w : Int32) : chx_ G yL_counted cL_counted 6 [(0, 12, 15, 19), (0, 12, 19, 13)] 1299 [.ref (G.1 34), .int j, .int m, .int w, .ref (G.1 262)] M bi_ := by
  obtain ⟨n, hn, ⟨ht, c, J, S, g⟩, hT, hR⟩ := id hB
  refine chx_post (cL_counted_ G hG 1292 M J S g.1.2.2.1 c g.1.1 j m w) (bi_rI fun r N h => ?_)
  rcases h with ⟨-, r0, N0, h0, rfl⟩ | ⟨-, rfl, -⟩ | ⟨-, rfl, -⟩
  · rw [show N0 = M from h0]; exact B_262 hB
  · exact hB
  · exact hB
theorem bR_fault {G : gg_} (hG : gd_ G) {M : mm_} (hB : BI_ M) : cm_ G yX12_fault cX12_fault 1 (some .int) 1299 [.ref (G.1 0)] M bi_ := cm_post (c12_fault G hG 1299 M) (bi_fI (BR_0 hB))
theorem bR_place {G : gg_} (hG : gd_ G) {M : mm_} (hB : BI_ M) : cm_ G yX12_place cX12_place 1 (some .int) 1299 [.ref (G.1 0)] M bi_ := cm_post (c12_place G hG 1299 M) (bi_fI (BR_0 hB))
theorem bR_value {G : gg_} (hG : gd_ G) {M : mm_} (hB : BI_ M) : cm_ G yX12_value cX12_value 1 (some .int) 1299 [.ref (G.1 0)] M bi_ := cm_post (c12_value G hG 1299 M) (bi_fI (BR_0 hB))
theorem bR_invoked {G : gg_} (hG : gd_ G) {M : mm_} (hB : BI_ M) : cm_ G yX12_invoked cX12_invoked 1 (some .int) 1299 [.ref (G.1 0)] M bi_ := cm_post (c12_invoked G hG 1299 M) (bi_fI (BR_0 hB))
theorem bR_records {G : gg_} (hG : gd_ G) {M : mm_} (hB : BI_ M) : cm_ G yX12_records cX12_records 1 (some .int) 1299 [.ref (G.1 0)] M bi_ := cm_post (c12_records G hG 1299 M) (bi_fI (BR_0 hB))
theorem bR_keeps {G : gg_} (hG : gd_ G) {M : mm_} (hB : BI_ M) : cm_ G yX12_keeps cX12_keeps 1 (some .int) 1299 [.ref (G.1 0)] M bi_ := cm_post (c12_keeps G hG 1299 M) (bi_fI (BR_0 hB))
theorem bR_clear {G : gg_} (hG : gd_ G) {M : mm_} (hB : BI_ M) : cm_ G yX12_clear cX12_clear 2 (some .int) 1299 [.ref (G.1 0)] M bi_ := cm_post (c12_clear G hG 1299 M) (bi_fI (B_clearR hB))
theorem bR_method {G : gg_} (hG : gd_ G) {M : mm_} (hB : BI_ M) : cm_ G yX12_method cX12_method 5 (some .int) 1299 [.ref (G.1 0)] M bi_ := by
  obtain ⟨n, hn, hX, hT, hR⟩ := id hB
  obtain ⟨c, c1, c2, -⟩ := hR.2.1
  exact cm_post (c12_method G hG 1291 M n c ⟨hT, hn⟩ c2 c1) (bi_rI fun r N h => BR_ (hR_mo h) (fun g => RI_mo g c2 c1 h) hB)
theorem bR_command {G : gg_} (hG : gd_ G) {M : mm_} (hB : BI_ M) : cm_ G yX12_command cX12_command 16 (some .int) 1299 [.ref (G.1 0)] M bi_ := by
  obtain ⟨n, hn, hX, hT, hR⟩ := id hB
  exact cm_post (c12_command G hG 1290 M n _ _ _ ⟨hT, hn⟩ rfl rfl rfl) (bi_rI fun r N h => BR_ (hR_cmd h) (fun g => RI_cmd g h) hB)
theorem bR_call {G : gg_} (hG : gd_ G) {M : mm_} (hB : BI_ M) (m x y w : Int32) : cm_ G yX12_call cX12_call 5 (some .int) 1299 [.ref (G.1 0), .int m, .int x, .int y, .int w] M bi_ := by
  obtain ⟨n, hn, hX, hT, hR⟩ := id hB
  obtain ⟨c, nn, FF, hE⟩ := RI_EV hR
  exact cm_post (c12_call G hG 1291 M c nn FF hE m x y w) (bi_rI fun r N h => B_pr h hB)
theorem bR_replay {G : gg_} (hG : gd_ G) {M : mm_} (hB : BI_ M) (i : Int32) : cm_ G yX12_replay cX12_replay 2 (some .int) 1299 [.ref (G.1 0), .int i] M bi_ := by
  obtain ⟨n, hn, hX, hT, hR⟩ := id hB
  obtain ⟨c, nn, FF, hE⟩ := RI_EV hR
  exact cm_post (c12_replay G hG 1291 M c nn FF hE i) (bi_rI fun r N h => B_pr h hB)
theorem bR_record {G : gg_} (hG : gd_ G) {M : mm_} (hB : BI_ M) (j w : Int32) : cm_ G yX12_record_ cX12_record_ 3 (some .int) 1299 [.ref (G.1 0), .int j, .int w] M bi_ := by
  obtain ⟨n, hn, hX, hT, hR⟩ := id hB
  obtain ⟨c, c1, c2⟩ := hR.2.2.1.1
  exact cm_post (c12_record_ G hG 1299 M c c2 c1 j w) (bi_fI (BR_0 hB))
theorem bR_kept {G : gg_} (hG : gd_ G) {M : mm_} (hB : BI_ M) (j w : Int32) : cm_ G yX12_kept cX12_kept 3 (some .int) 1299 [.ref (G.1 0), .int j, .int w] M bi_ := by
  obtain ⟨n, hn, hX, hT, hR⟩ := id hB
  obtain ⟨c, z, -, -, c1, c2, -⟩ := hR.2.2.1.2
  exact cm_post (c12_kept G hG 1299 M z c2 c1 j w) (bi_fI (BR_0 hB))
theorem bR_job {G : gg_} (hG : gd_ G) {M : mm_} (hB : BI_ M) (j w : Int32) : cm_ G yX12_job cX12_job 3 (some .int) 1299 [.ref (G.1 0), .int j, .int w] M bi_ := cm_post (c12_job G hG 1299 M j w) (bi_fI (BR_0 hB))
theorem bR_counted {G : gg_} (hG : gd_ G) {M : mm_} (hB : BI_ M) (j m w : Int32) : cm_ G yX12_counted cX12_counted 5 (some .int) 1299 [.ref (G.1 0), .int j, .int m, .int w] M bi_ := by
  obtain ⟨n, hn, hX, hT, hR⟩ := id hB
  obtain ⟨c, c1, c2, -⟩ := hR.2.1
  exact cm_post (c12_counted G hG 1299 M c c2 c1 j m w) (bi_fI (BR_0 hB))
/-- behind the class's feed of w bytes -/
def FDB_ (w : Int32) (r : Int32) (N : mm_) : Prop := (∃ n k, w = nI k ∧ 1 ≤ k ∧ k ≤ 8 ∧ FI_ n k N ∧ r = 0) ∨ (∃ n k, w = nI k ∧ 1 ≤ k ∧ k ≤ 8 ∧ 200 < n + k ∧ n ≤ 200 ∧ N.1 0 2 = nI n ∧ BI_ N ∧ r = 0) ∨ ((w < 1 ∨ 8 < w) ∧ BI_ N ∧ r = 1)
theorem bL_feed {G : gg_} (hG : gd_ G) {M : mm_} (hB : BI_ M) (w : Int32) (x : Int64) : chx_ G yL_feed cL_feed 6 [(0, 11, 14, 13)] 1299 [.ref (G.1 34), .int w, .long x, .ref (G.1 262)] M (rI_ (FDB_ w)) := by
  obtain ⟨n, hn, hX, hT, hR⟩ := id hB
  refine chx_post (cL_feed_ G hG 1292 M n hX.1 w x) (fun v N h => ?_)
  obtain ⟨r, hv, h⟩ := h
  refine ⟨r, hv, ?_⟩
  rcases h with ⟨hr, r0, N0, ⟨k, k1, k2, k3, h0⟩, rfl⟩ | ⟨hr, rfl, h0⟩
  · rcases h0 with ⟨f1, -, rfl⟩ | ⟨f1, -, rfl⟩
    · exact Or.inr (Or.inl ⟨n, k, k1, k2, k3, f1, hn, hT, B_262 hB, hr⟩)
    · exact Or.inl ⟨n, k, k1, k2, k3, F_ap f1 hX hT hR, hr⟩
  · exact Or.inr (Or.inr ⟨h0.2, hB, hr⟩)
theorem bR_feed {G : gg_} (hG : gd_ G) {M : mm_} {w r : Int32} (h : FDB_ w r M) (x : Int64) : cm_ G yX12_feed cX12_feed 5 (some .int) 1299 [.ref (G.1 0), .int w, .long x] M bi_ := by
  rcases h with ⟨n, k, rfl, k2, k3, h, -⟩ | ⟨n, k, rfl, k2, k3, k4, k5, k6, h, -⟩ | ⟨h0, h, -⟩
  · exact cm_post (c12_feed_ok G hG 1299 M n k x h.2.2.1 ⟨k2, k3⟩ h.1) (bi_fI (F_fd h))
  · exact cm_post (c12_feed_full G hG 1299 M n k x k6 ⟨k2, k3⟩ k4 k5) (bi_fI (BR_0 h))
  · exact cm_post (c12_feed_bad G hG 1299 M w x h0) (bi_fI (BR_0 h))
