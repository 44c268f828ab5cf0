/-! every method that the law calls, by the invariant alone: tapes and methods the same -/
def IV_ (M : mm_) : Prop := BI_ M ∧ TM_ M
def iv_p : Option Value → mm_ → Prop := rI_ (fun _ N => IV_ N)
theorem iv_fI {r : Int32} {N : mm_} (h : IV_ N) : ∀ v N2, fI_ r N v N2 → iv_p v N2 := fun v N2 z => ⟨r, z.1, by rw [z.2]; exact h⟩
theorem iv_rI {f : Int32 → mm_ → Prop} (h : ∀ r N, f r N → IV_ N) : ∀ v N2, rI_ f v N2 → iv_p v N2 := fun v N2 z => by
  obtain ⟨r, z1, z2⟩ := z
  exact ⟨r, z1, h r N2 z2⟩
theorem IV_0 {M : mm_} {v : Int32} (h : IV_ M) : IV_ (sI_ M 0 0 v) := ⟨BR_0 h.1, TM_s (hT_0 (by omega)) (hC_hR (hR_I (by omega) (by omega))) h.2⟩
theorem IV_262 {M : mm_} {v : Int64} (h : IV_ M) : IV_ (sL_ M 262 0 v) := ⟨B_262 h.1, TM_s (hT_hX hX_262) hC_262 h.2⟩
theorem IV_fy {M N : mm_} (h : fyX_ 0 M N) (hz : zoX_ (N.1 247 10)) (g : IV_ M) : IV_ N := ⟨B_fy h hz g.1, TM_s (hT_hX (hX_fy h)) (hC_fy h) g.2⟩
theorem IV_pr {M N : mm_} (h : frR_ pR_ M N) (g : IV_ M) : IV_ N := ⟨B_pr h g.1, TM_s (hT_pr h) (hC_hR (hR_pr h)) g.2⟩
theorem IV_wipe {M : mm_} (g : IV_ M) : IV_ (sI_ (sI_ (sI_ M 35 1 0) 0 0 0) 0 2 0) := by
  obtain ⟨n, c, h⟩ := g.2
  exact ⟨B_wipe g.1, 0, c, TC_wipe h⟩
theorem wipe_eq {M : mm_} (g : IV_ M) : M.1 35 1 = (sI_ M 35 1 0).1 0 2 := by
  obtain ⟨n, hn, hX, hT, hR⟩ := g.1
  rw [gI_sI, if_neg (by omega), hT]; exact hX.1.2
theorem uX_fault {G : gg_} (hG : gd_ G) {M : mm_} (hB : IV_ M) : cm_ G yX11_fault cX11_fault 1 (some .int) 1299 [.ref (G.1 34)] M iv_p := cm_post (c11_fault G hG 1299 M) (iv_fI hB)
theorem uX_place {G : gg_} (hG : gd_ G) {M : mm_} (hB : IV_ M) : cm_ G yX11_place cX11_place 1 (some .int) 1299 [.ref (G.1 34)] M iv_p := cm_post (c11_place G hG 1299 M) (iv_fI hB)
theorem uX_value {G : gg_} (hG : gd_ G) {M : mm_} (hB : IV_ M) : cm_ G yX11_value cX11_value 1 (some .int) 1299 [.ref (G.1 34)] M iv_p := cm_post (c11_value G hG 1299 M) (iv_fI hB)
theorem uX_invoked {G : gg_} (hG : gd_ G) {M : mm_} (hB : IV_ M) : cm_ G yX11_invoked cX11_invoked 1 (some .int) 1299 [.ref (G.1 34)] M iv_p := cm_post (c11_invoked G hG 1299 M) (iv_fI hB)
theorem uX_records {G : gg_} (hG : gd_ G) {M : mm_} (hB : IV_ M) : cm_ G yX11_records cX11_records 1 (some .int) 1299 [.ref (G.1 34)] M iv_p := cm_post (c11_records G hG 1299 M) (iv_fI hB)
theorem uX_keeps {G : gg_} (hG : gd_ G) {M : mm_} (hB : IV_ M) : cm_ G yX11_keeps cX11_keeps 1 (some .int) 1299 [.ref (G.1 34)] M iv_p := cm_post (c11_keeps G hG 1299 M) (iv_fI hB)
theorem uX_clear {G : gg_} (hG : gd_ G) {M : mm_} (hB : IV_ M) : cm_ G yX11_clear cX11_clear 2 (some .int) 1299 [.ref (G.1 34)] M iv_p := cm_post (c11_clear G hG 1299 M) (iv_fI (IV_fy fy_clear (by rw [gI_sI, if_neg (by omega), gI_sI, if_neg (by omega)]; exact zo_BI hB.1) hB))
theorem uX_method {G : gg_} (hG : gd_ G) {M : mm_} (hB : IV_ M) : cm_ G yX11_method cX11_method 4 (some .int) 1299 [.ref (G.1 34)] M (rI_ MD_) := by
  obtain ⟨⟨n, hn, ⟨ht, c, J, S, g⟩, hT, hR⟩, n2, c2, t⟩ := hB
  obtain rfl : n2 = n := (nI_eq (by have := t.1.1; omega) (by omega)).mp (t.1.2.symm.trans ht.2)
  obtain rfl : c2 = c := (nI_eq (by have := t.2.2.2.1.1; omega) (by have := g.1.1.1; omega)).mp (t.2.2.2.1.2.symm.trans g.1.1.2)
  refine cm_post (c11_method G hG 392 M n2 ht c2 g.1.1 g.1.2.1 J S g.1.2.2.1) (fun v N z => ?_)
  obtain ⟨r, hv, h⟩ := z
  exact ⟨r, hv, MD_of ⟨n2, hn, XI_MR ht g h, by rw [(hX_MR h).1 0 2 (by omega)]; exact hT, RI_hX (hX_MR h) hR⟩ t h⟩
theorem uX_command {G : gg_} (hG : gd_ G) {M : mm_} (hB : IV_ M) : cm_ G yX11_command cX11_command 3 (some .int) 1299 [.ref (G.1 34)] M iv_p := by
  obtain ⟨⟨n, hn, ⟨ht, c, J, S, g⟩, hT, hR⟩, t⟩ := hB
  exact cm_post (c11_command G hG 391 M n ht c g.1.1 J S g.1.2.2.1) (iv_rI fun r N h => ⟨⟨n, hn, XI_CR ht g h, by rw [(hX_CR h).1 0 2 (by omega)]; exact hT, RI_hX (hX_CR h) hR⟩, TM_s (hT_hX (hX_CR h)) (hC_CR h) t⟩)
theorem uL_call {G : gg_} (hG : gd_ G) {M : mm_} (hB : IV_ M) (m x y w : Int32) : chx_ G yL_call cL_call 7 [(0, 14, 17, 19)] 1299 [.ref (G.1 34), .int m, .int x, .int y, .int w, .ref (G.1 262)] M iv_p := by
  obtain ⟨n, hn, ⟨ht, c, J, S, g⟩, hT, hR⟩ := id hB.1
  refine chx_post (cL_call_ G hG 1235 M c J S g.1 g.2.2.2 m x y w) (iv_rI fun r N h => ?_)
  rcases h with ⟨-, r0, N0, h0, rfl⟩ | ⟨-, rfl, -⟩
  · exact IV_262 (IV_fy h0.1 h0.2 hB)
  · exact hB
theorem uL_replay {G : gg_} (hG : gd_ G) {M : mm_} (hB : IV_ M) (i : Int32) : chx_ G yL_replay cL_replay 4 [(0, 9, 12, 19)] 1299 [.ref (G.1 34), .int i, .ref (G.1 262)] M iv_p := by
  obtain ⟨n, hn, ⟨ht, c, J, S, g⟩, hT, hR⟩ := id hB.1
  refine chx_post (cL_replay_ G hG 1235 M c J S g.1 g.2.2.2 g.2.2.1 i) (iv_rI fun r N h => ?_)
  rcases h with ⟨-, r0, N0, h0, rfl⟩ | ⟨-, rfl, -⟩
  · exact IV_262 (IV_fy h0.1 h0.2 hB)
  · exact hB
theorem uL_record {G : gg_} (hG : gd_ G) {M : mm_} (hB : IV_ M) (i w : Int32) : chx_ G yL_record cL_record 5 [(0, 10, 13, 19), (0, 10, 17, 13)] 1299 [.ref (G.1 34), .int i, .int w, .ref (G.1 262)] M iv_p := by
  refine chx_post (cL_record_ G hG 1292 M i w) (iv_rI fun r N h => ?_)
  rcases h with ⟨-, r0, N0, ⟨rfl, -⟩, rfl⟩ | ⟨-, rfl, -⟩ | ⟨-, rfl, -⟩
  · exact IV_262 hB
  · exact hB
  · exact hB
theorem uL_kept {G : gg_} (hG : gd_ G) {M : mm_} (hB : IV_ M) (i w : Int32) : chx_ G yL_kept cL_kept 5 [(0, 10, 13, 19), (0, 10, 17, 13)] 1299 [.ref (G.1 34), .int i, .int w, .ref (G.1 262)] M iv_p := by
  refine chx_post (cL_kept_ G hG 1292 M i w) (iv_rI fun r N h => ?_)
  rcases h with ⟨-, r0, N0, ⟨rfl, -⟩, rfl⟩ | ⟨-, rfl, -⟩ | ⟨-, rfl, -⟩
  · exact IV_262 hB
  · exact hB
  · exact hB
theorem uL_job {G : gg_} (hG : gd_ G) {M : mm_} (hB : IV_ M) (j w : Int32) : chx_ G yL_job cL_job 5 [(0, 10, 13, 19), (0, 10, 17, 13)] 1299 [.ref (G.1 34), .int j, .int w, .ref (G.1 262)] M iv_p := by
  obtain ⟨n, hn, ⟨ht, c, J, S, g⟩, hT, hR⟩ := id hB.1
  refine chx_post (cL_job_ G hG 1292 M J S g.1.2.2.1 j w) (iv_rI fun r N h => ?_)
  rcases h with ⟨-, r0, N0, ⟨rfl, -⟩, rfl⟩ | ⟨-, rfl, -⟩ | ⟨-, rfl, -⟩
  · exact IV_262 hB
  · exact hB
  · exact hB
theorem uL_counted {G : gg_} (hG : gd_ G) {M : mm_} (hB : IV_ M) (j m w : Int32) : chx_ G yL_counted cL_counted 6 [(0, 12, 15, 19), (0, 12, 19, 13)] 1299 [.ref (G.1 34), .int j, .int m, .int w, .ref (G.1 262)] M iv_p := by
  obtain ⟨n, hn, ⟨ht, c, J, S, g⟩, hT, hR⟩ := id hB.1
  refine chx_post (cL_counted_ G hG 1292 M J S g.1.2.2.1 c g.1.1 j m w) (iv_rI fun r N h => ?_)
  rcases h with ⟨-, r0, N0, h0, rfl⟩ | ⟨-, rfl, -⟩ | ⟨-, rfl, -⟩
  · rw [show N0 = M from h0]; exact IV_262 hB
  · exact hB
  · exact hB
theorem uR_fault {G : gg_} (hG : gd_ G) {M : mm_} (hB : IV_ M) : cm_ G yX12_fault cX12_fault 1 (some .int) 1299 [.ref (G.1 0)] M iv_p := cm_post (c12_fault G hG 1299 M) (iv_fI (IV_0 hB))
theorem uR_place {G : gg_} (hG : gd_ G) {M : mm_} (hB : IV_ M) : cm_ G yX12_place cX12_place 1 (some .int) 1299 [.ref (G.1 0)] M iv_p := cm_post (c12_place G hG 1299 M) (iv_fI (IV_0 hB))
theorem uR_value {G : gg_} (hG : gd_ G) {M : mm_} (hB : IV_ M) : cm_ G yX12_value cX12_value 1 (some .int) 1299 [.ref (G.1 0)] M iv_p := cm_post (c12_value G hG 1299 M) (iv_fI (IV_0 hB))
theorem uR_invoked {G : gg_} (hG : gd_ G) {M : mm_} (hB : IV_ M) : cm_ G yX12_invoked cX12_invoked 1 (some .int) 1299 [.ref (G.1 0)] M iv_p := cm_post (c12_invoked G hG 1299 M) (iv_fI (IV_0 hB))
theorem uR_records {G : gg_} (hG : gd_ G) {M : mm_} (hB : IV_ M) : cm_ G yX12_records cX12_records 1 (some .int) 1299 [.ref (G.1 0)] M iv_p := cm_post (c12_records G hG 1299 M) (iv_fI (IV_0 hB))
theorem uR_keeps {G : gg_} (hG : gd_ G) {M : mm_} (hB : IV_ M) : cm_ G yX12_keeps cX12_keeps 1 (some .int) 1299 [.ref (G.1 0)] M iv_p := cm_post (c12_keeps G hG 1299 M) (iv_fI (IV_0 hB))
theorem uR_clear {G : gg_} (hG : gd_ G) {M : mm_} (hB : IV_ M) : cm_ G yX12_clear cX12_clear 2 (some .int) 1299 [.ref (G.1 0)] M iv_p := cm_post (c12_clear G hG 1299 M) (iv_fI ⟨B_clearR hB.1, TM_s (hT_tr (hT_tr (hT_0 (by omega)) (hT_0 (by omega))) (hT_0 (by omega))) (hC_hR (hR_tr (hR_tr (hR_I (by omega) (by omega)) (hR_I (by omega) (by omega))) (hR_I (by omega) (by omega)))) hB.2⟩)
theorem uR_method {G : gg_} (hG : gd_ G) {M : mm_} {r : Int32} (h : MD_ r M) : cm_ G yX12_method cX12_method 5 (some .int) 1299 [.ref (G.1 0)] M (rI_ (fun q N => IV_ N ∧ q = r)) := by
  obtain ⟨hB, n, c, hm⟩ := h
  refine cm_post (c12_method G hG 1291 M n c ⟨hm.2.1, hm.1.1⟩ hm.2.2.2.1 hm.2.2.2.2.1) (fun v N z => ?_)
  obtain ⟨q, hv, z⟩ := z
  obtain ⟨z1, z2⟩ := TM_mo hm z
  exact ⟨q, hv, ⟨BR_ (hR_mo z) (fun g => RI_mo g hm.2.2.2.1 hm.2.2.2.2.1 z) hB, z1⟩, z2⟩
theorem uR_command {G : gg_} (hG : gd_ G) {M : mm_} (hB : IV_ M) : cm_ G yX12_command cX12_command 16 (some .int) 1299 [.ref (G.1 0)] M iv_p := by
  obtain ⟨n, hn, hX, hT, hR⟩ := id hB.1
  exact cm_post (c12_command G hG 1290 M n _ _ _ ⟨hT, hn⟩ rfl rfl rfl) (iv_rI fun r N h => ⟨BR_ (hR_cmd h) (fun g => RI_cmd g h) hB.1, TM_s (hT_cmd h) (hC_hR (hR_cmd h)) hB.2⟩)
theorem uR_call {G : gg_} (hG : gd_ G) {M : mm_} (hB : IV_ M) (m x y w : Int32) : cm_ G yX12_call cX12_call 5 (some .int) 1299 [.ref (G.1 0), .int m, .int x, .int y, .int w] M iv_p := by
  obtain ⟨n, hn, hX, hT, hR⟩ := id hB.1
  obtain ⟨c, nn, FF, hE⟩ := RI_EV hR
  exact cm_post (c12_call G hG 1291 M c nn FF hE m x y w) (iv_rI fun r N h => IV_pr h hB)
theorem uR_replay {G : gg_} (hG : gd_ G) {M : mm_} (hB : IV_ M) (i : Int32) : cm_ G yX12_replay cX12_replay 2 (some .int) 1299 [.ref (G.1 0), .int i] M iv_p := by
  obtain ⟨n, hn, hX, hT, hR⟩ := id hB.1
  obtain ⟨c, nn, FF, hE⟩ := RI_EV hR
  exact cm_post (c12_replay G hG 1291 M c nn FF hE i) (iv_rI fun r N h => IV_pr h hB)
theorem uR_record {G : gg_} (hG : gd_ G) {M : mm_} (hB : IV_ M) (j w : Int32) : cm_ G yX12_record_ cX12_record_ 3 (some .int) 1299 [.ref (G.1 0), .int j, .int w] M iv_p := by
  obtain ⟨n, hn, hX, hT, hR⟩ := id hB.1
  obtain ⟨c, c1, c2⟩ := hR.2.2.1.1
  exact cm_post (c12_record_ G hG 1299 M c c2 c1 j w) (iv_fI (IV_0 hB))
theorem uR_kept {G : gg_} (hG : gd_ G) {M : mm_} (hB : IV_ M) (j w : Int32) : cm_ G yX12_kept cX12_kept 3 (some .int) 1299 [.ref (G.1 0), .int j, .int w] M iv_p := by
  obtain ⟨n, hn, hX, hT, hR⟩ := id hB.1
  obtain ⟨c, z, -, -, c1, c2, -⟩ := hR.2.2.1.2
  exact cm_post (c12_kept G hG 1299 M z c2 c1 j w) (iv_fI (IV_0 hB))
theorem uR_job {G : gg_} (hG : gd_ G) {M : mm_} (hB : IV_ M) (j w : Int32) : cm_ G yX12_job cX12_job 3 (some .int) 1299 [.ref (G.1 0), .int j, .int w] M iv_p := cm_post (c12_job G hG 1299 M j w) (iv_fI (IV_0 hB))
theorem uR_counted {G : gg_} (hG : gd_ G) {M : mm_} (hB : IV_ M) (j m w : Int32) : cm_ G yX12_counted cX12_counted 5 (some .int) 1299 [.ref (G.1 0), .int j, .int m, .int w] M iv_p := by
  obtain ⟨n, hn, hX, hT, hR⟩ := id hB.1
  obtain ⟨c, c1, c2, -⟩ := hR.2.1
  exact cm_post (c12_counted G hG 1299 M c c2 c1 j m w) (iv_fI (IV_0 hB))
/-- behind the class's feed of w bytes -/
def FDU_ (w : Int32) (x : Int64) (r : Int32) (N : mm_) : Prop := (∃ M0 v n c k, w = nI k ∧ 1 ≤ k ∧ k ≤ 8 ∧ FI_ n k N ∧ TC_ n c M0 ∧ N = sL_ (apX_ M0 x n k) 262 0 v ∧ r = 0) ∨ (∃ n k, w = nI k ∧ 1 ≤ k ∧ k ≤ 8 ∧ 200 < n + k ∧ n ≤ 200 ∧ N.1 0 2 = nI n ∧ IV_ N ∧ r = 0) ∨ ((w < 1 ∨ 8 < w) ∧ IV_ N ∧ r = 1)
theorem uL_feed {G : gg_} (hG : gd_ G) {M : mm_} (hB : IV_ M) (w : Int32) (x : Int64) : chx_ G yL_feed cL_feed 6 [(0, 11, 14, 13)] 1299 [.ref (G.1 34), .int w, .long x, .ref (G.1 262)] M (rI_ (FDU_ w x)) := by
  obtain ⟨⟨n, hn, hX, hT, hR⟩, n2, c2, t⟩ := id hB
  obtain rfl : n2 = n := (nI_eq (by have := t.1.1; omega) (by omega)).mp (t.1.2.symm.trans hX.1.2)
  refine chx_post (cL_feed_ G hG 1292 M n2 hX.1 w x) (fun v N h => ?_)
  obtain ⟨r, hv, h⟩ := h
  refine ⟨r, hv, ?_⟩
  rcases h with ⟨hr, r0, N0, ⟨k, k1, k2, k3, h0⟩, rfl⟩ | ⟨hr, rfl, h0⟩
  · rcases h0 with ⟨f1, -, rfl⟩ | ⟨f1, -, rfl⟩
    · exact Or.inr (Or.inl ⟨n2, k, k1, k2, k3, f1, hn, hT, IV_262 hB, hr⟩)
    · exact Or.inl ⟨M, _, n2, c2, k, k1, k2, k3, F_ap f1 hX hT hR, t, rfl, hr⟩
  · exact Or.inr (Or.inr ⟨h0.2, hB, hr⟩)
theorem uR_feed {G : gg_} (hG : gd_ G) {M : mm_} {w r : Int32} {x : Int64} (h : FDU_ w x r M) : cm_ G yX12_feed cX12_feed 5 (some .int) 1299 [.ref (G.1 0), .int w, .long x] M iv_p := by
  rcases h with ⟨M0, v, n, c, k, rfl, k2, k3, h, t, e, -⟩ | ⟨n, k, rfl, k2, k3, k4, k5, k6, h, -⟩ | ⟨h0, h, -⟩
  · refine cm_post (c12_feed_ok G hG 1299 M n k x h.2.2.1 ⟨k2, k3⟩ h.1) (iv_fI ⟨F_fd h, n + k, c, ?_⟩)
    rw [e]
    exact TC_fd k3 h.1 t
  · exact cm_post (c12_feed_full G hG 1299 M n k x k6 ⟨k2, k3⟩ k4 k5) (iv_fI (IV_0 h))
  · exact cm_post (c12_feed_bad G hG 1299 M w x h0) (iv_fI (IV_0 h))
theorem MQ_0 {M : mm_} : MQ_ 0 M := fun m hm => by omega
theorem IV_of {M : mm_} (h : BI_ M) (a : M.1 35 1 = nI 0) (b : M.1 0 2 = nI 0) (c : M.1 45 2 = nI 0) (d : M.1 0 9 = nI 0) : IV_ M := ⟨h, 0, 0, ⟨by omega, a⟩, b, fun k hk => by omega, ⟨by omega, c⟩, d, MQ_0⟩
theorem IV_1 : IV_ M1_ := IV_of BI_1 m1_n.1 m1_n.2.1 m1_n.2.2.1 m1_n.2.2.2.2.2.2.2.1
