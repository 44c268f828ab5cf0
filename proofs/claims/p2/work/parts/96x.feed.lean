/-! feed, with its answers -/
set_option maxRecDepth 100000 in
theorem c12_thrown (G : gg_) (hG : gd_ G) (d : Nat) (M : mm_) : cm_ G yX12_thrown cX12_thrown 1 (some .int) (d) [.ref (G.1 0)] M (fI_ (M.1 0 0) M) := by
  refine cm_of hG (by decide) (Nat.le_of_ble_eq_true rfl) (fun C X => ?_)
  refine w_aload_n X dX12_thrown_0 rfl rfl ?_
  refine g12_thrown X dX12_thrown_1 ?_
  exact w_irF X dX12_thrown_4 rfl rfl
theorem lgc_ (x : Int64) : lg_cmp x x = 0 := by
  unfold lg_cmp
  simp
def FDC_ (w : Int32) (r : Int32) (N : mm_) : Prop := (∃ n k, w = nI k ∧ 1 ≤ k ∧ k ≤ 8 ∧ FI_ n k N ∧ r = 0 ∧ N.2.1 262 0 = (nI (n + k)).toInt64) ∨ (∃ n k, w = nI k ∧ 1 ≤ k ∧ k ≤ 8 ∧ 200 < n + k ∧ n ≤ 200 ∧ N.1 0 2 = nI n ∧ BI_ N ∧ r = 0 ∧ N.2.1 262 0 = (-1 : Int32).toInt64) ∨ ((w < 1 ∨ 8 < w) ∧ BI_ N ∧ r = 1)
theorem bL_feed2 {G : gg_} (hG : gd_ G) {M : mm_} (hB : BI_ M) (w : Int32) (x : Int64) : chx_ G yL_feed cL_feed 6 [(0, 11, 14, 13)] 1299 [.ref (G.1 34), .int w, .long x, .ref (G.1 262)] M (rI_ (FDC_ w)) := by
  obtain ⟨n, hn, hX, hT, hR⟩ := id hB
  refine chx_post (cL_feed_ G hG 1292 M n hX.1 w x) (fun v N h => ?_)
  obtain ⟨r, hv, h⟩ := h
  refine ⟨r, hv, ?_⟩
  rcases h with ⟨hr, r0, N0, ⟨k, k1, k2, k3, h0⟩, rfl⟩ | ⟨hr, rfl, h0⟩
  · rcases h0 with ⟨f1, f2, rfl⟩ | ⟨f1, f2, rfl⟩
    · exact Or.inr (Or.inl ⟨n, k, k1, k2, k3, f1, hn, hT, B_262 hB, hr, by rw [gL_sL, if_pos ⟨rfl, rfl⟩, f2]⟩)
    · exact Or.inl ⟨n, k, k1, k2, k3, F_ap f1 hX hT hR, hr, by rw [gL_sL, if_pos ⟨rfl, rfl⟩, f2]⟩
  · exact Or.inr (Or.inr ⟨h0.2, hB, hr⟩)
def bf2_ (r : Int32) : Option Value → mm_ → Prop := rI_ (fun q N => BI_ N ∧ N.1 0 0 = r ∧ (r = 0 → N.2.1 262 0 = q.toInt64))
theorem fd_00 {M : mm_} {x : Int64} {z : Nat} : ∀ j : Nat, (fd_ M x z j).1 0 0 = M.1 0 0
  | 0 => rfl
  | j + 1 => by rw [fd_, gI_sI, if_neg (by omega), gI_sI, if_neg (by omega), fd_00 j]
theorem bR_feed2 {G : gg_} (hG : gd_ G) {M : mm_} {w r : Int32} (h : FDC_ w r M) (x : Int64) : cm_ G yX12_feed cX12_feed 5 (some .int) 1299 [.ref (G.1 0), .int w, .long x] M (bf2_ r) := by
  rcases h with ⟨n, k, rfl, k2, k3, h, rfl, ho⟩ | ⟨n, k, rfl, k2, k3, k4, k5, k6, h, rfl, ho⟩ | ⟨h0, h, rfl⟩
  · refine cm_post (c12_feed_ok G hG 1299 M n k x h.2.2.1 ⟨k2, k3⟩ h.1) (fun v N z => ⟨_, z.1, ?_⟩)
    rw [z.2]
    exact ⟨F_fd h, by rw [fd_00, gI_sI, if_pos ⟨rfl, rfl⟩], fun _ => by rw [fd_R]; exact ho⟩
  · refine cm_post (c12_feed_full G hG 1299 M n k x k6 ⟨k2, k3⟩ k4 k5) (fun v N z => ⟨_, z.1, ?_⟩)
    rw [z.2]
    exact ⟨BR_0 h, by rw [gI_sI, if_pos ⟨rfl, rfl⟩], fun _ => ho⟩
  · refine cm_post (c12_feed_bad G hG 1299 M w x h0) (fun v N z => ⟨_, z.1, ?_⟩)
    rw [z.2]
    exact ⟨BR_0 h, by rw [gI_sI, if_pos ⟨rfl, rfl⟩], fun q => absurd q (by decide)⟩
