/-! watch -/
def w3m_ (M : mm_) (n : Nat) (pt : Int32) (s : Nat) : (Nat × Nat) ⊕ (Int32 × Nat) → wr2_ ⊕ (Int32 × Nat)
  | .inr q => .inr q
  | .inl (q, p) => w4_ M n (fun e1 e2 l => (pt, s, p, e1, e2, l)) q
/-- watch's text, from the point's row at s with its size z and its letters v: what is told, or the fault -/
def wt_ (M : mm_) (n s z : Nat) (v : Int64) : wr2_ ⊕ (Int32 × Nat) := if pt_ v z < 0 ∨ ¬ bf_ M n (s + z) ≤ 32 then .inr (1, s) else w3m_ M n (pt_ v z) (sp_ M n (s + z)) (pd_ M n (sp_ M n (s + z)))
set_option maxRecDepth 100000 in
set_option maxHeartbeats 4000000 in
theorem c12_watch (G : gg_) (hG : gd_ G) (d : Nat) (M : mm_) (n k s z : Nat) (v : Int64) (ht : tz_ M n) (h5 : M.1 0 5 = nI k) (hk : k ≤ n) (hf : M.1 0 3 = 0) (hs : sp_ M n k = s) (hz : rz_ M n s = z) (hv : rv_ (bf_ M n) s z = v) : cm_ G yX12_watch cX12_watch 5 (some .int) (d + 8) [.ref (G.1 0)] M (rI_ (wo_ M n (wt_ M n s z v))) := by
  refine cm_of hG (by decide) (Nat.le_of_ble_eq_true rfl) (fun C X => ?_)
  have hn := ht.2
  obtain ⟨J, hJ⟩ := hj_ex M
  generalize hR : wt_ M n s z v = R
  unfold wt_ at hR
  have hsn := (sp_le (M := M) hk).2
  rw [hs] at hsn
  have hzn := rz_le M n s
  rw [hz] at hzn
  have gra : pg_ M (ra_ M n s) := pg_pf (pf_sL (pf_sI (pf_rf M) (at5_ (by omega))) (by omega))
  have ra3 : (ra_ M n s).1 0 3 = 0 := by simpa [ra_, sI_, sL_] using hf
  have ra5 : (ra_ M n s).1 0 5 = nI s := by simp [ra_, sI_, sL_]
  by_cases hc : pt_ v z < 0 ∨ ¬ bf_ M n (s + z) ≤ 32
  · rw [if_pos hc] at hR
    have g3 : (fa_ (ra_ M n s) 1 (nI s)).1 0 3 = 1 := by rw [fa_0 ra3]; simp [sI_]
    have g4 : (fa_ (ra_ M n s) 1 (nI s)).1 0 4 = nI s := by rw [fa_0 ra3]; simp [sI_]
    have g5 : (fa_ (ra_ M n s) 1 (nI s)).1 0 5 = nI s := by rw [fa_0 ra3]; simpa [sI_] using ra5
    refine w_aload_n X dX12_watch_0 rfl rfl ?_
    refine w_v0fI X dX12_watch_1 k12_readPoint rfl rfl (c12_readPoint G hG _ M n k s z v ht h5 hk hs hz hv) (Nat.le_of_ble_eq_true rfl) ?_
    rw [if_pos hc, if_pos hc]
    refine w_istore_n X dX12_watch_4 rfl (by decide) ?_
    refine w_aload_n X dX12_watch_5 rfl rfl ?_
    refine g12_fault X dX12_watch_6 ?_
    try simp only [gI_sI, gI_sL, gL_sI, gL_sL, false_and, and_false, and_self, if_false, if_true, reduceIte, Nat.reduceEqDiff, g3]
    refine w_if_ne (tgt := 16) X dX12_watch_9 (by decide) (fun h9 => ?_) (fun h9 => absurd h9 (by decide))
    exact w12_watch_f16 (d := d) hG ht hJ X _ _ _ _ ⟨1, s, ph_pg (pg_fa gra), g3, g4, by decide, ⟨s, by omega, g5⟩, hR.symm⟩
  · rw [if_neg hc] at hR
    have g1 : pg_ M (sI_ (ra_ M n s) 0 5 (nI (s + z))) := pg_s5 gra (by omega)
    have g3 : (sI_ (ra_ M n s) 0 5 (nI (s + z))).1 0 3 = 0 := by simpa [sI_] using ra3
    have g5 : (sI_ (ra_ M n s) 0 5 (nI (s + z))).1 0 5 = nI (s + z) := by simp [sI_]
    generalize hN1 : sI_ (ra_ M n s) 0 5 (nI (s + z)) = N1 at g1 g3 g5
    have esp : sp_ N1 n (s + z) = sp_ M n (s + z) := pg_sp g1
    have ebf : bf_ N1 n = bf_ M n := pg_bf g1
    have epd : pd_ N1 n (sp_ M n (s + z)) = pd_ M n (sp_ M n (s + z)) := by unfold pd_; rw [ebf]
    refine w_aload_n X dX12_watch_0 rfl rfl ?_
    refine w_v0fI X dX12_watch_1 k12_readPoint rfl rfl (c12_readPoint G hG _ M n k s z v ht h5 hk hs hz hv) (Nat.le_of_ble_eq_true rfl) ?_
    rw [if_neg hc, if_neg hc]
    rw [hN1]
    refine w_istore_n X dX12_watch_4 rfl (by decide) ?_
    refine w_aload_n X dX12_watch_5 rfl rfl ?_
    refine g12_fault X dX12_watch_6 ?_
    try simp only [gI_sI, gI_sL, gL_sI, gL_sL, false_and, and_false, and_self, if_false, if_true, reduceIte, Nat.reduceEqDiff, g3]
    refine w_if_ne (tgt := 16) X dX12_watch_9 (by decide) (fun h9 => absurd rfl h9) (fun h9 => ?_)
    refine w_aload_n X dX12_watch_12 rfl rfl ?_
    refine w_v0rV X dX12_watch_13 k12_readPattern rfl rfl (c12_readPattern2 G hG _ N1 n (s + z) (sp_ M n (s + z)) (pg_tz g1 ht) g5 (by omega) g3 esp.symm) (Nat.le_of_ble_eq_true rfl) (fun N13 h13 => ?_)
    rw [epd] at h13
    cases hS : pd_ M n (sp_ M n (s + z)) with
    | inr y =>
      obtain ⟨f, w⟩ := y
      rw [hS] at h13 hR
      obtain ⟨a1, a2, a3, a4, q, hq, a5⟩ := h13
      exact w12_watch_f16 (d := d) hG ht hJ X _ _ _ _ ⟨f, w, ph_pg (pg_tr g1 a1), a2, a3, a4, ⟨q, by omega, a5⟩, hR.symm⟩
    | inl y =>
      obtain ⟨q, p⟩ := y
      rw [hS] at h13 hR
      obtain ⟨a1, a2, a3, a4, a5, a6, a7⟩ := h13
      have gg : wg_ M n J (sp_ M n (s + z)) p q N13 := ⟨ph_pg (pg_tr g1 a1), a2, a3, a4, a5, a6, fun i hi => by rw [a7 i hi, ebf]⟩
      have efj : fj_ N13 8 0 = fj_ M 8 0 := pg_fj (pg_tr g1 a1)
      refine w_aload_n X dX12_watch_16 rfl rfl ?_
      refine w_v0fI X dX12_watch_17 k12_freeJob rfl rfl (c12_freeJob G hG _ _) (Nat.le_of_ble_eq_true rfl) ?_
      rw [efj]
      refine w_istore_n X dX12_watch_20 rfl (by decide) ?_
      refine w_iconst (v := 0) X dX12_watch_21 (by decide) ?_
      refine w_istore_n X dX12_watch_22 rfl (by decide) ?_
      refine w_bipush (v := 99) X dX12_watch_23 (by decide) ?_
      refine w_istore X dX12_watch_25 (by decide) ?_
      exact w12_watch_27 (d := d) hG ht hJ X _ gg hR.symm
