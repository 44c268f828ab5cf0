/-! the two halves: what the reference's methods keep of the class, and the class's of the reference -/
def hR_ (M N : mm_) : Prop := N.2.2 = M.2.2 ∧ N.1 0 2 = M.1 0 2 ∧ (∀ a i, 34 ≤ a → N.1 a i = M.1 a i) ∧ ∀ a i, 34 ≤ a → N.2.1 a i = M.2.1 a i
def hX_ (M N : mm_) : Prop := (∀ a i, a < 34 → N.1 a i = M.1 a i) ∧ ∀ a i, a < 34 → N.2.1 a i = M.2.1 a i
theorem hR_rf {M : mm_} : hR_ M M := ⟨rfl, rfl, fun _ _ _ => rfl, fun _ _ _ => rfl⟩
theorem hR_tr {A B D : mm_} (h : hR_ A B) (g : hR_ B D) : hR_ A D := ⟨g.1.trans h.1, g.2.1.trans h.2.1, fun a i z => (g.2.2.1 a i z).trans (h.2.2.1 a i z), fun a i z => (g.2.2.2 a i z).trans (h.2.2.2 a i z)⟩
theorem hR_I {M : mm_} {a i : Nat} {v : Int32} (ha : a < 34) (hn : ¬ (a = 0 ∧ i = 2)) : hR_ M (sI_ M a i v) := ⟨rfl, by rw [gI_sI, if_neg (by omega)], fun b j z => by rw [gI_sI, if_neg (by omega)], fun _ _ _ => rfl⟩
theorem hR_L {M : mm_} {a i : Nat} {v : Int64} (ha : a < 34) : hR_ M (sL_ M a i v) := ⟨rfl, rfl, fun _ _ _ => rfl, fun b j z => by rw [gL_sL, if_neg (by omega)]⟩
theorem hR_pf {M N : mm_} (h : pf_ M N) : hR_ M N := ⟨h.2.2.1, h.1 0 2 (by omega) (by omega) (by omega) (by omega) (by omega) (by omega), fun a i z => h.1 a i (by omega) (by omega) (by omega) (by omega) (by omega) (by omega), fun a i z => h.2.1 a i (by omega) (by omega) (by omega)⟩
theorem hR_pg {M N : mm_} (h : pg_ M N) : hR_ M N := ⟨h.2.2.1, h.1 0 2 (by omega) (by omega) (by omega) (by omega) (by omega) (by omega) (by omega), fun a i z => h.1 a i (by omega) (by omega) (by omega) (by omega) (by omega) (by omega) (by omega), fun a i z => h.2.1 a i (by omega) (by omega) (by omega)⟩
theorem hR_ph {J : Nat} {M N : mm_} (h : ph_ J M N) : hR_ M N := ⟨h.2.2.1, h.1 0 2 (by omega) (by omega) (by omega) (by omega) (by omega) (by omega) (by omega) (by omega) (by omega), fun a i z => h.1 a i (by omega) (by omega) (by omega) (by omega) (by omega) (by omega) (by omega) (by omega) (by omega), fun a i z => h.2.1 a i (by omega) (by omega) (by omega) (by omega)⟩
theorem hR_kx {M : mm_} {t : Nat} : ∀ l : Nat, hR_ M (kx_ M t l)
  | 0 => hR_rf
  | l + 1 => hR_tr (hR_kx l) (hR_tr (hR_I (a := 2) (by omega) (by omega)) (hR_L (a := 3) (by omega)))
theorem hR_fa {M : mm_} {f w : Int32} : hR_ M (fa_ M f w) := by
  unfold fa_; split
  · exact hR_tr (hR_I (by omega) (by omega)) (hR_I (by omega) (by omega))
  · exact hR_rf
theorem hR_nj {M : mm_} {b z : Nat} {kd : Int32} : hR_ M (nj_ M b z kd) := by
  refine ⟨?_, nj_o (by omega) (by omega) (by omega), fun a i h => nj_o (by omega) (by omega) (by omega), fun a i h => ?_⟩
  · rw [nj_R2]
  · rw [nj_R2]
theorem hR_zk {M : mm_} : ∀ j : Nat, hR_ M (zk_ M j)
  | 0 => hR_rf
  | j + 1 => hR_tr (hR_zk j) (hR_I (by omega) (by omega))
theorem hR_bg {M : mm_} : hR_ M (bg_ M) := hR_tr (hR_tr (hR_tr (hR_I (by omega) (by omega)) (hR_I (by omega) (by omega))) (hR_I (by omega) (by omega))) (hR_I (by omega) (by omega))
theorem hR_mw {M : mm_} {v : Int32} : hR_ M (mw_ M v) := hR_tr (hR_tr hR_bg (hR_I (by omega) (by omega))) (hR_I (by omega) (by omega))
theorem hR_ra {M : mm_} {n s : Nat} : hR_ M (ra_ M n s) := hR_tr (hR_I (by omega) (by omega)) (hR_L (by omega))
theorem hR_cb {M : mm_} : hR_ M (cb_ M) := hR_tr (hR_tr hR_bg (hR_I (by omega) (by omega))) (hR_I (by omega) (by omega))
theorem hR_mo {M N : mm_} {n c : Nat} {r : Int32} (h : mo_ M n c (me_ M n c) r N) : hR_ M N := by
  cases hm : me_ M n c with
  | inr q =>
    rw [hm] at h
    obtain ⟨f, w⟩ := q
    obtain ⟨-, ⟨v, h1⟩, -⟩ := h
    exact hR_tr hR_mw (hR_pf h1)
  | inl y =>
    rw [hm] at h
    obtain ⟨e, av, p⟩ := y
    obtain ⟨-, hc16, N0, k, nd, op, h1, h2, h3, rfl⟩ := h
    exact hR_tr (hR_tr hR_mw (hR_pf h1)) (hR_tr (hR_tr (hR_tr (hR_tr (hR_L (a := 5) (by omega)) (hR_I (a := 6) (by omega) (by omega))) (hR_kx _)) (hR_I (a := 4) (by omega) (by omega))) (hR_I (a := 0) (by omega) (by omega)))
theorem hR_cmd {M N : mm_} {n s z : Nat} {v : Int64} {r : Int32} (h : cmd_ M n s z v r N) : hR_ M N := by
  unfold cmd_ at h
  split at h
  · rw [h.2]; exact hR_tr (hR_tr hR_cb hR_ra) hR_fa
  · have gB : hR_ M (ce5_ M n s z) := hR_tr (hR_tr hR_cb hR_ra) (hR_I (by omega) (by omega))
    generalize ce5_ M n s z = B at h gB
    generalize sp_ M n (s + z) = t at h
    refine hR_tr gB ?_
    unfold cd5_ at h
    split at h
    · cases hw : wt_ B n t (rz_ B n t) (rv_ (bf_ B n) t (rz_ B n t)) with
      | inr q =>
        rw [hw] at h
        obtain ⟨f, w⟩ := q
        obtain ⟨-, ⟨J, j1, j2⟩, -⟩ := h
        exact hR_ph j2
      | inl x =>
        rw [hw] at h
        obtain ⟨pt, s3, p, e1, e2, lim⟩ := x
        obtain ⟨b, N0, -, hb, hj, hph, -, hp, -, sd1, sd2, rfl⟩ := h
        exact hR_tr (hR_ph hph) (hR_tr (hR_tr (hR_tr hR_nj (hR_I (by omega) (by omega))) (hR_I (by omega) (by omega))) (hR_I (by omega) (by omega)))
    · split at h
      · cases hs : sb_ B n (pd_ B n t) with
        | inr q =>
          rw [hs] at h
          obtain ⟨f, w⟩ := q
          exact hR_pg h.2.1
        | inl p =>
          rw [hs] at h
          obtain ⟨b, N0, -, hb, -, hb0, hpg, -, hp, -, rfl⟩ := h
          exact hR_tr (hR_pg hpg) hR_nj
      · split at h
        · cases hs : kl2_ B n (sm_ B n t 0) with
          | inr q =>
            rw [hs] at h
            obtain ⟨f, w⟩ := q
            exact hR_pf h.2.1
          | inl j =>
            rw [hs] at h
            obtain ⟨-, hj, -, rfl⟩ := h
            exact hR_tr (hR_I (by omega) (by omega)) (hR_I (by omega) (by omega))
        · split at h
          · rw [h.2]; exact hR_tr (hR_I (by omega) (by omega)) hR_fa
          · rw [h.2]; exact hR_tr (hR_I (by omega) (by omega)) (hR_zk 8)
theorem hR_pr {M N : mm_} (h : frR_ pR_ M N) : hR_ M N := by
  have k : ∀ a i, ¬ a < 34 ∨ (a = 0 ∧ i = 2) → N.1 a i = M.1 a i := fun a i z => h.2.1 a i (by unfold pzR_; omega) (by unfold pR_ mR_; omega)
  exact ⟨by rw [h.1], k 0 2 (by omega), fun a i z => k a i (by omega), fun a i z => by rw [h.1]⟩
theorem hX_rf {M : mm_} : hX_ M M := ⟨fun _ _ _ => rfl, fun _ _ _ => rfl⟩
theorem hX_tr {A B D : mm_} (h : hX_ A B) (g : hX_ B D) : hX_ A D := ⟨fun a i z => (g.1 a i z).trans (h.1 a i z), fun a i z => (g.2 a i z).trans (h.2 a i z)⟩
theorem hX_I {M : mm_} {a i : Nat} {v : Int32} (ha : 34 ≤ a) : hX_ M (sI_ M a i v) := ⟨fun b j z => by rw [gI_sI, if_neg (by omega)], fun _ _ _ => rfl⟩
theorem hX_L {M : mm_} {a i : Nat} {v : Int64} (ha : 34 ≤ a) : hX_ M (sL_ M a i v) := ⟨fun _ _ _ => rfl, fun b j z => by rw [gL_sL, if_neg (by omega)]⟩
theorem hX_fi {M : mm_} {f w : Int32} : hX_ M (fiX_ M f w) := by
  unfold fiX_; split
  · exact hX_tr (hX_I (by omega)) (hX_I (by omega))
  · exact hX_rf
theorem hX_mee {M : mm_} {k : Nat} {x : Int32} {y : Int64} (hk : 34 ≤ k) : hX_ M (mee_ M k x y) := by
  unfold mee_; split
  · exact hX_rf
  · exact hX_I hk
theorem hX_jm {J : Nat → Nat} {x : Int32} {y : Int64} : ∀ (u i : Nat) (M : mm_), hX_ M (jm1_ J x y u i M)
  | 0, _, _ => hX_rf
  | u + 1, i, M => hX_tr (hX_mee (by omega)) (hX_jm u (i + 1) _)
theorem hX_me {c k : Nat} (hk : 34 ≤ k) : ∀ (u m : Nat) (M : mm_), hX_ M (me1_ c k u m M)
  | 0, _, _ => hX_rf
  | u + 1, m, M => hX_tr (hX_mee hk) (hX_me hk u (m + 1) _)
theorem hX_ea {J : Nat → Nat} : ∀ (u i : Nat) (r : Int32) (M : mm_), hX_ M (ea1_ J u i r M).2
  | 0, _, _, _ => hX_rf
  | u + 1, i, r, M => hX_tr (hX_I (by omega)) (hX_ea u (i + 1) _ _)
theorem hX_MR {n c S : Nat} {J : Nat → Nat} {M N : mm_} {r : Int32} (h : MR_ n c S J M r N) : hX_ M N := by
  obtain ⟨key, A, ⟨hcr, -⟩, h⟩ := h
  have hA : hX_ M A := ⟨fun a i z => hcr.2.1 a i (by omega) (by omega) (by omega), fun a i z => hcr.2.2 a i (by omega) (by omega)⟩
  rcases h with ⟨-, -, rfl⟩ | ⟨-, -, -, -, rfl⟩ | ⟨h16, -, h0, -, rfl⟩
  · exact hX_tr hA hX_fi
  · exact hA
  · exact hX_tr hA (hX_tr (hX_tr (hX_L (by omega)) (hX_I (by omega))) (hX_jm 8 0 _))
theorem hX_CE {x r : Int32} {B N : mm_} (h : CE_ x B r N) : hX_ B N := by
  rcases h with ⟨-, -, rfl⟩ | ⟨-, -, rfl⟩
  · exact hX_rf
  · exact hX_fi
theorem hX_CR {n c S : Nat} {J : Nat → Nat} {M N : mm_} {r : Int32} (h : CR_ n c S J M r N) : hX_ M N := by
  obtain ⟨v, A, ⟨hcz, -⟩, h⟩ := h
  have hA : hX_ M A := ⟨fun a i z => hcz.2.1 a i (by omega) (by omega) (by omega) (by omega), fun a i z => hcz.2.2 a i (by omega) (by omega) (by omega)⟩
  refine hX_tr hA ?_
  rcases h with ⟨-, -, rfl⟩ | ⟨h0, h⟩
  · exact hX_rf
  rcases h with ⟨-, -, rfl⟩ | ⟨-, x, D, hD, hCE⟩ | ⟨-, x, D, ⟨-, hD⟩, hCE⟩
  · exact hX_ea 8 0 0 A
  · refine hX_tr ?_ (hX_CE hCE)
    rcases hD with ⟨-, -, rfl⟩ | ⟨i, hi, -, -, rfl⟩
    · exact hX_rf
    · split
      · exact hX_rf
      · exact hX_I (by omega)
  · refine hX_tr ?_ (hX_CE hCE)
    cases hf : fj1_ A J 8 0 with
    | none => rw [hf] at hD; rw [hD]; exact hX_rf
    | some i =>
      rw [hf] at hD
      simp only at hD
      rw [hD]
      exact hX_tr (B := sR_ (sR_ A 133 1 (some (135 + 12 * J i))) 134 i (some (135 + 12 * S))) ⟨fun _ _ _ => rfl, fun _ _ _ => rfl⟩ (hX_me (by omega) _ _ _)
theorem hX_fy {r : Nat} {M N : mm_} (h : fyX_ r M N) : hX_ M N := ⟨fun a i z => h.1.2.1 a i (Or.inl (by omega)), fun a i z => by rw [h.1.1]⟩
theorem hX_ap {M : mm_} {x : Int64} {n : Nat} (j : Nat) : hX_ M (apX_ M x n j) := ⟨fun a i z => ap_o j a i (by omega) (by omega), fun a i z => by rw [ap_2]⟩
/-! both programs between calls: their tapes are of one length -/
def BI_ (M : mm_) : Prop := ∃ n, n ≤ 200 ∧ XI_ n M ∧ M.1 0 2 = nI n ∧ RI_ M
theorem RI_hX {M N : mm_} (h : hX_ M N) (g : RI_ M) : RI_ N := RI_s (fun i _ => h.1 0 i (by omega)) (fun a i z => h.1 a i (by omega)) (fun i _ => h.2 3 i (by omega)) g
theorem XI_hR {n : Nat} {M N : mm_} (h : hR_ M N) (g : XI_ n M) : XI_ n N := by
  obtain ⟨t, c, J, S, g⟩ := g
  refine ⟨⟨t.1, by rw [h.2.2.1 35 1 (by omega)]; exact t.2⟩, c, J, S, XS_s (fun a i _ => by rw [h.1]) (fun a i z => h.2.2.1 a i ?_) (fun a i z => h.2.2.2 a i ?_) g⟩
  · unfold usX_ at z; rcases z with z | z | z | z | z | ⟨t, ht, z⟩ <;> omega
  · unfold usX_ at z; rcases z with z | z | z | z | z | ⟨t, ht, z⟩ <;> omega
theorem XI_262 {n : Nat} {M : mm_} {v : Int64} (g : XI_ n M) : XI_ n (sL_ M 262 0 v) := by
  obtain ⟨t, c, J, S, g⟩ := g
  have hJ := g.1.2.2.1.1
  have hc := g.1.1.1
  refine ⟨t, c, J, S, XS_s (M := M) (fun _ _ _ => rfl) (fun _ _ _ => rfl) (fun a i z => ?_) g⟩
  rw [gL_sL, if_neg]
  intro y
  unfold usX_ at z
  rcases z with z | z | z | z | z | ⟨u, hu, z⟩
  · omega
  · omega
  · omega
  · omega
  · omega
  · have := (hJ u hu).1
    omega
theorem hX_262 {M : mm_} {v : Int64} : hX_ M (sL_ M 262 0 v) := hX_L (by omega)
