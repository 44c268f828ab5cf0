/-! the reference between calls: what stays so (RI_). Nodes first: no tree has more than 20 -/
def cnS_ (x : ss_) : Prop := nw_ x.2.1 + cn_ x.2.2.1 = x.2.2.2.1 ∧ x.2.2.2.1 ≤ 20
def cnO_ : ss_ ⊕ (Int32 × Nat) → Prop
  | .inl x => cnS_ x
  | .inr _ => True
theorem nt_rf {f : fr_} {e : Term} (h1 : 1 ≤ f.1) (h6 : f.1 ≤ 6) : nt_ (rf_ f e) = nf_ f + nt_ e := by
  obtain ⟨k, c, a, b, x⟩ := f
  unfold rf_ nf_
  simp only at h1 h6 ⊢
  match k, h1, h6 with
  | 1, _, _ => show nt_ (.rem a e) = nt_ a + 1 + nt_ e; rw [nt_]; omega
  | 2, _, _ => show nt_ (.mul a (.div b e)) = nt_ a + nt_ b + 1 + nt_ e; rw [nt_]; omega
  | 3, _, _ => show nt_ (.elem (.int c) (.add a e)) = nt_ a + 1 + nt_ e; rw [nt_, nt_]; omega
  | 4, _, _ => show nt_ (.elem (.int c) (.add a e)) = nt_ a + 1 + nt_ e; rw [nt_, nt_]; omega
  | 5, _, _ => show nt_ (.elem (.int c) (.add a e)) = nt_ a + 1 + nt_ e; rw [nt_, nt_]; omega
  | 6, _, _ =>
    show nt_ (if c = 45 then Term.length e else Term.sum e) = 1 + nt_ e
    split
    · rw [nt_]; omega
    · rw [nt_]; omega
theorem nw_rt {L : Nat} (hL : 1 ≤ L) : ∀ (W : List fr_) (e : Term), nw_ (rt_ L W e).1 + nt_ (rt_ L W e).2 = nw_ W + nt_ e
  | [], e => rfl
  | f :: r, e => by
    rw [rt_]
    split
    · rename_i g
      rw [nw_rt hL r, nt_rf (by omega) g.2, nw_]
      omega
    · rfl
theorem nf_7 {f : fr_} (h : f.1 = 7) : nf_ f = nt_ f.2.2.1 + 1 := by
  obtain ⟨k, c, a, b, x⟩ := f
  simp only at h
  subst h; rfl
theorem nf_8 {f : fr_} (h : f.1 = 8) : nf_ f = nt_ f.2.2.1 + 1 := by
  obtain ⟨k, c, a, b, x⟩ := f
  simp only at h
  subst h; rfl
theorem nf_0 {f : fr_} (h : f.1 = 0) : nf_ f = 0 := by
  obtain ⟨k, c, a, b, x⟩ := f
  simp only at h
  subst h; rfl
theorem cnO_si {S : Bool} {V k nd op : Nat} {c : Int32} {W : List fr_} {e : Term} (hW : wfW_ S V W) (he : wfR_ S V true e) (h : nw_ W + nt_ e = nd) (hn : nd ≤ 20) : cnO_ (si_ c k W e nd op) := by
  have bt : ∀ L, L = 3 ∨ L = 4 ∨ L = 5 → cnO_ (bt_ L c k W e nd op) := by
    intro L hL
    have g := nw_rt (L := if L = 3 then 4 else L) (by split <;> omega) W e
    unfold bt_
    generalize (if L = 3 then 4 else L) = L2 at g ⊢
    split
    · trivial
    · split
      · trivial
      · rename_i h20
        refine ⟨?_, by show nd + 1 ≤ 20; omega⟩
        show nw_ (rt_ L2 W e).1 + nf_ (L, c, (rt_ L2 W e).2, .null, 0) + 0 = nd + 1
        have : nf_ (L, c, (rt_ L2 W e).2, .null, 0) = nt_ (rt_ L2 W e).2 + 1 := by rcases hL with rfl | rfl | rfl <;> rfl
        omega
  have g1 := nw_rt (L := 1) (by omega) W e
  have w1 := wfR_rt (L := 1) (by omega) W e hW he
  unfold si_
  split
  · unfold ha_
    split
    · trivial
    · refine ⟨?_, by show nd + 1 ≤ 20; omega⟩
      show nw_ (rt_ 1 W e).1 + (nt_ (rt_ 1 W e).2 + 1) + 0 = nd + 1
      omega
  · split
    · have g3 := nw_rt (L := 3) (by omega) W e
      unfold qu_
      split
      · trivial
      · refine ⟨?_, by show nd + 1 ≤ 20; omega⟩
        show nw_ (rt_ 3 W e).1 + (nt_ (rt_ 3 W e).2 + 1) + 0 = nd + 1
        omega
    · split
      · unfold cl_
        cases hr : (rt_ 1 W e).1 with
        | nil => trivial
        | cons f r =>
          rw [hr] at g1
          simp only
          split
          · rename_i h7
            refine ⟨?_, hn⟩
            show nw_ r + (nt_ f.2.2.1 + nt_ (rt_ 1 W e).2 + 1) + 0 = nd
            have e7 := nf_7 h7
            have g2 : nw_ r + nf_ f + nt_ (rt_ 1 W e).2 = nw_ W + nt_ e := g1
            omega
          · trivial
      · split
        · exact bt 3 (Or.inl rfl)
        · split
          · exact bt 4 (Or.inr (Or.inl rfl))
          · split
            · exact bt 5 (Or.inr (Or.inr rfl))
            · split
              · unfold cm2_
                cases hr : (rt_ 1 W e).1 with
                | nil => trivial
                | cons f r =>
                  rw [hr] at g1 w1
                  simp only
                  split
                  · rename_i h8
                    have q := wfF_8 w1.1.1 h8
                    refine ⟨?_, hn⟩
                    show nw_ r + (nt_ (sa_ f.2.2.1 (rt_ 1 W e).2) + 1) + 0 = nd
                    rw [nt_sa _ _ (wfR_ao q.2.1)]
                    have e8 := nf_8 h8
                    have g2 : nw_ r + nf_ f + nt_ (rt_ 1 W e).2 = nw_ W + nt_ e := g1
                    omega
                  · trivial
              · split
                · unfold cz_
                  cases hr : (rt_ 1 W e).1 with
                  | nil => trivial
                  | cons f r =>
                    rw [hr] at g1 w1
                    have g2 : nw_ r + nf_ f + nt_ (rt_ 1 W e).2 = nw_ W + nt_ e := g1
                    simp only
                    split
                    · rename_i h0
                      refine ⟨?_, hn⟩
                      show nw_ r + nt_ (rt_ 1 W e).2 = nd
                      have e0 := nf_0 h0
                      omega
                    · split
                      · rename_i h8
                        have q := wfF_8 w1.1.1 h8
                        refine ⟨?_, hn⟩
                        show nw_ r + nt_ (.sub (.long f.2.2.2.2) (sa_ f.2.2.1 (rt_ 1 W e).2)) = nd
                        rw [nt_, nt_sa _ _ (wfR_ao q.2.1)]
                        have e8 := nf_8 h8
                        omega
                      · trivial
                · trivial
theorem cnO_so {M : mm_} {n k nd op : Nat} {W : List fr_} (hS : wfS_ (sB_ M) (vB_ M) (k, W, none, nd, op)) (h : nw_ W = nd) (hn : nd ≤ 20) : cnO_ (so_ M n k W nd op) := by
  unfold so_
  split
  · trivial
  · split
    · rename_i g
      unfold co0_
      cases W with
      | nil => trivial
      | cons f r =>
        have e : (decide (f.1 = 8) && decide (ac_ f.2.2.1 = 0)) = true := g.1
        rw [Bool.and_eq_true, decide_eq_true_iff, decide_eq_true_iff] at e
        have q := wfF_8 hS.1 e.1
        have e9 := ao_0 (wfR_ao q.2.1) e.2
        refine ⟨?_, hn⟩
        show nw_ r + 1 = nd
        have e8 : nf_ f = 1 := by rw [nf_8 e.1, e9]; rfl
        have g2 : nw_ r + nf_ f = nd := h
        omega
    · unfold so2_
      split
      · trivial
      · split
        · unfold rn2_
          split
          · trivial
          · split
            · trivial
            · refine ⟨?_, by show nd + 1 ≤ 20; omega⟩
              show nw_ W + 1 = nd + 1
              omega
        · split
          · split
            · trivial
            · refine ⟨?_, by show nd + 1 ≤ 20; omega⟩
              show nw_ W + 1 + 0 = nd + 1
              omega
          · split
            · split
              · trivial
              · exact ⟨h, hn⟩
            · split
              · unfold rr_
                split
                · split
                  · trivial
                  · split
                    · trivial
                    · refine ⟨?_, by show nd + 1 ≤ 20; omega⟩
                      show nw_ W + 1 = nd + 1
                      omega
                · split
                  · trivial
                  · split
                    · trivial
                    · split
                      · trivial
                      · split
                        · trivial
                        · split
                          · trivial
                          · split
                            · trivial
                            · refine ⟨?_, by show nd + 1 ≤ 20; omega⟩
                              show nw_ W + 1 + 0 = nd + 1
                              omega
              · trivial
theorem cnO_lo {M : mm_} {n : Nat} : ∀ (t : Nat) (x : ss_), wfS_ (sB_ M) (vB_ M) x → cnS_ x → cnO_ (lo_ M n t x)
  | 0, x, _, h => h
  | t + 1, x, hw, h => by
    obtain ⟨k, W, u, nd, op⟩ := x
    rw [lo_]
    cases u with
    | none =>
      simp only
      have g := wfO_so (n := n) hw
      have g2 := cnO_so (n := n) hw h.1 h.2
      cases hs : so_ M n k W nd op with
      | inl y => rw [hs] at g g2; exact cnO_lo t y g g2
      | inr q => trivial
    | some e =>
      simp only
      split
      · exact h
      · have g := wfO_si (c := bf_ M n k) (k := k) (nd := nd) (op := op) hw.2 hw.1
        have g2 := cnO_si (c := bf_ M n k) (k := k) (op := op) hw.2 hw.1 h.1 h.2
        cases hs : si_ (bf_ M n k) k W e nd op with
        | inl y => rw [hs] at g g2; exact cnO_lo t y g g2
        | inr q => trivial
theorem nt_ex {M : mm_} {n k k2 : Nat} {e : Term} (h : ex_ M n k = .inl (e, k2)) : nt_ e ≤ 20 := by
  unfold ex_ at h
  have g := cnO_lo (M := M) (n := n) (n + 1 - k) (k, [], none, 0, 0) True.intro ⟨rfl, by show 0 ≤ 20; omega⟩
  cases hs : lo_ M n (n + 1 - k) (k, [], none, 0, 0) with
  | inr q => rw [hs] at h; cases h
  | inl x =>
    rw [hs] at h g
    obtain ⟨k1, W, u, nd, op⟩ := x
    cases u with
    | none => cases h
    | some e1 =>
      have g2 := nw_rt (L := 1) (by omega) W e1
      have g3 : nw_ W + nt_ e1 = nd := g.1
      have g4 : nd ≤ 20 := g.2
      have h2 : (if (rt_ 1 W e1).1.isEmpty = true then (Sum.inl ((rt_ 1 W e1).2, k1) : (Term × Nat) ⊕ (Int32 × Nat)) else .inr (1, k1)) = .inl (e, k2) := h
      split at h2
      · cases h2; omega
      · cases h2
theorem okT_f3 {V t : Nat} {M N : mm_} (h4 : N.1 4 t = M.1 4 t) (h2 : ∀ i, i < 40 → N.1 2 (64 * t + i) = M.1 2 (64 * t + i)) (h3 : ∀ i, i < 40 → N.2.1 3 (64 * t + i) = M.2.1 3 (64 * t + i)) (h : okT_ V t M) : okT_ V t N := by
  obtain ⟨n, F, a1, a2, a3, a4, a5, a6⟩ := h
  exact ⟨n, F, by rw [h4]; exact a1, a2, a3, a4, a5, fun i hi => by rw [h2 i (by omega), h3 i (by omega)]; exact a6 i hi⟩
/-- the reference between calls -/
def RI_ (M : mm_) : Prop := (∃ n, tz_ M n) ∧ (∃ c, c ≤ 16 ∧ M.1 0 9 = nI c ∧ ∀ m, m < c → okT_ 3 m M ∧ ∃ q, q ≤ 3 ∧ M.1 6 m = nI q) ∧ ckR_ M ∧ jbR_ M
theorem RI_EV {M : mm_} (h : RI_ M) : ∃ c nn FF, EV_ c nn FF M := by
  obtain ⟨-, ⟨c, a1, a2, a3⟩, a4, a5⟩ := h
  have key : ∀ m, ∃ n F, m < c → okR_ 3 m n F M := fun m => by
    by_cases hm : m < c
    · obtain ⟨n, F, z⟩ := (a3 m hm).1
      exact ⟨n, F, fun _ => z⟩
    · exact ⟨0, fun _ => (0, []), fun z => absurd z hm⟩
  exact ⟨c, fun m => (key m).choose, fun m => (key m).choose_spec.choose, a2, a1, a4, a5, fun m hm => ⟨(key m).choose_spec.choose_spec hm, (a3 m hm).2⟩⟩
/-- nothing that RI_ speaks of has changed -/
theorem RI_s {M N : mm_} (h0 : ∀ i, i = 2 ∨ i = 9 ∨ i = 35 ∨ i = 37 → N.1 0 i = M.1 0 i) (ha : ∀ a i, a = 4 ∨ a = 6 ∨ a = 12 ∨ a = 16 ∨ a = 18 ∨ a = 22 ∨ (a = 2 ∧ i < 2048) → N.1 a i = M.1 a i) (hL : ∀ i, i < 2048 → N.2.1 3 i = M.2.1 3 i) (h : RI_ M) : RI_ N := by
  obtain ⟨⟨n, b1, b2⟩, ⟨c, a1, a2, a3⟩, a4, a5⟩ := h
  have ek : ∀ {V t : Nat}, t < 32 → okT_ V t M → okT_ V t N := fun ht k => okT_f3 (ha 4 _ (by omega)) (fun i hi => ha 2 _ (by omega)) (fun i hi => hL _ (by omega)) k
  refine ⟨⟨n, by rw [h0 _ (by omega)]; exact b1, b2⟩, ⟨c, a1, by rw [h0 _ (by omega)]; exact a2, fun m hm => ⟨ek (by omega) (a3 m hm).1, ?_⟩⟩, ckR_s (fun i hi => h0 i (by omega)) (fun i => ha 22 i (by omega)) a4, fun j hj => ?_⟩
  · obtain ⟨q, c1, c2⟩ := (a3 m hm).2
    exact ⟨q, c1, by rw [ha 6 _ (by omega)]; exact c2⟩
  · obtain ⟨⟨z, d1, d2⟩, d3⟩ := a5 j hj
    refine ⟨⟨z, d1, by rw [ha 18 _ (by omega)]; exact d2⟩, fun k => ?_⟩
    rw [ha 12 _ (by omega)] at k
    obtain ⟨e1, e2⟩ := d3 k
    exact ⟨ek (by omega) e1, fun q => ek (by omega) (e2 (by rw [ha 16 _ (by omega)] at q; exact q))⟩
theorem RI_pf {M N : mm_} (h : pf_ M N) (g : RI_ M) : RI_ N := RI_s (fun i hi => h.1 0 i (by omega) (by omega) (by omega) (by omega) (by omega) (by omega)) (fun a i ha => h.1 a i (by omega) (by omega) (by omega) (by omega) (by omega) (by omega)) (fun i hi => h.2.1 3 i (by omega) (by omega) (by omega)) g
theorem RI_pg {M N : mm_} (h : pg_ M N) (g : RI_ M) : RI_ N := RI_s (fun i hi => h.1 0 i (by omega) (by omega) (by omega) (by omega) (by omega) (by omega) (by omega)) (fun a i ha => h.1 a i (by omega) (by omega) (by omega) (by omega) (by omega) (by omega) (by omega)) (fun i hi => h.2.1 3 i (by omega) (by omega) (by omega)) g
theorem RI_0 {M : mm_} {i : Nat} {v : Int32} (hi : ¬ (i = 2 ∨ i = 9 ∨ i = 35 ∨ i = 37)) (g : RI_ M) : RI_ (sI_ M 0 i v) := RI_s (M := M) (fun j hj => by rw [gI_sI, if_neg (by omega)]) (fun a j ha => by rw [gI_sI, if_neg (by omega)]) (fun _ _ => rfl) g
theorem RI_fa {M : mm_} {f w : Int32} (g : RI_ M) : RI_ (fa_ M f w) := by
  unfold fa_; split
  · exact RI_0 (by omega) (RI_0 (by omega) g)
  · exact g
theorem RI_bg {M : mm_} (g : RI_ M) : RI_ (bg_ M) := RI_0 (by omega) (RI_0 (by omega) (RI_0 (by omega) (RI_0 (by omega) g)))
theorem RI_mw {M : mm_} {v : Int32} (g : RI_ M) : RI_ (mw_ M v) := RI_0 (by omega) (RI_0 (by omega) (RI_bg g))
theorem RI_ra {M : mm_} {n s : Nat} (g : RI_ M) : RI_ (ra_ M n s) := RI_s (fun j hj => by show (sI_ M 0 5 (nI s)).1 0 j = M.1 0 j; rw [gI_sI, if_neg (by omega)]) (fun a j ha => by show (sI_ M 0 5 (nI s)).1 a j = M.1 a j; rw [gI_sI, if_neg (by omega)]) (fun i hi => by show (sL_ (sI_ M 0 5 (nI s)) 0 24 _).2.1 3 i = _; rw [gL_sL, if_neg (by omega)]; rfl) g
theorem RI_cb {M : mm_} (g : RI_ M) : RI_ (cb_ M) := RI_0 (by omega) (RI_0 (by omega) (RI_bg g))
theorem RI_ce {M : mm_} {n s z : Nat} (g : RI_ M) : RI_ (ce5_ M n s z) := RI_0 (by omega) (RI_ra (RI_cb g))
/-- a method's text kept -/
theorem RI_mo {M N : mm_} {n c : Nat} {r : Int32} (g : RI_ M) (hc : M.1 0 9 = nI c) (hc2 : c ≤ 16) (h : mo_ M n c (me_ M n c) r N) : RI_ N := by
  cases hm : me_ M n c with
  | inr q =>
    rw [hm] at h
    obtain ⟨f, w⟩ := q
    obtain ⟨-, ⟨v, h1⟩, -⟩ := h
    exact RI_pf h1 (RI_mw g)
  | inl y =>
    rw [hm] at h
    obtain ⟨e, av, p⟩ := y
    obtain ⟨-, hc16, N0, k, nd, op, h1, h2, h3, rfl⟩ := h
    have hp : ∃ q, q ≤ 3 ∧ p = nI q := by
      unfold me_ at hm
      cases hh : mh_ M n with
      | some q => rw [hh] at hm; cases hm
      | none =>
        rw [hh] at hm
        have hm2 : me2_ M n c (nm_ (bf_ M n) 0 (rz_ M n 0)) (bf_ M n (rz_ M n 0 + 1) - 48) (ex_ (mw_ M (bf_ M n (rz_ M n 0 + 1) - 48)) n (rz_ M n 0 + 4)) = .inl (e, av, p) := hm
        have ep : bf_ M n (rz_ M n 0 + 1) - 48 = p := by
          cases hx : ex_ (mw_ M (bf_ M n (rz_ M n 0 + 1) - 48)) n (rz_ M n 0 + 4) with
          | inr q => rw [hx] at hm2; cases hm2
          | inl y =>
            rw [hx] at hm2
            unfold me2_ at hm2
            simp only at hm2
            split at hm2
            · cases hm2
            · cases hm2; rfl
        unfold mh_ at hh
        split at hh
        · cases hh
        split at hh
        · cases hh
        split at hh
        · cases hh
        split at hh
        · cases hh
        rename_i z
        rw [ep] at z
        obtain ⟨q, q1, q2⟩ := ix_ (x := p) (n := 4) (by decide) (fun y => z (Or.inl y)) (fun y => z (Or.inr (fun w => absurd (Int32.le_trans y w) (by decide))))
        exact ⟨q, by omega, q2⟩
    have hw : wfR_ true 3 true e ∧ nt_ e ≤ 20 := by
      unfold me_ at hm
      cases hh : mh_ M n with
      | some q => rw [hh] at hm; cases hm
      | none =>
        rw [hh] at hm
        have hm2 : me2_ M n c (nm_ (bf_ M n) 0 (rz_ M n 0)) (bf_ M n (rz_ M n 0 + 1) - 48) (ex_ (mw_ M (bf_ M n (rz_ M n 0 + 1) - 48)) n (rz_ M n 0 + 4)) = .inl (e, av, p) := hm
        generalize hv : bf_ M n (rz_ M n 0 + 1) - 48 = v at hm2
        cases hx : ex_ (mw_ M v) n (rz_ M n 0 + 4) with
        | inr q => rw [hx] at hm2; cases hm2
        | inl y =>
          obtain ⟨e2, k2⟩ := y
          have w1 := wf_ex hx
          have w2 := nt_ex hx
          rw [hx] at hm2
          unfold me2_ at hm2
          simp only at hm2
          split at hm2
          · cases hm2
          · cases hm2
            have e14 : (mw_ M p).1 0 14 = 0 := rfl
            have s1 : sB_ (mw_ M p) = true := by unfold sB_; rw [decide_eq_true_iff]; exact e14
            have s2 : vB_ (mw_ M p) = 3 := if_pos e14
            rw [s1, s2] at w1
            exact ⟨w1, w2⟩
    obtain ⟨q, hq, rfl⟩ := hp
    have hl : (tc_ e).length ≤ 40 := by have := tc_le e; have := hw.2; omega
    have g0 := RI_pf h1 (RI_mw (v := nI q) g)
    have e9 : N0.1 0 9 = nI c := by rw [h1.1 0 9 (by omega) (by omega) (by omega) (by omega) (by omega) (by omega)]; exact hc
    obtain ⟨⟨n2, b1, b2⟩, ⟨c2, a1, a2, a3⟩, a4, a5⟩ := g0
    obtain rfl : c2 = c := (nI_eq (by omega) (by omega)).mp (a2.symm.trans e9)
    have iI : ∀ a i, ¬ (a = 0 ∧ i = 9) → ¬ (a = 4 ∧ i = c2) → ¬ (a = 6 ∧ i = c2) → ¬ (a = 2 ∧ 64 * c2 ≤ i ∧ i < 64 * c2 + (tc_ e).length) → (mk_ N0 c2 e av (nI q)).1 a i = N0.1 a i := fun a i z1 z2 z3 z4 => by
      unfold mk_
      rw [gI_sI, if_neg z1, gI_sI, if_neg z2, kx_I (by omega) _ (by omega), if_neg z4, gI_sI, if_neg z3]
      rfl
    have iL : ∀ i, ¬ (64 * c2 ≤ i ∧ i < 64 * c2 + (tc_ e).length) → (mk_ N0 c2 e av (nI q)).2.1 3 i = N0.2.1 3 i := fun i z => by
      unfold mk_
      rw [gL_sI, gL_sI, kx_L (by omega) _ (by omega), if_neg (fun y => z y.2), gL_sI, gL_sL, if_neg (by omega)]
    have sdc : sd_ (mk_ N0 c2 e av (nI q)) c2 e := by
      have hcd := h2.2.2.1.2
      refine ⟨?_, fun i x hx => ?_⟩
      · unfold mk_; rw [gI_sI, if_neg (by omega), gI_sI, if_pos ⟨rfl, rfl⟩]
      · have hi := (List.getElem?_eq_some_iff.mp hx).1
        obtain ⟨c1, c3⟩ := hcd i x (by simpa [cs_, cu_] using hx)
        constructor
        · unfold mk_
          rw [gI_sI, if_neg (by omega), gI_sI, if_neg (by omega), kx_I (by omega) _ (by omega), if_pos ⟨rfl, by omega, by omega⟩, show 2048 + (64 * c2 + i - 64 * c2) = 2048 + i by omega, gI_sI, if_neg (by omega)]
          exact c1
        · unfold mk_
          rw [gL_sI, gL_sI, kx_L (by omega) _ (by omega), if_pos ⟨rfl, by omega, by omega⟩, show 2048 + (64 * c2 + i - 64 * c2) = 2048 + i by omega, gL_sI, gL_sL, if_neg (by omega)]
          exact c3
    have ek : ∀ {V t : Nat}, t < 32 → ¬ t = c2 → okT_ V t N0 → okT_ V t (mk_ N0 c2 e av (nI q)) := fun ht hne k => okT_f3 (iI 4 _ (by omega) (by omega) (by omega) (by omega)) (fun i hi => iI 2 _ (by omega) (by omega) (by omega) (by omega)) (fun i hi => iL _ (by omega)) k
    refine ⟨⟨n2, by rw [iI 0 2 (by omega) (by omega) (by omega) (by omega)]; exact b1, b2⟩, ⟨c2 + 1, by omega, ?_, fun m hm => ?_⟩, ?_, fun j hj => ?_⟩
    · unfold mk_; rw [gI_sI, if_pos ⟨rfl, rfl⟩]
    · by_cases hmc : m = c2
      · subst hmc
        refine ⟨okT_sd (S := true) (fun _ => rfl) (by decide) hw.1 hw.2 sdc, q, hq, ?_⟩
        unfold mk_
        rw [gI_sI, if_neg (by omega), gI_sI, if_neg (by omega), kx_I (by omega) _ (by omega), if_neg (by omega), gI_sI, if_pos ⟨rfl, rfl⟩]
      · obtain ⟨k1, q2, k2, k3⟩ := a3 m (by omega)
        exact ⟨ek (by omega) hmc k1, q2, k2, by rw [iI 6 _ (by omega) (by omega) (by omega) (by omega)]; exact k3⟩
    · obtain ⟨⟨c3, d1, d2⟩, c4, z, f1, f2, f3, f4, f5⟩ := a4
      obtain rfl : c4 = c2 := (nI_eq (by omega) (by omega)).mp (f2.symm.trans e9)
      refine ⟨⟨c3, d1, by rw [iI 0 _ (by omega) (by omega) (by omega) (by omega)]; exact d2⟩, c4 + 1, z, by omega, ?_, f3, by rw [iI 0 _ (by omega) (by omega) (by omega) (by omega)]; exact f4, fun i hi => ?_⟩
      · unfold mk_; rw [gI_sI, if_pos ⟨rfl, rfl⟩]
      · obtain ⟨m, k1, k2⟩ := f5 i hi
        exact ⟨m, by omega, by rw [iI 22 _ (by omega) (by omega) (by omega) (by omega)]; exact k2⟩
    · obtain ⟨⟨z, d1, d2⟩, d3⟩ := a5 j hj
      refine ⟨⟨z, d1, by rw [iI 18 _ (by omega) (by omega) (by omega) (by omega)]; exact d2⟩, fun k => ?_⟩
      rw [iI 12 _ (by omega) (by omega) (by omega) (by omega)] at k
      obtain ⟨k1, k2⟩ := d3 k
      exact ⟨ek (by omega) (by omega) k1, fun y => ek (by omega) (by omega) (k2 (by rw [iI 16 _ (by omega) (by omega) (by omega) (by omega)] at y; exact y))⟩
