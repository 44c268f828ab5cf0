/-! the reference's machine: frames (method, place, base of the stack, base of the handlers), the top first -/
abbrev fs4_ : Type := Nat × Nat × Nat × Nat
def pzR_ (a i : Nat) : Prop := a = 12 ∨ a = 15 ∨ a = 20 ∨ a = 21 ∨ a = 22 ∨ a = 30 ∨ a = 31 ∨ a = 32 ∨ a = 33 ∨ (a = 0 ∧ (i = 35 ∨ i = 37 ∨ i = 58 ∨ i = 59))
def frR_ (P : Nat → Nat → Prop) (M N : mm_) : Prop := N.2 = M.2 ∧ (∀ a i, ¬ pzR_ a i → ¬ P a i → N.1 a i = M.1 a i) ∧ (∀ i, N.1 12 i = M.1 12 i ∨ N.1 12 i = 0) ∧ (ckR_ M → ckR_ N)
theorem frR_rf {P : Nat → Nat → Prop} {M : mm_} : frR_ P M M := ⟨rfl, fun _ _ _ _ => rfl, fun _ => Or.inl rfl, id⟩
theorem frR_fb {P : Nat → Nat → Prop} {M N : mm_} (h : fbR_ M N) : frR_ P M N := ⟨h.1, fun a i z _ => fb_at h (by unfold pzR_ at z; omega), h.2.2.1, h.2.2.2⟩
theorem frR_tr {P : Nat → Nat → Prop} {A B D : mm_} (h : frR_ P A B) (g : frR_ P B D) : frR_ P A D := by
  refine ⟨g.1.trans h.1, fun a i z w => (g.2.1 a i z w).trans (h.2.1 a i z w), fun i => ?_, fun z => g.2.2.2 (h.2.2.2 z)⟩
  rcases g.2.2.1 i with z | z
  · rw [z]; exact h.2.2.1 i
  · exact Or.inr z
theorem frR_mo {P Q : Nat → Nat → Prop} {M N : mm_} (h : frR_ P M N) (g : ∀ a i, P a i → Q a i) : frR_ Q M N := ⟨h.1, fun a i z w => h.2.1 a i z (fun y => w (g a i y)), h.2.2⟩
def mR_ (a i : Nat) : Prop := (23 ≤ a ∧ a ≤ 29) ∨ (a = 0 ∧ (i = 39 ∨ i = 40 ∨ i = 41 ∨ i = 42 ∨ i = 47 ∨ i = 51 ∨ i = 52 ∨ i = 53))
theorem frR_I {P : Nat → Nat → Prop} {M : mm_} {a i : Nat} {v : Int32} (h1 : mR_ a i) (h2 : P a i) : frR_ P M (sI_ M a i v) := by
  unfold mR_ at h1
  refine ⟨rfl, fun b j _ w => ?_, fun j => Or.inl (by rw [gI_sI, if_neg (by omega)]), ckR_s (fun j hj => by rw [gI_sI, if_neg (by omega)]) (fun j => by rw [gI_sI, if_neg (by omega)])⟩
  rw [gI_sI]; split
  · rename_i z; exact absurd (by rw [z.1, z.2]; exact h2) w
  · rfl
/-- what is so of methods and jobs while the machine runs -/
def EV_ (c : Nat) (nn : Nat → Nat) (FF : Nat → Nat → Nat × List Nat) (M : mm_) : Prop := M.1 0 9 = nI c ∧ c ≤ 16 ∧ ckR_ M ∧ jbR_ M ∧ ∀ m, m < c → okR_ 3 m (nn m) (FF m) M ∧ ∃ q, q ≤ 3 ∧ M.1 6 m = nI q
theorem jbR_fr {M N : mm_} (h : frR_ mR_ M N) (g : jbR_ M) : jbR_ N := by
  have e : ∀ a i, ¬ pzR_ a i → ¬ mR_ a i → N.1 a i = M.1 a i := h.2.1
  have ek : ∀ {V t : Nat}, okT_ V t M → okT_ V t N := fun k => okT_fr (fun i => e 4 i (by unfold pzR_; omega) (by unfold mR_; omega)) (fun i => e 2 i (by unfold pzR_; omega) (by unfold mR_; omega)) (fun i => by rw [h.1]) k
  intro j hj
  obtain ⟨⟨z, a1, a2⟩, a3⟩ := g j hj
  refine ⟨⟨z, a1, by rw [e 18 j (by unfold pzR_; omega) (by unfold mR_; omega)]; exact a2⟩, fun k => ?_⟩
  rcases h.2.2.1 j with y | y
  · rw [y] at k
    obtain ⟨b1, b2⟩ := a3 k
    refine ⟨ek b1, fun q => ek (b2 ?_)⟩
    rw [e 16 j (by unfold pzR_; omega) (by unfold mR_; omega)] at q
    exact q
  · rw [y] at k; exact absurd k (by decide)
theorem EV_fr {c : Nat} {nn : Nat → Nat} {FF : Nat → Nat → Nat × List Nat} {M N : mm_} (h : frR_ mR_ M N) (g : EV_ c nn FF M) : EV_ c nn FF N := by
  have e : ∀ a i, ¬ pzR_ a i → ¬ mR_ a i → N.1 a i = M.1 a i := h.2.1
  obtain ⟨g1, g2, g3, g4, g5⟩ := g
  refine ⟨by rw [e 0 9 (by unfold pzR_; omega) (by unfold mR_; omega)]; exact g1, g2, h.2.2.2 g3, jbR_fr h g4, fun m hm => ?_⟩
  obtain ⟨⟨a1, a2, a3, a4, a5, a6⟩, q, b1, b2⟩ := g5 m hm
  refine ⟨⟨by rw [e 4 _ (by unfold pzR_; omega) (by unfold mR_; omega)]; exact a1, a2, a3, a4, a5, fun i hi => ?_⟩, q, b1, by rw [e 6 _ (by unfold pzR_; omega) (by unfold mR_; omega)]; exact b2⟩
  rw [e 2 _ (by unfold pzR_; omega) (by unfold mR_; omega), h.1]
  exact a6 i hi
def ent_ (FF : Nat → Nat → Nat × List Nat) (N : mm_) (q m p b t : Nat) : Prop := ∀ k x, (FF m p).2[k]? = some x → N.1 27 (t + k) = nI x ∧ N.1 28 (t + k) = nI (b + (FF m x).1) ∧ N.1 29 (t + k) = nI q
def lk4_ (FF : Nat → Nat → Nat × List Nat) (f : fs4_) : List fs4_ → Prop
  | [] => f.2.2.1 = 0 ∧ f.2.2.2 = 0
  | g :: _ => f.2.2.1 + 1 = g.2.2.1 + (FF g.1 g.2.1).1 ∧ f.2.2.2 = g.2.2.2 + (FF g.1 g.2.1).2.length
/-- a frame, but for its place in the memory -/
def f1R_ (c : Nat) (nn : Nat → Nat) (FF : Nat → Nat → Nat × List Nat) (N : mm_) (f : fs4_) (r : List fs4_) : Prop := f.1 < c ∧ N.1 23 (r.length + 1) = nI f.1 ∧ f.2.1 ≤ nn f.1 ∧ f.2.2.1 ≤ 20 * r.length ∧ f.2.2.2 ≤ 20 * r.length ∧ ent_ FF N (r.length + 1) f.1 f.2.1 f.2.2.1 f.2.2.2 ∧ lk4_ FF f r
def FS_ (c : Nat) (nn : Nat → Nat) (FF : Nat → Nat → Nat × List Nat) (N : mm_) : List fs4_ → Prop
  | [] => True
  | f :: r => f1R_ c nn FF N f r ∧ N.1 25 (r.length + 1) = nI f.2.1 ∧ FS_ c nn FF N r
def toR_ (FF : Nat → Nat → Nat × List Nat) : List fs4_ → Nat
  | [] => 0
  | f :: _ => f.2.2.2 + (FF f.1 f.2.1).2.length
theorem lk_to {FF : Nat → Nat → Nat × List Nat} {f : fs4_} : ∀ {r : List fs4_}, lk4_ FF f r → f.2.2.2 = toR_ FF r
  | [], h => h.2
  | _ :: _, h => h.2
theorem FS_cg {c : Nat} {nn : Nat → Nat} {FF : Nat → Nat → Nat × List Nat} {M N : mm_} : ∀ (L : List fs4_) (T : Nat), toR_ FF L ≤ T → FS_ c nn FF M L → (∀ q, 1 ≤ q → q ≤ L.length → N.1 23 q = M.1 23 q ∧ N.1 25 q = M.1 25 q) → (∀ a k, a = 27 ∨ a = 28 ∨ a = 29 → k < T → N.1 a k = M.1 a k) → FS_ c nn FF N L
  | [], _, _, _, _, _ => trivial
  | f :: r, T, hT, h, h1, h2 => by
    obtain ⟨⟨a1, a2, a3, a4, a5, a6, a7⟩, a8, a9⟩ := h
    have e := h1 (r.length + 1) (by omega) (by simp)
    have ht : f.2.2.2 + (FF f.1 f.2.1).2.length ≤ T := hT
    have hr : toR_ FF r ≤ T := by rw [← lk_to a7]; omega
    refine ⟨⟨a1, by rw [e.1]; exact a2, a3, a4, a5, fun k x hx => ?_, a7⟩, by rw [e.2]; exact a8, FS_cg r T hr a9 (fun q z1 z2 => h1 q z1 (by simp; omega)) h2⟩
    have hk := (List.getElem?_eq_some_iff.mp hx).1
    rw [h2 27 _ (by omega) (by omega), h2 28 _ (by omega) (by omega), h2 29 _ (by omega) (by omega)]
    exact a6 k x hx
/-- the handlers of frames lie below their depth -/
theorem FS_29 {c : Nat} {nn : Nat → Nat} {FF : Nat → Nat → Nat × List Nat} {N : mm_} : ∀ (L : List fs4_), FS_ c nn FF N L → ∀ k, k < toR_ FF L → ∃ q, q ≤ L.length ∧ N.1 29 k = nI q
  | [], _, k, hk => absurd hk (Nat.not_lt_zero _)
  | f :: r, h, k, hk => by
    obtain ⟨⟨a1, a2, a3, a4, a5, a6, a7⟩, a8, a9⟩ := h
    have hk2 : k < f.2.2.2 + (FF f.1 f.2.1).2.length := hk
    by_cases z : k < f.2.2.2
    · obtain ⟨q, b1, b2⟩ := FS_29 r a9 k (by rw [← lk_to a7]; exact z)
      exact ⟨q, by simp; omega, b2⟩
    · have hl : k - f.2.2.2 < (FF f.1 f.2.1).2.length := by omega
      have := (a6 (k - f.2.2.2) _ (List.getElem?_eq_getElem hl)).2.2
      rw [show f.2.2.2 + (k - f.2.2.2) = k by omega] at this
      exact ⟨r.length + 1, by simp, this⟩
theorem FS_23 {c : Nat} {nn : Nat → Nat} {FF : Nat → Nat → Nat × List Nat} {N : mm_} : ∀ (L : List fs4_), FS_ c nn FF N L → ∀ q, 1 ≤ q → q ≤ L.length → ∃ m, m < c ∧ N.1 23 q = nI m
  | [], _, q, h1, h2 => absurd h2 (by simp; omega)
  | f :: r, h, q, h1, h2 => by
    by_cases z : q = r.length + 1
    · exact ⟨f.1, h.1.1, by rw [z]; exact h.1.2.1⟩
    · exact FS_23 r h.2.2 q h1 (by simp at h2; omega)
theorem FS_fb {c : Nat} {nn : Nat → Nat} {FF : Nat → Nat → Nat × List Nat} {M N : mm_} {L : List fs4_} (h : fbR_ M N) (g : FS_ c nn FF M L) : FS_ c nn FF N L := FS_cg L _ (Nat.le_refl _) g (fun q _ _ => ⟨fb_at h (by omega), fb_at h (by omega)⟩) (fun a k ha _ => fb_at h (by omega))
theorem f1R_fb {c : Nat} {nn : Nat → Nat} {FF : Nat → Nat → Nat × List Nat} {M N : mm_} {f : fs4_} {r : List fs4_} (h : fbR_ M N) (g : f1R_ c nn FF M f r) : f1R_ c nn FF N f r := by
  obtain ⟨a1, a2, a3, a4, a5, a6, a7⟩ := g
  exact ⟨a1, by rw [fb_at h (by omega)]; exact a2, a3, a4, a5, fun k x hx => by rw [fb_at h (by omega), fb_at h (by omega), fb_at h (by omega)]; exact a6 k x hx, a7⟩
def tpR_ (FF : Nat → Nat → Nat × List Nat) (N : mm_) : List fs4_ → Prop
  | [] => True
  | f :: _ => N.1 0 47 = nI (f.2.2.1 + (FF f.1 f.2.1).1) ∧ N.1 0 51 = nI (f.2.2.2 + (FF f.1 f.2.1).2.length)
def RS_ (c : Nat) (nn : Nat → Nat) (FF : Nat → Nat → Nat × List Nat) (L : List fs4_) (k : Nat) (N : mm_) : Prop := N.1 0 39 = nI L.length ∧ L.length ≤ 10 ∧ FS_ c nn FF N L ∧ tpR_ FF N L ∧ N.1 0 40 = nI k ∧ k ≤ 1000
def muR_ (nn : Nat → Nat) : List fs4_ → Nat
  | [] => 0
  | f :: r => muR_ nn r + (nn f.1 - f.2.1 + 1)
/-- what enter changes -/
def eR_ (D : Nat) (a i : Nat) : Prop := a = 24 ∨ (a = 0 ∧ (i = 39 ∨ i = 40)) ∨ (a = 23 ∧ i = D + 1) ∨ (a = 25 ∧ i = D + 1)
theorem eR_m {D a i : Nat} (h : eR_ D a i) : mR_ a i := by unfold eR_ at h; unfold mR_; omega
def enR_ (M : mm_) (D k m : Nat) (N : mm_) : Prop := frR_ (eR_ D) M N ∧ N.1 0 39 = nI (D + 1) ∧ N.1 0 40 = nI (k + 1) ∧ N.1 23 (D + 1) = nI m ∧ N.1 25 (D + 1) = 0
theorem enR_I {M N : mm_} {D k m i : Nat} {v : Int32} (h : enR_ M D k m N) : enR_ M D k m (sI_ N 24 i v) := ⟨frR_tr h.1 (frR_I (by unfold mR_; omega) (Or.inl rfl)), by rw [gI_sI, if_neg (by omega)]; exact h.2.1, by rw [gI_sI, if_neg (by omega)]; exact h.2.2.1, by rw [gI_sI, if_neg (by omega)]; exact h.2.2.2.1, by rw [gI_sI, if_neg (by omega)]; exact h.2.2.2.2⟩
theorem enR_fb {M A N : mm_} {D k m : Nat} (h : enR_ M D k m A) (g : fbR_ A N) : enR_ M D k m N := ⟨frR_tr h.1 (frR_fb g), by rw [fb_at g (by omega)]; exact h.2.1, by rw [fb_at g (by omega)]; exact h.2.2.1, by rw [fb_at g (by omega)]; exact h.2.2.2.1, by rw [fb_at g (by omega)]; exact h.2.2.2.2⟩
set_option maxRecDepth 100000 in
set_option maxHeartbeats 4000000 in
theorem c12_enter (G : gg_) (hG : gd_ G) (d : Nat) (M : mm_) (c : Nat) (nn : Nat → Nat) (FF : Nat → Nat → Nat × List Nat) (hE : EV_ c nn FF M) (D k m : Nat) (hD : M.1 0 39 = nI D) (hD2 : D ≤ 9) (hk : M.1 0 40 = nI k) (hm : m < c) : cm_ G yX12_enter cX12_enter 3 none (d + 4) [.ref (G.1 0), .int (nI m)] M (rV_ (enR_ M D k m)) := by
  refine cm_of hG (by decide) (Nat.le_of_ble_eq_true rfl) (fun C X => ?_)
  have lp : ∀ (u q : Nat) (N : mm_), q + u = 3 → enR_ M D k m N → wq_ C G (qe_ C G (rV_ (enR_ M D k m))) 47 [some (.ref (G.1 0)), some (.int (nI m)), some (.int (nI q))] [] N := by
    intro u
    induction u with
    | zero =>
      intro q N hu hN
      refine w_iload_n X dX12_enter_47 rfl rfl ?_
      refine w_iconst (v := 3) X dX12_enter_48 (by decide) ?_
      refine w_icmp_ge (tgt := 72) X dX12_enter_49 (by decide) (fun h49 => ?_) (fun h49 => absurd (nI_le (a := 3) (b := q) (by omega) (by omega)) h49)
      refine w_aload_n X dX12_enter_72 rfl rfl ?_
      refine w_aload_n X dX12_enter_73 rfl rfl ?_
      refine g12_depth X dX12_enter_74 ?_
      rw [hN.2.1]
      refine w_iconst (v := 0) X dX12_enter_77 (by decide) ?_
      refine w_iconst (v := 0) X dX12_enter_78 (by decide) ?_
      refine w_v3rV X dX12_enter_79 k12_probe rfl rfl (c12_probe G hG _ _ (EV_fr (frR_mo hN.1 (fun a i => eR_m)) hE).2.2.1 (EV_fr (frR_mo hN.1 (fun a i => eR_m)) hE).2.2.2.1 c (EV_fr (frR_mo hN.1 (fun a i => eR_m)) hE).1 hE.2.1 (D + 1) (by omega) m hm hN.2.2.2.1 0 (by decide) _) (Nat.le_of_ble_eq_true rfl) (fun N79 h79 => ?_)
      exact w_vrR X dX12_enter_82 (enR_fb hN h79)
    | succ u ih =>
      intro q N hu hN
      refine w_iload_n X dX12_enter_47 rfl rfl ?_
      refine w_iconst (v := 3) X dX12_enter_48 (by decide) ?_
      refine w_icmp_ge (tgt := 72) X dX12_enter_49 (by decide) (fun h49 => absurd h49 (nI_ge (a := q) (b := 3) (by omega) (by decide))) (fun h49 => ?_)
      refine w_aload_n X dX12_enter_52 rfl rfl ?_
      refine g12_runParameters X dX12_enter_53 ?_
      refine w_iconst (v := 3) X dX12_enter_56 (by decide) ?_
      refine w_aload_n X dX12_enter_57 rfl rfl ?_
      refine g12_depth X dX12_enter_58 ?_
      rw [hN.2.1]
      refine w_imul X dX12_enter_61 ?_
      refine w_iload_n X dX12_enter_62 rfl rfl ?_
      refine w_iadd X dX12_enter_63 ?_
      rw [show (3 : Int32) * nI (D + 1) + nI q = nI (3 * (D + 1) + q) from nI_m 3 (D + 1) q]
      refine w_iconst (v := 0) X dX12_enter_64 (by decide) ?_
      refine w_iastoreN X dX12_enter_65 rfl rfl (⟨by omega, by decide⟩) ?_
      refine w_iinc (v := 1) X dX12_enter_66 rfl (by decide) (by decide) ?_
      refine w_goto (tgt := 47) X dX12_enter_69 (by decide) ?_
      rw [nI_1]
      exact ih (q + 1) _ (by omega) (enR_I hN)
  refine w_aload_n X dX12_enter_0 rfl rfl ?_
  refine w_dup X dX12_enter_1 rfl ?_
  refine g12_depth X dX12_enter_2 ?_
  rw [hD]
  refine w_iconst (v := 1) X dX12_enter_5 (by decide) ?_
  refine w_iadd X dX12_enter_6 ?_
  rw [nI_1]
  refine p12_depth X dX12_enter_7 ?_
  refine w_aload_n X dX12_enter_10 rfl rfl ?_
  refine w_dup X dX12_enter_11 rfl ?_
  refine g12_invoked X dX12_enter_12 ?_
  rw [gI_sI, if_neg (by omega), hk]
  refine w_iconst (v := 1) X dX12_enter_15 (by decide) ?_
  refine w_iadd X dX12_enter_16 ?_
  rw [nI_1]
  refine p12_invoked X dX12_enter_17 ?_
  refine w_aload_n X dX12_enter_20 rfl rfl ?_
  refine g12_runMethods X dX12_enter_21 ?_
  refine w_aload_n X dX12_enter_24 rfl rfl ?_
  refine g12_depth X dX12_enter_25 ?_
  rw [gI_sI, if_neg (by omega), gI_sI, if_pos ⟨rfl, rfl⟩]
  refine w_iload_n X dX12_enter_28 rfl rfl ?_
  refine w_iastoreN X dX12_enter_29 rfl rfl (⟨by omega, by decide⟩) ?_
  refine w_aload_n X dX12_enter_30 rfl rfl ?_
  refine g12_runPlaces X dX12_enter_31 ?_
  refine w_aload_n X dX12_enter_34 rfl rfl ?_
  refine g12_depth X dX12_enter_35 ?_
  rw [gI_sI, if_neg (by omega), gI_sI, if_neg (by omega), gI_sI, if_pos ⟨rfl, rfl⟩]
  refine w_iconst (v := 0) X dX12_enter_38 (by decide) ?_
  refine w_iastoreN X dX12_enter_39 rfl rfl (⟨by omega, by decide⟩) ?_
  refine w_aload_n X dX12_enter_40 rfl rfl ?_
  refine g12_parameters X dX12_enter_41 ?_
  refine w_iload_n X dX12_enter_44 rfl rfl ?_
  refine w_ialoadN X dX12_enter_45 rfl rfl (⟨by have := hE.2.1; omega, by decide⟩) ?_
  obtain ⟨q3, hq3, e3⟩ := (hE.2.2.2.2 m hm).2
  rw [gI_sI, if_neg (by omega), gI_sI, if_neg (by omega), gI_sI, if_neg (by omega), gI_sI, if_neg (by omega), e3]
  refine w_istore_n X dX12_enter_46 rfl (by decide) ?_
  refine lp (3 - q3) q3 _ (by omega) ⟨frR_tr (frR_tr (frR_tr (frR_I (by unfold mR_; omega) (by unfold eR_; omega)) (frR_I (by unfold mR_; omega) (by unfold eR_; omega))) (frR_I (by unfold mR_; omega) (by unfold eR_; omega))) (frR_I (by unfold mR_; omega) (by unfold eR_; omega)), ?_, ?_, ?_, ?_⟩
  · rw [gI_sI, if_neg (by omega), gI_sI, if_neg (by omega), gI_sI, if_neg (by omega), gI_sI, if_pos ⟨rfl, rfl⟩]
  · rw [gI_sI, if_neg (by omega), gI_sI, if_neg (by omega), gI_sI, if_pos ⟨rfl, rfl⟩]
  · rw [gI_sI, if_neg (by omega), gI_sI, if_pos ⟨rfl, rfl⟩]
  · rw [gI_sI, if_pos ⟨rfl, rfl⟩]
def tR_ (a i : Nat) : Prop := a = 0 ∧ (i = 39 ∨ i = 52 ∨ i = 53)
theorem tR_m {a i : Nat} (h : tR_ a i) : mR_ a i := by unfold tR_ at h; unfold mR_; omega
set_option maxRecDepth 100000 in
set_option maxHeartbeats 4000000 in
theorem c12_throwAll (G : gg_) (hG : gd_ G) (d : Nat) (M : mm_) (c : Nat) (nn : Nat → Nat) (FF : Nat → Nat → Nat × List Nat) (hE : EV_ c nn FF M) (D : Nat) (hD : M.1 0 39 = nI D) (hD2 : D ≤ 10) (h23 : ∀ q, 1 ≤ q → q ≤ D → ∃ m, m < c ∧ M.1 23 q = nI m) (v : Int32) : cm_ G yX12_throwAll cX12_throwAll 2 none (d + 4) [.ref (G.1 0), .int v] M (rV_ (fun N => frR_ tR_ M N ∧ N.1 0 39 = 0)) := by
  refine cm_of hG (by decide) (Nat.le_of_ble_eq_true rfl) (fun C X => ?_)
  have lp : ∀ (u : Nat) (N : mm_), u ≤ D → frR_ tR_ M N → N.1 0 39 = nI u → wq_ C G (qe_ C G (rV_ (fun N => frR_ tR_ M N ∧ N.1 0 39 = 0))) 0 [some (.ref (G.1 0)), some (.int v)] [] N := by
    intro u
    induction u with
    | zero =>
      intro N hu hN h39
      refine w_aload_n X dX12_throwAll_0 rfl rfl ?_
      refine g12_depth X dX12_throwAll_1 ?_
      rw [h39]
      refine w_if_le (tgt := 30) X dX12_throwAll_4 (by decide) (fun h4 => ?_) (fun h4 => absurd (by decide) h4)
      refine w_aload_n X dX12_throwAll_30 rfl rfl ?_
      refine w_iconst (v := 1) X dX12_throwAll_31 (by decide) ?_
      refine p12_threw X dX12_throwAll_32 (by first | exact Or.inl rfl | exact Or.inr rfl | assumption) ?_
      refine w_aload_n X dX12_throwAll_35 rfl rfl ?_
      refine w_iload_n X dX12_throwAll_36 rfl rfl ?_
      refine p12_answer X dX12_throwAll_37 ?_
      refine w_vrR X dX12_throwAll_40 ⟨frR_tr hN (frR_tr (frR_I (by unfold mR_; omega) (by unfold tR_; omega)) (frR_I (by unfold mR_; omega) (by unfold tR_; omega))), ?_⟩
      rw [gI_sI, if_neg (by omega), gI_sI, if_neg (by omega)]; exact h39
    | succ u ih =>
      intro N hu hN h39
      have hEN := EV_fr (frR_mo hN (fun a i => tR_m)) hE
      obtain ⟨m, hm, em⟩ := h23 (u + 1) (by omega) hu
      have em2 : N.1 23 (u + 1) = nI m := by rw [hN.2.1 23 _ (by unfold pzR_; omega) (by unfold tR_; omega)]; exact em
      refine w_aload_n X dX12_throwAll_0 rfl rfl ?_
      refine g12_depth X dX12_throwAll_1 ?_
      rw [h39]
      refine w_if_le (tgt := 30) X dX12_throwAll_4 (by decide) (fun h4 => absurd h4 (nI_ge (a := 0) (b := u + 1) (by omega) (by omega))) (fun h4 => ?_)
      refine w_aload_n X dX12_throwAll_7 rfl rfl ?_
      refine w_aload_n X dX12_throwAll_8 rfl rfl ?_
      refine g12_depth X dX12_throwAll_9 ?_
      rw [h39]
      refine w_iconst (v := 2) X dX12_throwAll_12 (by decide) ?_
      refine w_iload_n X dX12_throwAll_13 rfl rfl ?_
      refine w_v3rV X dX12_throwAll_14 k12_probe rfl rfl (c12_probe G hG _ _ hEN.2.2.1 hEN.2.2.2.1 c hEN.1 hEN.2.1 (u + 1) (by omega) m hm em2 2 (by decide) _) (Nat.le_of_ble_eq_true rfl) (fun N14 h14 => ?_)
      refine w_aload_n X dX12_throwAll_17 rfl rfl ?_
      refine w_dup X dX12_throwAll_18 rfl ?_
      refine g12_depth X dX12_throwAll_19 ?_
      rw [fb_at h14 (by omega), h39]
      refine w_iconst (v := 1) X dX12_throwAll_22 (by decide) ?_
      refine w_isub X dX12_throwAll_23 ?_
      rw [nI_s1]
      refine p12_depth X dX12_throwAll_24 ?_
      refine w_goto (tgt := 0) X dX12_throwAll_27 (by decide) ?_
      exact ih _ (by omega) (frR_tr hN (frR_tr (frR_fb h14) (frR_I (by unfold mR_; omega) (by unfold tR_; omega)))) (by rw [gI_sI, if_pos ⟨rfl, rfl⟩])
  exact lp D M (Nat.le_refl _) frR_rf hD
