/-! what was kept are methods that are there -/
def KpA_ (c : Nat) (s : sgA_) : Prop := ∀ i, i < s.2.2.2.2.1.1 → ∃ m, m < c ∧ s.2.2.2.2.1.2 (7 * i + 1) = nI m
theorem rc_kp {E : se_} {j m d : Nat} {x e : Int32} {s : sgA_} : (rcA_ E j m d x e s).2.2.2.2.1 = s.2.2.2.2.1 := by
  have h : ∀ s2 : sgA_, s2 = (if s.2.1 j + 1 < E.2.2.2.2.1 j then sM_ s j (s.2.1 j + 1) else sK_ (sM_ s j (s.2.1 j + 1)) j 0) → s2.2.2.2.2.1 = s.2.2.2.2.1 := by
    intro s2 e2
    split at e2
    · rw [e2]; rfl
    · rw [e2]; rfl
  unfold rcA_
  have h2 := h _ rfl
  generalize (if s.2.1 j + 1 < E.2.2.2.2.1 j then sM_ s j (s.2.1 j + 1) else sK_ (sM_ s j (s.2.1 j + 1)) j 0) = q at h2 ⊢
  unfold sR5_
  split
  · exact h2
  · exact h2
theorem wg_kp {E : se_} {j m d : Nat} {V : Nat → Int32} {s : sgA_} : (wgA_ E j m d V s).2.2.2.2.1 = s.2.2.2.2.1 := by
  unfold wgA_
  split <;> exact rc_kp
theorem wt_kp {E : se_} {j m d : Nat} {V : Nat → Int32} {s : sgA_} : (wtA_ E j m d V s).2.2.2.2.1 = s.2.2.2.2.1 := by
  unfold wtA_
  split
  · exact wg_kp
  · split
    · split
      · rfl
      · exact wg_kp
    · exact rc_kp
theorem Kp_cg {c : Nat} {s s2 : sgA_} (h : s2.2.2.2.2.1 = s.2.2.2.2.1) (g : KpA_ c s) : KpA_ c s2 := fun i hi => by
  rw [h] at hi ⊢
  exact g i hi
theorem Kp_E7 {c j m p : Nat} {P : Nat → Int32} {v : Int32} {s : sgA_} (hm : m < c) (g : KpA_ c s) : KpA_ c (kpA_ j m p P v s) := by
  unfold kpA_ sE7_
  split
  · exact g
  · split
    · intro i hi
      have hi : i < s.2.2.2.2.1.1 + 1 := hi
      show ∃ m2, m2 < c ∧ rw5_ s.2.2.2.2.1.2 s.2.2.2.2.1.1 7 (fun i => if i = 0 then nI j else if i = 1 then nI m else if i < 5 then P (i - 2) else if i = 5 then (if p = 2 then 1 else 0) else v) (7 * i + 1) = nI m2
      unfold rw5_
      by_cases e : i = s.2.2.2.2.1.1
      · rw [if_pos (by omega), show 7 * i + 1 - s.2.2.2.2.1.1 * 7 = 1 by omega]
        exact ⟨m, hm, rfl⟩
      · rw [if_neg (by omega)]
        exact g i (by omega)
    · exact g
theorem Kp_pj {E : se_} {c : Nat} (hf : ∀ j m, E.2.2.2.2.2.2.2.1 j m = true → m < c) (m p d : Nat) (P : Nat → Int32) (v : Int32) (j : Nat) (s : sgA_) (g : KpA_ c s) : KpA_ c (pjA_ E m p d P v j s) := by
  unfold pjA_
  split
  · exact g
  · rename_i h
    have hm : m < c := hf j m (by
      cases hb : E.2.2.2.2.2.2.2.1 j m with
      | true => rfl
      | false => exact absurd (Or.inr hb) h)
    split
    · exact Kp_cg rfl g
    split
    · exact Kp_E7 hm g
    split
    · exact Kp_cg wt_kp g
    · exact g
theorem Kp_in {E : se_} {c : Nat} (hf : ∀ j m, E.2.2.2.2.2.2.2.1 j m = true → m < c) (hw : ∀ m, m < E.1 → wfX_ true (E.2.2.1 m)) {m : Nat} {P : Nat → Int32} {s : sgA_} (hm : m < E.1) (g : KpA_ c s) : KpA_ c (inA_ E 10 m P s).2 :=
  in_R (R := fun s s2 => KpA_ c s → KpA_ c s2) (fun _ h => h) (fun _ _ _ h1 h2 h => h2 (h1 h)) (fun m p d P v j s => Kp_pj hf m p d P v j s) (fun _ h => h) hw 10 m P s hm g
/-! the invariant between calls -/
def KPc_ (c : Nat) (M : mm_) : Prop := ∃ b, b ≤ 40 ∧ M.1 245 3 = nI b ∧ ∀ i, i < b → ∃ m, m < c ∧ M.1 246 (7 * i + 1) = nI m
theorem KPc_DX {c : Nat} {J : Nat → Nat} {s : sgA_} {N : mm_} (h : DX_ J s N) (g : KpA_ c s) : KPc_ c N := by
  obtain ⟨-, -, ⟨-, -, b3, b4, b5⟩, -, -⟩ := h
  refine ⟨_, b4, b3, fun i hi => ?_⟩
  obtain ⟨m, h1, h2⟩ := g i hi
  exact ⟨m, h1, by rw [b5 _ (by omega)]; exact h2⟩
theorem Kp_DX {c : Nat} {J : Nat → Nat} {s : sgA_} {N : mm_} (h : DX_ J s N) (g : KPc_ c N) : KpA_ c s := by
  obtain ⟨-, -, ⟨-, -, b3, b4, b5⟩, -, -⟩ := h
  obtain ⟨b, h1, h2, h3⟩ := g
  have e : b = s.2.2.2.2.1.1 := (nI_eq (by omega) (by omega)).mp (h2.symm.trans b3)
  subst e
  intro i hi
  obtain ⟨m, k1, k2⟩ := h3 i hi
  exact ⟨m, k1, by rw [← b5 _ (by omega)]; exact k2⟩
theorem KPc_cg {c : Nat} {M N : mm_} (h : tlK_ M N) (g : KPc_ c M) : KPc_ c N := by
  obtain ⟨b, h1, h2, h3⟩ := g
  refine ⟨b, h1, by rw [h 245 3 (by unfold tlc_; omega)]; exact h2, fun i hi => ?_⟩
  rw [h 246 _ (by unfold tlc_; omega)]
  exact h3 i hi
theorem KPc_up {c c2 : Nat} {M : mm_} (h : c ≤ c2) (g : KPc_ c M) : KPc_ c2 M := by
  obtain ⟨b, h1, h2, h3⟩ := g
  refine ⟨b, h1, h2, fun i hi => ?_⟩
  obtain ⟨m, k1, k2⟩ := h3 i hi
  exact ⟨m, by omega, k2⟩
def SV_q (J : Nat → Nat) (S : Nat) (M : mm_) : Prop := mb2_ M ∧ vq_ M ∧ jq_ M J S ∧ jdX_ J S
theorem SV_cg {J : Nat → Nat} {S : Nat} {M N : mm_} (h : N.2.2 = M.2.2) (g : SV_q J S M) : SV_q J S N := by
  unfold SV_q mb2_ vq_ jq_ at g ⊢
  rw [h]
  exact g
/-- all but tape and methods -/
def IVr_ (c : Nat) (J : Nat → Nat) (S : Nat) (M : mm_) : Prop := SV_q J S M ∧ JT_ J c M ∧ HB_ J c M ∧ TLq_ M ∧ KPc_ c M ∧ zoX_ (M.1 247 10)
def IVc_ (n c : Nat) (J : Nat → Nat) (S : Nat) (M : mm_) : Prop := TC_ n c M ∧ IVr_ c J S M
def IV_ (M : mm_) : Prop := ∃ n c J S, IVc_ n c J S M
/-- jobs where nothing of them has changed -/
theorem JT_same {J : Nat → Nat} {c : Nat} {M N : mm_} (hT : JT_ J c M) (hB : HB_ J c M) (hK : ∀ m, m < c → ∃ K p, NK_ K (M.2.1 5 m) p) (h5 : ∀ m, m < c → N.2.1 5 m = M.2.1 5 m) (hx : ∀ j, j < 8 → jKf_ (135 + 12 * J j) M N) (hr : ∀ j, j < 8 → jKr_ j M N) : JT_ J c N ∧ HB_ J c N := JT_sub hT hB hK h5 (fun j hj => by
  by_cases q : M.1 12 j = 0
  · refine Or.inl ⟨?_, ?_⟩
    · rw [(hx j hj _ 0 (by omega) (by omega)).1, (hT.1 j hj).1, q]
    · rw [(hr j hj).1 12 j (by unfold jcQ_; omega), q]
  · exact Or.inr (Or.inl ⟨q, rfl, jKf_x (hx j hj), (hx j hj _ 9 (by omega) (by omega)).1, hr j hj⟩))
theorem TC_NK {n c : Nat} {M : mm_} (h : TC_ n c M) : ∀ m, m < c → ∃ K p, NK_ K (M.2.1 5 m) p := fun m hm => ⟨_, _, (h.2.2.2.2.2 m hm).1⟩
theorem IVr_cg {n c S : Nat} {J : Nat → Nat} {M N : mm_} (ht : TC_ n c M) (h1 : ∀ a i, 2 ≤ a → ¬ a = 35 → ¬ a = 36 → N.1 a i = M.1 a i) (h2 : ∀ i, 3 ≤ i → N.1 0 i = M.1 0 i) (h3 : ∀ a i, ¬ a = 262 → N.2.1 a i = M.2.1 a i) (h4 : N.2.2 = M.2.2) (g : IVr_ c J S M) : IVr_ c J S N := by
  obtain ⟨g1, g2, g3, g4, g5, g6⟩ := g
  have hJ : ∀ j, j < 8 → J j < 9 := fun j hj => (g1.2.2.1.1 j hj).1
  have tl : tlK_ M N := fun a i z => by
    unfold tlc_ at z
    by_cases q : a = 0
    · subst q; exact h2 i (by omega)
    · exact h1 a i (by omega) (by omega) (by omega)
  obtain ⟨s1, s2⟩ := JT_same g2 g3 (TC_NK ht) (fun m _ => h3 5 m (by omega)) (fun j hj a i z1 z2 => by
    have := hJ j hj
    exact ⟨h1 a i (by omega) (by omega) (by omega), h3 a i (by omega)⟩) (fun j hj => ⟨fun a i z => by
    unfold jcQ_ at z
    exact h1 a i (by omega) (by omega) (by omega), fun i _ _ => h3 3 i (by omega)⟩)
  exact ⟨SV_cg h4 g1, s1, s2, TL_cg tl g4, KPc_cg tl g5, by rw [h1 247 10 (by omega) (by omega) (by omega)]; exact g6⟩
