/-! the reference's machine: throwUp, leave -/
def uR_ (a i : Nat) : Prop := (a = 0 ∧ (i = 39 ∨ i = 47 ∨ i = 51 ∨ i = 52 ∨ i = 53)) ∨ a = 25 ∨ a = 26
theorem uR_m {a i : Nat} (h : uR_ a i) : mR_ a i := by unfold uR_ at h; unfold mR_; omega
theorem uR_0 {M : mm_} {i : Nat} {v : Int32} (h : i = 39 ∨ i = 47 ∨ i = 51 ∨ i = 52 ∨ i = 53) : frR_ uR_ M (sI_ M 0 i v) := frR_I (by unfold mR_; omega) (by unfold uR_; omega)
theorem uR_25 {M : mm_} {i : Nat} {v : Int32} : frR_ uR_ M (sI_ M 25 i v) := frR_I (by unfold mR_; omega) (by unfold uR_; omega)
theorem uR_26 {M : mm_} {i : Nat} {v : Int32} : frR_ uR_ M (sI_ M 26 i v) := frR_I (by unfold mR_; omega) (by unfold uR_; omega)
/-- the machine has gone on: fewer steps are left -/
def goR_ (c : Nat) (nn : Nat → Nat) (FF : Nat → Nat → Nat × List Nat) (k u : Nat) (N : mm_) : Prop := ∃ L, RS_ c nn FF L k N ∧ muR_ nn L < u
def TL_ (c : Nat) (nn : Nat → Nat) (FF : Nat → Nat → Nat × List Nat) (N : mm_) : List fs4_ → Prop
  | [] => True
  | f :: r => f1R_ c nn FF N f r ∧ FS_ c nn FF N r
theorem TL_FS {c : Nat} {nn : Nat → Nat} {FF : Nat → Nat → Nat × List Nat} {N : mm_} : ∀ {r : List fs4_}, FS_ c nn FF N r → TL_ c nn FF N r
  | [], _ => trivial
  | _ :: _, h => ⟨h.1, h.2.2⟩
set_option maxRecDepth 100000 in
set_option maxHeartbeats 4000000 in
theorem c12_throwUp (G : gg_) (hG : gd_ G) (d : Nat) (M : mm_) (c : Nat) (nn : Nat → Nat) (FF : Nat → Nat → Nat × List Nat) (hE : EV_ c nn FF M) (L : List fs4_) (hL : L.length ≤ 10) (hT : TL_ c nn FF M L) (h39 : M.1 0 39 = nI L.length) (h51 : M.1 0 51 = nI (toR_ FF L)) (k u : Nat) (hk : M.1 0 40 = nI k) (hk2 : k ≤ 1000) (hu0 : 0 < u) (hu : muR_ nn L ≤ u) (v : Int32) : cm_ G yX12_throwUp cX12_throwUp 2 none (d + 4) [.ref (G.1 0), .int v] M (rV_ (fun N => frR_ uR_ M N ∧ goR_ c nn FF k u N)) := by
  refine cm_of hG (by decide) (Nat.le_of_ble_eq_true rfl) (fun C X => ?_)
  have lp : ∀ (L : List fs4_) (N : mm_), L.length ≤ 10 → frR_ uR_ M N → TL_ c nn FF N L → N.1 0 39 = nI L.length → N.1 0 51 = nI (toR_ FF L) → muR_ nn L ≤ u → wq_ C G (qe_ C G (rV_ (fun N => frR_ uR_ M N ∧ goR_ c nn FF k u N))) 0 [some (.ref (G.1 0)), some (.int v)] [] N := by
    intro L
    induction L with
    | nil =>
      intro N hL hN hT h39 h51 hu
      have h40 : N.1 0 40 = nI k := by rw [hN.2.1 0 40 (by unfold pzR_; omega) (by unfold uR_; omega)]; exact hk
      refine w_aload_n X dX12_throwUp_0 rfl rfl ?_
      refine g12_depth X dX12_throwUp_1 ?_
      rw [h39]
      refine w_if_le (tgt := 97) X dX12_throwUp_4 (by decide) (fun h4 => ?_) (fun h4 => absurd (by decide) h4)
      refine w_aload_n X dX12_throwUp_97 rfl rfl ?_
      refine w_iconst (v := 1) X dX12_throwUp_98 (by decide) ?_
      refine p12_threw X dX12_throwUp_99 (by first | exact Or.inl rfl | exact Or.inr rfl | assumption) ?_
      refine w_aload_n X dX12_throwUp_102 rfl rfl ?_
      refine w_iload_n X dX12_throwUp_103 rfl rfl ?_
      refine p12_answer X dX12_throwUp_104 ?_
      refine w_vrR X dX12_throwUp_107 ⟨frR_tr hN (frR_tr (uR_0 (by omega)) (uR_0 (by omega))), [], ⟨?_, by simp, trivial, trivial, ?_, hk2⟩, hu0⟩
      · rw [gI_sI, if_neg (by omega), gI_sI, if_neg (by omega)]; exact h39
      · rw [gI_sI, if_neg (by omega), gI_sI, if_neg (by omega)]; exact h40
    | cons f r ih =>
      intro N hL hN hT h39 h51 hu
      obtain ⟨⟨a1, a2, a3, a4, a5, a6, a7⟩, a9⟩ := hT
      have hEN := EV_fr (frR_mo hN (fun a i => uR_m)) hE
      have h40 : N.1 0 40 = nI k := by rw [hN.2.1 0 40 (by unfold pzR_; omega) (by unfold uR_; omega)]; exact hk
      have hl10 : r.length + 1 ≤ 10 := hL
      have hto := lk_to a7
      have e39 : N.1 0 39 = nI (r.length + 1) := h39
      have hmu : muR_ nn r + (nn f.1 - f.2.1 + 1) ≤ u := hu
      obtain ⟨okF, -⟩ := hEN.2.2.2.2 f.1 a1
      obtain ⟨b1, b2, b3⟩ := okF.2.2.2.2.1 f.2.1 a3
      have t74 : (FF f.1 f.2.1).2 = [] → wq_ C G (qe_ C G (rV_ (fun N => frR_ uR_ M N ∧ goR_ c nn FF k u N))) 74 [some (.ref (G.1 0)), some (.int v)] [] N := by
        intro e0
        have h51r : N.1 0 51 = nI (toR_ FF r) := by rw [h51, ← hto]; show nI (f.2.2.2 + (FF f.1 f.2.1).2.length) = _; rw [e0]; rfl
        refine w_aload_n X dX12_throwUp_74 rfl rfl ?_
        refine w_aload_n X dX12_throwUp_75 rfl rfl ?_
        refine g12_depth X dX12_throwUp_76 ?_
        rw [e39]
        refine w_iconst (v := 2) X dX12_throwUp_79 (by decide) ?_
        refine w_iload_n X dX12_throwUp_80 rfl rfl ?_
        refine w_v3rV X dX12_throwUp_81 k12_probe rfl rfl (c12_probe G hG _ _ hEN.2.2.1 hEN.2.2.2.1 c hEN.1 hEN.2.1 (r.length + 1) (by omega) f.1 a1 a2 2 (by decide) _) (Nat.le_of_ble_eq_true rfl) (fun N81 h81 => ?_)
        refine w_aload_n X dX12_throwUp_84 rfl rfl ?_
        refine w_dup X dX12_throwUp_85 rfl ?_
        refine g12_depth X dX12_throwUp_86 ?_
        rw [fb_at h81 (by omega), e39]
        refine w_iconst (v := 1) X dX12_throwUp_89 (by decide) ?_
        refine w_isub X dX12_throwUp_90 ?_
        rw [nI_s1]
        refine p12_depth X dX12_throwUp_91 ?_
        refine w_goto (tgt := 0) X dX12_throwUp_94 (by decide) ?_
        refine ih _ (by omega) (frR_tr hN (frR_tr (frR_fb h81) (uR_0 (by omega)))) ?_ (by rw [gI_sI, if_pos ⟨rfl, rfl⟩]) (by rw [gI_sI, if_neg (by omega), fb_at h81 (by omega)]; exact h51r) (by omega)
        refine TL_FS (FS_cg r _ (Nat.le_refl _) (FS_fb h81 a9) (fun q _ _ => ⟨by rw [gI_sI, if_neg (by omega)], by rw [gI_sI, if_neg (by omega)]⟩) (fun a k ha _ => by rw [gI_sI, if_neg (by omega)]))
      rcases List.eq_nil_or_concat (FF f.1 f.2.1).2 with e0 | ⟨S, x, e0⟩
      · have h51t : N.1 0 51 = nI f.2.2.2 := by rw [h51]; show nI (f.2.2.2 + (FF f.1 f.2.1).2.length) = _; rw [e0]; rfl
        refine w_aload_n X dX12_throwUp_0 rfl rfl ?_
        refine g12_depth X dX12_throwUp_1 ?_
        rw [e39]
        refine w_if_le (tgt := 97) X dX12_throwUp_4 (by decide) (fun h4 => absurd h4 (nI_ge (a := 0) (b := r.length + 1) (by omega) (by omega))) (fun h4 => ?_)
        refine w_aload_n X dX12_throwUp_7 rfl rfl ?_
        refine g12_tries X dX12_throwUp_8 ?_
        rw [h51t]
        refine w_if_le (tgt := 74) X dX12_throwUp_11 (by decide) (fun h11 => ?_) (fun h11 => ?_)
        · exact t74 e0
        · have ht0 : 0 < f.2.2.2 := Nat.pos_of_ne_zero (fun z => h11 (by rw [z]; decide))
          obtain ⟨q, hq, eq⟩ := FS_29 r a9 (f.2.2.2 - 1) (by rw [← hto]; omega)
          refine w_aload_n X dX12_throwUp_14 rfl rfl ?_
          refine g12_tryDepths X dX12_throwUp_15 ?_
          refine w_aload_n X dX12_throwUp_18 rfl rfl ?_
          refine g12_tries X dX12_throwUp_19 ?_
          rw [h51t]
          refine w_iconst (v := 1) X dX12_throwUp_22 (by decide) ?_
          refine w_isub X dX12_throwUp_23 ?_
          rw [nI_p _ ht0]
          refine w_ialoadN X dX12_throwUp_24 rfl rfl (⟨by omega, by decide⟩) ?_
          rw [eq]
          refine w_aload_n X dX12_throwUp_25 rfl rfl ?_
          refine g12_depth X dX12_throwUp_26 ?_
          rw [e39]
          refine w_icmp_ne (tgt := 74) X dX12_throwUp_29 (by decide) (fun h29 => ?_) (fun h29 => absurd ((nI_eq (a := q) (b := r.length + 1) (by omega) (by omega)).mp h29) (by omega))
          exact t74 e0
      · rw [List.concat_eq_append] at e0
        obtain ⟨c1, c2, c3⟩ := b3 S x e0
        have hsl : S.length + 1 ≤ 20 := by rw [e0] at b2; simpa using b2
        have h51t : N.1 0 51 = nI (f.2.2.2 + S.length + 1) := by rw [h51]; show nI (f.2.2.2 + (FF f.1 f.2.1).2.length) = _; rw [e0]; simp; congr 1
        obtain ⟨d1, d2, d3⟩ := a6 S.length x (by rw [e0]; simp)
        refine w_aload_n X dX12_throwUp_0 rfl rfl ?_
        refine g12_depth X dX12_throwUp_1 ?_
        rw [e39]
        refine w_if_le (tgt := 97) X dX12_throwUp_4 (by decide) (fun h4 => absurd h4 (nI_ge (a := 0) (b := r.length + 1) (by omega) (by omega))) (fun h4 => ?_)
        refine w_aload_n X dX12_throwUp_7 rfl rfl ?_
        refine g12_tries X dX12_throwUp_8 ?_
        rw [h51t]
        refine w_if_le (tgt := 74) X dX12_throwUp_11 (by decide) (fun h11 => absurd h11 (nI_ge (a := 0) (b := f.2.2.2 + S.length + 1) (by omega) (by omega))) (fun h11 => ?_)
        refine w_aload_n X dX12_throwUp_14 rfl rfl ?_
        refine g12_tryDepths X dX12_throwUp_15 ?_
        refine w_aload_n X dX12_throwUp_18 rfl rfl ?_
        refine g12_tries X dX12_throwUp_19 ?_
        rw [h51t]
        refine w_iconst (v := 1) X dX12_throwUp_22 (by decide) ?_
        refine w_isub X dX12_throwUp_23 ?_
        rw [nI_s1]
        refine w_ialoadN X dX12_throwUp_24 rfl rfl (⟨by omega, by decide⟩) ?_
        rw [d3]
        refine w_aload_n X dX12_throwUp_25 rfl rfl ?_
        refine g12_depth X dX12_throwUp_26 ?_
        rw [e39]
        refine w_icmp_ne (tgt := 74) X dX12_throwUp_29 (by decide) (fun h29 => absurd rfl h29) (fun h29 => ?_)
        refine w_aload_n X dX12_throwUp_32 rfl rfl ?_
        refine w_dup X dX12_throwUp_33 rfl ?_
        refine g12_tries X dX12_throwUp_34 ?_
        rw [h51t]
        refine w_iconst (v := 1) X dX12_throwUp_37 (by decide) ?_
        refine w_isub X dX12_throwUp_38 ?_
        rw [nI_s1]
        refine p12_tries X dX12_throwUp_39 ?_
        refine w_aload_n X dX12_throwUp_42 rfl rfl ?_
        refine w_aload_n X dX12_throwUp_43 rfl rfl ?_
        refine g12_tryHeights X dX12_throwUp_44 ?_
        refine w_aload_n X dX12_throwUp_47 rfl rfl ?_
        refine g12_tries X dX12_throwUp_48 ?_
        rw [gI_sI, if_pos ⟨rfl, rfl⟩]
        refine w_ialoadN X dX12_throwUp_51 rfl rfl (⟨by omega, by decide⟩) ?_
        rw [gI_sI, if_neg (by omega), d2]
        refine p12_height X dX12_throwUp_52 ?_
        refine w_aload_n X dX12_throwUp_55 rfl rfl ?_
        refine g12_runPlaces X dX12_throwUp_56 ?_
        refine w_aload_n X dX12_throwUp_59 rfl rfl ?_
        refine g12_depth X dX12_throwUp_60 ?_
        rw [gI_sI, if_neg (by omega), gI_sI, if_neg (by omega), e39]
        refine w_aload_n X dX12_throwUp_63 rfl rfl ?_
        refine g12_tryPlaces X dX12_throwUp_64 ?_
        refine w_aload_n X dX12_throwUp_67 rfl rfl ?_
        refine g12_tries X dX12_throwUp_68 ?_
        rw [gI_sI, if_neg (by omega), gI_sI, if_pos ⟨rfl, rfl⟩]
        refine w_ialoadN X dX12_throwUp_71 rfl rfl (⟨by omega, by decide⟩) ?_
        rw [gI_sI, if_neg (by omega), gI_sI, if_neg (by omega), d1]
        refine w_iastoreN X dX12_throwUp_72 rfl rfl (⟨by omega, by decide⟩) ?_
        refine w_vrR X dX12_throwUp_73 ⟨frR_tr hN (frR_tr (frR_tr (uR_0 (by omega)) (uR_0 (by omega))) uR_25), (f.1, x, f.2.2.1, f.2.2.2) :: r, ⟨?_, hL, ⟨⟨a1, ?_, c2, a4, a5, fun k2 y hy => ?_, a7⟩, ?_, ?_⟩, ⟨?_, ?_⟩, ?_, hk2⟩, ?_⟩
        · rw [gI_sI, if_neg (by omega), gI_sI, if_neg (by omega), gI_sI, if_neg (by omega)]; exact e39
        · rw [gI_sI, if_neg (by omega), gI_sI, if_neg (by omega), gI_sI, if_neg (by omega)]; exact a2
        · have hy2 : S[k2]? = some y := by rw [← c3]; exact hy
          have := a6 k2 y (by rw [e0, List.getElem?_append_left (List.getElem?_eq_some_iff.mp hy2).1]; exact hy2)
          simp only [gI_sI]
          rw [if_neg (by omega), if_neg (by omega), if_neg (by omega), if_neg (by omega), if_neg (by omega), if_neg (by omega), if_neg (by omega), if_neg (by omega), if_neg (by omega)]
          exact this
        · rw [gI_sI, if_pos ⟨rfl, rfl⟩]
        · exact FS_cg r _ (Nat.le_refl _) a9 (fun q _ hq => ⟨by rw [gI_sI, if_neg (by omega), gI_sI, if_neg (by omega), gI_sI, if_neg (by omega)], by rw [gI_sI, if_neg (by omega), gI_sI, if_neg (by omega), gI_sI, if_neg (by omega)]⟩) (fun a k ha _ => by rw [gI_sI, if_neg (by omega), gI_sI, if_neg (by omega), gI_sI, if_neg (by omega)])
        · rw [gI_sI, if_neg (by omega), gI_sI, if_pos ⟨rfl, rfl⟩]
        · rw [gI_sI, if_neg (by omega), gI_sI, if_neg (by omega), gI_sI, if_pos ⟨rfl, rfl⟩]; show _ = nI (f.2.2.2 + (FF f.1 x).2.length); rw [c3]
        · rw [gI_sI, if_neg (by omega), gI_sI, if_neg (by omega), gI_sI, if_neg (by omega)]; exact h40
        · show muR_ nn r + (nn f.1 - x + 1) < u; omega
  exact lp L M hL frR_rf hT h39 h51 hu
set_option maxRecDepth 100000 in
set_option maxHeartbeats 4000000 in
theorem c12_leave (G : gg_) (hG : gd_ G) (d : Nat) (M : mm_) (c : Nat) (nn : Nat → Nat) (FF : Nat → Nat → Nat × List Nat) (hE : EV_ c nn FF M) (f : fs4_) (r : List fs4_) (k : Nat) (hR : RS_ c nn FF (f :: r) k M) (hp : f.2.1 = nn f.1) : cm_ G yX12_leave cX12_leave 2 none (d + 4) [.ref (G.1 0)] M (rV_ (fun N => frR_ uR_ M N ∧ goR_ c nn FF k (muR_ nn (f :: r)) N)) := by
  refine cm_of hG (by decide) (Nat.le_of_ble_eq_true rfl) (fun C X => ?_)
  obtain ⟨h39, hl, ⟨⟨a1, a2, a3, a4, a5, a6, a7⟩, a8, a9⟩, ⟨h47, h51⟩, h40, hk2⟩ := hR
  have hl10 : r.length + 1 ≤ 10 := hl
  have e39 : M.1 0 39 = nI (r.length + 1) := h39
  obtain ⟨okF, -⟩ := hE.2.2.2.2 f.1 a1
  have hFn : FF f.1 f.2.1 = (1, []) := by rw [hp]; exact okF.2.2.2.1
  rw [hFn] at h47 h51
  have e47 : M.1 0 47 = nI (f.2.2.1 + 1) := h47
  have e51 : M.1 0 51 = nI (toR_ FF r) := by rw [h51, ← lk_to a7]; rfl
  have hEN := EV_fr (frR_mo (uR_0 (M := M) (i := 47) (v := nI f.2.2.1) (by omega)) (fun a i => uR_m)) hE
  have hmu : muR_ nn r < muR_ nn (f :: r) := by show muR_ nn r < muR_ nn r + (nn f.1 - f.2.1 + 1); omega
  refine w_aload_n X dX12_leave_0 rfl rfl ?_
  refine g12_stack X dX12_leave_1 ?_
  refine w_aload_n X dX12_leave_4 rfl rfl ?_
  refine g12_height X dX12_leave_5 ?_
  rw [e47]
  refine w_iconst (v := 1) X dX12_leave_8 (by decide) ?_
  refine w_isub X dX12_leave_9 ?_
  rw [nI_s1]
  refine w_ialoadN X dX12_leave_10 rfl rfl (⟨by omega, by decide⟩) ?_
  refine w_istore_n X dX12_leave_11 rfl (by decide) ?_
  refine w_aload_n X dX12_leave_12 rfl rfl ?_
  refine w_dup X dX12_leave_13 rfl ?_
  refine g12_height X dX12_leave_14 ?_
  rw [e47]
  refine w_iconst (v := 1) X dX12_leave_17 (by decide) ?_
  refine w_isub X dX12_leave_18 ?_
  rw [nI_s1]
  refine p12_height X dX12_leave_19 ?_
  refine w_aload_n X dX12_leave_22 rfl rfl ?_
  refine w_aload_n X dX12_leave_23 rfl rfl ?_
  refine g12_depth X dX12_leave_24 ?_
  rw [gI_sI, if_neg (by omega), e39]
  refine w_iconst (v := 1) X dX12_leave_27 (by decide) ?_
  refine w_iload_n X dX12_leave_28 rfl rfl ?_
  refine w_v3rV X dX12_leave_29 k12_probe rfl rfl (c12_probe G hG _ _ hEN.2.2.1 hEN.2.2.2.1 c hEN.1 hEN.2.1 (r.length + 1) (by omega) f.1 a1 (by rw [gI_sI, if_neg (by omega)]; exact a2) 1 (by decide) _) (Nat.le_of_ble_eq_true rfl) (fun N29 h29 => ?_)
  refine w_aload_n X dX12_leave_32 rfl rfl ?_
  refine w_dup X dX12_leave_33 rfl ?_
  refine g12_depth X dX12_leave_34 ?_
  rw [fb_at h29 (by omega), gI_sI, if_neg (by omega), e39]
  refine w_iconst (v := 1) X dX12_leave_37 (by decide) ?_
  refine w_isub X dX12_leave_38 ?_
  rw [nI_s1]
  refine p12_depth X dX12_leave_39 ?_
  refine w_aload_n X dX12_leave_42 rfl rfl ?_
  refine g12_depth X dX12_leave_43 ?_
  rw [gI_sI, if_pos ⟨rfl, rfl⟩]
  refine w_if_ne (tgt := 62) X dX12_leave_46 (by decide) (fun h46 => ?_) (fun h46 => ?_)
  · refine w_aload_n X dX12_leave_62 rfl rfl ?_
    refine w_iload_n X dX12_leave_63 rfl rfl ?_
    refine w_v1fV X dX12_leave_64 k12_push rfl rfl (c12_push G hG _ _ f.2.2.1 (by rw [gI_sI, if_neg (by omega), fb_at h29 (by omega), gI_sI, if_pos ⟨rfl, rfl⟩]) (by omega) _) (Nat.le_of_ble_eq_true rfl) ?_
    refine w_vrR X dX12_leave_67 ⟨frR_tr (uR_0 (by omega)) (frR_tr (frR_fb h29) (frR_tr (uR_0 (by omega)) (frR_tr uR_26 (uR_0 (by omega))))), r, ⟨?_, by omega, ?_, ?_, ?_, hk2⟩, hmu⟩
    · unfold ps_; rw [gI_sI, if_neg (by omega), gI_sI, if_neg (by omega), gI_sI, if_pos ⟨rfl, rfl⟩]
    · exact FS_cg r _ (Nat.le_refl _) (FS_fb h29 (FS_cg r _ (Nat.le_refl _) a9 (fun q _ _ => ⟨by rw [gI_sI, if_neg (by omega)], by rw [gI_sI, if_neg (by omega)]⟩) (fun a k ha _ => by rw [gI_sI, if_neg (by omega)]))) (fun q _ _ => ⟨by unfold ps_; rw [gI_sI, if_neg (by omega), gI_sI, if_neg (by omega), gI_sI, if_neg (by omega)], by unfold ps_; rw [gI_sI, if_neg (by omega), gI_sI, if_neg (by omega), gI_sI, if_neg (by omega)]⟩) (fun a k ha _ => by unfold ps_; rw [gI_sI, if_neg (by omega), gI_sI, if_neg (by omega), gI_sI, if_neg (by omega)])
    · cases r with
      | nil => trivial
      | cons g r2 =>
        refine ⟨?_, ?_⟩
        · unfold ps_; rw [gI_sI, if_pos ⟨rfl, rfl⟩, a7.1]
        · unfold ps_; rw [gI_sI, if_neg (by omega), gI_sI, if_neg (by omega), gI_sI, if_neg (by omega), fb_at h29 (by omega), gI_sI, if_neg (by omega)]; exact e51
    · unfold ps_; rw [gI_sI, if_neg (by omega), gI_sI, if_neg (by omega), gI_sI, if_neg (by omega), fb_at h29 (by omega), gI_sI, if_neg (by omega)]; exact h40
  · refine w_aload_n X dX12_leave_49 rfl rfl ?_
    refine w_iconst (v := 0) X dX12_leave_50 (by decide) ?_
    refine p12_threw X dX12_leave_51 (by first | exact Or.inl rfl | exact Or.inr rfl | assumption) ?_
    refine w_aload_n X dX12_leave_54 rfl rfl ?_
    refine w_iload_n X dX12_leave_55 rfl rfl ?_
    refine p12_answer X dX12_leave_56 ?_
    refine w_goto (tgt := 67) X dX12_leave_59 (by decide) ?_
    have hr : r = [] := List.eq_nil_of_length_eq_zero ((nI_z (by omega)).mp h46)
    subst hr
    refine w_vrR X dX12_leave_67 ⟨frR_tr (uR_0 (by omega)) (frR_tr (frR_fb h29) (frR_tr (uR_0 (by omega)) (frR_tr (uR_0 (by omega)) (uR_0 (by omega))))), [], ⟨?_, by simp, trivial, trivial, ?_, hk2⟩, hmu⟩
    · rw [gI_sI, if_neg (by omega), gI_sI, if_neg (by omega), gI_sI, if_pos ⟨rfl, rfl⟩]
    · rw [gI_sI, if_neg (by omega), gI_sI, if_neg (by omega), gI_sI, if_neg (by omega), fb_at h29 (by omega), gI_sI, if_neg (by omega)]; exact h40
