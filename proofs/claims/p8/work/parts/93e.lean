/-! kinds 1 and 2 -/
theorem lw_1 : lw9_ 1 = 1 := rfl
theorem lw_2 : lw9_ 2 = 3 := rfl
theorem si_35 {k nd op : Nat} {F W : List fr_} {e : Term} (hF : lv_all 1 F) (hW : tp9_ 1 W) : si_ 35 k (F ++ W) e nd op = if nd = 20 then .inr (3, k) else .inl (k + 1, (1, 0, CL_ F e, .null, 0) :: W, none, nd + 1, op) := by
  unfold si_
  rw [if_pos rfl]
  unfold ha_
  rw [rt_all hF hW]
theorem si_63 {k nd op : Nat} {F W : List fr_} {e : Term} (hF : lv_all 3 F) (hW : tp9_ 3 W) : si_ 63 k (F ++ W) e nd op = if nd = 20 then .inr (3, k) else .inl (k + 1, (7, 0, CL_ F e, .null, 0) :: W, none, nd + 1, op) := by
  unfold si_
  rw [if_neg (by decide), if_pos rfl]
  unfold qu_
  rw [rt_all hF hW]
theorem si_58 {k nd op : Nat} {F W : List fr_} {g : fr_} {e : Term} (hF : lv_all 1 F) (hg : g.1 = 7) : si_ 58 k (F ++ g :: W) e nd op = .inl (k + 1, (2, 0, g.2.2.1, CL_ F e, 0) :: W, none, nd, op) := by
  unfold si_
  rw [if_neg (by decide), if_neg (by decide), if_pos rfl]
  unfold cl_
  rw [rt_all hF (show tp9_ 1 (g :: W) from ⟨by omega, by omega⟩)]
  simp only
  rw [if_pos hg]
theorem si_44 {k nd op : Nat} {F W : List fr_} {g : fr_} {e : Term} (hF : lv_all 1 F) (hg : g.1 = 8) : si_ 44 k (F ++ g :: W) e nd op = .inl (k + 1, (8, g.2.1, sa_ g.2.2.1 (CL_ F e), g.2.2.2.1, g.2.2.2.2) :: W, none, nd, op) := by
  unfold si_
  rw [if_neg (by decide), if_neg (by decide), if_neg (by decide), if_neg (by decide), if_neg (by decide), if_neg (by decide), if_pos rfl]
  unfold cm2_
  rw [rt_all hF (show tp9_ 1 (g :: W) from ⟨by omega, by omega⟩)]
  simp only
  rw [if_pos hg]
theorem si_41 {k nd op : Nat} {F W : List fr_} {g : fr_} {e : Term} (hF : lv_all 1 F) (hg : g.1 = 0 ∨ g.1 = 8) : si_ 41 k (F ++ g :: W) e nd op = .inl (k + 1, W, some (if g.1 = 0 then CL_ F e else .sub (.long g.2.2.2.2) (sa_ g.2.2.1 (CL_ F e))), nd, op - 1) := by
  unfold si_
  rw [if_neg (by decide), if_neg (by decide), if_neg (by decide), if_neg (by decide), if_neg (by decide), if_neg (by decide), if_neg (by decide), if_pos rfl]
  unfold cz_
  rw [rt_all hF (show tp9_ 1 (g :: W) from ⟨by omega, by omega⟩)]
  simp only
  rcases hg with z | z
  · rw [if_pos z, if_pos z]
  · rw [if_neg (by omega), if_pos z, if_neg (by omega)]
theorem ti1s {T : Int32 → Int32} {M : mm_} {n : Nat} {P : pf2_} {t : Nat} (h : TF_ T (bf_ M n) n) (hP : TI_ M n P t) {k m o : Nat} {W F : List fr_} {e e2 : Term} (hk : k ≤ n) (hm : m ≤ 20) (ho : o ≤ 12) (ht : 9 * (20 - m) + 9 * (12 - o) + 1 ≤ t + 1) (hW : tp9_ 1 W) (hF : lv_all 1 F) (hc : CL_ F e2 = tm_ e) (hM : MU_ 2 (bf_ M n k) F) : RD_ M n 1 W k m o (k, F ++ W, some e2, m, o) (z1_ P T (some e) k m o) := by
  unfold z1_
  simp only
  rw [TF_t h (by omega)]
  have hf2 : fw9_ 2 = 6 := by decide
  by_cases hq : bf_ M n k = 35
  · rw [if_pos hq]
    have he : ¬ en_d M n k := en_no hq (by decide)
    have hkn : k < n := TF_lt h hq (by decide)
    have hsi := si_35 (k := k) (nd := m) (op := o) (e := e2) hF hW
    rw [← hq] at hsi
    by_cases hm2 : m < 20
    · rw [if_pos hm2]
      rw [if_neg (by omega)] at hsi
      have e1 := FX_si hk he hsi
      have i := hP.1 2 (k + 1) (m + 1) o ((1, 0, CL_ F e2, .null, 0) :: W) (by omega) (by omega) (by omega) (by omega) ho (by omega) (fun _ => ⟨Or.inl (by simp [lw9_]), by simp⟩) (HW_o (by simp)) (fun z => by omega)
      cases hp : P 2 none (k + 1) (m + 1) o with
      | none => rw [hp] at i; exact RD_none (BD_eq e1 i)
      | some r =>
        rw [hp] at i
        obtain ⟨a1, a2, a3, a4, F2, e3, b1, b2, b3, b4⟩ := i
        simp only at a1 a2 a3 a4 b2 b3 b4 ⊢
        have e4 : FX_ M n (k, F ++ W, some e2, m, o) = FX_ M n (r.2.1, (F2 ++ [(1, 0, CL_ F e2, .null, 0)]) ++ W, some e3, r.2.2, o) := by
          rw [e1, b3, List.append_assoc]; rfl
        have e5 : CL_ (F2 ++ [(1, 0, CL_ F e2, .null, 0)]) e3 = tm_ (.rem e r.1) := by
          rw [CL_snoc, b2, hc]; rfl
        refine RD_eq e4 (by omega) (by omega) (hP.2.1 1 _ _ _ _ W _ e3 (by omega) a1 a4 ho (by omega) hW (by rw [if_neg (by decide)]; exact lv_app (lv_mono b1 (by omega)) (lv_1 (by simp) (by simp))) e5 ?_)
        exact ⟨b4.1, b4.2.1, fun z1 z2 => CMP_app (b4.2.2.1 z1 z2), b4.2.2.2.1, b4.2.2.2.2⟩
    · rw [if_neg hm2]
      rw [if_pos (by omega)] at hsi
      exact BD_some hk he hsi
  · rw [if_neg hq]
    exact ⟨hk, Nat.le_refl _, Nat.le_refl _, hm, F, e2, hF, hc, rfl, fun _ => hM.1 (by omega), fun _ => hM.2.1 (by omega), fun _ => hM.2.2.1 (by omega), fun _ => hM.2.2.2.1 (by omega), fun _ => hq⟩
theorem ti1n {T : Int32 → Int32} {M : mm_} {n : Nat} {P : pf2_} {t : Nat} (hP : TI_ M n P t) {k m o : Nat} {W : List fr_} (hk : k ≤ n) (hm : m ≤ 20) (ho : o ≤ 12) (ht : 9 * (20 - m) + 9 * (12 - o) + fw9_ 1 ≤ t + 1) (hW : tp9_ 1 W) (hw : HW_ (bf_ M n) k W) : RD_ M n 1 W k m o (k, W, none, m, o) (z1_ P T none k m o) := by
  have hf1 : fw9_ 1 = 7 := by decide
  have hf2 : fw9_ 2 = 6 := by decide
  unfold z1_
  simp only
  have i := hP.1 2 k m o W (by omega) (by omega) hk hm ho (by omega) (fun z => tp9_m hW (by decide) (by decide)) hw (fun z => by omega)
  cases hp : P 2 none k m o with
  | none => rw [hp] at i; exact i
  | some r =>
    rw [hp] at i
    obtain ⟨a1, a2, a3, a4, F, e2, b1, b2, b3, b4⟩ := i
    simp only at a1 a2 a3 a4 b2 b3 b4 ⊢
    exact RD_eq b3 a2 a3 (hP.2.1 1 _ _ _ _ W F e2 (by omega) a1 a4 ho (by omega) hW (by rw [if_neg (by decide)]; exact lv_mono b1 (by omega)) b2 b4)
theorem ti2 {T : Int32 → Int32} {M : mm_} {n : Nat} {P : pf2_} {t : Nat} (h : TF_ T (bf_ M n) n) (hP : TI_ M n P t) {k m o : Nat} {W : List fr_} (hk : k ≤ n) (hm : m ≤ 20) (ho : o ≤ 12) (ht : 9 * (20 - m) + 9 * (12 - o) + fw9_ 2 ≤ t + 1) (hW : tp9_ 3 W) (hw : HW_ (bf_ M n) k W) : RD_ M n 2 W k m o (k, W, none, m, o) (z2_ P T k m o) := by
  have hf1 : fw9_ 1 = 7 := by decide
  have hf2 : fw9_ 2 = 6 := by decide
  have hf3 : fw9_ 3 = 5 := by decide
  unfold z2_
  have i := hP.1 3 k m o W (by omega) (by omega) hk hm ho (by omega) (fun z => hW) hw (fun z => by omega)
  cases hp : P 3 none k m o with
  | none => rw [hp] at i; exact i
  | some a =>
    rw [hp] at i
    obtain ⟨a1, a2, a3, a4, F, e2, b1, b2, b3, b4⟩ := i
    simp only at a1 a2 a3 a4 b2 b3 b4 ⊢
    rw [TF_t h (by omega)]
    by_cases hq : bf_ M n a.2.1 = 63
    · rw [if_pos hq]
      have he : ¬ en_d M n a.2.1 := en_no hq (by decide)
      have hkn : a.2.1 < n := TF_lt h hq (by decide)
      have hsi := si_63 (k := a.2.1) (nd := a.2.2) (op := o) (e := e2) b1 hW
      rw [← hq] at hsi
      by_cases hm2 : a.2.2 < 20
      · rw [if_pos hm2]
        rw [if_neg (by omega)] at hsi
        have e1 := b3.trans (FX_si a1 he hsi)
        have i := hP.1 1 (a.2.1 + 1) (a.2.2 + 1) o ((7, 0, CL_ F e2, .null, 0) :: W) (by omega) (by omega) (by omega) (by omega) ho (by omega) (fun _ => ⟨Or.inr (by simp), by simp⟩) (HW_o (by simp)) (fun z => by omega)
        cases hp1 : P 1 none (a.2.1 + 1) (a.2.2 + 1) o with
        | none => rw [hp1] at i; exact RD_none (BD_eq e1 i)
        | some r =>
          rw [hp1] at i
          obtain ⟨c1, c2, c3, c4, F1, e3, d1, d2, d3, d4⟩ := i
          simp only at c1 c2 c3 c4 d2 d3 d4 ⊢
          rw [TF_t h (by omega)]
          by_cases hq2 : bf_ M n r.2.1 = 58
          · rw [if_pos hq2]
            have he2 : ¬ en_d M n r.2.1 := en_no hq2 (by decide)
            have hkn2 : r.2.1 < n := TF_lt h hq2 (by decide)
            have hsi2 := si_58 (k := r.2.1) (nd := r.2.2) (op := o) (e := e3) (W := W) (g := (7, 0, CL_ F e2, .null, 0)) d1 rfl
            rw [← hq2] at hsi2
            have e4 := (e1.trans d3).trans (FX_si c1 he2 hsi2)
            have i := hP.1 2 (r.2.1 + 1) r.2.2 o ((2, 0, CL_ F e2, CL_ F1 e3, 0) :: W) (by omega) (by omega) (by omega) c4 ho (by omega) (fun _ => ⟨Or.inl (by simp [lw9_]), by simp⟩) (HW_o (by simp)) (fun z => by omega)
            cases hp2 : P 2 none (r.2.1 + 1) r.2.2 o with
            | none => rw [hp2] at i; exact RD_none (BD_eq e4 i)
            | some x =>
              rw [hp2] at i
              obtain ⟨g1, g2, g3, g4, F2, e5, h1, h2, h3, h4⟩ := i
              simp only at g1 g2 g3 g4 h2 h3 h4 ⊢
              refine ⟨g1, by simp only; omega, by simp only; omega, g4, F2 ++ [(2, 0, CL_ F e2, CL_ F1 e3, 0)], e5, lv_app h1 (lv_1 (by simp) (by simp)), ?_, ?_, ?_⟩
              · rw [CL_snoc, h2, b2, d2]; rfl
              · rw [e4, h3, List.append_assoc]; rfl
              · exact ⟨h4.1, h4.2.1, fun z1 z2 => CMP_app (h4.2.2.1 z1 z2), h4.2.2.2.1, h4.2.2.2.2⟩
          · rw [if_neg hq2]
            exact RD_none (BD_eq (e1.trans d3) (BD_stuck c1 d1 d4 (by simp) (Or.inr (Or.inl rfl)) (fun z => absurd z hq2) (fun _ => by simp [tp6_]) (fun _ => rfl)))
      · rw [if_neg hm2]
        rw [if_pos (by omega)] at hsi
        exact RD_none (BD_eq b3 (BD_some a1 he hsi))
    · rw [if_neg hq]
      exact ⟨a1, a2, a3, a4, F, e2, lv_mono b1 (by omega), b2, b3, fun _ => b4.1 (by omega), fun _ => b4.2.1 (by omega), fun _ => b4.2.2.1 (by omega), fun _ => hq, fun z => by omega⟩
/-! arguments -/
theorem ti8 {T : Int32 → Int32} {M : mm_} {n : Nat} {P : pf2_} {t : Nat} (h : TF_ T (bf_ M n) n) (hP : TI_ M n P t) {k m o : Nat} {W : List fr_} (hk : k ≤ n) (hm : m ≤ 20) (ho : o ≤ 12) (ht : 9 * (20 - m) + 9 * (12 - o) + 8 ≤ t + 1) (hW : cw9_ W) (hw : ¬ bf_ M n k = 41) : RD8_ M n W k m o (k, W, none, m, o) (z8_ P T k m o) := by
  have hf1 : fw9_ 1 = 7 := by decide
  cases W with
  | nil => exact absurd hW id
  | cons g V =>
  obtain ⟨g8, gn⟩ : g.1 = 8 ∧ g.2.2.1 = .null := hW
  have tpg : ∀ (c : Int32) (x y : Term) (w : Int64), tp9_ (lw9_ 1) (((8, c, x, y, w) : fr_) :: V) := fun c x y w => ⟨Or.inr (by simp), by simp⟩
  have hg : tp9_ (lw9_ 1) (g :: V) := ⟨Or.inr (by omega), by omega⟩
  unfold z8_
  have i := hP.1 1 k m o (g :: V) (by omega) (by omega) hk hm ho (by omega) (fun z => hg) ⟨by show (decide (g.1 = 8) && decide (ac_ g.2.2.1 = 3)) = false; rw [gn]; simp [ac_], fun _ => hw⟩ (fun z => by omega)
  cases hp : P 1 none k m o with
  | none => rw [hp] at i; exact i
  | some a =>
    rw [hp] at i
    obtain ⟨a1, a2, a3, a4, F, e2, b1, b2, b3, b4⟩ := i
    simp only at a1 a2 a3 a4 b2 b3 b4 ⊢
    rw [TF_t h (by omega)]
    by_cases hq : bf_ M n a.2.1 = 44
    · rw [if_pos hq]
      have he : ¬ en_d M n a.2.1 := en_no hq (by decide)
      have hkn : a.2.1 < n := TF_lt h hq (by decide)
      have hsi := si_44 (k := a.2.1) (nd := a.2.2) (op := o) (e := e2) (W := V) b1 g8
      rw [← hq, gn] at hsi
      have e1 := b3.trans (FX_si a1 he hsi)
      have i := hP.1 1 (a.2.1 + 1) a.2.2 o ((8, g.2.1, sa_ .null (CL_ F e2), g.2.2.2.1, g.2.2.2.2) :: V) (by omega) (by omega) (by omega) a4 ho (by omega) (fun _ => tpg _ _ _ _) ⟨by simp [f3b_, sa_, ac_], fun z => by simp [fqb_, sa_, ac_] at z⟩ (fun z => by omega)
      cases hp1 : P 1 none (a.2.1 + 1) a.2.2 o with
      | none => rw [hp1] at i; exact BD_eq e1 i
      | some b =>
        rw [hp1] at i
        obtain ⟨c1, c2, c3, c4, F1, e3, d1, d2, d3, d4⟩ := i
        simp only at c1 c2 c3 c4 d2 d3 d4 ⊢
        rw [TF_t h (by omega)]
        by_cases hq2 : bf_ M n b.2.1 = 44
        · rw [if_pos hq2]
          have he2 : ¬ en_d M n b.2.1 := en_no hq2 (by decide)
          have hkn2 : b.2.1 < n := TF_lt h hq2 (by decide)
          have hsi2 := si_44 (k := b.2.1) (nd := b.2.2) (op := o) (e := e3) (W := V) (g := (8, g.2.1, sa_ .null (CL_ F e2), g.2.2.2.1, g.2.2.2.2)) d1 rfl
          rw [← hq2] at hsi2
          have e4 := (e1.trans d3).trans (FX_si c1 he2 hsi2)
          have i := hP.1 1 (b.2.1 + 1) b.2.2 o ((8, g.2.1, sa_ (sa_ .null (CL_ F e2)) (CL_ F1 e3), g.2.2.2.1, g.2.2.2.2) :: V) (by omega) (by omega) (by omega) c4 ho (by omega) (fun _ => tpg _ _ _ _) ⟨by simp [f3b_, sa_, ac_], fun z => by simp [fqb_, sa_, ac_] at z⟩ (fun z => by omega)
          cases hp2 : P 1 none (b.2.1 + 1) b.2.2 o with
          | none => rw [hp2] at i; exact BD_eq e4 i
          | some x =>
            rw [hp2] at i
            obtain ⟨g1, g2, g3, g4, F2, e5, h1, h2, h3, h4⟩ := i
            simp only at g1 g2 g3 g4 h2 h3 h4 ⊢
            rw [TF_t h (by omega)]
            by_cases hq3 : bf_ M n x.2.1 = 44
            · rw [if_pos hq3]
              have he3 : ¬ en_d M n x.2.1 := en_no hq3 (by decide)
              have hkn3 : x.2.1 < n := TF_lt h hq3 (by decide)
              have hsi3 := si_44 (k := x.2.1) (nd := x.2.2) (op := o) (e := e5) (W := V) (g := (8, g.2.1, sa_ (sa_ .null (CL_ F e2)) (CL_ F1 e3), g.2.2.2.1, g.2.2.2.2)) h1 rfl
              rw [← hq3] at hsi3
              have e6 := (e4.trans h3).trans (FX_si g1 he3 hsi3)
              refine BD_eq e6 ?_
              have hso : ∃ z, so_ M n (x.2.1 + 1) ((8, g.2.1, sa_ (sa_ (sa_ .null (CL_ F e2)) (CL_ F1 e3)) (CL_ F2 e5), g.2.2.2.1, g.2.2.2.2) :: V) x.2.2 o = .inr z := by
                unfold so_
                split
                · exact ⟨_, rfl⟩
                · rw [if_neg (by simp [fqb_, sa_, ac_])]
                  unfold so2_
                  rw [if_pos (by simp [f3b_, sa_, ac_])]
                  exact ⟨_, rfl⟩
              obtain ⟨z, hz⟩ := hso
              exact BD_none (by omega) hz
            · rw [if_neg hq3]
              refine ⟨g1, by simp only; omega, by simp only; omega, g4, by show 3 < 4; decide, hq3, F2, e5, sa_ (sa_ .null (CL_ F e2)) (CL_ F1 e3), g, V, rfl, h1, by simp [sa_, ao_], ?_, e4.trans h3, h4⟩
              simp only [sa_, tm_, b2, d2, h2]
        · rw [if_neg hq2]
          refine ⟨c1, by simp only; omega, by simp only; omega, c4, by show 2 < 4; decide, hq2, F1, e3, sa_ .null (CL_ F e2), g, V, rfl, d1, by simp [sa_, ao_], ?_, e1.trans d3, d4⟩
          simp only [sa_, tm_, b2, d2]
    · rw [if_neg hq]
      refine ⟨a1, a2, a3, a4, by show 1 < 4; decide, hq, F, e2, .null, g, V, rfl, b1, trivial, ?_, ?_, b4⟩
      · simp only [sa_, tm_, b2]
      · rw [b3]
        obtain ⟨x1, x2, x3, x4, x5⟩ := g
        simp only at g8 gn ⊢
        rw [g8, gn]
/-! kind 7 -/
theorem LE_0 {z : Int32} : (1 : Int32) ≤ z → 0 ≤ z := fun h => Int32.le_trans (by decide) h
theorem RD_7 {M : mm_} {n k m o k2 m2 : Nat} {W : List fr_} {S : ss_} {e : Term} (hk : k2 ≤ n) (h1 : k ≤ k2) (h2 : m ≤ m2) (h3 : m2 ≤ 20) (h : FX_ M n S = FX_ M n (k2, W, some (tm_ e), m2, o)) : RD_ M n 7 W k m o S (some (e, k2, m2)) := ⟨hk, h1, h2, h3, [], tm_ e, lv_nil, rfl, h, MU_6 (by omega)⟩
theorem tiw {T : Int32 → Int32} {M : mm_} {n : Nat} {v : Int32} {nm : Bool} {P : pf2_} {t : Nat} (h : TF_ T (bf_ M n) n) (hK : KN_ M v nm) (hP : TI_ M n P t) {k m o : Nat} {W : List fr_} (hk : k < n) (hm : m ≤ 20) (ho : o ≤ 12) (ht : 9 * (20 - m) + 9 * (12 - o) + 1 ≤ t + 1) (hso : so_ M n k W m o = rr_ M n k W m o) (hio : io_ (bf_ M n k) = 1) : RD_ M n 7 W k m o (k, W, none, m, o) (zw_ P T v nm k m o (srT_ T (nI k) 200 0 0 0)) := by
  obtain ⟨hsr, hry⟩ := srT_rz h (show k ≤ n by omega)
  have hn := h.1
  obtain ⟨z, hz⟩ : ∃ z, rz_ M n k = z := ⟨_, rfl⟩
  have hz1 : 1 ≤ z := by
    rw [← hz]
    unfold rz_
    obtain ⟨u, hu⟩ : ∃ u, n - k = u + 1 := ⟨n - k - 1, by omega⟩
    rw [hu, rn_, if_pos hio]
    omega
  have hzn : k + z ≤ n := by
    rcases Nat.lt_or_ge n (k + z) with q | q
    · have := hry (z - 1) (by omega)
      rw [h.2.2.1 (k + (z - 1)) (by omega)] at this
      exact absurd this (by decide)
    · exact q
  have hne := isn_ne h (show k ≤ n by omega) hz1 hzn
  rw [hz] at hsr hry
  rw [hsr]
  unfold zw_
  simp only
  unfold rr_ at hso
  rw [hz] at hso
  have hKn : nm = true ↔ M.1 0 14 = 0 := by
    rcases hK with ⟨a, b, -⟩ | ⟨a, b, -⟩
    · simp [a, b]
    · simp [a, b]
  by_cases hn1 : ne_ (bf_ M n) k z
  · rw [if_pos (hne.mpr hn1)]
    have hz2 : 2 < z := hn1.1
    rw [if_neg (fun q => by omega)] at hso
    by_cases hc : m < 20 ∧ nm = true ∧ z ≤ 12 ∧ T (nI (k + z)) = 40 ∧ o < 12
    · rw [if_pos hc]
      obtain ⟨c1, c2, c3, c4, c5⟩ := hc
      rw [TF_t h (by omega)] at c4
      rw [if_neg (by omega), if_neg (by omega), if_neg (fun q => q hn1), if_neg (fun q => q (hKn.mp c2)), if_neg (fun q => q c4), if_neg (by omega)] at hso
      have hkz : k + z < n := TF_lt h c4 (by decide)
      have e1 := FX_so (show k ≤ n by omega) hso
      rw [Nat.min_eq_left c3]
      rw [TF_t h (by omega)]
      by_cases h41 : bf_ M n (k + z + 1) = 41
      · rw [if_pos h41]
        have hkz2 : k + z + 1 < n := TF_lt h h41 (by decide)
        refine RD_7 (by omega) (by omega) (by omega) (by omega) (e1.trans ?_)
        have e2 : so_ M n (k + z + 1) ((8, 0, .null, .null, nm_ (bf_ M n) k z) :: W) (m + 1) (o + 1) = .inl (k + z + 1 + 1, W, some (.sub (.long (nm_ (bf_ M n) k z)) .null), m + 1, o) := by
          unfold so_
          rw [if_neg (en_no h41 (by decide)), if_pos ⟨by simp [fqb_, ac_], h41⟩]
          rfl
        rw [FX_so (by omega) e2]
        show _ = FX_ M n (k + z + 2, W, some (.sub (.long (de_ (ky_ (lN (LE_ (bf_ M n) k z)) 0))) .null), m + 1, o)
        rw [show (0 : Int32) = nI 0 from rfl, de_ky c3 hry (by decide)]
      · rw [if_neg h41]
        have i := hP.2.2 (k + z + 1) (m + 1) (o + 1) ((8, 0, .null, .null, nm_ (bf_ M n) k z) :: W) (by omega) (by omega) (by omega) (by omega) ⟨rfl, rfl⟩ h41
        cases hp : P 8 none (k + z + 1) (m + 1) (o + 1) with
        | none => rw [hp] at i; exact RD_none (BD_eq e1 i)
        | some x =>
          rw [hp] at i
          obtain ⟨a1, a2, a3, a4, a5, a6, F, e2, xs, g, V, hg, b1, b2, b3, b4, b5⟩ := i
          obtain ⟨hg1, rfl⟩ := List.cons.inj hg
          subst hg1
          simp only at a1 a2 a3 a4 a5 a6 b3 b4 b5 ⊢
          rw [TF_t h (by omega)]
          by_cases hq : bf_ M n x.2.1 = 41
          · rw [if_pos hq]
            have hkx : x.2.1 < n := TF_lt h hq (by decide)
            have hsi := si_41 (k := x.2.1) (nd := x.2.2) (op := o + 1) (e := e2) (W := W) (g := (8, 0, xs, .null, nm_ (bf_ M n) k z)) b1 (Or.inr rfl)
            rw [← hq] at hsi
            refine RD_7 (by omega) (by omega) (by omega) a4 ((e1.trans b4).trans ((FX_si a1 (en_no hq (by decide)) hsi).trans ?_))
            show FX_ M n (x.2.1 + 1, W, some (.sub (.long (nm_ (bf_ M n) k z)) (sa_ xs (CL_ F e2))), x.2.2, o) = FX_ M n (x.2.1 + 1, W, some (.sub (.long (de_ (ky_ (lN (LE_ (bf_ M n) k z)) (nI (an_ x.1))))) (tm_ x.1)), x.2.2, o)
            rw [de_ky c3 hry a5, b3]
          · rw [if_neg hq]
            exact RD_none (BD_eq (e1.trans b4) (BD_stuck a1 b1 b5 (by simp) (Or.inr (Or.inr rfl)) (fun _ => by simp [tp6_]) (fun y => absurd y a6) (fun y => absurd y hq)))
    · rw [if_neg hc]
      refine RD_none ?_
      have : ∃ q, so_ M n k W m o = .inr q := by
        rw [hso]
        by_cases y1 : m = 20
        · rw [if_pos y1]; exact ⟨_, rfl⟩
        rw [if_neg y1]
        by_cases y2 : 12 < z
        · rw [if_pos y2]; exact ⟨_, rfl⟩
        rw [if_neg y2, if_neg (fun q => q hn1)]
        by_cases y3 : ¬ M.1 0 14 = 0
        · rw [if_pos y3]; exact ⟨_, rfl⟩
        rw [if_neg y3]
        by_cases y4 : ¬ bf_ M n (k + z) = 40
        · rw [if_pos y4]; exact ⟨_, rfl⟩
        rw [if_neg y4]
        by_cases y5 : o = 12
        · rw [if_pos y5]; exact ⟨_, rfl⟩
        exact absurd ⟨by omega, hKn.mpr (Decidable.not_not.mp y3), by omega, by rw [TF_t h (by omega)]; exact Decidable.not_not.mp y4, by omega⟩ hc
      obtain ⟨q, hq⟩ := this
      exact BD_none (by omega) hq
  · rw [if_neg (fun q => hn1 (hne.mp q))]
    by_cases hv : z = 1 ∧ il_ (bf_ M n k) = 1
    · rw [if_pos hv] at hso
      obtain ⟨v1, v2⟩ := vx_vo h (show k ≤ n by omega) hK hv.2
      have h46 : ¬ bf_ M n k = 46 := fun q => absurd hv.2 (by rw [q]; decide)
      rw [TF_t h (by omega)]
      by_cases hc : z = 1 ∧ ¬ bf_ M n k = 46 ∧ m < 20 ∧ ¬ vx2_ T k < 0 ∧ vx2_ T k < v
      · rw [if_pos hc]
        have hvo := v1.mp hc.2.2.2
        rw [if_neg (by omega), if_neg hvo] at hso
        refine RD_7 (by omega) (by omega) (by omega) (by omega) ((FX_so (by omega) hso).trans ?_)
        rw [← v2 hvo]; rfl
      · rw [if_neg hc]
        refine RD_none ?_
        have : ∃ q, so_ M n k W m o = .inr q := by
          rw [hso]
          split
          · exact ⟨_, rfl⟩
          split
          · exact ⟨_, rfl⟩
          rename_i y1 y2
          exact absurd ⟨hv.1, h46, by omega, v1.mpr y2⟩ hc
        obtain ⟨q, hq⟩ := this
        exact BD_none (by omega) hq
    · rw [if_neg hv] at hso
      rw [TF_t h (by omega)]
      have hx : ¬ (z = 1 ∧ ¬ bf_ M n k = 46 ∧ m < 20 ∧ ¬ vx2_ T k < 0 ∧ vx2_ T k < v) := by
        rintro ⟨q1, q2, -⟩
        refine hv ⟨q1, ?_⟩
        unfold io_ at hio
        split at hio
        · rename_i y; exact y.resolve_right q2
        · exact absurd hio (by decide)
      rw [if_neg hx]
      refine RD_none ?_
      have : ∃ q, so_ M n k W m o = .inr q := by
        rw [hso]
        by_cases y1 : m = 20
        · rw [if_pos y1]; exact ⟨_, rfl⟩
        rw [if_neg y1]
        by_cases y2 : 12 < z
        · rw [if_pos y2]; exact ⟨_, rfl⟩
        rw [if_neg y2, if_pos hn1]
        exact ⟨_, rfl⟩
      obtain ⟨q, hq⟩ := this
      exact BD_none (by omega) hq
theorem nv_k {f : Nat → Int32} : ∀ (u k w : Nat), k ≤ (nv_ f u k w).1
  | 0, k, w => by rw [nv_]; omega
  | u + 1, k, w => by
    rw [nv_]
    split
    · have := nv_k (f := f) u (k + 1) (dn_ w (dg_ (f k))); omega
    · exact Nat.le_refl _
theorem ti7 {T : Int32 → Int32} {M : mm_} {n : Nat} {v : Int32} {nm : Bool} {P : pf2_} {t : Nat} (h : TF_ T (bf_ M n) n) (hK : KN_ M v nm) (hP : TI_ M n P t) {k m o : Nat} {W : List fr_} (hk : k ≤ n) (hm : m ≤ 20) (ho : o ≤ 12) (ht : 9 * (20 - m) + 9 * (12 - o) + 1 ≤ t + 1) (hs6 : ¬ bf_ M n k = 45 ∧ ¬ bf_ M n k = 33) (hW : HW_ (bf_ M n) k W) : RD_ M n 7 W k m o (k, W, none, m, o) (z7_ P T v nm k m o) := by
  have hn := h.1
  have hf1 : fw9_ 1 = 7 := by decide
  unfold z7_
  rw [TF_t h (by omega), fg_ig, rb_io]
  by_cases he : en_d M n k
  · have hso : so_ M n k W m o = .inr (1, k) := if_pos he
    have hb : ¬ 32 < bf_ M n k := fun q => en_no rfl q he
    have g1 : ig_ (bf_ M n k) = 0 := by
      rcases ig_01 (bf_ M n k) with z | z
      · exact z
      · obtain ⟨j, hj, e⟩ := ig_dg z
        rw [e] at hb
        exact absurd (nI_lt (a := 32) (b := 48 + j) (by omega) (by omega)) hb
    have g2 : io_ (bf_ M n k) = 0 := by
      rcases io_01 (bf_ M n k) with z | z
      · exact z
      · unfold io_ at z
        split at z
        · rename_i y
          rcases y with y | y
          · obtain ⟨j, j1, j2, e⟩ := il_j y
            rw [e] at hb
            exact absurd (nI_lt (a := 32) (b := j) (by omega) (by omega)) hb
          · rw [y] at hb; exact absurd (by decide) hb
        · exact absurd z (by decide)
    rw [if_pos g1, if_pos g2, if_neg (fun q => by rw [q.1] at hb; exact absurd (by decide) hb)]
    exact BD_none hk hso
  · have hkn : k < n := by
      rcases Nat.lt_or_ge k n with z | z
      · exact z
      · exact absurd (en_n z) he
    have hf3 : ¬ f3b_ W = true := by rw [hW.1]; decide
    by_cases hg : ig_ (bf_ M n k) = 0
    · rw [if_pos hg]
      by_cases hi : io_ (bf_ M n k) = 0
      · rw [if_pos hi]
        by_cases hc : bf_ M n k = 40
        · have hso : so_ M n k W m o = if o = 12 then .inr (3, k) else .inl (k + 1, (0, 0, .null, .null, 0) :: W, none, m, o + 1) := by
            rw [so_in he hW]
            unfold so2_
            rw [if_neg hf3, if_neg (fun z => z hg), if_neg (fun z => z.elim hs6.1 hs6.2), if_pos hc]
          by_cases ho2 : o < 12
          · rw [if_pos ⟨hc, ho2⟩]
            rw [if_neg (by omega)] at hso
            have e1 := FX_so hk hso
            have i := hP.1 1 (k + 1) m (o + 1) ((0, 0, .null, .null, 0) :: W) (by omega) (by omega) (by omega) hm (by omega) (by omega) (fun _ => ⟨Or.inl (by simp [lw9_]), by simp⟩) (HW_o (by simp)) (fun z => by omega)
            cases hp : P 1 none (k + 1) m (o + 1) with
            | none => rw [hp] at i; exact RD_none (BD_eq e1 i)
            | some x =>
              rw [hp] at i
              obtain ⟨a1, a2, a3, a4, F, e2, b1, b2, b3, b4⟩ := i
              simp only at a1 a2 a3 a4 b2 b3 b4 ⊢
              rw [TF_t h (by omega)]
              by_cases hq : bf_ M n x.2.1 = 41
              · rw [if_pos hq]
                have hkx : x.2.1 < n := TF_lt h hq (by decide)
                have hsi := si_41 (k := x.2.1) (nd := x.2.2) (op := o + 1) (e := e2) (W := W) (g := (0, 0, .null, .null, 0)) b1 (Or.inl rfl)
                rw [← hq] at hsi
                refine RD_7 (by omega) (by omega) a3 a4 ((e1.trans b3).trans ((FX_si a1 (en_no hq (by decide)) hsi).trans ?_))
                show FX_ M n (x.2.1 + 1, W, some (CL_ F e2), x.2.2, o) = _
                rw [b2]
              · rw [if_neg hq]
                exact RD_none (BD_eq (e1.trans b3) (BD_stuck a1 b1 b4 (by simp) (Or.inl rfl) (fun _ => by simp [tp6_]) (fun _ => by simp [tp6_]) (fun y => absurd y hq)))
          · rw [if_neg (fun z => ho2 z.2)]
            rw [if_pos (by omega)] at hso
            exact BD_none hk hso
        · rw [if_neg (fun z => hc z.1)]
          refine BD_none (z := (1, k)) hk ?_
          rw [so_in he hW]
          unfold so2_
          rw [if_neg hf3, if_neg (fun z => z hg), if_neg (fun z => z.elim hs6.1 hs6.2), if_neg hc, if_neg (fun z => z hi)]
      · rw [if_neg hi]
        refine tiw h hK hP hkn hm ho ht ?_ ((io_01 _).resolve_left hi)
        rw [so_in he hW]
        unfold so2_
        rw [if_neg hf3, if_neg (fun z => z hg), if_neg (fun z => z.elim hs6.1 hs6.2), if_neg (fun z => by rw [z] at hi; exact hi (by decide)), if_pos hi]
    · rw [if_neg hg]
      have hso : so_ M n k W m o = rn2_ (bf_ M n) n k W m o := by
        rw [so_in he hW]
        unfold so2_
        rw [if_neg hf3, if_pos hg]
      obtain ⟨a2, ea, hr⟩ := nuP_nv h (n - k) 200 k 0 0 (by omega) (by omega) (by omega) (by omega) ⟨by omega, by omega, Or.inl ⟨rfl, by omega⟩⟩
      have ea : nuP_ T 200 k 0 = ((nv_ (bf_ M n) (n - k) k 0).1, lN a2) := ea
      rw [ea]
      simp only
      have g := nv_le (bf_ M n) (n - k) k 0 (by omega)
      have gk := nv_k (f := bf_ M n) (n - k) k 0
      unfold rn2_ at hso
      generalize nv_ (bf_ M n) (n - k) k 0 = p at hso hr g gk ⊢
      obtain ⟨r1, r2, r3⟩ := hr
      have hle : lN a2 ≤ 2147483647 ↔ ¬ 2147483647 < p.2 := by
        rw [show (2147483647 : Int64) = lN 2147483647 from rfl, lN_le2 (by omega) (by omega)]
        omega
      by_cases hc : lN a2 ≤ 2147483647 ∧ m < 20
      · rw [if_pos hc]
        rw [if_neg (by omega), if_neg (hle.mp hc.1)] at hso
        have hp := hle.mp hc.1
        have e3 : a2 = p.2 := by omega
        refine RD_7 (by omega) (by omega) (by omega) (by omega) ((FX_so hk hso).trans ?_)
        rw [e3]
        show _ = FX_ M n (p.1, W, some (.int (lN p.2).toInt32), m + 1, o)
        rw [lN_i]
      · rw [if_neg hc]
        refine RD_none ?_
        have : ∃ q, so_ M n k W m o = .inr q := by
          rw [hso]
          split
          · exact ⟨_, rfl⟩
          split
          · exact ⟨_, rfl⟩
          rename_i y1 y2
          exact absurd ⟨hle.mpr y2, by omega⟩ hc
        obtain ⟨q, hq⟩ := this
        exact BD_none hk hq
