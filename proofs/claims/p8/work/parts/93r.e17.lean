/-! Machine: run, over trees -/
/-- what comes of a run -/
def RP_ (J : Nat → Nat) (r b : Nat) (M0 : mm_) (z : Int32) (o : eo_) (v : Int32) (N : mm_) : Prop := XF_ r b M0 N ∧ N.1 247 8 = nI b ∧ match o with
  | (.inl t, s) => N.1 247 10 = 0 ∧ v = t.headD 0 ∧ N.1 247 12 = z ∧ DX_ J s N
  | (.inr q, s) => N.1 247 10 = 1 ∧ v = q.2 ∧ N.1 247 12 = (if q.1 = 2 then 1 else z) ∧ DX_ J s N ∧ (q.1 = 1 ∨ q.1 = 2)
theorem c4_runT (G : gg_) (hG : gd_ G) (d : Nat) (J : Nat → Nat) (k r b : Nat) (M : mm_) (z : Int32) (e : Term) (I : Int64 → List Int32 → sgA_ → io2_) (V : Nat → Int32) (s : sgA_) (hk : cdX_ k) (hR : RG_ G d J k (snX_ e) r b M z (cqX_ e 0 0) I V) (w : wfX_ true e) (hi : ix7_ e) (hh : M.1 247 8 = nI b) (h12 : M.1 247 12 = z) (hD : DX_ J s M) : cm_ G yX4_run cX4_run 7 (some .int) (d + 3) [.ref (G.1 247), .ref (G.1 k), .ref (G.1 (249 + r))] M (rI_ (RP_ J r b M z (ES_ I V e [] s))) := by
  have hr := hR.2.2.2.2.2.2.1
  have hb := hR.2.2.2.2.2.2.2.1
  have hLL := hR.2.2.2.2.1
  have pe := sn_pos e w
  refine c4_runE G hG d r hr M k hk (snX_ e) hLL b hh _ ?_
  have hZ : ZX_ J r b M z [] s (sI_ M 247 10 0) := ⟨XF_247 (by omega) (by omega) XF_rf, by rw [gI_sI, if_neg (by omega)]; exact hh, trivial, by rw [gI_sI, if_pos ⟨rfl, rfl⟩], by rw [gI_sI, if_neg (by omega)]; exact h12, DX_m hR.1 (by omega) (by omega) hD⟩
  refine TRX_ hR true e w hi 0 26 [] s _ (fun i q hq => by rw [Nat.zero_add]; exact hq) (by simp) (by omega) (by omega) hZ ?_
  have fin : ∀ (N : mm_) (u : Nat), XF_ r b M N → FNX_ b (RP_ J r b M z (ES_ I V e [] s)) N → WPX_ G d k (snX_ e) r b (RP_ J r b M z (ES_ I V e [] s)) u (snX_ e) N := fun N u hX hF => by
    cases u with
    | zero => exact hF
    | succ u => exact ⟨RG_len hR hX, fun _ => hF, fun y => by omega⟩
  cases ho : ES_ I V e [] s with
  | mk o s2 =>
    cases o with
    | inl t2 =>
      obtain ⟨x, rfl⟩ := (ES_sh I V true e w [] s t2 s2 ho).1 rfl
      rw [Nat.zero_add]
      intro N u hz hu
      rw [ho] at fin
      refine fin N u hz.1 ?_
      obtain ⟨p1, p2⟩ := ZX_pop hR.1 (by omega) hz
      refine ⟨b + 1, by omega, hz.2.1, fun _ => ?_, fun y => absurd hz.2.2.2.1 y⟩
      have e1 : b + [x].length = b + 1 := rfl
      rw [e1] at p1 p2
      refine ⟨XF_247 (by omega) (by omega) p2.1, by rw [gI_sI, if_pos ⟨rfl, rfl⟩], by rw [gI_sI, if_neg (by omega)]; exact p2.2.2.2.1, p1, by rw [gI_sI, if_neg (by omega)]; exact p2.2.2.2.2.1, DX_m hR.1 (by omega) (by omega) p2.2.2.2.2.2⟩
    | inr q =>
      rw [Nat.zero_add]
      intro N a u hT hA hu
      rw [ho] at fin
      have hC := hR.2.2.2.1
      have ha := hA.2.1
      obtain ⟨y3, hy3⟩ : ∃ y3, (cqX_ e 0 0)[a]? = some y3 := ⟨_, List.getElem?_eq_getElem (by omega)⟩
      obtain ⟨-, -, e3, -⟩ := RG_op hR hT.1 hy3
      have hnx : nxX_ N k (snX_ e) a = snX_ e := by
        unfold nxX_
        rcases hA.2.2 with ⟨q2, x, hx, h7⟩ | ⟨q1, hn⟩
        · rw [hy3] at hx; cases hx
          rw [if_pos ⟨by rw [hT.2.2.2.2.2.1, if_pos q2]; decide, e3.trans h7⟩]
        · have h12 : ¬ (¬ N.1 247 12 = 0 ∧ N.1 (k + 1) a = 7) := by
            rintro ⟨y1, y2⟩
            rw [hT.2.2.2.2.2.1, if_neg (by omega)] at y1
            rcases hR.2.2.2.2.2.2.2.2.2.1 with y | y
            · exact y1 y
            · exact y a y3 hy3 (e3.symm.trans y2)
          rw [if_neg h12, bt1_no]
          · omega
          · intro j z1 z2
            rintro ⟨y1, y2⟩
            obtain ⟨y4, hy4⟩ : ∃ y4, (cqX_ e 0 0)[j]? = some y4 := ⟨_, List.getElem?_eq_getElem (by omega)⟩
            obtain ⟨-, -, e5, -, e6, -⟩ := RG_op hR hT.1 hy4
            rw [e5] at y1
            rw [e6 y1] at y2
            exact hn j y4 (by omega) (by omega) hy4 y1 y2
      have hbh : bhX_ N k (snX_ e) a (nI b) = N := by unfold bhX_; rw [hnx, if_neg (by omega)]
      rw [hnx, hbh]
      refine fin N u hT.1 ?_
      obtain ⟨g1, ⟨h, g2, g3⟩, -, g4, g5, g6, g7⟩ := hT
      refine ⟨h, g2, g3, fun y => absurd (g4.symm.trans y) (by decide), fun _ => ?_⟩
      exact ⟨XF_247 (by omega) (by omega) g1, by rw [gI_sI, if_pos ⟨rfl, rfl⟩], by rw [gI_sI, if_neg (by omega)]; exact g4, g5, by rw [gI_sI, if_neg (by omega)]; exact g6, DX_m hR.1 (by omega) (by omega) g7, hA.2.2.elim (fun y => Or.inr y.1) (fun y => Or.inl y.1)⟩
/-! trees without invocations; values do not hang on what isn't there -/
def nsb_ : Term → Prop
  | .length e => nsb_ e
  | .sum e => nsb_ e
  | .elem _ x => nsb_ x
  | .mul a (.div b c) => nsb_ a ∧ nsb_ b ∧ nsb_ c
  | .rem a b => nsb_ a ∧ nsb_ b
  | .sub _ _ => False
  | .add a r => nsb_ a ∧ nsb_ r
  | _ => True
theorem o1_s {f : Int32 → List Int32 → sgA_ → eo_} {r : eo_} {s : sgA_} (h : r.2 = s) (hf : ∀ x t s2, s2 = s → (f x t s2).2 = s) : (o1_ f r).2 = s := by
  obtain ⟨o, s2⟩ := r
  cases o with
  | inr q => exact h
  | inl t =>
    cases t with
    | nil => exact h
    | cons x t => exact hf x t s2 h
theorem ES_s (I : Int64 → List Int32 → sgA_ → io2_) (V : Nat → Int32) : ∀ (g : Bool) (e : Term), wfX_ g e → nsb_ e → ∀ (t : List Int32) (s : sgA_), (ES_ I V e t s).2 = s
  | true, .int v, _, _, t, s => by rw [ES_]
  | true, .index i, _, _, t, s => by rw [ES_]
  | true, .length e, w, n, t, s => by rw [ES_]; exact o1_s (ES_s I V true e w n t s) (fun _ _ _ h => h)
  | true, .sum e, w, n, t, s => by rw [ES_]; exact o1_s (ES_s I V true e w n t s) (fun _ _ _ h => h)
  | true, .elem c (.add a b), w, n, t, s => by
    rw [ES_, ES_]
    have ha := ES_s I V true a w.2.1 n.1 t s
    cases hx : ES_ I V a t s with
    | mk o s2 =>
      rw [hx] at ha
      obtain rfl : s2 = s := ha
      cases o with
      | inr q => rfl
      | inl u =>
        simp only
        have hb := ES_s I V true b w.2.2 n.2 u s2
        cases hy : ES_ I V b u s2 with
        | mk o2 s3 =>
          rw [hy] at hb
          obtain rfl : s3 = s2 := hb
          cases o2 with
          | inr q => rfl
          | inl u2 =>
            match u2 with
            | [] => rfl
            | [_] => rfl
            | y :: x :: t2 =>
              unfold o2_
              simp only
              split <;> rfl
  | true, .mul a (.div b c), w, n, t, s => by
    rw [ES_]
    refine o1_s (ES_s I V true a w.1 n.1 t s) (fun x t2 s2 h => ?_)
    split
    · rw [ES_s I V true c w.2.2 n.2.2 t2 s2]; exact h
    · rw [ES_s I V true b w.2.1 n.2.1 t2 s2]; exact h
  | true, .rem a b, w, n, t, s => by
    rw [ES_]
    have ha := ES_s I V true a w.1 n.1 t s
    split
    · rename_i h
      rw [h] at ha
      rw [ES_s I V true b w.2 n.2]; exact ha
    · exact ha
  | false, .null, _, _, t, s => rfl
  | false, .add a r, w, n, t, s => by
    rw [ES_]
    have ha := ES_s I V true a w.1 n.1 t s
    cases hx : ES_ I V a t s with
    | mk o s2 =>
      rw [hx] at ha
      obtain rfl : s2 = s := ha
      cases o with
      | inr q => rfl
      | inl u => exact ES_s I V false r w.2 n.2 u s2
/-- the variables below n alone -/
def ixn_ (n : Nat) : Term → Prop
  | .index i => i < n
  | .length e => ixn_ n e
  | .sum e => ixn_ n e
  | .elem _ x => ixn_ n x
  | .mul a (.div b c) => ixn_ n a ∧ ixn_ n b ∧ ixn_ n c
  | .rem a b => ixn_ n a ∧ ixn_ n b
  | .sub _ x => ixn_ n x
  | .add a r => ixn_ n a ∧ ixn_ n r
  | _ => True
theorem ES_V (I : Int64 → List Int32 → sgA_ → io2_) {V W : Nat → Int32} {n : Nat} (h : ∀ i, i < n → V i = W i) : ∀ (g : Bool) (e : Term), wfX_ g e → ixn_ n e → ES_ I V e = ES_ I W e
  | true, .int v, _, _ => by funext t s; rw [ES_, ES_]
  | true, .index i, _, hi => by funext t s; rw [ES_, ES_, h i hi]
  | true, .length e, w, hi => by funext t s; rw [ES_, ES_, ES_V I h true e w hi]
  | true, .sum e, w, hi => by funext t s; rw [ES_, ES_, ES_V I h true e w hi]
  | true, .elem c (.add a b), w, hi => by funext t s; rw [ES_, ES_, ES_, ES_, ES_V I h true a w.2.1 hi.1, ES_V I h true b w.2.2 hi.2]
  | true, .mul a (.div b c), w, hi => by funext t s; rw [ES_, ES_, ES_V I h true a w.1 hi.1, ES_V I h true b w.2.1 hi.2.1, ES_V I h true c w.2.2 hi.2.2]
  | true, .rem a b, w, hi => by funext t s; rw [ES_, ES_, ES_V I h true a w.1 hi.1, ES_V I h true b w.2 hi.2]
  | true, .sub k x, w, hi => by funext t s; rw [ES_, ES_, ES_V I h false x w.1 hi]
  | false, .null, _, _ => rfl
  | false, .add a r, w, hi => by funext t s; rw [ES_, ES_, ES_V I h true a w.1 hi.1, ES_V I h false r w.2 hi.2]
theorem ixn_7 {n : Nat} (hn : n ≤ 7) : ∀ (g : Bool) (e : Term), wfX_ g e → ixn_ n e → ix7_ e
  | true, .int v, _, _ => trivial
  | true, .index i, _, hi => Nat.lt_of_lt_of_le hi hn
  | true, .length e, w, hi => ixn_7 hn true e w hi
  | true, .sum e, w, hi => ixn_7 hn true e w hi
  | true, .elem c (.add a b), w, hi => ⟨ixn_7 hn true a w.2.1 hi.1, ixn_7 hn true b w.2.2 hi.2⟩
  | true, .mul a (.div b c), w, hi => ⟨ixn_7 hn true a w.1 hi.1, ixn_7 hn true b w.2.1 hi.2.1, ixn_7 hn true c w.2.2 hi.2.2⟩
  | true, .rem a b, w, hi => ⟨ixn_7 hn true a w.1 hi.1, ixn_7 hn true b w.2 hi.2⟩
  | true, .sub k x, w, hi => ixn_7 hn false x w.1 hi
  | false, .null, _, _ => trivial
  | false, .add a r, w, hi => ⟨ixn_7 hn true a w.1 hi.1, ixn_7 hn false r w.2 hi.2⟩
theorem wfR_x {S : Bool} {n : Nat} : ∀ (g : Bool) (e : Term), wfX_ g e → wfR_ S n g (tm_ e) → ixn_ n e ∧ (S = false → nsb_ e)
  | true, .int v, _, _ => ⟨trivial, fun _ => trivial⟩
  | true, .index i, _, hi => ⟨hi, fun _ => trivial⟩
  | true, .length e, w, hi => wfR_x true e w hi
  | true, .sum e, w, hi => wfR_x true e w hi
  | true, .elem c (.add a b), w, hi => ⟨⟨(wfR_x true a w.2.1 hi.1).1, (wfR_x true b w.2.2 hi.2).1⟩, fun z => ⟨(wfR_x true a w.2.1 hi.1).2 z, (wfR_x true b w.2.2 hi.2).2 z⟩⟩
  | true, .mul a (.div b c), w, hi => ⟨⟨(wfR_x true a w.1 hi.1).1, (wfR_x true b w.2.1 hi.2.1).1, (wfR_x true c w.2.2 hi.2.2).1⟩, fun z => ⟨(wfR_x true a w.1 hi.1).2 z, (wfR_x true b w.2.1 hi.2.1).2 z, (wfR_x true c w.2.2 hi.2.2).2 z⟩⟩
  | true, .rem a b, w, hi => ⟨⟨(wfR_x true a w.1 hi.1).1, (wfR_x true b w.2 hi.2).1⟩, fun z => ⟨(wfR_x true a w.1 hi.1).2 z, (wfR_x true b w.2 hi.2).2 z⟩⟩
  | true, .sub k x, w, hi => ⟨(wfR_x false x w.1 hi.2.1).1, fun z => absurd (hi.1.symm.trans z) (by decide)⟩
  | false, .null, _, _ => ⟨trivial, fun _ => trivial⟩
  | false, .add a r, w, hi => ⟨⟨(wfR_x true a w.1 hi.1).1, (wfR_x false r w.2 hi.2).1⟩, fun z => ⟨(wfR_x true a w.1 hi.1).2 z, (wfR_x false r w.2 hi.2).2 z⟩⟩
/-- a tree without invocations has no step that invokes -/
theorem ns7_ : ∀ (g : Bool) (e : Term), wfX_ g e → nsb_ e → ∀ (L : Nat) (H : Int32) (q : cq2_), q ∈ cqX_ e L H → ¬ q.1 = 7
  | true, .int v, _, _, L, H, q, h => by rw [cqX_] at h; rw [List.mem_singleton.mp h]; simp only; decide
  | true, .index i, _, _, L, H, q, h => by rw [cqX_] at h; rw [List.mem_singleton.mp h]; simp only; decide
  | true, .length e, w, n, L, H, q, h => by
    rw [cqX_] at h
    rcases List.mem_append.mp h with h | h
    · exact ns7_ true e w n L H q h
    · rw [List.mem_singleton.mp h]; simp only; decide
  | true, .sum e, w, n, L, H, q, h => by
    rw [cqX_] at h
    rcases List.mem_append.mp h with h | h
    · exact ns7_ true e w n L H q h
    · rw [List.mem_singleton.mp h]; simp only; decide
  | true, .elem c (.add a b), w, n, L, H, q, h => by
    rw [cqX_, cqX_] at h
    rcases List.mem_append.mp h with h | h
    · rcases List.mem_append.mp h with h | h
      · exact ns7_ true a w.2.1 n.1 _ _ q h
      · exact ns7_ true b w.2.2 n.2 _ _ q h
    · rw [List.mem_singleton.mp h]; exact (kd_n7 w.1).2.2.2.2.2.2.2
  | true, .mul a (.div b c), w, n, L, H, q, h => by
    rw [cqX_] at h
    rcases List.mem_append.mp h with h | h
    · exact ns7_ true a w.1 n.1 _ _ q h
    · rcases List.mem_cons.mp h with h | h
      · rw [h]; simp only; decide
      · rcases List.mem_append.mp h with h | h
        · exact ns7_ true b w.2.1 n.2.1 _ _ q h
        · rcases List.mem_cons.mp h with h | h
          · rw [h]; simp only; decide
          · exact ns7_ true c w.2.2 n.2.2 _ _ q h
  | true, .rem a b, w, n, L, H, q, h => by
    rw [cqX_] at h
    rcases List.mem_append.mp h with h | h
    · exact ns7_ true a w.1 n.1 _ _ q h
    · rcases List.mem_cons.mp h with h | h
      · rw [h]; simp only; decide
      · exact ns7_ true b w.2 n.2 _ _ q h
  | false, .null, _, _, L, H, q, h => by cases h
  | false, .add a r, w, n, L, H, q, h => by
    rw [cqX_] at h
    rcases List.mem_append.mp h with h | h
    · exact ns7_ true a w.1 n.1 _ _ q h
    · exact ns7_ false r w.2 n.2 _ _ q h
