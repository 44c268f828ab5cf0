section
/-! Machine: run, over trees -/
/-- what comes of a run -/
def RP_ (J : Nat → Nat) (r b : Nat) (M0 : mm_) (z : Int32) (o : eo_) (v : Int32) (N : mm_) : Prop := XF_ r b M0 N ∧ N.1 247 8 = nI b ∧ match o with
  | (.inl t, s) => N.1 247 10 = 0 ∧ v = t.headD 0 ∧ N.1 247 12 = z ∧ DX_ J s N
  | (.inr q, s) => N.1 247 10 = 1 ∧ v = q.2 ∧ N.1 247 12 = (if q.1 = 2 then 1 else z) ∧ DX_ J s N ∧ (q.1 = 1 ∨ q.1 = 2)
theorem c4_runT (G : gg_) (hG : gd_ G) (d : Nat) (J : Nat → Nat) (k r b : Nat) (M : mm_) (z : Int32) (e : Term) (I : Int64 → List Int32 → sgA_ → io2_) (V : Nat → Int32) (s : sgA_) (hk : cdX_ k) (hR : RG_ G d J k (snX_ e) r b M z (cqX_ e 0 0) I V) (w : wfX_ true e) (hi : ix7_ e) (hh : M.1 247 8 = nI b) (h12 : M.1 247 12 = z) (hD : DX_ J s M) : cm_ G yX4_run cX4_run 7 (some .int) (d + 3) [.ref (G.1 247), .ref (G.1 k), .ref (G.1 (249 + r))] M (rI_ (RP_ J r b M z (ES_ I V e [] s))) := by
  have hr := hR.2.2.2.2.2.2.1
  have hb := hR.2.2.2.2.2.2.2.1
  have hLL := hR.2.2.2.2.1
  have pe := sn_pos e w
  refine c4_runE G hG d r hr M k hk (snX_ e) hLL b hh _ ?_
  have hZ : ZX_ J r b M z [] s (sI_ M 247 10 0) := ⟨XF_247 (by omega) (by omega) XF_rf, by rw [gI_sI, if_neg (by omega)]; exact hh, trivial, by rw [gI_sI, if_pos ⟨rfl, rfl⟩], by rw [gI_sI, if_neg (by omega)]; exact h12, DX_m hR.1 (by omega) (by omega) hD⟩
  refine TRX_ hR true e w hi 0 26 [] s _ (fun i q hq => by rw [Nat.zero_add]; exact hq) (by simp) (by omega) (by omega) hZ ?_
  have fin : ∀ (N : mm_) (u : Nat), XF_ r b M N → FNX_ b (RP_ J r b M z (ES_ I V e [] s)) N → WPX_ G d k (snX_ e) r b (RP_ J r b M z (ES_ I V e [] s)) u (snX_ e) N := fun N u hX hF => by
    cases u with
    | zero => exact hF
    | succ u => exact ⟨RG_len hR hX, fun _ => hF, fun y => by omega⟩
  cases ho : ES_ I V e [] s with
  | mk o s2 =>
    cases o with
    | inl t2 =>
      obtain ⟨x, rfl⟩ := (ES_sh I V true e w [] s t2 s2 ho).1 rfl
      rw [Nat.zero_add]
      intro N u hz hu
      rw [ho] at fin
      refine fin N u hz.1 ?_
      obtain ⟨p1, p2⟩ := ZX_pop hR.1 (by omega) hz
      refine ⟨b + 1, by omega, hz.2.1, fun _ => ?_, fun y => absurd hz.2.2.2.1 y⟩
      have e1 : b + [x].length = b + 1 := rfl
      rw [e1] at p1 p2
      refine ⟨XF_247 (by omega) (by omega) p2.1, by rw [gI_sI, if_pos ⟨rfl, rfl⟩], by rw [gI_sI, if_neg (by omega)]; exact p2.2.2.2.1, p1, by rw [gI_sI, if_neg (by omega)]; exact p2.2.2.2.2.1, DX_m hR.1 (by omega) (by omega) p2.2.2.2.2.2⟩
    | inr q =>
      rw [Nat.zero_add]
      intro N a u hT hA hu
      rw [ho] at fin
      have hC := hR.2.2.2.1
      have ha := hA.2.1
      obtain ⟨y3, hy3⟩ : ∃ y3, (cqX_ e 0 0)[a]? = some y3 := ⟨_, List.getElem?_eq_getElem (by omega)⟩
      obtain ⟨-, -, e3, -⟩ := RG_op hR hT.1 hy3
      have hnx : nxX_ N k (snX_ e) a = snX_ e := by
        unfold nxX_
        rcases hA.2.2 with ⟨q2, x, hx, h7⟩ | ⟨q1, hn⟩
        · rw [hy3] at hx; cases hx
          rw [if_pos ⟨by rw [hT.2.2.2.2.2.1, if_pos q2]; decide, e3.trans h7⟩]
        · have h12 : ¬ (¬ N.1 247 12 = 0 ∧ N.1 (k + 1) a = 7) := by
            rintro ⟨y1, y2⟩
            rw [hT.2.2.2.2.2.1, if_neg (by omega)] at y1
            rcases hR.2.2.2.2.2.2.2.2.2.1 with y | y
            · exact y1 y
            · exact y a y3 hy3 (e3.symm.trans y2)
          rw [if_neg h12, bt1_no]
          · omega
          · intro j z1 z2
            rintro ⟨y1, y2⟩
            obtain ⟨y4, hy4⟩ : ∃ y4, (cqX_ e 0 0)[j]? = some y4 := ⟨_, List.getElem?_eq_getElem (by omega)⟩
            obtain ⟨-, -, e5, -, e6, -⟩ := RG_op hR hT.1 hy4
            rw [e5] at y1
            rw [e6 y1] at y2
            exact hn j y4 (by omega) (by omega) hy4 y1 y2
      have hbh : bhX_ N k (snX_ e) a (nI b) = N := by unfold bhX_; rw [hnx, if_neg (by omega)]
      rw [hnx, hbh]
      refine fin N u hT.1 ?_
      obtain ⟨g1, ⟨h, g2, g3⟩, -, g4, g5, g6, g7⟩ := hT
      refine ⟨h, g2, g3, fun y => absurd (g4.symm.trans y) (by decide), fun _ => ?_⟩
      exact ⟨XF_247 (by omega) (by omega) g1, by rw [gI_sI, if_pos ⟨rfl, rfl⟩], by rw [gI_sI, if_neg (by omega)]; exact g4, g5, by rw [gI_sI, if_neg (by omega)]; exact g6, DX_m hR.1 (by omega) (by omega) g7, hA.2.2.elim (fun y => Or.inr y.1) (fun y => Or.inl y.1)⟩
/-! trees without invocations; values do not hang on what isn't there -/
def nsb_ : Term → Prop
  | .length e => nsb_ e
  | .sum e => nsb_ e
  | .elem _ x => nsb_ x
  | .mul a (.div b c) => nsb_ a ∧ nsb_ b ∧ nsb_ c
  | .rem a b => nsb_ a ∧ nsb_ b
  | .sub _ _ => False
  | .add a r => nsb_ a ∧ nsb_ r
  | _ => True
theorem o1_s {f : Int32 → List Int32 → sgA_ → eo_} {r : eo_} {s : sgA_} (h : r.2 = s) (hf : ∀ x t s2, s2 = s → (f x t s2).2 = s) : (o1_ f r).2 = s := by
  obtain ⟨o, s2⟩ := r
  cases o with
  | inr q => exact h
  | inl t =>
    cases t with
    | nil => exact h
    | cons x t => exact hf x t s2 h
theorem ES_s (I : Int64 → List Int32 → sgA_ → io2_) (V : Nat → Int32) : ∀ (g : Bool) (e : Term), wfX_ g e → nsb_ e → ∀ (t : List Int32) (s : sgA_), (ES_ I V e t s).2 = s
  | true, .int v, _, _, t, s => by rw [ES_]
  | true, .index i, _, _, t, s => by rw [ES_]
  | true, .length e, w, n, t, s => by rw [ES_]; exact o1_s (ES_s I V true e w n t s) (fun _ _ _ h => h)
  | true, .sum e, w, n, t, s => by rw [ES_]; exact o1_s (ES_s I V true e w n t s) (fun _ _ _ h => h)
  | true, .elem c (.add a b), w, n, t, s => by
    rw [ES_, ES_]
    have ha := ES_s I V true a w.2.1 n.1 t s
    cases hx : ES_ I V a t s with
    | mk o s2 =>
      rw [hx] at ha
      obtain rfl : s2 = s := ha
      cases o with
      | inr q => rfl
      | inl u =>
        simp only
        have hb := ES_s I V true b w.2.2 n.2 u s2
        cases hy : ES_ I V b u s2 with
        | mk o2 s3 =>
          rw [hy] at hb
          obtain rfl : s3 = s2 := hb
          cases o2 with
          | inr q => rfl
          | inl u2 =>
            match u2 with
            | [] => rfl
            | [_] => rfl
            | y :: x :: t2 =>
              unfold o2_
              simp only
              split <;> rfl
  | true, .mul a (.div b c), w, n, t, s => by
    rw [ES_]
    refine o1_s (ES_s I V true a w.1 n.1 t s) (fun x t2 s2 h => ?_)
    split
    · rw [ES_s I V true c w.2.2 n.2.2 t2 s2]; exact h
    · rw [ES_s I V true b w.2.1 n.2.1 t2 s2]; exact h
  | true, .rem a b, w, n, t, s => by
    rw [ES_]
    have ha := ES_s I V true a w.1 n.1 t s
    split
    · rename_i h
      rw [h] at ha
      rw [ES_s I V true b w.2 n.2]; exact ha
    · exact ha
  | false, .null, _, _, t, s => rfl
  | false, .add a r, w, n, t, s => by
    rw [ES_]
    have ha := ES_s I V true a w.1 n.1 t s
    cases hx : ES_ I V a t s with
    | mk o s2 =>
      rw [hx] at ha
      obtain rfl : s2 = s := ha
      cases o with
      | inr q => rfl
      | inl u => exact ES_s I V false r w.2 n.2 u s2
/-- the variables below n alone -/
def ixn_ (n : Nat) : Term → Prop
  | .index i => i < n
  | .length e => ixn_ n e
  | .sum e => ixn_ n e
  | .elem _ x => ixn_ n x
  | .mul a (.div b c) => ixn_ n a ∧ ixn_ n b ∧ ixn_ n c
  | .rem a b => ixn_ n a ∧ ixn_ n b
  | .sub _ x => ixn_ n x
  | .add a r => ixn_ n a ∧ ixn_ n r
  | _ => True
theorem ES_V (I : Int64 → List Int32 → sgA_ → io2_) {V W : Nat → Int32} {n : Nat} (h : ∀ i, i < n → V i = W i) : ∀ (g : Bool) (e : Term), wfX_ g e → ixn_ n e → ES_ I V e = ES_ I W e
  | true, .int v, _, _ => by funext t s; rw [ES_, ES_]
  | true, .index i, _, hi => by funext t s; rw [ES_, ES_, h i hi]
  | true, .length e, w, hi => by funext t s; rw [ES_, ES_, ES_V I h true e w hi]
  | true, .sum e, w, hi => by funext t s; rw [ES_, ES_, ES_V I h true e w hi]
  | true, .elem c (.add a b), w, hi => by funext t s; rw [ES_, ES_, ES_, ES_, ES_V I h true a w.2.1 hi.1, ES_V I h true b w.2.2 hi.2]
  | true, .mul a (.div b c), w, hi => by funext t s; rw [ES_, ES_, ES_V I h true a w.1 hi.1, ES_V I h true b w.2.1 hi.2.1, ES_V I h true c w.2.2 hi.2.2]
  | true, .rem a b, w, hi => by funext t s; rw [ES_, ES_, ES_V I h true a w.1 hi.1, ES_V I h true b w.2 hi.2]
  | true, .sub k x, w, hi => by funext t s; rw [ES_, ES_, ES_V I h false x w.1 hi]
  | false, .null, _, _ => rfl
  | false, .add a r, w, hi => by funext t s; rw [ES_, ES_, ES_V I h true a w.1 hi.1, ES_V I h false r w.2 hi.2]
theorem ixn_7 {n : Nat} (hn : n ≤ 7) : ∀ (g : Bool) (e : Term), wfX_ g e → ixn_ n e → ix7_ e
  | true, .int v, _, _ => trivial
  | true, .index i, _, hi => Nat.lt_of_lt_of_le hi hn
  | true, .length e, w, hi => ixn_7 hn true e w hi
  | true, .sum e, w, hi => ixn_7 hn true e w hi
  | true, .elem c (.add a b), w, hi => ⟨ixn_7 hn true a w.2.1 hi.1, ixn_7 hn true b w.2.2 hi.2⟩
  | true, .mul a (.div b c), w, hi => ⟨ixn_7 hn true a w.1 hi.1, ixn_7 hn true b w.2.1 hi.2.1, ixn_7 hn true c w.2.2 hi.2.2⟩
  | true, .rem a b, w, hi => ⟨ixn_7 hn true a w.1 hi.1, ixn_7 hn true b w.2 hi.2⟩
  | true, .sub k x, w, hi => ixn_7 hn false x w.1 hi
  | false, .null, _, _ => trivial
  | false, .add a r, w, hi => ⟨ixn_7 hn true a w.1 hi.1, ixn_7 hn false r w.2 hi.2⟩
theorem wfR_x {S : Bool} {n : Nat} : ∀ (g : Bool) (e : Term), wfX_ g e → wfR_ S n g (tm_ e) → ixn_ n e ∧ (S = false → nsb_ e)
  | true, .int v, _, _ => ⟨trivial, fun _ => trivial⟩
  | true, .index i, _, hi => ⟨hi, fun _ => trivial⟩
  | true, .length e, w, hi => wfR_x true e w hi
  | true, .sum e, w, hi => wfR_x true e w hi
  | true, .elem c (.add a b), w, hi => ⟨⟨(wfR_x true a w.2.1 hi.1).1, (wfR_x true b w.2.2 hi.2).1⟩, fun z => ⟨(wfR_x true a w.2.1 hi.1).2 z, (wfR_x true b w.2.2 hi.2).2 z⟩⟩
  | true, .mul a (.div b c), w, hi => ⟨⟨(wfR_x true a w.1 hi.1).1, (wfR_x true b w.2.1 hi.2.1).1, (wfR_x true c w.2.2 hi.2.2).1⟩, fun z => ⟨(wfR_x true a w.1 hi.1).2 z, (wfR_x true b w.2.1 hi.2.1).2 z, (wfR_x true c w.2.2 hi.2.2).2 z⟩⟩
  | true, .rem a b, w, hi => ⟨⟨(wfR_x true a w.1 hi.1).1, (wfR_x true b w.2 hi.2).1⟩, fun z => ⟨(wfR_x true a w.1 hi.1).2 z, (wfR_x true b w.2 hi.2).2 z⟩⟩
  | true, .sub k x, w, hi => ⟨(wfR_x false x w.1 hi.2.1).1, fun z => absurd (hi.1.symm.trans z) (by decide)⟩
  | false, .null, _, _ => ⟨trivial, fun _ => trivial⟩
  | false, .add a r, w, hi => ⟨⟨(wfR_x true a w.1 hi.1).1, (wfR_x false r w.2 hi.2).1⟩, fun z => ⟨(wfR_x true a w.1 hi.1).2 z, (wfR_x false r w.2 hi.2).2 z⟩⟩
/-- a tree without invocations has no step that invokes -/
theorem ns7_ : ∀ (g : Bool) (e : Term), wfX_ g e → nsb_ e → ∀ (L : Nat) (H : Int32) (q : cq2_), q ∈ cqX_ e L H → ¬ q.1 = 7
  | true, .int v, _, _, L, H, q, h => by rw [cqX_] at h; rw [List.mem_singleton.mp h]; simp only; decide
  | true, .index i, _, _, L, H, q, h => by rw [cqX_] at h; rw [List.mem_singleton.mp h]; simp only; decide
  | true, .length e, w, n, L, H, q, h => by
    rw [cqX_] at h
    rcases List.mem_append.mp h with h | h
    · exact ns7_ true e w n L H q h
    · rw [List.mem_singleton.mp h]; simp only; decide
  | true, .sum e, w, n, L, H, q, h => by
    rw [cqX_] at h
    rcases List.mem_append.mp h with h | h
    · exact ns7_ true e w n L H q h
    · rw [List.mem_singleton.mp h]; simp only; decide
  | true, .elem c (.add a b), w, n, L, H, q, h => by
    rw [cqX_, cqX_] at h
    rcases List.mem_append.mp h with h | h
    · rcases List.mem_append.mp h with h | h
      · exact ns7_ true a w.2.1 n.1 _ _ q h
      · exact ns7_ true b w.2.2 n.2 _ _ q h
    · rw [List.mem_singleton.mp h]; exact (kd_n7 w.1).2.2.2.2.2.2.2
  | true, .mul a (.div b c), w, n, L, H, q, h => by
    rw [cqX_] at h
    rcases List.mem_append.mp h with h | h
    · exact ns7_ true a w.1 n.1 _ _ q h
    · rcases List.mem_cons.mp h with h | h
      · rw [h]; simp only; decide
      · rcases List.mem_append.mp h with h | h
        · exact ns7_ true b w.2.1 n.2.1 _ _ q h
        · rcases List.mem_cons.mp h with h | h
          · rw [h]; simp only; decide
          · exact ns7_ true c w.2.2 n.2.2 _ _ q h
  | true, .rem a b, w, n, L, H, q, h => by
    rw [cqX_] at h
    rcases List.mem_append.mp h with h | h
    · exact ns7_ true a w.1 n.1 _ _ q h
    · rcases List.mem_cons.mp h with h | h
      · rw [h]; simp only; decide
      · exact ns7_ true b w.2 n.2 _ _ q h
  | false, .null, _, _, L, H, q, h => by cases h
  | false, .add a r, w, n, L, H, q, h => by
    rw [cqX_] at h
    rcases List.mem_append.mp h with h | h
    · exact ns7_ true a w.1 n.1 _ _ q h
    · exact ns7_ false r w.2 n.2 _ _ q h

end
section
/-! what keeps through all that a call does -/
theorem ES_R {R : sgA_ → sgA_ → Prop} (hr : ∀ s, R s s) (ht : ∀ a b c, R a b → R b c → R a c) {I : Int64 → List Int32 → sgA_ → io2_} (hI : ∀ K a s, R s (I K a s).2) (V : Nat → Int32) : ∀ (g : Bool) (e : Term), wfX_ g e → ∀ (t : List Int32) (s : sgA_), R s (ES_ I V e t s).2
  | true, .int v, _, t, s => by rw [ES_]; exact hr s
  | true, .index i, _, t, s => by rw [ES_]; exact hr s
  | true, .length e, w, t, s => by
    have h := ES_R hr ht hI V true e w t s
    rw [ES_]
    generalize ES_ I V e t s = o at h ⊢
    obtain ⟨o, s2⟩ := o
    match o with
    | .inr q => exact h
    | .inl [] => exact h
    | .inl (x :: t2) => exact h
  | true, .sum e, w, t, s => by
    have h := ES_R hr ht hI V true e w t s
    rw [ES_]
    generalize ES_ I V e t s = o at h ⊢
    obtain ⟨o, s2⟩ := o
    match o with
    | .inr q => exact h
    | .inl [] => exact h
    | .inl (x :: t2) => exact h
  | true, .elem c (.add a b), w, t, s => by
    have h := ES_R hr ht hI V true a w.2.1 t s
    rw [ES_, ES_]
    generalize ES_ I V a t s = o at h ⊢
    obtain ⟨o, s2⟩ := o
    cases o with
    | inr q => exact h
    | inl u =>
      simp only
      have h2 := ht _ _ _ h (ES_R hr ht hI V true b w.2.2 u s2)
      generalize ES_ I V b u s2 = o2 at h2 ⊢
      obtain ⟨o2, s3⟩ := o2
      match o2 with
      | .inr q => exact h2
      | .inl [] => exact h2
      | .inl [_] => exact h2
      | .inl (y :: x :: t2) =>
        unfold o2_
        simp only
        split <;> exact h2
  | true, .mul a (.div b c), w, t, s => by
    have h := ES_R hr ht hI V true a w.1 t s
    rw [ES_]
    generalize ES_ I V a t s = o at h ⊢
    obtain ⟨o, s2⟩ := o
    match o with
    | .inr q => exact h
    | .inl [] => exact h
    | .inl (x :: t2) =>
      unfold o1_
      simp only
      split
      · exact ht _ _ _ h (ES_R hr ht hI V true c w.2.2 t2 s2)
      · exact ht _ _ _ h (ES_R hr ht hI V true b w.2.1 t2 s2)
  | true, .rem a b, w, t, s => by
    have h := ES_R hr ht hI V true a w.1 t s
    rw [ES_]
    split
    · rename_i h2
      rw [h2] at h
      exact ht _ _ _ h (ES_R hr ht hI V true b w.2 t _)
    · exact h
  | true, .sub k x, w, t, s => by
    have h := ES_R hr ht hI V false x w.1 t s
    rw [ES_]
    generalize ES_ I V x t s = o at h ⊢
    obtain ⟨o, s2⟩ := o
    cases o with
    | inr q => exact h
    | inl u =>
      simp only
      have h2 := ht _ _ _ h (hI (kv2_ k) (u.take (an_ x)) s2)
      generalize I (kv2_ k) (u.take (an_ x)) s2 = o2 at h2 ⊢
      obtain ⟨o2, s3⟩ := o2
      cases o2 with
      | inr q => exact h2
      | inl v => exact h2
  | false, .null, _, t, s => hr s
  | false, .add a r, w, t, s => by
    have h := ES_R hr ht hI V true a w.1 t s
    rw [ES_]
    generalize ES_ I V a t s = o at h ⊢
    obtain ⟨o, s2⟩ := o
    cases o with
    | inr q => exact h
    | inl u => exact ht _ _ _ h (ES_R hr ht hI V false r w.2 u s2)
theorem pk_R {R : sgA_ → sgA_ → Prop} (hr : ∀ s, R s s) (ht : ∀ a b c, R a b → R b c → R a c) {E : se_} (hp : ∀ m p d P v j s, R s (pjA_ E m p d P v j s)) (m p d : Nat) (P : Nat → Int32) (v : Int32) : ∀ (u j : Nat) (s : sgA_), R s (pkA_ E m p d P v u j s)
  | 0, _, s => hr s
  | u + 1, j, s => ht _ _ _ (hp m p d P v j s) (pk_R hr ht hp m p d P v u (j + 1) _)
theorem pb_R {R : sgA_ → sgA_ → Prop} (hr : ∀ s, R s s) (ht : ∀ a b c, R a b → R b c → R a c) {E : se_} (hp : ∀ m p d P v j s, R s (pjA_ E m p d P v j s)) (m p d : Nat) (P : Nat → Int32) (v : Int32) (s : sgA_) : R s (pbA_ E m p d P v s) := by
  unfold pbA_
  split
  · exact pk_R hr ht hp m p d P v 8 0 s
  · exact hr s
theorem fn_lt (E : se_) (K : Int64) : ∀ (u i m : Nat), fnA_ E K u i = some m → m < i + u
  | 0, _, _, h => by cases h
  | u + 1, i, m, h => by
    rw [fnA_] at h
    split at h
    · cases h; omega
    · have := fn_lt E K u (i + 1) m h; omega
theorem in_R {R : sgA_ → sgA_ → Prop} (hr : ∀ s, R s s) (ht : ∀ a b c, R a b → R b c → R a c) {E : se_} (hp : ∀ m p d P v j s, R s (pjA_ E m p d P v j s)) (hi : ∀ s, R s (ivA_ s)) (hw : ∀ m, m < E.1 → wfX_ true (E.2.2.1 m)) : ∀ (u m : Nat) (P : Nat → Int32) (s : sgA_), m < E.1 → R s (inA_ E u m P s).2
  | 0, _, _, s, _ => hr s
  | u + 1, m, P, s, hm => by
    rw [inA_]
    have hI : ∀ K a s, R s (nmA_ E (10 - u) (inA_ E u) K a s).2 := fun K a s => by
      unfold nmA_
      cases hf : fnA_ E K E.1 0 with
      | none => exact hr s
      | some m2 =>
        simp only
        split
        · exact hr s
        split
        · exact hr s
        exact in_R hr ht hp hi hw u m2 _ s (by have := fn_lt E K E.1 0 m2 hf; omega)
    have h := ht _ _ _ (ht _ _ _ (hi s) (pb_R hr ht hp m 0 (10 - u) P 0 (ivA_ s))) (ES_R hr ht hI P true (E.2.2.1 m) (hw m hm) [] _)
    generalize ES_ (nmA_ E (10 - u) (inA_ E u)) P (E.2.2.1 m) [] (pbA_ E m 0 (10 - u) P 0 (ivA_ s)) = o at h ⊢
    obtain ⟨o, s2⟩ := o
    cases o with
    | inr q => exact ht _ _ _ h (pb_R hr ht hp m 2 (10 - u) P q.2 s2)
    | inl t => exact ht _ _ _ h (pb_R hr ht hp m 1 (10 - u) P (t.headD 0) s2)
/-- jobs stay what they are, or end -/
def KM_ (s s2 : sgA_) : Prop := ∀ j, j < 8 → (s2.1 j = s.1 j ∨ s2.1 j = 0)
theorem KM_rf (s : sgA_) : KM_ s s := fun _ _ => Or.inl rfl
theorem KM_tr (a b c : sgA_) (h : KM_ a b) (g : KM_ b c) : KM_ a c := fun j hj => by
  rcases g j hj with z | z
  · rw [z]; exact h j hj
  · exact Or.inr z
theorem KM_rc {E : se_} {j m d : Nat} {x e : Int32} {s : sgA_} : KM_ s (rcA_ E j m d x e s) := by
  intro i _
  have h : ∀ s2 : sgA_, s2 = (if s.2.1 j + 1 < E.2.2.2.2.1 j then sM_ s j (s.2.1 j + 1) else sK_ (sM_ s j (s.2.1 j + 1)) j 0) → s2.1 i = s.1 i ∨ s2.1 i = 0 := by
    intro s2 e2
    split at e2
    · rw [e2]; exact Or.inl rfl
    · rw [e2]
      show (if i = j then (0 : Int32) else s.1 i) = s.1 i ∨ (if i = j then (0 : Int32) else s.1 i) = 0
      split
      · exact Or.inr rfl
      · exact Or.inl rfl
  unfold rcA_
  have h2 := h _ rfl
  generalize (if s.2.1 j + 1 < E.2.2.2.2.1 j then sM_ s j (s.2.1 j + 1) else sK_ (sM_ s j (s.2.1 j + 1)) j 0) = q at h2 ⊢
  unfold sR5_
  split
  · exact h2
  · exact h2
theorem KM_wg {E : se_} {j m d : Nat} {V : Nat → Int32} {s : sgA_} : KM_ s (wgA_ E j m d V s) := by
  unfold wgA_
  split <;> exact KM_rc
theorem KM_wt {E : se_} {j m d : Nat} {V : Nat → Int32} {s : sgA_} : KM_ s (wtA_ E j m d V s) := by
  unfold wtA_
  split
  · exact KM_wg
  · split
    · split
      · exact KM_rf s
      · exact KM_wg
    · exact KM_rc
theorem KM_pj {E : se_} (m p d : Nat) (P : Nat → Int32) (v : Int32) (j : Nat) (s : sgA_) : KM_ s (pjA_ E m p d P v j s) := by
  unfold pjA_
  split
  · exact KM_rf s
  split
  · exact fun _ _ => Or.inl rfl
  split
  · unfold kpA_ sE7_
    split
    · exact KM_rf s
    · split
      · exact fun _ _ => Or.inl rfl
      · exact KM_rf s
  split
  · exact KM_wt
  · exact KM_rf s

end
section
/-! Machine: watch and probe, told by the abstract state -/
def XCo_ (k : Nat) (e : Term) (M : mm_) : Prop := wfX_ true e ∧ ixn_ 7 e ∧ nsb_ e ∧ hd_ k M (cqX_ e 0 0) ∧ snX_ e ≤ 26
/-- the jobs of the class are those of E -/
def JX_ (E : se_) (J : Nat → Nat) (c : Nat) (s : sgA_) (M : mm_) : Prop := ∀ j, j < 8 → ¬ s.1 j = 0 → (s.1 j = 1 ∨ s.1 j = 2 ∨ s.1 j = 3) ∧ (∀ m, m < c → (btX_ (M.1 (135 + 12 * J j) 9) (nI m) = 1 ↔ E.2.2.2.2.2.2.2.1 j m = true)) ∧
  (s.1 j = 1 → M.1 (135 + 12 * J j) 1 = E.2.2.2.1 j ∧ M.1 (135 + 12 * J j) 6 = E.2.2.2.2.1 j ∧ XCo_ (135 + 12 * J j + 1) (E.2.2.2.2.2.1 j) M ∧ (E.2.2.2.2.2.2.1 j = none → M.1 (135 + 12 * J j) 5 = 0) ∧ ∀ e, E.2.2.2.2.2.2.1 j = some e → ¬ M.1 (135 + 12 * J j) 5 = 0 ∧ XCo_ (135 + 12 * J j + 6) e M)
theorem XC_cg {k r b : Nat} {e : Term} {M N : mm_} (hk : kcX_ k) (h : XF_ r b M N) (g : XCo_ k e M) : XCo_ k e N := ⟨g.1, g.2.1, g.2.2.1, hd_XF hk h g.2.2.2.1, g.2.2.2.2⟩
theorem JX_cg {E : se_} {J : Nat → Nat} {c r b : Nat} {s s2 : sgA_} {M N : mm_} (hJ : ∀ j, j < 8 → J j < 9) (h : XF_ r b M N) (hs : KM_ s s2) (g : JX_ E J c s M) : JX_ E J c s2 N := by
  intro j hj h0
  have hs2 : s2.1 j = s.1 j := (hs j hj).resolve_right h0
  rw [hs2] at h0 ⊢
  have hJj := hJ j hj
  obtain ⟨a1, a2, a3⟩ := g j hj h0
  have e : ∀ i, ¬ i = 0 → ¬ i = 7 → N.1 (135 + 12 * J j) i = M.1 (135 + 12 * J j) i := fun i z1 z2 => h.2.1 _ i (by unfold faX_; omega)
  refine ⟨a1, fun m hm => by rw [e 9 (by omega) (by omega)]; exact a2 m hm, fun h1 => ?_⟩
  obtain ⟨b1, b2, b3, b4, b5⟩ := a3 h1
  refine ⟨by rw [e 1 (by omega) (by omega)]; exact b1, by rw [e 6 (by omega) (by omega)]; exact b2, XC_cg (kcX_e hJj) h b3, fun z => by rw [e 5 (by omega) (by omega)]; exact b4 z, fun e2 z => ?_⟩
  obtain ⟨c1, c2⟩ := b5 e2 z
  exact ⟨by rw [e 5 (by omega) (by omega)]; exact c1, XC_cg (kcX_c hJj) h c2⟩
/-! rows -/
theorem rP_g {N : mm_} {k cap n w c : Nat} {v : Int32} (h1 : N.1 k 1 = nI w) (h3 : N.1 k 3 = nI n) (hc : n * w + c < cap) (hp : cap < 100000) : rP_ N k cap (nI c) v = sI_ N (k + 1) (n * w + c) v := by
  have e : N.1 k 3 * N.1 k 1 + nI c = nI (n * w + c) := by rw [h1, h3, pk_mul, nI_add]
  unfold rP_
  rw [e, if_pos ⟨nI_le (a := 0) (b := n * w + c) (by omega) (by omega), nI_lt (a := n * w + c) (b := cap) hc (by omega)⟩, nI_clamp (by omega)]
theorem w5r_ {A : mm_} {a q i : Nat} {v0 v1 v2 v3 v4 : Int32} : (sI_ (sI_ (sI_ (sI_ (sI_ A a (q + 0) v0) a (q + 1) v1) a (q + 2) v2) a (q + 3) v3) a (q + 4) v4).1 a i = if q ≤ i ∧ i < q + 5 then l5_ v0 v1 v2 v3 v4 (i - q) else A.1 a i := by
  by_cases h : q ≤ i ∧ i < q + 5
  · rw [if_pos h]
    obtain ⟨j, rfl⟩ : ∃ j, i = q + j := ⟨i - q, by omega⟩
    rw [Nat.add_sub_cancel_left]
    obtain rfl | rfl | rfl | rfl | rfl : j = 0 ∨ j = 1 ∨ j = 2 ∨ j = 3 ∨ j = 4 := by omega
    · rw [gI_sI, if_neg (by omega), gI_sI, if_neg (by omega), gI_sI, if_neg (by omega), gI_sI, if_neg (by omega), gI_sI, if_pos ⟨rfl, rfl⟩]; rfl
    · rw [gI_sI, if_neg (by omega), gI_sI, if_neg (by omega), gI_sI, if_neg (by omega), gI_sI, if_pos ⟨rfl, rfl⟩]; rfl
    · rw [gI_sI, if_neg (by omega), gI_sI, if_neg (by omega), gI_sI, if_pos ⟨rfl, rfl⟩]; rfl
    · rw [gI_sI, if_neg (by omega), gI_sI, if_pos ⟨rfl, rfl⟩]; rfl
    · rw [gI_sI, if_pos ⟨rfl, rfl⟩]; rfl
  · rw [if_neg h, gI_sI, if_neg (by omega), gI_sI, if_neg (by omega), gI_sI, if_neg (by omega), gI_sI, if_neg (by omega), gI_sI, if_neg (by omega)]
def l7_ (a b c d e f g : Int32) : Nat → Int32 := fun i => if i = 0 then a else if i = 1 then b else if i = 2 then c else if i = 3 then d else if i = 4 then e else if i = 5 then f else g
theorem w7_7 {A : mm_} {a q i : Nat} {v0 v1 v2 v3 v4 v5 v6 : Int32} : (sI_ (sI_ (sI_ (sI_ (sI_ (sI_ (sI_ A a (q + 0) v0) a (q + 1) v1) a (q + 2) v2) a (q + 3) v3) a (q + 4) v4) a (q + 5) v5) a (q + 6) v6).1 a i = if q ≤ i ∧ i < q + 7 then l7_ v0 v1 v2 v3 v4 v5 v6 (i - q) else A.1 a i := by
  by_cases h : q ≤ i ∧ i < q + 7
  · rw [if_pos h]
    obtain ⟨j, rfl⟩ : ∃ j, i = q + j := ⟨i - q, by omega⟩
    rw [Nat.add_sub_cancel_left]
    obtain rfl | rfl | rfl | rfl | rfl | rfl | rfl : j = 0 ∨ j = 1 ∨ j = 2 ∨ j = 3 ∨ j = 4 ∨ j = 5 ∨ j = 6 := by omega
    · rw [gI_sI, if_neg (by omega), gI_sI, if_neg (by omega), gI_sI, if_neg (by omega), gI_sI, if_neg (by omega), gI_sI, if_neg (by omega), gI_sI, if_neg (by omega), gI_sI, if_pos ⟨rfl, rfl⟩]; rfl
    · rw [gI_sI, if_neg (by omega), gI_sI, if_neg (by omega), gI_sI, if_neg (by omega), gI_sI, if_neg (by omega), gI_sI, if_neg (by omega), gI_sI, if_pos ⟨rfl, rfl⟩]; rfl
    · rw [gI_sI, if_neg (by omega), gI_sI, if_neg (by omega), gI_sI, if_neg (by omega), gI_sI, if_neg (by omega), gI_sI, if_pos ⟨rfl, rfl⟩]; rfl
    · rw [gI_sI, if_neg (by omega), gI_sI, if_neg (by omega), gI_sI, if_neg (by omega), gI_sI, if_pos ⟨rfl, rfl⟩]; rfl
    · rw [gI_sI, if_neg (by omega), gI_sI, if_neg (by omega), gI_sI, if_pos ⟨rfl, rfl⟩]; rfl
    · rw [gI_sI, if_neg (by omega), gI_sI, if_pos ⟨rfl, rfl⟩]; rfl
    · rw [gI_sI, if_pos ⟨rfl, rfl⟩]; rfl
  · rw [if_neg h, gI_sI, if_neg (by omega), gI_sI, if_neg (by omega), gI_sI, if_neg (by omega), gI_sI, if_neg (by omega), gI_sI, if_neg (by omega), gI_sI, if_neg (by omega), gI_sI, if_neg (by omega)]
/-- the five places of a record, and its end -/
theorem rec5_ {A : mm_} {n : Nat} {v0 v1 v2 v3 v4 : Int32} (h0 : A.1 243 0 = 300) (h1 : A.1 243 1 = 5) (h3 : A.1 243 3 = nI n) (hn : n < 300) : rE_ (rP_ (rP_ (rP_ (rP_ (rP_ A 243 1500 0 v0) 243 1500 1 v1) 243 1500 2 v2) 243 1500 3 v3) 243 1500 4 v4) 243 = sI_ (sI_ (sI_ (sI_ (sI_ (sI_ A 244 (n * 5 + 0) v0) 244 (n * 5 + 1) v1) 244 (n * 5 + 2) v2) 244 (n * 5 + 3) v3) 244 (n * 5 + 4) v4) 243 3 (nI (n + 1)) := by
  have st : ∀ (B : mm_) (c : Nat) (v : Int32), B.1 243 1 = nI 5 → B.1 243 3 = nI n → c < 5 → rP_ B 243 1500 (nI c) v = sI_ B 244 (n * 5 + c) v := fun B c v b1 b2 b3 => rP_g b1 b2 (by omega) (by omega)
  have k1 : ∀ (B : mm_) (i : Nat) (v : Int32) (x : Nat), (sI_ B 244 i v).1 243 x = B.1 243 x := fun B i v x => by rw [gI_sI, if_neg (by omega)]
  have h1 : A.1 243 1 = nI 5 := h1
  rw [show (0 : Int32) = nI 0 from rfl, show (1 : Int32) = nI 1 from rfl, show (2 : Int32) = nI 2 from rfl, show (3 : Int32) = nI 3 from rfl, show (4 : Int32) = nI 4 from rfl]
  rw [st A 0 v0 h1 h3 (by omega)]
  rw [st _ 1 v1 (by rw [k1]; exact h1) (by rw [k1]; exact h3) (by omega)]
  rw [st _ 2 v2 (by rw [k1, k1]; exact h1) (by rw [k1, k1]; exact h3) (by omega)]
  rw [st _ 3 v3 (by rw [k1, k1, k1]; exact h1) (by rw [k1, k1, k1]; exact h3) (by omega)]
  rw [st _ 4 v4 (by rw [k1, k1, k1, k1]; exact h1) (by rw [k1, k1, k1, k1]; exact h3) (by omega)]
  unfold rE_
  rw [k1, k1, k1, k1, k1, k1, k1, k1, k1, k1, h0, h3, if_neg (show ¬ (300 : Int32) ≤ nI n from fun y => absurd y (Int32.not_le.mpr (nI_lt (a := n) (b := 300) hn (by decide)))), nI_1]
theorem kep7_ {A : mm_} {n : Nat} {v0 v1 v2 v3 v4 v5 v6 : Int32} (h0 : A.1 245 0 = 40) (h1 : A.1 245 1 = 7) (h3 : A.1 245 3 = nI n) (hn : n < 40) : rE_ (rP_ (rP_ (rP_ (rP_ (rP_ (rP_ (rP_ A 245 280 0 v0) 245 280 1 v1) 245 280 2 v2) 245 280 3 v3) 245 280 4 v4) 245 280 5 v5) 245 280 6 v6) 245 = sI_ (sI_ (sI_ (sI_ (sI_ (sI_ (sI_ (sI_ A 246 (n * 7 + 0) v0) 246 (n * 7 + 1) v1) 246 (n * 7 + 2) v2) 246 (n * 7 + 3) v3) 246 (n * 7 + 4) v4) 246 (n * 7 + 5) v5) 246 (n * 7 + 6) v6) 245 3 (nI (n + 1)) := by
  have st : ∀ (B : mm_) (c : Nat) (v : Int32), B.1 245 1 = nI 7 → B.1 245 3 = nI n → c < 7 → rP_ B 245 280 (nI c) v = sI_ B 246 (n * 7 + c) v := fun B c v b1 b2 b3 => rP_g b1 b2 (by omega) (by omega)
  have k1 : ∀ (B : mm_) (i : Nat) (v : Int32) (x : Nat), (sI_ B 246 i v).1 245 x = B.1 245 x := fun B i v x => by rw [gI_sI, if_neg (by omega)]
  have h1 : A.1 245 1 = nI 7 := h1
  rw [show (0 : Int32) = nI 0 from rfl, show (1 : Int32) = nI 1 from rfl, show (2 : Int32) = nI 2 from rfl, show (3 : Int32) = nI 3 from rfl, show (4 : Int32) = nI 4 from rfl, show (5 : Int32) = nI 5 from rfl, show (6 : Int32) = nI 6 from rfl]
  rw [st A 0 v0 h1 h3 (by omega)]
  rw [st _ 1 v1 (by rw [k1]; exact h1) (by rw [k1]; exact h3) (by omega)]
  rw [st _ 2 v2 (by rw [k1, k1]; exact h1) (by rw [k1, k1]; exact h3) (by omega)]
  rw [st _ 3 v3 (by rw [k1, k1, k1]; exact h1) (by rw [k1, k1, k1]; exact h3) (by omega)]
  rw [st _ 4 v4 (by rw [k1, k1, k1, k1]; exact h1) (by rw [k1, k1, k1, k1]; exact h3) (by omega)]
  rw [st _ 5 v5 (by rw [k1, k1, k1, k1, k1]; exact h1) (by rw [k1, k1, k1, k1, k1]; exact h3) (by omega)]
  rw [st _ 6 v6 (by rw [k1, k1, k1, k1, k1, k1]; exact h1) (by rw [k1, k1, k1, k1, k1, k1]; exact h3) (by omega)]
  unfold rE_
  rw [k1, k1, k1, k1, k1, k1, k1, k1, k1, k1, k1, k1, k1, k1, h0, h3, if_neg (show ¬ (40 : Int32) ≤ nI n from fun y => absurd y (Int32.not_le.mpr (nI_lt (a := n) (b := 40) hn (by decide)))), nI_1]
section PRX
variable {E : se_} {J : Nat → Nat} {c r b : Nat} {s : sgA_} {N : mm_}
theorem XF_job {a i : Nat} {v : Int32} {M : mm_} (hr : r ≤ 11) (ha : ¬ faX_ a i) (h2 : a < 247) (h : XF_ r b M N) (h4 : ∀ t, t < 9 → a = 135 + 12 * t → i = 0 → v = 0) : XF_ r b M (sI_ N a i v) := XF_I ha (fun q _ => by omega) (fun y => by omega) (by omega) h4 h
theorem KM_of {s2 : sgA_} {M : mm_} (hJ : ∀ j, j < 8 → J j < 9) (h : XF_ r b M N) (h1 : DX_ J s M) (h2 : DX_ J s2 N) : KM_ s s2 := fun j hj => by
  rw [← (h2.1 j hj).1, ← (h1.1 j hj).1]
  exact h.2.2.2.2.2 _ (hJ j hj)
/-- a record's end: the job's count -/
theorem DX_cre {j : Nat} (hJ : ∀ j, j < 8 → J j < 9) (hd : ∀ i j, i < 8 → j < 8 → J i = J j → i = j) (hj : j < 8) (hl : N.1 (135 + 12 * J j) 6 = E.2.2.2.2.1 j) (h : DX_ J s N) : DX_ J (if s.2.1 j + 1 < E.2.2.2.2.1 j then sM_ s j (s.2.1 j + 1) else sK_ (sM_ s j (s.2.1 j + 1)) j 0) (cre_ N (135 + 12 * J j)) := by
  have hJj := hJ j hj
  obtain ⟨g1, g2, g3, g4, g5⟩ := h
  obtain ⟨k1, k2, k3⟩ := g1 j hj
  unfold cre_
  rw [k2, hl]
  have q2 : ∀ A : mm_, (∀ a i, 243 ≤ a → A.1 a i = N.1 a i) → (A.1 243 0 = 300 ∧ A.1 243 1 = 5 ∧ A.1 243 3 = nI s.2.2.2.1.1 ∧ s.2.2.2.1.1 ≤ 300 ∧ ∀ i, i < s.2.2.2.1.1 * 5 → A.1 244 i = s.2.2.2.1.2 i) ∧ (A.1 245 0 = 40 ∧ A.1 245 1 = 7 ∧ A.1 245 3 = nI s.2.2.2.2.1.1 ∧ s.2.2.2.2.1.1 ≤ 40 ∧ ∀ i, i < s.2.2.2.2.1.1 * 7 → A.1 246 i = s.2.2.2.2.1.2 i) ∧ A.1 247 1 = nI s.2.2.2.2.2 := fun A hA =>
    ⟨⟨by rw [hA _ _ (by omega)]; exact g2.1, by rw [hA _ _ (by omega)]; exact g2.2.1, by rw [hA _ _ (by omega)]; exact g2.2.2.1, g2.2.2.2.1, fun i hi => by rw [hA _ _ (by omega)]; exact g2.2.2.2.2 i hi⟩, ⟨by rw [hA _ _ (by omega)]; exact g3.1, by rw [hA _ _ (by omega)]; exact g3.2.1, by rw [hA _ _ (by omega)]; exact g3.2.2.1, g3.2.2.2.1, fun i hi => by rw [hA _ _ (by omega)]; exact g3.2.2.2.2 i hi⟩, by rw [hA _ _ (by omega)]; exact g4⟩
  split
  · obtain ⟨y2, y3, y4⟩ := q2 (sI_ N (135 + 12 * J j) 7 (s.2.1 j + 1)) (fun a i ha => by rw [gI_sI, if_neg (by omega)])
    refine ⟨fun i hi => ?_, y2, y3, y4, g5⟩
    have hJi := hJ i hi
    obtain ⟨c1, c2, c3⟩ := g1 i hi
    refine ⟨by rw [gI_sI, if_neg (by omega)]; exact c1, ?_, fun x hx => by rw [gI_sI, if_neg (by omega)]; exact c3 x hx⟩
    show _ = if i = j then s.2.1 j + 1 else s.2.1 i
    by_cases e : i = j
    · subst e; rw [gI_sI, if_pos ⟨rfl, rfl⟩, if_pos rfl]
    · rw [if_neg e, gI_sI, if_neg (fun y => e (hd i j hi hj (by omega)))]; exact c2
  · obtain ⟨y2, y3, y4⟩ := q2 (sI_ (sI_ N (135 + 12 * J j) 7 (s.2.1 j + 1)) (135 + 12 * J j) 0 0) (fun a i ha => by rw [gI_sI, if_neg (by omega), gI_sI, if_neg (by omega)])
    refine ⟨fun i hi => ?_, y2, y3, y4, g5⟩
    have hJi := hJ i hi
    obtain ⟨c1, c2, c3⟩ := g1 i hi
    refine ⟨?_, ?_, fun x hx => by rw [gI_sI, if_neg (by omega), gI_sI, if_neg (by omega)]; exact c3 x hx⟩
    · show _ = if i = j then 0 else s.1 i
      by_cases e : i = j
      · subst e; rw [gI_sI, if_pos ⟨rfl, rfl⟩, if_pos rfl]
      · rw [if_neg e, gI_sI, if_neg (fun y => e (hd i j hi hj (by omega))), gI_sI, if_neg (by omega)]; exact c1
    · show _ = if i = j then s.2.1 j + 1 else s.2.1 i
      by_cases e : i = j
      · subst e; rw [gI_sI, if_neg (by omega), gI_sI, if_pos ⟨rfl, rfl⟩, if_pos rfl]
      · rw [if_neg e, gI_sI, if_neg (fun y => e (hd i j hi hj (by omega))), gI_sI, if_neg (fun y => e (hd i j hi hj (by omega)))]; exact c2
theorem XF_cre {j : Nat} {M : mm_} (hr : r ≤ 11) (hj : J j < 9) (h : XF_ r b M N) : XF_ r b M (cre_ N (135 + 12 * J j)) := by
  unfold cre_; split
  · exact XF_job hr (by unfold faX_; omega) (by omega) h (fun t ht y1 y2 => by omega)
  · exact XF_job hr (by unfold faX_; omega) (by omega) (XF_job hr (by unfold faX_; omega) (by omega) h (fun t ht y1 y2 => by omega)) (fun t ht y1 y2 => rfl)
theorem DX_re {j m : Nat} {v : Int32} {M : mm_} (hr : r ≤ 11) (hJ : ∀ j, j < 8 → J j < 9) (hd : ∀ i j, i < 8 → j < 8 → J i = J j → i = j) (hj : j < 8) (hl : N.1 (135 + 12 * J j) 6 = E.2.2.2.2.1 j) (h5 : N.1 (249 + r) 5 = nI r) (h : DX_ J s N) (hX : XF_ r b M N) : DX_ J (rcA_ E j m r v (if N.1 247 10 = 0 then 0 else 1) s) (reX_ N (135 + 12 * J j) r (nI j) (nI m) v) ∧ XF_ r b M (reX_ N (135 + 12 * J j) r (nI j) (nI m) v) ∧ (∀ i, (reX_ N (135 + 12 * J j) r (nI j) (nI m) v).1 247 i = N.1 247 i) := by
  have hJj := hJ j hj
  have hC := DX_cre (E := E) hJ hd hj hl h
  have hXC := XF_cre (N := N) hr hJj hX
  have c7 : ∀ i, (cre_ N (135 + 12 * J j)).1 247 i = N.1 247 i := fun i => cre_m hJj (by omega)
  unfold rcA_ reX_
  generalize (if s.2.1 j + 1 < E.2.2.2.2.1 j then sM_ s j (s.2.1 j + 1) else sK_ (sM_ s j (s.2.1 j + 1)) j 0) = s2 at hC
  rw [h5]
  generalize (if N.1 247 10 = 0 then (0 : Int32) else 1) = er
  generalize cre_ N (135 + 12 * J j) = A at hC hXC c7
  obtain ⟨g1, ⟨a1, a2, a3, a4, a5⟩, g3, g4, g5⟩ := id hC
  have hF : rF_ A 243 = 0 ↔ s2.2.2.2.1.1 < 300 := by
    unfold rF_
    rw [a3, a1, show (300 : Int32) = nI 300 from rfl]
    by_cases q : s2.2.2.2.1.1 < 300
    · rw [if_pos (nI_lt q (by decide))]; simp [q]
    · rw [if_neg (fun y => q ((nI_ltI (by omega) (by decide)).mp y))]; simp [q]
  unfold sR5_
  by_cases q : s2.2.2.2.1.1 < 300
  · rw [if_pos (hF.mpr q), if_pos q, rec5_ a1 a2 a3 q]
    refine ⟨⟨fun i hi => ?_, ⟨?_, ?_, ?_, by simp only; omega, fun i hi => ?_⟩, ?_, ?_, g5⟩, ?_, fun i => ?_⟩
    · have hJi := hJ i hi
      obtain ⟨c1, c2, c3⟩ := g1 i hi
      refine ⟨?_, ?_, fun x hx => ?_⟩
      · rw [gI_sI, if_neg (by omega), gI_sI, if_neg (by omega), gI_sI, if_neg (by omega), gI_sI, if_neg (by omega), gI_sI, if_neg (by omega), gI_sI, if_neg (by omega)]; exact c1
      · rw [gI_sI, if_neg (by omega), gI_sI, if_neg (by omega), gI_sI, if_neg (by omega), gI_sI, if_neg (by omega), gI_sI, if_neg (by omega), gI_sI, if_neg (by omega)]; exact c2
      · rw [gI_sI, if_neg (by omega), gI_sI, if_neg (by omega), gI_sI, if_neg (by omega), gI_sI, if_neg (by omega), gI_sI, if_neg (by omega), gI_sI, if_neg (by omega)]; exact c3 x hx
    · rw [gI_sI, if_neg (by omega), gI_sI, if_neg (by omega), gI_sI, if_neg (by omega), gI_sI, if_neg (by omega), gI_sI, if_neg (by omega), gI_sI, if_neg (by omega)]; exact a1
    · rw [gI_sI, if_neg (by omega), gI_sI, if_neg (by omega), gI_sI, if_neg (by omega), gI_sI, if_neg (by omega), gI_sI, if_neg (by omega), gI_sI, if_neg (by omega)]; exact a2
    · rw [gI_sI, if_pos ⟨rfl, rfl⟩]
    · rw [gI_sI, if_neg (by omega), w5r_]
      show _ = rw5_ s2.2.2.2.1.2 s2.2.2.2.1.1 5 _ i
      unfold rw5_
      by_cases z : s2.2.2.2.1.1 * 5 ≤ i ∧ i < s2.2.2.2.1.1 * 5 + 5
      · rw [if_pos z, if_pos z]
      · rw [if_neg z, if_neg z]; exact a5 i (by simp only at hi; omega)
    · obtain ⟨d1, d2, d3, d4, d5⟩ := g3
      refine ⟨?_, ?_, ?_, d4, fun i hi => ?_⟩
      · rw [gI_sI, if_neg (by omega), gI_sI, if_neg (by omega), gI_sI, if_neg (by omega), gI_sI, if_neg (by omega), gI_sI, if_neg (by omega), gI_sI, if_neg (by omega)]; exact d1
      · rw [gI_sI, if_neg (by omega), gI_sI, if_neg (by omega), gI_sI, if_neg (by omega), gI_sI, if_neg (by omega), gI_sI, if_neg (by omega), gI_sI, if_neg (by omega)]; exact d2
      · rw [gI_sI, if_neg (by omega), gI_sI, if_neg (by omega), gI_sI, if_neg (by omega), gI_sI, if_neg (by omega), gI_sI, if_neg (by omega), gI_sI, if_neg (by omega)]; exact d3
      · rw [gI_sI, if_neg (by omega), gI_sI, if_neg (by omega), gI_sI, if_neg (by omega), gI_sI, if_neg (by omega), gI_sI, if_neg (by omega), gI_sI, if_neg (by omega)]; exact d5 i hi
    · rw [gI_sI, if_neg (by omega), gI_sI, if_neg (by omega), gI_sI, if_neg (by omega), gI_sI, if_neg (by omega), gI_sI, if_neg (by omega), gI_sI, if_neg (by omega)]; exact g4
    · exact XF_job hr (by unfold faX_; omega) (by omega) (XF_job hr (by unfold faX_; omega) (by omega) (XF_job hr (by unfold faX_; omega) (by omega) (XF_job hr (by unfold faX_; omega) (by omega) (XF_job hr (by unfold faX_; omega) (by omega) (XF_job hr (by unfold faX_; omega) (by omega) (hXC) (fun t ht y1 y2 => by omega)) (fun t ht y1 y2 => by omega)) (fun t ht y1 y2 => by omega)) (fun t ht y1 y2 => by omega)) (fun t ht y1 y2 => by omega)) (fun t ht y1 y2 => by omega)
    · rw [gI_sI, if_neg (by omega), gI_sI, if_neg (by omega), gI_sI, if_neg (by omega), gI_sI, if_neg (by omega), gI_sI, if_neg (by omega), gI_sI, if_neg (by omega)]; exact c7 i
  · rw [if_neg (fun y => q (hF.mp y)), if_neg q]
    exact ⟨hC, hXC, c7⟩
theorem DX_ke {j m p : Nat} {P : Nat → Int32} {v : Int32} {M : mm_} (hr : r ≤ 11) (hJ : ∀ j, j < 8 → J j < 9) (hp : p ≤ 2) (hP : ∀ i, i < 3 → N.1 (249 + r) i = P i) (hv1 : p = 1 → N.1 (249 + r) 3 = v) (hv2 : p = 2 → N.1 (249 + r) 4 = v) (h : DX_ J s N) (hX : XF_ r b M N) : DX_ J (kpA_ j m p P v s) (keX_ N (249 + r) (nI j) (nI m) (nI p)) ∧ XF_ r b M (keX_ N (249 + r) (nI j) (nI m) (nI p)) ∧ (∀ i, (keX_ N (249 + r) (nI j) (nI m) (nI p)).1 247 i = N.1 247 i) := by
  obtain ⟨g1, g2, ⟨a1, a2, a3, a4, a5⟩, g4, g5⟩ := id h
  have hF : rF_ N 245 = 0 ↔ s.2.2.2.2.1.1 < 40 := by
    unfold rF_
    rw [a3, a1, show (40 : Int32) = nI 40 from rfl]
    by_cases q : s.2.2.2.2.1.1 < 40
    · rw [if_pos (nI_lt q (by decide))]; simp [q]
    · rw [if_neg (fun y => q ((nI_ltI (by omega) (by decide)).mp y))]; simp [q]
  unfold keX_ kpA_ sE7_
  by_cases p0 : p = 0
  · subst p0
    rw [if_pos (show nI 0 = 0 ∨ ¬ rF_ N 245 = 0 from Or.inl rfl), if_pos rfl]
    exact ⟨h, hX, fun _ => rfl⟩
  rw [if_neg p0]
  have p0' : ¬ nI p = 0 := fun y => p0 ((nI_z (by omega)).mp y)
  by_cases q : s.2.2.2.2.1.1 < 40
  · rw [if_neg (show ¬ (nI p = 0 ∨ ¬ rF_ N 245 = 0) from fun y => y.elim p0' (fun y => y (hF.mpr q))), if_pos q, kep7_ a1 a2 a3 q]
    have e2 : (nI p = 2) ↔ p = 2 := by rw [show (2 : Int32) = nI 2 from rfl]; exact nI_eq (by omega) (by decide)
    have hv : (if nI p = 2 then N.1 (249 + r) 4 else N.1 (249 + r) 3) = v := by
      by_cases y : p = 2
      · rw [if_pos (e2.mpr y)]; exact hv2 y
      · rw [if_neg (fun y2 => y (e2.mp y2))]; exact hv1 (by omega)
    have h5 : (if nI p = 2 then (1 : Int32) else 0) = if p = 2 then 1 else 0 := by
      by_cases y : p = 2
      · rw [if_pos (e2.mpr y), if_pos y]
      · rw [if_neg (fun y2 => y (e2.mp y2)), if_neg y]
    rw [hv, h5, hP 0 (by omega), hP 1 (by omega), hP 2 (by omega)]
    refine ⟨⟨fun i hi => ?_, ?_, ⟨?_, ?_, ?_, by simp only; omega, fun i hi => ?_⟩, ?_, g5⟩, ?_, fun i => ?_⟩
    · have hJi := hJ i hi
      obtain ⟨c1, c2, c3⟩ := g1 i hi
      refine ⟨?_, ?_, fun x hx => ?_⟩
      · rw [gI_sI, if_neg (by omega), gI_sI, if_neg (by omega), gI_sI, if_neg (by omega), gI_sI, if_neg (by omega), gI_sI, if_neg (by omega), gI_sI, if_neg (by omega), gI_sI, if_neg (by omega), gI_sI, if_neg (by omega)]; exact c1
      · rw [gI_sI, if_neg (by omega), gI_sI, if_neg (by omega), gI_sI, if_neg (by omega), gI_sI, if_neg (by omega), gI_sI, if_neg (by omega), gI_sI, if_neg (by omega), gI_sI, if_neg (by omega), gI_sI, if_neg (by omega)]; exact c2
      · rw [gI_sI, if_neg (by omega), gI_sI, if_neg (by omega), gI_sI, if_neg (by omega), gI_sI, if_neg (by omega), gI_sI, if_neg (by omega), gI_sI, if_neg (by omega), gI_sI, if_neg (by omega), gI_sI, if_neg (by omega)]; exact c3 x hx
    · obtain ⟨d1, d2, d3, d4, d5⟩ := g2
      refine ⟨?_, ?_, ?_, d4, fun i hi => ?_⟩
      · rw [gI_sI, if_neg (by omega), gI_sI, if_neg (by omega), gI_sI, if_neg (by omega), gI_sI, if_neg (by omega), gI_sI, if_neg (by omega), gI_sI, if_neg (by omega), gI_sI, if_neg (by omega), gI_sI, if_neg (by omega)]; exact d1
      · rw [gI_sI, if_neg (by omega), gI_sI, if_neg (by omega), gI_sI, if_neg (by omega), gI_sI, if_neg (by omega), gI_sI, if_neg (by omega), gI_sI, if_neg (by omega), gI_sI, if_neg (by omega), gI_sI, if_neg (by omega)]; exact d2
      · rw [gI_sI, if_neg (by omega), gI_sI, if_neg (by omega), gI_sI, if_neg (by omega), gI_sI, if_neg (by omega), gI_sI, if_neg (by omega), gI_sI, if_neg (by omega), gI_sI, if_neg (by omega), gI_sI, if_neg (by omega)]; exact d3
      · rw [gI_sI, if_neg (by omega), gI_sI, if_neg (by omega), gI_sI, if_neg (by omega), gI_sI, if_neg (by omega), gI_sI, if_neg (by omega), gI_sI, if_neg (by omega), gI_sI, if_neg (by omega), gI_sI, if_neg (by omega)]; exact d5 i hi
    · rw [gI_sI, if_neg (by omega), gI_sI, if_neg (by omega), gI_sI, if_neg (by omega), gI_sI, if_neg (by omega), gI_sI, if_neg (by omega), gI_sI, if_neg (by omega), gI_sI, if_neg (by omega), gI_sI, if_neg (by omega)]; exact a1
    · rw [gI_sI, if_neg (by omega), gI_sI, if_neg (by omega), gI_sI, if_neg (by omega), gI_sI, if_neg (by omega), gI_sI, if_neg (by omega), gI_sI, if_neg (by omega), gI_sI, if_neg (by omega), gI_sI, if_neg (by omega)]; exact a2
    · rw [gI_sI, if_pos ⟨rfl, rfl⟩]
    · rw [gI_sI, if_neg (by omega), w7_7]
      simp only
      unfold rw5_
      by_cases z : s.2.2.2.2.1.1 * 7 ≤ i ∧ i < s.2.2.2.2.1.1 * 7 + 7
      · rw [if_pos z, if_pos z]
        obtain ⟨x, rfl⟩ : ∃ x, i = s.2.2.2.2.1.1 * 7 + x := ⟨i - s.2.2.2.2.1.1 * 7, by omega⟩
        rw [Nat.add_sub_cancel_left]
        obtain rfl | rfl | rfl | rfl | rfl | rfl | rfl : x = 0 ∨ x = 1 ∨ x = 2 ∨ x = 3 ∨ x = 4 ∨ x = 5 ∨ x = 6 := by omega
        all_goals rfl
      · rw [if_neg z, if_neg z]; exact a5 i (by simp only at hi; omega)
    · rw [gI_sI, if_neg (by omega), gI_sI, if_neg (by omega), gI_sI, if_neg (by omega), gI_sI, if_neg (by omega), gI_sI, if_neg (by omega), gI_sI, if_neg (by omega), gI_sI, if_neg (by omega), gI_sI, if_neg (by omega)]; exact g4
    · exact XF_job hr (by unfold faX_; omega) (by omega) (XF_job hr (by unfold faX_; omega) (by omega) (XF_job hr (by unfold faX_; omega) (by omega) (XF_job hr (by unfold faX_; omega) (by omega) (XF_job hr (by unfold faX_; omega) (by omega) (XF_job hr (by unfold faX_; omega) (by omega) (XF_job hr (by unfold faX_; omega) (by omega) (XF_job hr (by unfold faX_; omega) (by omega) (hX) (fun t ht y1 y2 => by omega)) (fun t ht y1 y2 => by omega)) (fun t ht y1 y2 => by omega)) (fun t ht y1 y2 => by omega)) (fun t ht y1 y2 => by omega)) (fun t ht y1 y2 => by omega)) (fun t ht y1 y2 => by omega)) (fun t ht y1 y2 => by omega)
    · rw [gI_sI, if_neg (by omega), gI_sI, if_neg (by omega), gI_sI, if_neg (by omega), gI_sI, if_neg (by omega), gI_sI, if_neg (by omega), gI_sI, if_neg (by omega), gI_sI, if_neg (by omega), gI_sI, if_neg (by omega)]
  · rw [if_pos (show nI p = 0 ∨ ¬ rF_ N 245 = 0 from Or.inr (fun y => q (hF.mp y))), if_neg q]
    exact ⟨h, hX, fun _ => rfl⟩
theorem DX_ct {j i : Nat} {v : Int32} (hJ : ∀ j, j < 8 → J j < 9) (hd : ∀ i j, i < 8 → j < 8 → J i = J j → i = j) (hj : j < 8) (h : DX_ J s N) : DX_ J (sCA_ s j i v) (sI_ N (135 + 12 * J j + 11) i v) := by
  have hJj := hJ j hj
  obtain ⟨g1, ⟨a1, a2, a3, a4, a5⟩, ⟨b1, b2, b3, b4, b5⟩, g4, g5⟩ := h
  refine ⟨fun k hk => ?_, ⟨by rw [gI_sI, if_neg (by omega)]; exact a1, by rw [gI_sI, if_neg (by omega)]; exact a2, by rw [gI_sI, if_neg (by omega)]; exact a3, a4, fun x hx => by rw [gI_sI, if_neg (by omega)]; exact a5 x hx⟩, ⟨by rw [gI_sI, if_neg (by omega)]; exact b1, by rw [gI_sI, if_neg (by omega)]; exact b2, by rw [gI_sI, if_neg (by omega)]; exact b3, b4, fun x hx => by rw [gI_sI, if_neg (by omega)]; exact b5 x hx⟩, by rw [gI_sI, if_neg (by omega)]; exact g4, g5⟩
  have hJk := hJ k hk
  obtain ⟨c1, c2, c3⟩ := g1 k hk
  refine ⟨by rw [gI_sI, if_neg (by omega)]; exact c1, by rw [gI_sI, if_neg (by omega)]; exact c2, fun x hx => ?_⟩
  show _ = if k = j ∧ x = i then v else s.2.2.1 k x
  by_cases e : k = j ∧ x = i
  · obtain ⟨rfl, rfl⟩ := e
    rw [gI_sI, if_pos ⟨rfl, rfl⟩, if_pos ⟨rfl, rfl⟩]
  · rw [if_neg e, gI_sI, if_neg (fun y => e ⟨hd k j hk hj (by omega), y.2⟩)]; exact c3 x hx
end PRX
end
