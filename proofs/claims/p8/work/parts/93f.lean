/-! the two readers find the same -/
theorem TI_all {T : Int32 → Int32} {M : mm_} {n : Nat} {v : Int32} {nm : Bool} (h : TF_ T (bf_ M n) n) (hK : KN_ M v nm) : ∀ t, TI_ M n (pz2_ T v nm t) t
  | 0 => by
    refine ⟨fun q k m o W h1 h2 _ _ _ h3 => ?_, fun q e k m o W F e2 h1 _ _ _ h3 => ?_, fun k m o W _ _ _ h3 => ?_⟩
    · have : 1 ≤ fw9_ q := by
        unfold fw9_
        split
        · omega
        · split <;> omega
      omega
    · omega
    · omega
  | t + 1 => by
    have hP := TI_all h hK t
    have hz : ∀ q l k m o, pz2_ T v nm (t + 1) q l k m o = zs_ (pz2_ T v nm t) T v nm q l k m o := fun _ _ _ _ _ => rfl
    generalize pz2_ T v nm t = P at hP hz
    refine ⟨fun q k m o W h1 h2 hk hm ho h3 h4 h5 h6 => ?_, fun q e k m o W F e2 h1 hk hm ho h3 h4 h5 h6 h7 => ?_, fun k m o W hk hm ho h3 h4 h5 => ?_⟩
    · rw [hz]
      obtain rfl | rfl | rfl | rfl | rfl | rfl | rfl : q = 1 ∨ q = 2 ∨ q = 3 ∨ q = 4 ∨ q = 5 ∨ q = 6 ∨ q = 7 := by omega
      · exact ti1n (T := T) hP hk hm ho h3 (h4 (by omega)) h5
      · exact ti2 h hP hk hm ho h3 (h4 (by omega)) h5
      · exact ti3n (T := T) hP (by omega) hk hm ho h3 (h4 (by omega)) h5
      · exact ti3n (T := T) hP (by omega) hk hm ho h3 (h4 (by omega)) h5
      · exact ti3n (T := T) hP (by omega) hk hm ho h3 (h4 (by omega)) h5
      · exact ti6 (v := v) (nm := nm) h hP hk hm ho h3 h5
      · exact ti7 h hK hP hk hm ho h3 (h6 rfl) h5
    · rw [hz]
      obtain rfl | rfl | rfl | rfl := h1
      · exact ti1s h hP hk hm ho h3 h4 h5 h6 h7
      · exact ti3s h hP (by omega) hk hm ho h3 h4 h5 h6 h7
      · exact ti3s h hP (by omega) hk hm ho h3 h4 h5 h6 h7
      · exact ti3s h hP (by omega) hk hm ho h3 h4 h5 h6 h7
    · rw [hz]
      exact ti8 h hP hk hm ho h3 h4 h5
/-- an expression: the same tree up to the same place, or a fault -/
def XT2_ (M : mm_) (n k : Nat) : px2_ → Prop
  | none => ∃ z, ex_ M n k = .inr z
  | some x => x.2.1 ≤ n ∧ k ≤ x.2.1 ∧ (en_d M n x.2.1 → ex_ M n k = .inl (tm_ x.1, x.2.1)) ∧ (¬ en_d M n x.2.1 → ∃ z, ex_ M n k = .inr z)
theorem ex_tie {T : Int32 → Int32} {M : mm_} {n k : Nat} {v : Int32} {nm : Bool} (h : TF_ T (bf_ M n) n) (hK : KN_ M v nm) (hk : k ≤ n) : XT2_ M n k (pe2_ T v nm (some k)) := by
  have i := (TI_all h hK 297).1 1 k 0 0 [] (by omega) (by omega) hk (by omega) (by omega) (by decide) (fun _ => trivial) ⟨rfl, fun z => by simp [fqb_] at z⟩ (fun z => by omega)
  have e0 : ex_ M n k = FX_ M n (k, [], none, 0, 0) := rfl
  show XT2_ M n k (pz2_ T v nm 297 1 none k 0 0)
  cases hp : pz2_ T v nm 297 1 none k 0 0 with
  | none => rw [hp] at i; obtain ⟨z, hz⟩ := i; exact ⟨z, e0.trans hz⟩
  | some x =>
    rw [hp] at i
    obtain ⟨a1, a2, a3, a4, F, e, b1, b2, b3, b4⟩ := i
    refine ⟨a1, a2, fun he => ?_, fun he => ?_⟩
    · rw [e0, b3, FX_end a1 he]
      unfold fx_
      simp only
      rw [rt_all b1 (show tp9_ 1 [] from trivial), b2]
      rfl
    · obtain ⟨z, hz⟩ := si_end2 (k := x.2.1) (nd := x.2.2) (op := 0) (e := e) (W := []) b1 b4 (Or.inl rfl) (fun _ => by simp [tp6_]) (fun _ => by simp [tp6_]) (fun _ => Or.inr rfl)
      obtain ⟨z2, hz2⟩ := BD_some a1 he hz
      exact ⟨z2, by rw [e0, b3]; exact hz2⟩
