/-! The two readers of expressions: the class's (recursive descent, pz2_) and the reference's (frames that wait, lo_) find the same trees, or both a fault. -/
def LO_ (M : mm_) (n : Nat) (S : ss_) : ss_ ⊕ (Int32 × Nat) := lo_ M n (n + 1 - S.1) S
def FX_ (M : mm_) (n : Nat) (S : ss_) : (Term × Nat) ⊕ (Int32 × Nat) := fx_ (LO_ M n S)
abbrev en_d (M : mm_) (n k : Nat) : Prop := bf_ M n k < 0 ∨ (¬ M.1 0 14 = 0 ∧ bf_ M n k ≤ 32)
theorem en_n {M : mm_} {n k : Nat} (h : n ≤ k) : en_d M n k := Or.inl (by unfold bf_; rw [if_neg (by omega)]; decide)
theorem lo_fuel {M : mm_} {n : Nat} : ∀ (u t : Nat) (S : ss_), n + 1 - S.1 ≤ u → n + 1 - S.1 ≤ t → S.1 ≤ n → lo_ M n t S = lo_ M n (n + 1 - S.1) S
  | 0, _, S, h, _, hk => by omega
  | u + 1, t, S, h, ht, hk => by
    obtain ⟨t, rfl⟩ : ∃ t2, t = t2 + 1 := ⟨t - 1, by omega⟩
    obtain ⟨w, hw⟩ : ∃ w, n + 1 - S.1 = w + 1 := ⟨n - S.1, by omega⟩
    rw [hw, lo_, lo_]
    obtain ⟨k, W, o, nd, op⟩ := S
    simp only at h ht hk hw ⊢
    cases o with
    | none =>
      simp only
      have g := gk_so (M := M) (n := n) (k := k) (nd := nd) (op := op) (W := W)
      cases hs : so_ M n k W nd op with
      | inr q => rfl
      | inl S2 =>
        rw [hs] at g
        have g2 : k < S2.1 ∧ S2.1 ≤ n := g
        simp only
        rw [lo_fuel u t S2 (by omega) (by omega) g2.2, lo_fuel u w S2 (by omega) (by omega) g2.2]
    | some e =>
      simp only
      by_cases he : en_d M n k
      · rw [if_pos he, if_pos he]
      · rw [if_neg he, if_neg he]
        have hkn : k < n := by
          rcases Nat.lt_or_ge k n with z | z
          · exact z
          · exact absurd (en_n z) he
        have g := s1_si (f := bf_ M n) (k := k) (nd := nd) (op := op) (W := W) (e := e)
        cases hs : si_ (bf_ M n k) k W e nd op with
        | inr q => rfl
        | inl S2 =>
          rw [hs] at g
          have g2 : S2.1 = k + 1 := g.1
          simp only
          rw [lo_fuel u t S2 (by omega) (by omega) (by omega), lo_fuel u w S2 (by omega) (by omega) (by omega)]
theorem FX_none {M : mm_} {n k nd op : Nat} {W : List fr_} (hk : k ≤ n) : FX_ M n (k, W, none, nd, op) = match so_ M n k W nd op with | .inl S => FX_ M n S | .inr z => .inr z := by
  have g := gk_so (M := M) (n := n) (k := k) (nd := nd) (op := op) (W := W)
  unfold FX_ LO_
  obtain ⟨w, hw⟩ : ∃ w, n + 1 - k = w + 1 := ⟨n - k, by omega⟩
  show fx_ (lo_ M n (n + 1 - k) (k, W, none, nd, op)) = _
  rw [hw, lo_]
  simp only
  cases hs : so_ M n k W nd op with
  | inr q => rfl
  | inl S2 =>
    rw [hs] at g
    have g2 : k < S2.1 ∧ S2.1 ≤ n := g
    simp only
    rw [lo_fuel (n + 1) w S2 (by omega) (by omega) g2.2]
theorem FX_some {M : mm_} {n k nd op : Nat} {W : List fr_} {e : Term} (hk : k ≤ n) (he : ¬ en_d M n k) : FX_ M n (k, W, some e, nd, op) = match si_ (bf_ M n k) k W e nd op with | .inl S => FX_ M n S | .inr z => .inr z := by
  have hkn : k < n := by
    rcases Nat.lt_or_ge k n with z | z
    · exact z
    · exact absurd (en_n z) he
  have g := s1_si (f := bf_ M n) (k := k) (nd := nd) (op := op) (W := W) (e := e)
  unfold FX_ LO_
  obtain ⟨w, hw⟩ : ∃ w, n + 1 - k = w + 1 := ⟨n - k, by omega⟩
  show fx_ (lo_ M n (n + 1 - k) (k, W, some e, nd, op)) = _
  rw [hw, lo_]
  simp only
  rw [if_neg he]
  cases hs : si_ (bf_ M n k) k W e nd op with
  | inr q => rfl
  | inl S2 =>
    rw [hs] at g
    have g2 : S2.1 = k + 1 := g.1
    simp only
    rw [lo_fuel (n + 1) w S2 (by omega) (by omega) (by omega)]
theorem FX_end {M : mm_} {n k nd op : Nat} {W : List fr_} {e : Term} (hk : k ≤ n) (he : en_d M n k) : FX_ M n (k, W, some e, nd, op) = fx_ (.inl (k, W, some e, nd, op)) := by
  unfold FX_ LO_
  obtain ⟨w, hw⟩ : ∃ w, n + 1 - k = w + 1 := ⟨n - k, by omega⟩
  show fx_ (lo_ M n (n + 1 - k) (k, W, some e, nd, op)) = _
  rw [hw, lo_]
  simp only
  rw [if_pos he]
def BD_ (M : mm_) (n : Nat) (S : ss_) : Prop := ∃ z, FX_ M n S = .inr z
theorem BD_none {M : mm_} {n k nd op : Nat} {W : List fr_} {z : Int32 × Nat} (hk : k ≤ n) (h : so_ M n k W nd op = .inr z) : BD_ M n (k, W, none, nd, op) := ⟨z, by rw [FX_none hk, h]⟩
theorem BD_some {M : mm_} {n k nd op : Nat} {W : List fr_} {e : Term} {z : Int32 × Nat} (hk : k ≤ n) (he : ¬ en_d M n k) (h : si_ (bf_ M n k) k W e nd op = .inr z) : BD_ M n (k, W, some e, nd, op) := ⟨z, by rw [FX_some hk he, h]⟩
/-! frames put together -/
def CL_ (F : List fr_) (e : Term) : Term := F.foldl (fun e g => rf_ g e) e
theorem CL_app {F H : List fr_} {e : Term} : CL_ (F ++ H) e = CL_ H (CL_ F e) := by unfold CL_; rw [List.foldl_append]
def lv_all (L : Nat) (F : List fr_) : Prop := ∀ g ∈ F, L ≤ g.1 ∧ g.1 ≤ 6
theorem lv_app {L : Nat} {F H : List fr_} (h1 : lv_all L F) (h2 : lv_all L H) : lv_all L (F ++ H) := fun g hg => (List.mem_append.mp hg).elim (h1 g) (h2 g)
theorem lv_mono {L K : Nat} {F : List fr_} (h : lv_all L F) (hk : K ≤ L) : lv_all K F := fun g hg => ⟨Nat.le_trans hk (h g hg).1, (h g hg).2⟩
theorem lv_1 {L : Nat} {g : fr_} (h1 : L ≤ g.1) (h2 : g.1 ≤ 6) : lv_all L [g] := fun x hx => by rw [List.mem_singleton.mp hx]; exact ⟨h1, h2⟩
theorem lv_nil {L : Nat} : lv_all L [] := fun _ h => by cases h
def tp9_ (L : Nat) : List fr_ → Prop
  | [] => True
  | g :: _ => (g.1 < L ∨ 6 < g.1) ∧ g.1 ≤ 8
theorem rt_app {L : Nat} : ∀ (F W : List fr_) (e : Term), lv_all L F → rt_ L (F ++ W) e = rt_ L W (CL_ F e)
  | [], _, _, _ => rfl
  | g :: F, W, e, h => by
    rw [List.cons_append, rt_, if_pos (h g List.mem_cons_self), rt_app F W _ (fun x hx => h x (List.mem_cons_of_mem _ hx))]
    rfl
theorem rt_stop {L : Nat} : ∀ {W : List fr_} {e : Term}, tp9_ L W → rt_ L W e = (W, e)
  | [], _, _ => rfl
  | g :: W, e, h => by
    rw [rt_, if_neg]
    have h2 : (g.1 < L ∨ 6 < g.1) ∧ g.1 ≤ 8 := h
    omega
theorem rt_all {L : Nat} {F W : List fr_} {e : Term} (h : lv_all L F) (ht : tp9_ L W) : rt_ L (F ++ W) e = (W, CL_ F e) := by rw [rt_app F W e h, rt_stop ht]
/-- a comparison stands among the frames, with sums and closer signs alone above it -/
def CMP_ (F : List fr_) : Prop := ∃ (F1 : List fr_) (g : fr_) (F2 : List fr_), F = F1 ++ g :: F2 ∧ lv_all 4 F1 ∧ g.1 = 3
theorem CMP_app {F H : List fr_} (h : CMP_ F) : CMP_ (F ++ H) := by
  obtain ⟨F1, g, F2, rfl, h1, h2⟩ := h
  exact ⟨F1, g, F2 ++ H, by simp, h1, h2⟩
theorem CMP_bt {F : List fr_} {W : List fr_} {k nd op : Nat} {c : Int32} {e : Term} (h : CMP_ F) : bt_ 3 c k (F ++ W) e nd op = .inr (1, k) := by
  obtain ⟨F1, g, F2, rfl, h1, h2⟩ := h
  unfold bt_
  rw [if_pos (rfl : 3 = 3), List.append_assoc, List.cons_append, rt_app F1 _ e h1, rt_stop (show tp9_ 4 (g :: (F2 ++ W)) from ⟨Or.inl (by omega), by omega⟩), if_pos]
  exact ⟨rfl, by show nI g.1 = 3; rw [h2]; rfl⟩
/-- what can't stand behind a tree of the kind q -/
def MU_ (q : Nat) (c : Int32) (F : List fr_) : Prop := (q ≤ 5 → ¬ kd_ c = 5) ∧ (q ≤ 4 → ¬ kd_ c = 4) ∧ (q ≤ 3 → kd_ c = 3 → CMP_ F) ∧ (q ≤ 2 → ¬ c = 63) ∧ (q ≤ 1 → ¬ c = 35)
theorem kd_3 {c : Int32} : c = 60 ∨ c = 61 ∨ c = 62 ↔ kd_ c = 3 := by
  unfold kd_
  split
  · simp_all
  · split
    · simp_all
    · split <;> simp_all
theorem kd_4 {c : Int32} : c = 43 ∨ c = 45 ↔ kd_ c = 4 := by
  unfold kd_
  split
  · rename_i h
    rcases h with rfl | rfl | rfl <;> decide
  · split
    · simp_all
    · split <;> simp_all
theorem kd_5 {c : Int32} : c = 42 ∨ c = 47 ∨ c = 37 ↔ kd_ c = 5 := by
  unfold kd_
  split
  · rename_i h
    rcases h with rfl | rfl | rfl <;> decide
  · split
    · rename_i h
      rcases h with rfl | rfl <;> decide
    · split
      · rename_i h
        constructor
        · intro _; rfl
        · intro _; rcases h with h | h | h
          · exact Or.inr (Or.inr h)
          · exact Or.inl h
          · exact Or.inr (Or.inl h)
      · rename_i h
        constructor
        · intro z; exact absurd (by rcases z with z | z | z; exact Or.inr (Or.inl z); exact Or.inr (Or.inr z); exact Or.inl z) h
        · intro z; exact absurd z (by decide)
def tp6_ : List fr_ → Nat
  | [] => 100
  | g :: _ => g.1
/-- a whole expression has been read, and nothing of it can go on -/
theorem si_end2 {k nd op : Nat} {F W : List fr_} {e : Term} {c : Int32} (hF : lv_all 1 F) (hm : MU_ 1 c F) (ht : W = [] ∨ tp6_ W = 0 ∨ tp6_ W = 7 ∨ tp6_ W = 8) (h7 : c = 58 → ¬ tp6_ W = 7) (h8 : c = 44 → ¬ tp6_ W = 8) (h0 : c = 41 → tp6_ W = 7 ∨ W = []) : ∃ z, si_ c k (F ++ W) e nd op = .inr z := by
  have hst : tp9_ 1 W := by
    cases W with
    | nil => trivial
    | cons g W =>
      have : g.1 = 0 ∨ g.1 = 7 ∨ g.1 = 8 := ht.resolve_left (by simp)
      show (g.1 < 1 ∨ 6 < g.1) ∧ g.1 ≤ 8
      omega
  have er := rt_all (e := e) hF hst
  unfold si_
  rw [if_neg (hm.2.2.2.2 (by omega)), if_neg (hm.2.2.2.1 (by omega))]
  by_cases c1 : c = 58
  · rw [if_pos c1]
    unfold cl_
    rw [er]
    cases W with
    | nil => exact ⟨_, rfl⟩
    | cons g W =>
      simp only
      rw [if_neg (show ¬ g.1 = 7 from h7 c1)]
      exact ⟨_, rfl⟩
  rw [if_neg c1]
  by_cases c2 : c = 60 ∨ c = 61 ∨ c = 62
  · rw [if_pos c2, CMP_bt (hm.2.2.1 (by omega) (kd_3.mp c2))]
    exact ⟨_, rfl⟩
  rw [if_neg c2, if_neg (fun z => hm.2.1 (by omega) (kd_4.mp z)), if_neg (fun z => hm.1 (by omega) (kd_5.mp z))]
  by_cases c3 : c = 44
  · rw [if_pos c3]
    unfold cm2_
    rw [er]
    cases W with
    | nil => exact ⟨_, rfl⟩
    | cons g W =>
      simp only
      rw [if_neg (show ¬ g.1 = 8 from h8 c3)]
      exact ⟨_, rfl⟩
  rw [if_neg c3]
  by_cases c4 : c = 41
  · rw [if_pos c4]
    unfold cz_
    rw [er]
    cases W with
    | nil => exact ⟨_, rfl⟩
    | cons g W =>
      have z : g.1 = 7 := (h0 c4).resolve_right (by simp)
      simp only
      rw [if_neg (by omega), if_neg (by omega)]
      exact ⟨_, rfl⟩
  rw [if_neg c4]
  exact ⟨_, rfl⟩
theorem BD_stuck {M : mm_} {n k nd op : Nat} {F W : List fr_} {e : Term} (hk : k ≤ n) (hF : lv_all 1 F) (hm : MU_ 1 (bf_ M n k) F) (hW : ¬ W = []) (ht : tp6_ W = 0 ∨ tp6_ W = 7 ∨ tp6_ W = 8) (h7 : bf_ M n k = 58 → ¬ tp6_ W = 7) (h8 : bf_ M n k = 44 → ¬ tp6_ W = 8) (h0 : bf_ M n k = 41 → tp6_ W = 7) : BD_ M n (k, F ++ W, some e, nd, op) := by
  by_cases he : en_d M n k
  · refine ⟨(1, k), ?_⟩
    rw [FX_end hk he]
    have hst : tp9_ 1 W := by
      cases W with
      | nil => trivial
      | cons g W =>
        have : g.1 = 0 ∨ g.1 = 7 ∨ g.1 = 8 := ht
        show (g.1 < 1 ∨ 6 < g.1) ∧ g.1 ≤ 8
        omega
    unfold fx_
    simp only
    rw [rt_all hF hst, if_neg]
    cases W with
    | nil => exact absurd rfl hW
    | cons g W => simp
  · obtain ⟨z, hz⟩ := si_end2 (k := k) (nd := nd) (op := op) (e := e) hF hm (Or.inr ht) h7 h8 (fun c => Or.inl (h0 c))
    exact BD_some hk he hz
