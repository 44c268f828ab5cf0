/-! the tapes are the same; methods are found by the same names -/
def TQ_ (n : Nat) (M : mm_) : Prop := ∀ k, k < n → M.1 36 k = M.1 1 k ∧ 0 ≤ M.1 1 k
theorem TF_of {n : Nat} {M N : mm_} (ht : tpX_ M n) (h : TQ_ n M) (e : ∀ i, N.1 1 i = M.1 1 i) : TF_ (tb_ M) (bf_ N n) n := by
  refine ⟨ht.1, fun k hk => ?_, fun k hk => ?_, fun k hk => ?_⟩
  · unfold tb_ bf_
    rw [ht.2]
    by_cases q : k < n
    · rw [if_pos ⟨nI_le (a := 0) (b := k) (by omega) (by omega), nI_lt q (by have := ht.1; omega)⟩, if_pos q, nI_clamp (by omega), (h k q).1, e]
    · rw [if_neg (fun z => absurd z.2 (Int32.not_lt.mpr (nI_le (a := n) (b := k) (by omega) (by omega)))), if_neg q]
  · unfold bf_; rw [if_neg (by omega)]
  · unfold bf_; rw [if_pos hk, e]; exact (h k hk).2
/-- a key of the class's, and the reference's name and number of parameters -/
def NK_ (K a : Int64) (p : Int32) : Prop := ∃ (f : Nat → Int32) (k z j : Nat), ry_ f k z ∧ z ≤ 12 ∧ j < 4 ∧ K = ky_ (lN (LE_ f k z)) (nI j) ∧ a = nm_ f k z ∧ p = nI j
theorem NK_eq {K1 a1 K2 a2 : Int64} {p1 p2 : Int32} (h1 : NK_ K1 a1 p1) (h2 : NK_ K2 a2 p2) : K1 = K2 ↔ (a1 = a2 ∧ p1 = p2) := by
  obtain ⟨f1, k1, z1, j1, r1, s1, t1, rfl, rfl, rfl⟩ := h1
  obtain ⟨f2, k2, z2, j2, r2, s2, t2, rfl, rfl, rfl⟩ := h2
  have l1 : LE_ f1 k1 z1 < 2 ^ 60 := Nat.lt_of_lt_of_le (LE_lt z1 r1) (p32_le s1)
  have l2 : LE_ f2 k2 z2 < 2 ^ 60 := Nat.lt_of_lt_of_le (LE_lt z2 r2) (p32_le s2)
  have b1 : BE_ f1 k1 z1 < 2 ^ 60 := Nat.lt_of_lt_of_le (BE_lt z1 r1) (p32_le s1)
  have b2 : BE_ f2 k2 z2 < 2 ^ 60 := Nat.lt_of_lt_of_le (BE_lt z2 r2) (p32_le s2)
  rw [nm_BE z1 s1 r1, nm_BE z2 s2 r2]
  constructor
  · intro h
    have e := congrArg (fun x : Int64 => x.toBitVec.toNat) h
    rw [ky_N l1 t1, ky_N l2 t2] at e
    have ej : j1 = j2 := by omega
    have el : LE_ f1 k1 z1 = LE_ f2 k2 z2 := by omega
    have v1 := rv_LE z1 12 k1 0 s1 r1
    have v2 := rv_LE z2 12 k2 0 s2 r2
    rw [el, v2] at v1
    exact ⟨by congr 1; omega, by rw [ej]⟩
  · rintro ⟨h, hj⟩
    have e := congrArg (fun x : Int64 => x.toBitVec.toNat) h
    rw [tbl_ (by omega), tbl_ (by omega)] at e
    have v1 := rv_BE z1 12 k1 0 s1 r1
    have v2 := rv_BE z2 12 k2 0 s2 r2
    rw [e, v2] at v1
    rw [hj]
    congr 2
    omega
theorem fd_fm {A B : mm_} {c : Nat} {K a : Int64} {p : Int32} (h : ∀ m, m < c → NK_ (A.2.1 46 m) (B.2.1 5 m) (B.1 6 m)) (hK : NK_ K a p) : ∀ u i, i + u ≤ c → fd1_ A c K u i = fm_ B a p u i
  | 0, _, _ => rfl
  | u + 1, i, hi => by
    rw [fd1_, fm_, fd_fm h hK u (i + 1) (by omega)]
    by_cases q : A.2.1 46 i = K
    · rw [if_pos q, if_pos ((NK_eq (h i (by omega)) hK).mp q)]
    · rw [if_neg q, if_neg (fun z => q ((NK_eq (h i (by omega)) hK).mpr z))]
theorem fd_neg {M : mm_} {c : Nat} {y : Int64} (hc : c ≤ 16) : fd1_ M c y c 0 = -1 ↔ fd1_ M c y c 0 < 0 := by
  rcases fd1_in (M := M) (c := c) (y := y) c 0 with z | ⟨m, hm, z⟩
  · rw [z]; decide
  · rw [z]
    constructor
    · intro q; exact absurd q (nI_ne1 m (by omega))
    · intro q; exact absurd (Int32.lt_of_le_of_lt (nI_le (a := 0) (b := m) (by omega) (by omega)) q) (by decide)
theorem fig_j {c : Int32} (h : 48 ≤ c ∧ c ≤ 51) : ∃ j, j < 4 ∧ c - 48 = nI j := by
  obtain ⟨j, hj, rfl⟩ := ix_ (x := c) (n := 52) (by decide) (fun y => absurd (Int32.le_trans h.1 (Int32.le_of_lt y)) (by decide)) (fun y => absurd (Int32.le_trans y h.2) (by decide))
  have h48 : 48 ≤ j := by
    rcases Nat.lt_or_ge j 48 with q | q
    · exact absurd (Int32.lt_of_lt_of_le (nI_lt q (by decide)) h.1) Int32.lt_irrefl
    · exact q
  refine ⟨j - 48, by omega, ?_⟩
  obtain ⟨i, rfl⟩ : ∃ i, j = i + 48 := ⟨j - 48, by omega⟩
  rw [← nI_add, show nI 48 = (48 : Int32) from rfl, Int32.add_sub_cancel, Nat.add_sub_cancel]
theorem fig_c {c : Int32} (h : -1 ≤ c) : (c - 48 < 0 ∨ ¬ c - 48 ≤ 3) ↔ ¬ (48 ≤ c ∧ c ≤ 51) := by
  have h1 : -1 ≤ c.toInt := by
    have := Int32.le_iff_toInt_le.mp h
    rw [show (-1 : Int32).toInt = -1 by decide] at this
    exact this
  have h2 : c.toInt < 2 ^ 31 := Int32.toInt_lt c
  have e : (c - 48).toInt = c.toInt - 48 := by
    rw [Int32.toInt_sub, show (48 : Int32).toInt = 48 by decide]
    exact Int.bmod_eq_of_le (by omega) (by omega)
  rw [Int32.lt_iff_toInt_lt, Int32.le_iff_toInt_le, Int32.le_iff_toInt_le, Int32.le_iff_toInt_le, e, show (0 : Int32).toInt = 0 by decide, show (3 : Int32).toInt = 3 by decide, show (48 : Int32).toInt = 48 by decide, show (51 : Int32).toInt = 51 by decide]
  omega
theorem bf_m1 {T : Int32 → Int32} {f : Nat → Int32} {n k : Nat} (h : TF_ T f n) : -1 ≤ f k := by
  rcases Nat.lt_or_ge k n with q | q
  · exact Int32.le_trans (by decide) (h.2.2.2 k q)
  · rw [h.2.2.1 k q]; decide
theorem bf_neg {T : Int32 → Int32} {f : Nat → Int32} {n k : Nat} (h : TF_ T f n) : f k < 0 ↔ f k = -1 := by
  rcases Nat.lt_or_ge k n with q | q
  · constructor
    · intro z; exact absurd (Int32.lt_of_le_of_lt (h.2.2.2 k q) z) (by decide)
    · intro z; rw [z]; decide
  · rw [h.2.2.1 k q]; decide
theorem bf_mw {M : mm_} {n : Nat} {v : Int32} : bf_ (mw_ M v) n = bf_ M n := mw_bf (pf_rf _)
/-- a method's text: both readers take it, or neither -/
def MT_ (N : mm_) (n : Nat) (T : Int32 → Int32) : Prop :=
  (∃ x a p, mx_ T = some x ∧ qE_ T (qx_ (mx_ T)) = some x.2.1 ∧ NK_ (ky_ (mr_ T).2.2 (pv_ T (mq2_ T))) a p ∧ ∀ c, me_ N n c = if c = 16 ∨ ¬ fm_ N a p c 0 < 0 then .inr (5, n) else .inl (tm_ x.1, a, p)) ∨
  (qE_ T (qx_ (mx_ T)) = none ∧ ∀ c, ∃ q, me_ N n c = .inr q)
theorem mt_tie {T : Int32 → Int32} {N : mm_} {n : Nat} (h : TF_ T (bf_ N n) n) : MT_ N n T := by
  have hn := h.1
  obtain ⟨hsr, hry⟩ := srT_rz h (Nat.zero_le n)
  obtain ⟨z, hz⟩ : ∃ z, rz_ N n 0 = z := ⟨_, rfl⟩
  have hzn : z ≤ n := by rw [← hz]; have := rz_le N n 0; omega
  rw [hz] at hsr hry
  have hmr : mr_ T = (z, nI (dt_ (bf_ N n) 0 z), lN (LE_ (bf_ N n) 0 (min z 12))) := hsr
  have hme : ∀ c, me_ N n c = ml_ (me2_ N n c (nm_ (bf_ N n) 0 z) (bf_ N n (z + 1) - 48) (ex_ (mw_ N (bf_ N n (z + 1) - 48)) n (z + 4))) (mh_ N n) := fun c => by rw [← hz]; rfl
  have hbad : ∀ q, mh_ N n = some q → ∀ c, ∃ q, me_ N n c = .inr q := fun q hq c => ⟨q, by rw [hme c, hq]; rfl⟩
  have hmh : mh_ N n = if 12 < z then some (3, 12) else if ¬ ne_ (bf_ N n) 0 z then some (1, 0) else if ¬ bf_ N n z = 40 then some (1, z)
    else if bf_ N n (z + 1) - 48 < 0 ∨ ¬ bf_ N n (z + 1) - 48 ≤ 3 then some (1, z + 1) else if ¬ bf_ N n (z + 2) = 41 then some (1, z + 2)
    else if ¬ bf_ N n (z + 3) = 61 then some (1, z + 3) else none := by unfold mh_; rw [hz]
  have hq1 : mq1_ T = if ne_ (bf_ N n) 0 z ∧ z ≤ 12 then some z else none := by
    unfold mq1_
    rw [hmr]
    simp only
    by_cases z0 : z = 0
    · subst z0
      rw [if_pos, if_neg (fun q => absurd q.1.1 (by omega))]
      rw [if_neg]
      intro q
      exact absurd q.1 (by simp [dt_]; decide)
    · have hne := isn_ne h (Nat.zero_le n) (show 1 ≤ z by omega) (by omega)
      by_cases q : ne_ (bf_ N n) 0 z
      · rw [if_pos (hne.mpr q), if_neg (by decide)]
        by_cases q2 : z ≤ 12
        · rw [if_pos q2, if_pos ⟨q, q2⟩]; exact congrArg some (Nat.zero_add z)
        · rw [if_neg q2, if_neg (fun y => q2 y.2)]
      · rw [if_neg (fun y => q (hne.mp y)), if_pos rfl, if_neg (fun y => q y.1)]
  by_cases c1 : ne_ (bf_ N n) 0 z ∧ z ≤ 12
  · rw [if_pos c1] at hq1
    rw [if_neg (by omega), if_neg (fun q => q c1.1)] at hmh
    have hq2 : mq2_ T = if bf_ N n z = 40 then some (z + 1) else none := by
      unfold mq2_
      rw [hq1, qe2_, TF_t h (by omega)]
    by_cases c2 : bf_ N n z = 40
    · have z1 : z < n := TF_lt h c2 (by decide)
      rw [if_pos c2] at hq2
      rw [if_neg (fun q => q c2)] at hmh
      have hfc := fig_c (bf_m1 (k := z + 1) h)
      have hpv : pv_ T (mq2_ T) = if 48 ≤ bf_ N n (z + 1) ∧ bf_ N n (z + 1) ≤ 51 then bf_ N n (z + 1) - 48 else 0 := by
        rw [hq2]; unfold pv_; simp only; rw [TF_t h (by omega)]
      have hqp : qp_ T (mq2_ T) = if 48 ≤ bf_ N n (z + 1) ∧ bf_ N n (z + 1) ≤ 51 then some (z + 2) else none := by
        rw [hq2]; unfold qp_; simp only; rw [TF_t h (by omega)]
      by_cases c3 : 48 ≤ bf_ N n (z + 1) ∧ bf_ N n (z + 1) ≤ 51
      · rw [if_pos c3] at hpv hqp
        rw [if_neg (fun q => hfc.mp q c3)] at hmh
        have z2 : z + 1 < n := TF_lt h rfl (Int32.le_trans (by decide) c3.1)
        have hq5 : mq5_ T = if bf_ N n (z + 2) = 41 then (if bf_ N n (z + 3) = 61 then some (z + 4) else none) else none := by
          unfold mq5_
          rw [hqp]
          unfold qe2_
          simp only
          rw [TF_t h (by omega)]
          by_cases q : bf_ N n (z + 2) = 41
          · rw [if_pos q, if_pos q]
            simp only
            rw [TF_t h (by omega)]
          · rw [if_neg q, if_neg q]
        by_cases c4 : bf_ N n (z + 2) = 41
        · have z3 : z + 2 < n := TF_lt h c4 (by decide)
          rw [if_pos c4] at hq5
          rw [if_neg (fun q => q c4)] at hmh
          by_cases c5 : bf_ N n (z + 3) = 61
          · have z4 : z + 3 < n := TF_lt h c5 (by decide)
            rw [if_pos c5] at hq5
            rw [if_neg (fun q => q c5)] at hmh
            obtain ⟨j, hj, ej⟩ := fig_j c3
            rw [ej] at hpv
            have hTw : TF_ T (bf_ (mw_ N (nI j)) n) n := by rw [bf_mw]; exact h
            have hK : KN_ (mw_ N (nI j)) (nI j) true := Or.inl ⟨rfl, by simp [mw_, sI_], j, hj, rfl, by simp [mw_, sI_]⟩
            have ht := ex_tie hTw hK (show z + 4 ≤ n by omega)
            have hmx : mx_ T = pe2_ T (nI j) true (some (z + 4)) := by unfold mx_; rw [hpv, hq5]
            rw [← hmx] at ht
            have hed : ∀ k, en_d (mw_ N (nI j)) n k ↔ bf_ N n k = -1 := fun k => by
              unfold en_d
              rw [bf_mw, ← bf_neg h]
              constructor
              · rintro (q | q)
                · exact q
                · exact absurd (by simp [mw_, sI_]) q.1
              · intro q; exact Or.inl q
            have hme2 : ∀ c, me_ N n c = me2_ N n c (nm_ (bf_ N n) 0 z) (nI j) (ex_ (mw_ N (nI j)) n (z + 4)) := fun c => by
              rw [hme c, hmh, ej]; rfl
            cases hx : mx_ T with
            | none =>
              rw [hx] at ht
              obtain ⟨q, hq⟩ := ht
              refine Or.inr ⟨by rw [hx]; rfl, fun c => ⟨q, by rw [hme2 c, hq]; rfl⟩⟩
            | some x =>
              rw [hx] at ht
              obtain ⟨t1, t2, t3, t4⟩ := ht
              have hqE : qE_ T (qx_ (mx_ T)) = if bf_ N n x.2.1 = -1 then some x.2.1 else none := by
                rw [hx]; unfold qE_ qx_; simp only; rw [TF_t h (by omega)]
              by_cases c6 : bf_ N n x.2.1 = -1
              · rw [if_pos c6] at hqE
                refine Or.inl ⟨x, nm_ (bf_ N n) 0 z, nI j, hx, hqE, ⟨bf_ N n, 0, z, j, hry, c1.2, hj, ?_, rfl, rfl⟩, fun c => ?_⟩
                · rw [hmr, hpv, Nat.min_eq_left c1.2]
                · rw [hme2 c, t3 ((hed _).mpr c6)]; rfl
              · rw [if_neg c6] at hqE
                obtain ⟨q, hq⟩ := t4 (fun y => c6 ((hed _).mp y))
                exact Or.inr ⟨hqE, fun c => ⟨q, by rw [hme2 c, hq]; rfl⟩⟩
          · rw [if_pos c5] at hmh
            rw [if_neg c5] at hq5
            exact Or.inr ⟨by unfold mx_; rw [hq5]; rfl, hbad _ hmh⟩
        · rw [if_pos c4] at hmh
          rw [if_neg c4] at hq5
          exact Or.inr ⟨by unfold mx_; rw [hq5]; rfl, hbad _ hmh⟩
      · rw [if_neg c3] at hqp
        rw [if_pos (hfc.mpr c3)] at hmh
        exact Or.inr ⟨by unfold mx_ mq5_; rw [hqp]; rfl, hbad _ hmh⟩
    · rw [if_neg c2] at hq2
      rw [if_pos c2] at hmh
      exact Or.inr ⟨by unfold mx_ mq5_; rw [hq2]; rfl, hbad _ hmh⟩
  · rw [if_neg c1] at hq1
    refine Or.inr ⟨by unfold mx_ mq5_ mq2_; rw [hq1]; rfl, ?_⟩
    by_cases q : 12 < z
    · rw [if_pos q] at hmh; exact hbad _ hmh
    · rw [if_neg q, if_pos (fun y => c1 ⟨y, by omega⟩)] at hmh; exact hbad _ hmh
