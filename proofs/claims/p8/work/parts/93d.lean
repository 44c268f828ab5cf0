/-! names in the two encodings, and trees with them -/
def rvN_ : Nat → Nat → Nat → Nat
  | 0, _, a => a
  | u + 1, m, a => if m = 0 then a else rvN_ u (m / 32) (a * 32 + m % 32)
/-- the reference's name of a key of the class's -/
def de_ (x : Int64) : Int64 := lN (rvN_ 12 (x.toBitVec.toNat % 2 ^ 60) 0)
theorem LE_cons {f : Nat → Int32} {k : Nat} : ∀ z, LE_ f k (z + 1) = dN_ (f k) + 32 * LE_ f (k + 1) z
  | 0 => by simp [LE_]
  | z + 1 => by
    rw [LE_, LE_cons z, LE_, Nat.mul_add, show k + (z + 1) = k + 1 + z by omega, Nat.pow_succ]
    have : dN_ (f (k + 1 + z)) * (32 ^ z * 32) = 32 * (dN_ (f (k + 1 + z)) * 32 ^ z) := by
      rw [← Nat.mul_assoc, Nat.mul_comm 32]
    omega
theorem BE_cons {f : Nat → Int32} {k : Nat} : ∀ z, BE_ f k (z + 1) = dN_ (f k) * 32 ^ z + BE_ f (k + 1) z
  | 0 => by simp [BE_]
  | z + 1 => by
    rw [BE_, BE_cons z, BE_, show k + (z + 1) = k + 1 + z by omega, Nat.pow_succ, Nat.add_mul, Nat.mul_assoc]
    omega
theorem ry_cons {f : Nat → Int32} {k z : Nat} (h : ry_ f k (z + 1)) : ry_ f (k + 1) z := fun j hj => by
  have := h (j + 1) (by omega)
  rw [show k + 1 + j = k + (j + 1) by omega]; exact this
theorem rv_LE {f : Nat → Int32} : ∀ (z u k a : Nat), z ≤ u → ry_ f k z → rvN_ u (LE_ f k z) a = a * 32 ^ z + BE_ f k z
  | 0, u, k, a, _, _ => by
    cases u with
    | zero => simp [rvN_, BE_]
    | succ u => rw [rvN_]; simp [LE_, BE_]
  | z + 1, u, k, a, hu, h => by
    obtain ⟨u, rfl⟩ : ∃ v, u = v + 1 := ⟨u - 1, by omega⟩
    obtain ⟨-, -, d1, d2⟩ := nc_io (h 0 (by omega))
    rw [Nat.add_zero] at d1 d2
    rw [rvN_, LE_cons, if_neg (by omega), show (dN_ (f k) + 32 * LE_ f (k + 1) z) / 32 = LE_ f (k + 1) z by omega, show (dN_ (f k) + 32 * LE_ f (k + 1) z) % 32 = dN_ (f k) by omega, rv_LE z u (k + 1) _ (by omega) (ry_cons h), BE_cons, Nat.pow_succ, Nat.add_mul, Nat.mul_assoc, Nat.mul_comm 32 (32 ^ z)]
    omega
theorem rv_BE {f : Nat → Int32} : ∀ (z u k a : Nat), z ≤ u → ry_ f k z → rvN_ u (BE_ f k z) a = a * 32 ^ z + LE_ f k z
  | 0, u, k, a, _, _ => by
    cases u with
    | zero => simp [rvN_, LE_]
    | succ u => rw [rvN_]; simp [LE_, BE_]
  | z + 1, u, k, a, hu, h => by
    obtain ⟨u, rfl⟩ : ∃ v, u = v + 1 := ⟨u - 1, by omega⟩
    obtain ⟨-, -, d1, d2⟩ := nc_io (h z (by omega))
    rw [rvN_, BE_, if_neg (by omega), show (BE_ f k z * 32 + dN_ (f (k + z))) / 32 = BE_ f k z by omega, show (BE_ f k z * 32 + dN_ (f (k + z))) % 32 = dN_ (f (k + z)) by omega, rv_BE z u k _ (by omega) (fun j hj => h j (by omega)), LE_, Nat.pow_succ, Nat.add_mul, Nat.mul_assoc, Nat.mul_comm 32 (32 ^ z)]
    omega
theorem ky_s2 : ∀ j, j < 4 → ((nI j).toInt64 <<< ((60 : Int32).toInt64 &&& 63)).toBitVec.toNat = j * 2 ^ 60 := by decide +kernel
theorem ky_N {a j : Nat} (ha : a < 2 ^ 60) (hj : j < 4) : (ky_ (lN a) (nI j)).toBitVec.toNat = a + j * 2 ^ 60 := by
  unfold ky_
  rw [Int64.toBitVec_or, BitVec.toNat_or, ky_s2 j hj, tbl_ (by omega), Nat.or_comm, Nat.mul_comm j, ← Nat.two_pow_add_eq_or_of_lt ha]
  omega
theorem de_ky {f : Nat → Int32} {k z j : Nat} (hz : z ≤ 12) (h : ry_ f k z) (hj : j < 4) : de_ (ky_ (lN (LE_ f k z)) (nI j)) = nm_ f k z := by
  have h1 : LE_ f k z < 2 ^ 60 := Nat.lt_of_lt_of_le (LE_lt z h) (p32_le hz)
  unfold de_
  rw [ky_N h1 hj, Nat.add_mul_mod_self_right, Nat.mod_eq_of_lt h1, rv_LE z 12 k 0 hz h, Nat.zero_mul, Nat.zero_add, nm_BE z hz h]
/-- the reference's tree of a tree of the class's -/
def tm_ : Term → Term
  | .int v => .int v
  | .index i => .index i
  | .length e => .length (tm_ e)
  | .sum e => .sum (tm_ e)
  | .elem s x => .elem s (tm_ x)
  | .mul a (.div b c) => .mul (tm_ a) (.div (tm_ b) (tm_ c))
  | .rem a b => .rem (tm_ a) (tm_ b)
  | .sub k x => .sub (.long (de_ (kv2_ k))) (tm_ x)
  | .add a r => .add (tm_ a) (tm_ r)
  | e => e
theorem CL_snoc {F : List fr_} {g : fr_} {e : Term} : CL_ (F ++ [g]) e = rf_ g (CL_ F e) := by rw [CL_app]; rfl
theorem TF_t {T : Int32 → Int32} {f : Nat → Int32} {n k : Nat} (h : TF_ T f n) (hk : k ≤ n + 10) : T (nI k) = f k := h.2.1 k (by have := h.1; omega)
theorem TF_lt {T : Int32 → Int32} {f : Nat → Int32} {n k : Nat} {c : Int32} (h : TF_ T f n) (hf : f k = c) (hc : 0 ≤ c) : k < n := by
  rcases Nat.lt_or_ge k n with z | z
  · exact z
  · rw [h.2.2.1 k z] at hf
    rw [← hf] at hc
    exact absurd hc (by decide)
/-- an operand may be read at k over W -/
def HW_ (f : Nat → Int32) (k : Nat) (W : List fr_) : Prop := f3b_ W = false ∧ (fqb_ W = true → ¬ f k = 41)
def lw9_ (q : Nat) : Nat := if q = 1 then 1 else if q = 2 then 3 else q
def fw9_ (q : Nat) : Nat := if q = 1 then 7 else if q = 8 then 8 else 8 - q
/-- the outcome of a reading of the kind q that has begun at the state S -/
def RD_ (M : mm_) (n : Nat) (q : Nat) (W : List fr_) (k m o : Nat) (S : ss_) : px2_ → Prop
  | none => BD_ M n S
  | some x => x.2.1 ≤ n ∧ k ≤ x.2.1 ∧ m ≤ x.2.2 ∧ x.2.2 ≤ 20 ∧ ∃ (F : List fr_) (e : Term), lv_all q F ∧ CL_ F e = tm_ x.1 ∧ FX_ M n S = FX_ M n (x.2.1, F ++ W, some e, x.2.2, o) ∧ MU_ q (bf_ M n x.2.1) F
def cw9_ : List fr_ → Prop
  | [] => False
  | g :: _ => g.1 = 8 ∧ g.2.2.1 = .null
def RD8_ (M : mm_) (n : Nat) (W : List fr_) (k m o : Nat) (S : ss_) : px2_ → Prop
  | none => BD_ M n S
  | some x => x.2.1 ≤ n ∧ k ≤ x.2.1 ∧ m ≤ x.2.2 ∧ x.2.2 ≤ 20 ∧ an_ x.1 < 4 ∧ ¬ bf_ M n x.2.1 = 44 ∧ ∃ (F : List fr_) (e xs : Term) (g : fr_) (V : List fr_), W = g :: V ∧ lv_all 1 F ∧ ao_ xs ∧ sa_ xs (CL_ F e) = tm_ x.1 ∧ FX_ M n S = FX_ M n (x.2.1, F ++ (8, g.2.1, xs, g.2.2.2.1, g.2.2.2.2) :: V, some e, x.2.2, o) ∧ MU_ 1 (bf_ M n x.2.1) F
def TI_ (M : mm_) (n : Nat) (P : pf2_) (t : Nat) : Prop :=
  (∀ q k m o W, 1 ≤ q → q ≤ 7 → k ≤ n → m ≤ 20 → o ≤ 12 → 9 * (20 - m) + 9 * (12 - o) + fw9_ q ≤ t → (q ≤ 5 → tp9_ (lw9_ q) W) → HW_ (bf_ M n) k W → (q = 7 → ¬ bf_ M n k = 45 ∧ ¬ bf_ M n k = 33) → RD_ M n q W k m o (k, W, none, m, o) (P q none k m o)) ∧
  (∀ q e k m o W F e2, (q = 1 ∨ q = 3 ∨ q = 4 ∨ q = 5) → k ≤ n → m ≤ 20 → o ≤ 12 → 9 * (20 - m) + 9 * (12 - o) + 1 ≤ t → tp9_ (lw9_ q) W → lv_all (if q = 3 then 4 else q) F → CL_ F e2 = tm_ e → MU_ (q + 1) (bf_ M n k) F → RD_ M n q W k m o (k, F ++ W, some e2, m, o) (P q (some e) k m o)) ∧
  (∀ k m o W, k ≤ n → m ≤ 20 → o ≤ 12 → 9 * (20 - m) + 9 * (12 - o) + 8 ≤ t → cw9_ W → ¬ bf_ M n k = 41 → RD8_ M n W k m o (k, W, none, m, o) (P 8 none k m o))
theorem RD_none {M : mm_} {n q k m o : Nat} {W : List fr_} {S : ss_} (h : BD_ M n S) : RD_ M n q W k m o S none := h
theorem RD_eq {M : mm_} {n q k m o k2 m2 : Nat} {W : List fr_} {S S2 : ss_} {x : px2_} (e : FX_ M n S = FX_ M n S2) (hk : k ≤ k2) (hm : m ≤ m2) (h : RD_ M n q W k2 m2 o S2 x) : RD_ M n q W k m o S x := by
  cases x with
  | none => obtain ⟨z, hz⟩ := h; exact ⟨z, e.trans hz⟩
  | some y =>
    obtain ⟨a1, a2, a3, a4, F, e2, b1, b2, b3, b4⟩ := h
    exact ⟨a1, by omega, by omega, a4, F, e2, b1, b2, e.trans b3, b4⟩
theorem BD_eq {M : mm_} {n : Nat} {S S2 : ss_} (e : FX_ M n S = FX_ M n S2) (h : BD_ M n S2) : BD_ M n S := by
  obtain ⟨z, hz⟩ := h; exact ⟨z, e.trans hz⟩
theorem MU_6 {c : Int32} {F : List fr_} {q : Nat} (hq : 6 ≤ q) : MU_ q c F := ⟨fun h => by omega, fun h => by omega, fun h => by omega, fun h => by omega, fun h => by omega⟩
/-- a byte behind a tree that is no end -/
theorem en_no {M : mm_} {n k : Nat} {c : Int32} (h : bf_ M n k = c) (hc : 32 < c) : ¬ en_d M n k := by
  intro z
  unfold en_d at z
  rw [h] at z
  rcases z with z | z
  · exact absurd (Int32.lt_trans hc z) (by decide)
  · exact absurd (Int32.lt_of_lt_of_le hc z.2) Int32.lt_irrefl
theorem FX_so {M : mm_} {n k nd op : Nat} {W : List fr_} {S : ss_} (hk : k ≤ n) (h : so_ M n k W nd op = .inl S) : FX_ M n (k, W, none, nd, op) = FX_ M n S := by rw [FX_none hk, h]
theorem FX_si {M : mm_} {n k nd op : Nat} {W : List fr_} {e : Term} {S : ss_} (hk : k ≤ n) (he : ¬ en_d M n k) (h : si_ (bf_ M n k) k W e nd op = .inl S) : FX_ M n (k, W, some e, nd, op) = FX_ M n S := by rw [FX_some hk he, h]
theorem so_in {M : mm_} {n k nd op : Nat} {W : List fr_} (he : ¬ en_d M n k) (hW : HW_ (bf_ M n) k W) : so_ M n k W nd op = so2_ M n k W nd op := by
  unfold so_
  rw [if_neg he, if_neg (fun z => hW.2 z.1 z.2)]
theorem HW_o {f : Nat → Int32} {k : Nat} {g : fr_} {W : List fr_} (h : ¬ g.1 = 8) : HW_ f k (g :: W) := by
  refine ⟨?_, fun z => ?_⟩
  · unfold f3b_; simp [h]
  · unfold fqb_ at z; simp [h] at z
/-! kind 6 -/
theorem ti6 {T : Int32 → Int32} {M : mm_} {n : Nat} {v : Int32} {nm : Bool} {P : pf2_} {t : Nat} (h : TF_ T (bf_ M n) n) (hP : TI_ M n P t) {k m o : Nat} {W : List fr_} (hk : k ≤ n) (hm : m ≤ 20) (ho : o ≤ 12) (ht : 9 * (20 - m) + 9 * (12 - o) + fw9_ 6 ≤ t + 1) (hW : HW_ (bf_ M n) k W) : RD_ M n 6 W k m o (k, W, none, m, o) (z6_ P T k m o) := by
  have hw6 : fw9_ 6 = 2 := by decide
  have hw7 : fw9_ 7 = 1 := by decide
  unfold z6_
  rw [TF_t h (by omega)]
  by_cases hc : bf_ M n k = 45 ∨ bf_ M n k = 33
  · rw [if_pos hc]
    have he : ¬ en_d M n k := by rcases hc with z | z <;> exact en_no z (by decide)
    have hkn : k < n := by rcases hc with z | z <;> exact TF_lt h z (by decide)
    have hso : so_ M n k W m o = if m = 20 then .inr (3, k) else .inl (k + 1, (6, bf_ M n k, .null, .null, 0) :: W, none, m + 1, o) := by
      rw [so_in he hW]
      unfold so2_
      rw [if_neg (by rw [hW.1]; decide), if_neg (by rcases hc with z | z <;> rw [z] <;> decide), if_pos hc]
    by_cases hm2 : m < 20
    · rw [if_pos hm2]
      rw [if_neg (by omega)] at hso
      have e1 := FX_so hk hso
      have i := hP.1 6 (k + 1) (m + 1) o ((6, bf_ M n k, .null, .null, 0) :: W) (by omega) (by omega) (by omega) (by omega) ho (by omega) (fun z => by omega) (HW_o (by simp)) (fun z => by omega)
      cases hp : P 6 none (k + 1) (m + 1) o with
      | none => rw [hp] at i; exact RD_none (BD_eq e1 i)
      | some r =>
        rw [hp] at i
        obtain ⟨a1, a2, a3, a4, F, e2, b1, b2, b3, b4⟩ := i
        refine ⟨a1, by simp only; omega, by simp only; omega, a4, F ++ [(6, bf_ M n k, .null, .null, 0)], e2, lv_app b1 (lv_1 (by simp) (by simp)), ?_, ?_, MU_6 (by omega)⟩
        · rw [CL_snoc, b2]
          show (if bf_ M n k = 45 then Term.length (tm_ r.1) else Term.sum (tm_ r.1)) = tm_ (if bf_ M n k = 45 then Term.length r.1 else Term.sum r.1)
          split <;> rfl
        · rw [e1, b3, List.append_assoc]; rfl
    · rw [if_neg hm2]
      rw [if_pos (by omega)] at hso
      exact BD_none hk hso
  · rw [if_neg hc]
    have i := hP.1 7 k m o W (by omega) (by omega) hk hm ho (by omega) (fun z => by omega) hW (fun _ => ⟨fun y => hc (Or.inl y), fun y => hc (Or.inr y)⟩)
    cases hp : P 7 none k m o with
    | none => rw [hp] at i; exact i
    | some r =>
      rw [hp] at i
      obtain ⟨a1, a2, a3, a4, F, e2, b1, b2, b3, b4⟩ := i
      exact ⟨a1, a2, a3, a4, F, e2, lv_mono b1 (by omega), b2, b3, MU_6 (by omega)⟩
/-! kinds 3, 4, 5 -/
theorem tp9_m {L K : Nat} {W : List fr_} (h : tp9_ L W) (hk : L ≤ K) (hK : K ≤ 7) : tp9_ K W := by
  cases W with
  | nil => trivial
  | cons g W =>
    have h2 : (g.1 < L ∨ 6 < g.1) ∧ g.1 ≤ 8 := h
    show (g.1 < K ∨ 6 < g.1) ∧ g.1 ≤ 8
    omega
theorem tp_n3 {W : List fr_} (h : tp9_ 3 W) : ¬ tp_ W = 3 := by
  cases W with
  | nil => decide
  | cons g W =>
    have h2 : (g.1 < 3 ∨ 6 < g.1) ∧ g.1 ≤ 8 := h
    show ¬ nI g.1 = 3
    rw [show (3 : Int32) = nI 3 from rfl, nI_eq (by omega) (by decide)]
    omega
theorem kd_gt {c : Int32} {q : Nat} (h : kd_ c = nI q) (h3 : q = 3 ∨ q = 4 ∨ q = 5) : 32 < c ∧ 0 ≤ c ∧ ¬ c = 35 ∧ ¬ c = 63 ∧ ¬ c = 58 := by
  rcases h3 with rfl | rfl | rfl
  · rcases kd_3.mpr h with rfl | rfl | rfl <;> decide
  · rcases kd_4.mpr h with rfl | rfl <;> decide
  · rcases kd_5.mpr h with rfl | rfl | rfl <;> decide
theorem si_bt {c : Int32} {k nd op q : Nat} {W : List fr_} {e : Term} (h : kd_ c = nI q) (h3 : q = 3 ∨ q = 4 ∨ q = 5) : si_ c k W e nd op = bt_ q c k W e nd op := by
  obtain ⟨-, -, c1, c2, c3⟩ := kd_gt h h3
  unfold si_
  rw [if_neg c1, if_neg c2, if_neg c3]
  rcases h3 with rfl | rfl | rfl
  · rw [if_pos (kd_3.mpr h)]
  · rw [if_neg (fun z => absurd ((kd_3.mp z).symm.trans h) (by decide)), if_pos (kd_4.mpr h)]
  · rw [if_neg (fun z => absurd ((kd_3.mp z).symm.trans h) (by decide)), if_neg (fun z => absurd ((kd_4.mp z).symm.trans h) (by decide)), if_pos (kd_5.mpr h)]
theorem bt_in {c : Int32} {k nd op q : Nat} {F W : List fr_} {e : Term} (h3 : q = 3 ∨ q = 4 ∨ q = 5) (hF : lv_all (if q = 3 then 4 else q) F) (hW : tp9_ q W) : bt_ q c k (F ++ W) e nd op = if nd = 20 then .inr (3, k) else .inl (k + 1, (q, c, CL_ F e, .null, 0) :: W, none, nd + 1, op) := by
  have hW2 : tp9_ (if q = 3 then 4 else q) W := tp9_m hW (by split <;> omega) (by split <;> omega)
  unfold bt_
  rw [rt_all hF hW2, if_neg]
  rintro ⟨z, y⟩
  subst z
  exact tp_n3 hW y
theorem MU_dn {q : Nat} {c : Int32} {F : List fr_} (h3 : q = 3 ∨ q = 4 ∨ q = 5) (h : MU_ (q + 1) c F) (hk : ¬ kd_ c = nI q) : MU_ q c F := by
  obtain ⟨h1, h2, h4, h5, h6⟩ := h
  rcases h3 with rfl | rfl | rfl
  · exact ⟨fun _ => h1 (by omega), fun _ => h2 (by omega), fun _ z => absurd z hk, fun z => by omega, fun z => by omega⟩
  · exact ⟨fun _ => h1 (by omega), fun _ => hk, fun z => by omega, fun z => by omega, fun z => by omega⟩
  · exact ⟨fun _ => hk, fun z => by omega, fun z => by omega, fun z => by omega, fun z => by omega⟩
theorem ti3s {T : Int32 → Int32} {M : mm_} {n : Nat} {P : pf2_} {t : Nat} (h : TF_ T (bf_ M n) n) (hP : TI_ M n P t) {q k m o : Nat} {W F : List fr_} {e e2 : Term} (h3 : q = 3 ∨ q = 4 ∨ q = 5) (hk : k ≤ n) (hm : m ≤ 20) (ho : o ≤ 12) (ht : 9 * (20 - m) + 9 * (12 - o) + 1 ≤ t + 1) (hW : tp9_ (lw9_ q) W) (hF : lv_all (if q = 3 then 4 else q) F) (hc : CL_ F e2 = tm_ e) (hM : MU_ (q + 1) (bf_ M n k) F) : RD_ M n q W k m o (k, F ++ W, some e2, m, o) (z3_ P T q (some e) k m o) := by
  have hlw : lw9_ q = q := by rcases h3 with rfl | rfl | rfl <;> decide
  rw [hlw] at hW
  unfold z3_
  simp only
  rw [TF_t h (by omega)]
  by_cases hq : kd_ (bf_ M n k) = nI q
  · rw [if_pos hq]
    obtain ⟨c1, c2, -⟩ := kd_gt hq h3
    have he : ¬ en_d M n k := en_no rfl c1
    have hkn : k < n := TF_lt h rfl c2
    have hsi := (si_bt (k := k) (nd := m) (op := o) (W := F ++ W) (e := e2) hq h3).trans (bt_in h3 hF hW)
    by_cases hm2 : m < 20
    · rw [if_pos hm2]
      rw [if_neg (by omega)] at hsi
      have e1 := FX_si hk he hsi
      have hfw : fw9_ (q + 1) ≤ 5 := by rcases h3 with rfl | rfl | rfl <;> decide
      have i := hP.1 (q + 1) (k + 1) (m + 1) o ((q, bf_ M n k, CL_ F e2, .null, 0) :: W) (by omega) (by omega) (by omega) (by omega) ho (by omega) (fun z => by
        rcases h3 with rfl | rfl | rfl
        · exact ⟨Or.inl (show (3 : Nat) < 4 by decide), show (3 : Nat) ≤ 8 by decide⟩
        · exact ⟨Or.inl (show (4 : Nat) < 5 by decide), show (4 : Nat) ≤ 8 by decide⟩
        · omega) (HW_o (by simp only; omega)) (fun z => by omega)
      cases hp : P (q + 1) none (k + 1) (m + 1) o with
      | none => rw [hp] at i; exact RD_none (BD_eq e1 i)
      | some r =>
        rw [hp] at i
        obtain ⟨a1, a2, a3, a4, F2, e3, b1, b2, b3, b4⟩ := i
        simp only at a1 a2 a3 a4 b2 b3 b4 ⊢
        have e4 : FX_ M n (k, F ++ W, some e2, m, o) = FX_ M n (r.2.1, (F2 ++ [(q, bf_ M n k, CL_ F e2, .null, 0)]) ++ W, some e3, r.2.2, o) := by
          rw [e1, b3, List.append_assoc]; rfl
        have e5 : CL_ (F2 ++ [(q, bf_ M n k, CL_ F e2, .null, 0)]) e3 = tm_ (.elem (.int (bf_ M n k)) (.add e r.1)) := by
          rw [CL_snoc, b2, hc]
          rcases h3 with rfl | rfl | rfl <;> rfl
        have e6 : lv_all q (F2 ++ [(q, bf_ M n k, CL_ F e2, .null, 0)]) := lv_app (lv_mono b1 (by omega)) (lv_1 (Nat.le_refl _) (by simp only; omega))
        by_cases hq3 : q = 3
        · rw [if_pos hq3]
          subst hq3
          refine ⟨a1, by simp only; omega, by simp only; omega, a4, _, e3, e6, e5, e4, ?_⟩
          obtain ⟨m1, m2, -, -, -⟩ := b4
          exact ⟨fun _ => m1 (by omega), fun _ => m2 (by omega), fun _ _ => ⟨F2, _, [], rfl, b1, rfl⟩, fun z => by omega, fun z => by omega⟩
        · rw [if_neg hq3]
          refine RD_eq e4 (by omega) (by omega) (hP.2.1 q _ _ _ _ W _ e3 (by omega) a1 a4 ho (by omega) (by rw [hlw]; exact hW) (by rw [if_neg hq3]; exact e6) e5 ?_)
          obtain ⟨m1, m2, m3, m4, m5⟩ := b4
          refine ⟨m1, m2, fun z => by omega, fun z => by omega, fun z => by omega⟩
    · rw [if_neg hm2]
      rw [if_pos (by omega)] at hsi
      exact BD_some hk he hsi
  · rw [if_neg hq]
    exact ⟨hk, Nat.le_refl _, Nat.le_refl _, hm, F, e2, by intro g hg; have := hF g hg; split at this <;> omega, hc, rfl, MU_dn h3 hM hq⟩
theorem ti3n {T : Int32 → Int32} {M : mm_} {n : Nat} {P : pf2_} {t : Nat} (hP : TI_ M n P t) {q k m o : Nat} {W : List fr_} (h3 : q = 3 ∨ q = 4 ∨ q = 5) (hk : k ≤ n) (hm : m ≤ 20) (ho : o ≤ 12) (ht : 9 * (20 - m) + 9 * (12 - o) + fw9_ q ≤ t + 1) (hW : tp9_ (lw9_ q) W) (hw : HW_ (bf_ M n) k W) : RD_ M n q W k m o (k, W, none, m, o) (z3_ P T q none k m o) := by
  have hlw : lw9_ q = q := by rcases h3 with rfl | rfl | rfl <;> decide
  have hfw : fw9_ q = 8 - q ∧ fw9_ (q + 1) = 7 - q := by rcases h3 with rfl | rfl | rfl <;> decide
  rw [hlw] at hW
  unfold z3_
  simp only
  have i := hP.1 (q + 1) k m o W (by omega) (by omega) hk hm ho (by omega) (fun z => by
    have : lw9_ (q + 1) = q + 1 := by rcases h3 with rfl | rfl | rfl <;> decide
    rw [this]; exact tp9_m hW (by omega) (by omega)) hw (fun z => by omega)
  cases hp : P (q + 1) none k m o with
  | none => rw [hp] at i; exact i
  | some r =>
    rw [hp] at i
    obtain ⟨a1, a2, a3, a4, F, e2, b1, b2, b3, b4⟩ := i
    simp only at a1 a2 a3 a4 b2 b3 b4 ⊢
    exact RD_eq b3 a2 a3 (hP.2.1 q _ _ _ _ W F e2 (by omega) a1 a4 ho (by omega) (by rw [hlw]; exact hW) (lv_mono b1 (by split <;> omega)) b2 b4)
