section
/-! names in the two encodings, and trees with them -/
def rvN_ : Nat → Nat → Nat → Nat
  | 0, _, a => a
  | u + 1, m, a => if m = 0 then a else rvN_ u (m / 32) (a * 32 + m % 32)
/-- the reference's name of a key of the class's -/
def de_ (x : Int64) : Int64 := lN (rvN_ 12 (x.toBitVec.toNat % 2 ^ 60) 0)
theorem LE_cons {f : Nat → Int32} {k : Nat} : ∀ z, LE_ f k (z + 1) = dN_ (f k) + 32 * LE_ f (k + 1) z
  | 0 => by simp [LE_]
  | z + 1 => by
    rw [LE_, LE_cons z, LE_, Nat.mul_add, show k + (z + 1) = k + 1 + z by omega, Nat.pow_succ]
    have : dN_ (f (k + 1 + z)) * (32 ^ z * 32) = 32 * (dN_ (f (k + 1 + z)) * 32 ^ z) := by
      rw [← Nat.mul_assoc, Nat.mul_comm 32]
    omega
theorem BE_cons {f : Nat → Int32} {k : Nat} : ∀ z, BE_ f k (z + 1) = dN_ (f k) * 32 ^ z + BE_ f (k + 1) z
  | 0 => by simp [BE_]
  | z + 1 => by
    rw [BE_, BE_cons z, BE_, show k + (z + 1) = k + 1 + z by omega, Nat.pow_succ, Nat.add_mul, Nat.mul_assoc]
    omega
theorem ry_cons {f : Nat → Int32} {k z : Nat} (h : ry_ f k (z + 1)) : ry_ f (k + 1) z := fun j hj => by
  have := h (j + 1) (by omega)
  rw [show k + 1 + j = k + (j + 1) by omega]; exact this
theorem rv_LE {f : Nat → Int32} : ∀ (z u k a : Nat), z ≤ u → ry_ f k z → rvN_ u (LE_ f k z) a = a * 32 ^ z + BE_ f k z
  | 0, u, k, a, _, _ => by
    cases u with
    | zero => simp [rvN_, BE_]
    | succ u => rw [rvN_]; simp [LE_, BE_]
  | z + 1, u, k, a, hu, h => by
    obtain ⟨u, rfl⟩ : ∃ v, u = v + 1 := ⟨u - 1, by omega⟩
    obtain ⟨-, -, d1, d2⟩ := nc_io (h 0 (by omega))
    rw [Nat.add_zero] at d1 d2
    rw [rvN_, LE_cons, if_neg (by omega), show (dN_ (f k) + 32 * LE_ f (k + 1) z) / 32 = LE_ f (k + 1) z by omega, show (dN_ (f k) + 32 * LE_ f (k + 1) z) % 32 = dN_ (f k) by omega, rv_LE z u (k + 1) _ (by omega) (ry_cons h), BE_cons, Nat.pow_succ, Nat.add_mul, Nat.mul_assoc, Nat.mul_comm 32 (32 ^ z)]
    omega
theorem rv_BE {f : Nat → Int32} : ∀ (z u k a : Nat), z ≤ u → ry_ f k z → rvN_ u (BE_ f k z) a = a * 32 ^ z + LE_ f k z
  | 0, u, k, a, _, _ => by
    cases u with
    | zero => simp [rvN_, LE_]
    | succ u => rw [rvN_]; simp [LE_, BE_]
  | z + 1, u, k, a, hu, h => by
    obtain ⟨u, rfl⟩ : ∃ v, u = v + 1 := ⟨u - 1, by omega⟩
    obtain ⟨-, -, d1, d2⟩ := nc_io (h z (by omega))
    rw [rvN_, BE_, if_neg (by omega), show (BE_ f k z * 32 + dN_ (f (k + z))) / 32 = BE_ f k z by omega, show (BE_ f k z * 32 + dN_ (f (k + z))) % 32 = dN_ (f (k + z)) by omega, rv_BE z u k _ (by omega) (fun j hj => h j (by omega)), LE_, Nat.pow_succ, Nat.add_mul, Nat.mul_assoc, Nat.mul_comm 32 (32 ^ z)]
    omega
theorem ky_s2 : ∀ j, j < 4 → ((nI j).toInt64 <<< ((60 : Int32).toInt64 &&& 63)).toBitVec.toNat = j * 2 ^ 60 := by decide +kernel
theorem ky_N {a j : Nat} (ha : a < 2 ^ 60) (hj : j < 4) : (ky_ (lN a) (nI j)).toBitVec.toNat = a + j * 2 ^ 60 := by
  unfold ky_
  rw [Int64.toBitVec_or, BitVec.toNat_or, ky_s2 j hj, tbl_ (by omega), Nat.or_comm, Nat.mul_comm j, ← Nat.two_pow_add_eq_or_of_lt ha]
  omega
theorem de_ky {f : Nat → Int32} {k z j : Nat} (hz : z ≤ 12) (h : ry_ f k z) (hj : j < 4) : de_ (ky_ (lN (LE_ f k z)) (nI j)) = nm_ f k z := by
  have h1 : LE_ f k z < 2 ^ 60 := Nat.lt_of_lt_of_le (LE_lt z h) (p32_le hz)
  unfold de_
  rw [ky_N h1 hj, Nat.add_mul_mod_self_right, Nat.mod_eq_of_lt h1, rv_LE z 12 k 0 hz h, Nat.zero_mul, Nat.zero_add, nm_BE z hz h]
/-- the reference's tree of a tree of the class's -/
def tm_ : Term → Term
  | .int v => .int v
  | .index i => .index i
  | .length e => .length (tm_ e)
  | .sum e => .sum (tm_ e)
  | .elem s x => .elem s (tm_ x)
  | .mul a (.div b c) => .mul (tm_ a) (.div (tm_ b) (tm_ c))
  | .rem a b => .rem (tm_ a) (tm_ b)
  | .sub k x => .sub (.long (de_ (kv2_ k))) (tm_ x)
  | .add a r => .add (tm_ a) (tm_ r)
  | e => e
theorem CL_snoc {F : List fr_} {g : fr_} {e : Term} : CL_ (F ++ [g]) e = rf_ g (CL_ F e) := by rw [CL_app]; rfl
theorem TF_t {T : Int32 → Int32} {f : Nat → Int32} {n k : Nat} (h : TF_ T f n) (hk : k ≤ n + 10) : T (nI k) = f k := h.2.1 k (by have := h.1; omega)
theorem TF_lt {T : Int32 → Int32} {f : Nat → Int32} {n k : Nat} {c : Int32} (h : TF_ T f n) (hf : f k = c) (hc : 0 ≤ c) : k < n := by
  rcases Nat.lt_or_ge k n with z | z
  · exact z
  · rw [h.2.2.1 k z] at hf
    rw [← hf] at hc
    exact absurd hc (by decide)
/-- an operand may be read at k over W -/
def HW_ (f : Nat → Int32) (k : Nat) (W : List fr_) : Prop := f3b_ W = false ∧ (fqb_ W = true → ¬ f k = 41)
def lw9_ (q : Nat) : Nat := if q = 1 then 1 else if q = 2 then 3 else q
def fw9_ (q : Nat) : Nat := if q = 1 then 7 else if q = 8 then 8 else 8 - q
/-- the outcome of a reading of the kind q that has begun at the state S -/
def RD_ (M : mm_) (n : Nat) (q : Nat) (W : List fr_) (k m o : Nat) (S : ss_) : px2_ → Prop
  | none => BD_ M n S
  | some x => x.2.1 ≤ n ∧ k ≤ x.2.1 ∧ m ≤ x.2.2 ∧ x.2.2 ≤ 20 ∧ ∃ (F : List fr_) (e : Term), lv_all q F ∧ CL_ F e = tm_ x.1 ∧ FX_ M n S = FX_ M n (x.2.1, F ++ W, some e, x.2.2, o) ∧ MU_ q (bf_ M n x.2.1) F
def cw9_ : List fr_ → Prop
  | [] => False
  | g :: _ => g.1 = 8 ∧ g.2.2.1 = .null
def RD8_ (M : mm_) (n : Nat) (W : List fr_) (k m o : Nat) (S : ss_) : px2_ → Prop
  | none => BD_ M n S
  | some x => x.2.1 ≤ n ∧ k ≤ x.2.1 ∧ m ≤ x.2.2 ∧ x.2.2 ≤ 20 ∧ an_ x.1 < 4 ∧ ¬ bf_ M n x.2.1 = 44 ∧ ∃ (F : List fr_) (e xs : Term) (g : fr_) (V : List fr_), W = g :: V ∧ lv_all 1 F ∧ ao_ xs ∧ sa_ xs (CL_ F e) = tm_ x.1 ∧ FX_ M n S = FX_ M n (x.2.1, F ++ (8, g.2.1, xs, g.2.2.2.1, g.2.2.2.2) :: V, some e, x.2.2, o) ∧ MU_ 1 (bf_ M n x.2.1) F
def TI_ (M : mm_) (n : Nat) (P : pf2_) (t : Nat) : Prop :=
  (∀ q k m o W, 1 ≤ q → q ≤ 7 → k ≤ n → m ≤ 20 → o ≤ 12 → 9 * (20 - m) + 9 * (12 - o) + fw9_ q ≤ t → (q ≤ 5 → tp9_ (lw9_ q) W) → HW_ (bf_ M n) k W → (q = 7 → ¬ bf_ M n k = 45 ∧ ¬ bf_ M n k = 33) → RD_ M n q W k m o (k, W, none, m, o) (P q none k m o)) ∧
  (∀ q e k m o W F e2, (q = 1 ∨ q = 3 ∨ q = 4 ∨ q = 5) → k ≤ n → m ≤ 20 → o ≤ 12 → 9 * (20 - m) + 9 * (12 - o) + 1 ≤ t → tp9_ (lw9_ q) W → lv_all (if q = 3 then 4 else q) F → CL_ F e2 = tm_ e → MU_ (q + 1) (bf_ M n k) F → RD_ M n q W k m o (k, F ++ W, some e2, m, o) (P q (some e) k m o)) ∧
  (∀ k m o W, k ≤ n → m ≤ 20 → o ≤ 12 → 9 * (20 - m) + 9 * (12 - o) + 8 ≤ t → cw9_ W → ¬ bf_ M n k = 41 → RD8_ M n W k m o (k, W, none, m, o) (P 8 none k m o))
theorem RD_none {M : mm_} {n q k m o : Nat} {W : List fr_} {S : ss_} (h : BD_ M n S) : RD_ M n q W k m o S none := h
theorem RD_eq {M : mm_} {n q k m o k2 m2 : Nat} {W : List fr_} {S S2 : ss_} {x : px2_} (e : FX_ M n S = FX_ M n S2) (hk : k ≤ k2) (hm : m ≤ m2) (h : RD_ M n q W k2 m2 o S2 x) : RD_ M n q W k m o S x := by
  cases x with
  | none => obtain ⟨z, hz⟩ := h; exact ⟨z, e.trans hz⟩
  | some y =>
    obtain ⟨a1, a2, a3, a4, F, e2, b1, b2, b3, b4⟩ := h
    exact ⟨a1, by omega, by omega, a4, F, e2, b1, b2, e.trans b3, b4⟩
theorem BD_eq {M : mm_} {n : Nat} {S S2 : ss_} (e : FX_ M n S = FX_ M n S2) (h : BD_ M n S2) : BD_ M n S := by
  obtain ⟨z, hz⟩ := h; exact ⟨z, e.trans hz⟩
theorem MU_6 {c : Int32} {F : List fr_} {q : Nat} (hq : 6 ≤ q) : MU_ q c F := ⟨fun h => by omega, fun h => by omega, fun h => by omega, fun h => by omega, fun h => by omega⟩
/-- a byte behind a tree that is no end -/
theorem en_no {M : mm_} {n k : Nat} {c : Int32} (h : bf_ M n k = c) (hc : 32 < c) : ¬ en_d M n k := by
  intro z
  unfold en_d at z
  rw [h] at z
  rcases z with z | z
  · exact absurd (Int32.lt_trans hc z) (by decide)
  · exact absurd (Int32.lt_of_lt_of_le hc z.2) Int32.lt_irrefl
theorem FX_so {M : mm_} {n k nd op : Nat} {W : List fr_} {S : ss_} (hk : k ≤ n) (h : so_ M n k W nd op = .inl S) : FX_ M n (k, W, none, nd, op) = FX_ M n S := by rw [FX_none hk, h]
theorem FX_si {M : mm_} {n k nd op : Nat} {W : List fr_} {e : Term} {S : ss_} (hk : k ≤ n) (he : ¬ en_d M n k) (h : si_ (bf_ M n k) k W e nd op = .inl S) : FX_ M n (k, W, some e, nd, op) = FX_ M n S := by rw [FX_some hk he, h]
theorem so_in {M : mm_} {n k nd op : Nat} {W : List fr_} (he : ¬ en_d M n k) (hW : HW_ (bf_ M n) k W) : so_ M n k W nd op = so2_ M n k W nd op := by
  unfold so_
  rw [if_neg he, if_neg (fun z => hW.2 z.1 z.2)]
theorem HW_o {f : Nat → Int32} {k : Nat} {g : fr_} {W : List fr_} (h : ¬ g.1 = 8) : HW_ f k (g :: W) := by
  refine ⟨?_, fun z => ?_⟩
  · unfold f3b_; simp [h]
  · unfold fqb_ at z; simp [h] at z
/-! kind 6 -/
theorem ti6 {T : Int32 → Int32} {M : mm_} {n : Nat} {v : Int32} {nm : Bool} {P : pf2_} {t : Nat} (h : TF_ T (bf_ M n) n) (hP : TI_ M n P t) {k m o : Nat} {W : List fr_} (hk : k ≤ n) (hm : m ≤ 20) (ho : o ≤ 12) (ht : 9 * (20 - m) + 9 * (12 - o) + fw9_ 6 ≤ t + 1) (hW : HW_ (bf_ M n) k W) : RD_ M n 6 W k m o (k, W, none, m, o) (z6_ P T k m o) := by
  have hw6 : fw9_ 6 = 2 := by decide
  have hw7 : fw9_ 7 = 1 := by decide
  unfold z6_
  rw [TF_t h (by omega)]
  by_cases hc : bf_ M n k = 45 ∨ bf_ M n k = 33
  · rw [if_pos hc]
    have he : ¬ en_d M n k := by rcases hc with z | z <;> exact en_no z (by decide)
    have hkn : k < n := by rcases hc with z | z <;> exact TF_lt h z (by decide)
    have hso : so_ M n k W m o = if m = 20 then .inr (3, k) else .inl (k + 1, (6, bf_ M n k, .null, .null, 0) :: W, none, m + 1, o) := by
      rw [so_in he hW]
      unfold so2_
      rw [if_neg (by rw [hW.1]; decide), if_neg (by rcases hc with z | z <;> rw [z] <;> decide), if_pos hc]
    by_cases hm2 : m < 20
    · rw [if_pos hm2]
      rw [if_neg (by omega)] at hso
      have e1 := FX_so hk hso
      have i := hP.1 6 (k + 1) (m + 1) o ((6, bf_ M n k, .null, .null, 0) :: W) (by omega) (by omega) (by omega) (by omega) ho (by omega) (fun z => by omega) (HW_o (by simp)) (fun z => by omega)
      cases hp : P 6 none (k + 1) (m + 1) o with
      | none => rw [hp] at i; exact RD_none (BD_eq e1 i)
      | some r =>
        rw [hp] at i
        obtain ⟨a1, a2, a3, a4, F, e2, b1, b2, b3, b4⟩ := i
        refine ⟨a1, by simp only; omega, by simp only; omega, a4, F ++ [(6, bf_ M n k, .null, .null, 0)], e2, lv_app b1 (lv_1 (by simp) (by simp)), ?_, ?_, MU_6 (by omega)⟩
        · rw [CL_snoc, b2]
          show (if bf_ M n k = 45 then Term.length (tm_ r.1) else Term.sum (tm_ r.1)) = tm_ (if bf_ M n k = 45 then Term.length r.1 else Term.sum r.1)
          split <;> rfl
        · rw [e1, b3, List.append_assoc]; rfl
    · rw [if_neg hm2]
      rw [if_pos (by omega)] at hso
      exact BD_none hk hso
  · rw [if_neg hc]
    have i := hP.1 7 k m o W (by omega) (by omega) hk hm ho (by omega) (fun z => by omega) hW (fun _ => ⟨fun y => hc (Or.inl y), fun y => hc (Or.inr y)⟩)
    cases hp : P 7 none k m o with
    | none => rw [hp] at i; exact i
    | some r =>
      rw [hp] at i
      obtain ⟨a1, a2, a3, a4, F, e2, b1, b2, b3, b4⟩ := i
      exact ⟨a1, a2, a3, a4, F, e2, lv_mono b1 (by omega), b2, b3, MU_6 (by omega)⟩
/-! kinds 3, 4, 5 -/
theorem tp9_m {L K : Nat} {W : List fr_} (h : tp9_ L W) (hk : L ≤ K) (hK : K ≤ 7) : tp9_ K W := by
  cases W with
  | nil => trivial
  | cons g W =>
    have h2 : (g.1 < L ∨ 6 < g.1) ∧ g.1 ≤ 8 := h
    show (g.1 < K ∨ 6 < g.1) ∧ g.1 ≤ 8
    omega
theorem tp_n3 {W : List fr_} (h : tp9_ 3 W) : ¬ tp_ W = 3 := by
  cases W with
  | nil => decide
  | cons g W =>
    have h2 : (g.1 < 3 ∨ 6 < g.1) ∧ g.1 ≤ 8 := h
    show ¬ nI g.1 = 3
    rw [show (3 : Int32) = nI 3 from rfl, nI_eq (by omega) (by decide)]
    omega
theorem kd_gt {c : Int32} {q : Nat} (h : kd_ c = nI q) (h3 : q = 3 ∨ q = 4 ∨ q = 5) : 32 < c ∧ 0 ≤ c ∧ ¬ c = 35 ∧ ¬ c = 63 ∧ ¬ c = 58 := by
  rcases h3 with rfl | rfl | rfl
  · rcases kd_3.mpr h with rfl | rfl | rfl <;> decide
  · rcases kd_4.mpr h with rfl | rfl <;> decide
  · rcases kd_5.mpr h with rfl | rfl | rfl <;> decide
theorem si_bt {c : Int32} {k nd op q : Nat} {W : List fr_} {e : Term} (h : kd_ c = nI q) (h3 : q = 3 ∨ q = 4 ∨ q = 5) : si_ c k W e nd op = bt_ q c k W e nd op := by
  obtain ⟨-, -, c1, c2, c3⟩ := kd_gt h h3
  unfold si_
  rw [if_neg c1, if_neg c2, if_neg c3]
  rcases h3 with rfl | rfl | rfl
  · rw [if_pos (kd_3.mpr h)]
  · rw [if_neg (fun z => absurd ((kd_3.mp z).symm.trans h) (by decide)), if_pos (kd_4.mpr h)]
  · rw [if_neg (fun z => absurd ((kd_3.mp z).symm.trans h) (by decide)), if_neg (fun z => absurd ((kd_4.mp z).symm.trans h) (by decide)), if_pos (kd_5.mpr h)]
theorem bt_in {c : Int32} {k nd op q : Nat} {F W : List fr_} {e : Term} (h3 : q = 3 ∨ q = 4 ∨ q = 5) (hF : lv_all (if q = 3 then 4 else q) F) (hW : tp9_ q W) : bt_ q c k (F ++ W) e nd op = if nd = 20 then .inr (3, k) else .inl (k + 1, (q, c, CL_ F e, .null, 0) :: W, none, nd + 1, op) := by
  have hW2 : tp9_ (if q = 3 then 4 else q) W := tp9_m hW (by split <;> omega) (by split <;> omega)
  unfold bt_
  rw [rt_all hF hW2, if_neg]
  rintro ⟨z, y⟩
  subst z
  exact tp_n3 hW y
theorem MU_dn {q : Nat} {c : Int32} {F : List fr_} (h3 : q = 3 ∨ q = 4 ∨ q = 5) (h : MU_ (q + 1) c F) (hk : ¬ kd_ c = nI q) : MU_ q c F := by
  obtain ⟨h1, h2, h4, h5, h6⟩ := h
  rcases h3 with rfl | rfl | rfl
  · exact ⟨fun _ => h1 (by omega), fun _ => h2 (by omega), fun _ z => absurd z hk, fun z => by omega, fun z => by omega⟩
  · exact ⟨fun _ => h1 (by omega), fun _ => hk, fun z => by omega, fun z => by omega, fun z => by omega⟩
  · exact ⟨fun _ => hk, fun z => by omega, fun z => by omega, fun z => by omega, fun z => by omega⟩
theorem ti3s {T : Int32 → Int32} {M : mm_} {n : Nat} {P : pf2_} {t : Nat} (h : TF_ T (bf_ M n) n) (hP : TI_ M n P t) {q k m o : Nat} {W F : List fr_} {e e2 : Term} (h3 : q = 3 ∨ q = 4 ∨ q = 5) (hk : k ≤ n) (hm : m ≤ 20) (ho : o ≤ 12) (ht : 9 * (20 - m) + 9 * (12 - o) + 1 ≤ t + 1) (hW : tp9_ (lw9_ q) W) (hF : lv_all (if q = 3 then 4 else q) F) (hc : CL_ F e2 = tm_ e) (hM : MU_ (q + 1) (bf_ M n k) F) : RD_ M n q W k m o (k, F ++ W, some e2, m, o) (z3_ P T q (some e) k m o) := by
  have hlw : lw9_ q = q := by rcases h3 with rfl | rfl | rfl <;> decide
  rw [hlw] at hW
  unfold z3_
  simp only
  rw [TF_t h (by omega)]
  by_cases hq : kd_ (bf_ M n k) = nI q
  · rw [if_pos hq]
    obtain ⟨c1, c2, -⟩ := kd_gt hq h3
    have he : ¬ en_d M n k := en_no rfl c1
    have hkn : k < n := TF_lt h rfl c2
    have hsi := (si_bt (k := k) (nd := m) (op := o) (W := F ++ W) (e := e2) hq h3).trans (bt_in h3 hF hW)
    by_cases hm2 : m < 20
    · rw [if_pos hm2]
      rw [if_neg (by omega)] at hsi
      have e1 := FX_si hk he hsi
      have hfw : fw9_ (q + 1) ≤ 5 := by rcases h3 with rfl | rfl | rfl <;> decide
      have i := hP.1 (q + 1) (k + 1) (m + 1) o ((q, bf_ M n k, CL_ F e2, .null, 0) :: W) (by omega) (by omega) (by omega) (by omega) ho (by omega) (fun z => by
        rcases h3 with rfl | rfl | rfl
        · exact ⟨Or.inl (show (3 : Nat) < 4 by decide), show (3 : Nat) ≤ 8 by decide⟩
        · exact ⟨Or.inl (show (4 : Nat) < 5 by decide), show (4 : Nat) ≤ 8 by decide⟩
        · omega) (HW_o (by simp only; omega)) (fun z => by omega)
      cases hp : P (q + 1) none (k + 1) (m + 1) o with
      | none => rw [hp] at i; exact RD_none (BD_eq e1 i)
      | some r =>
        rw [hp] at i
        obtain ⟨a1, a2, a3, a4, F2, e3, b1, b2, b3, b4⟩ := i
        simp only at a1 a2 a3 a4 b2 b3 b4 ⊢
        have e4 : FX_ M n (k, F ++ W, some e2, m, o) = FX_ M n (r.2.1, (F2 ++ [(q, bf_ M n k, CL_ F e2, .null, 0)]) ++ W, some e3, r.2.2, o) := by
          rw [e1, b3, List.append_assoc]; rfl
        have e5 : CL_ (F2 ++ [(q, bf_ M n k, CL_ F e2, .null, 0)]) e3 = tm_ (.elem (.int (bf_ M n k)) (.add e r.1)) := by
          rw [CL_snoc, b2, hc]
          rcases h3 with rfl | rfl | rfl <;> rfl
        have e6 : lv_all q (F2 ++ [(q, bf_ M n k, CL_ F e2, .null, 0)]) := lv_app (lv_mono b1 (by omega)) (lv_1 (Nat.le_refl _) (by simp only; omega))
        by_cases hq3 : q = 3
        · rw [if_pos hq3]
          subst hq3
          refine ⟨a1, by simp only; omega, by simp only; omega, a4, _, e3, e6, e5, e4, ?_⟩
          obtain ⟨m1, m2, -, -, -⟩ := b4
          exact ⟨fun _ => m1 (by omega), fun _ => m2 (by omega), fun _ _ => ⟨F2, _, [], rfl, b1, rfl⟩, fun z => by omega, fun z => by omega⟩
        · rw [if_neg hq3]
          refine RD_eq e4 (by omega) (by omega) (hP.2.1 q _ _ _ _ W _ e3 (by omega) a1 a4 ho (by omega) (by rw [hlw]; exact hW) (by rw [if_neg hq3]; exact e6) e5 ?_)
          obtain ⟨m1, m2, m3, m4, m5⟩ := b4
          refine ⟨m1, m2, fun z => by omega, fun z => by omega, fun z => by omega⟩
    · rw [if_neg hm2]
      rw [if_pos (by omega)] at hsi
      exact BD_some hk he hsi
  · rw [if_neg hq]
    exact ⟨hk, Nat.le_refl _, Nat.le_refl _, hm, F, e2, by intro g hg; have := hF g hg; split at this <;> omega, hc, rfl, MU_dn h3 hM hq⟩
theorem ti3n {T : Int32 → Int32} {M : mm_} {n : Nat} {P : pf2_} {t : Nat} (hP : TI_ M n P t) {q k m o : Nat} {W : List fr_} (h3 : q = 3 ∨ q = 4 ∨ q = 5) (hk : k ≤ n) (hm : m ≤ 20) (ho : o ≤ 12) (ht : 9 * (20 - m) + 9 * (12 - o) + fw9_ q ≤ t + 1) (hW : tp9_ (lw9_ q) W) (hw : HW_ (bf_ M n) k W) : RD_ M n q W k m o (k, W, none, m, o) (z3_ P T q none k m o) := by
  have hlw : lw9_ q = q := by rcases h3 with rfl | rfl | rfl <;> decide
  have hfw : fw9_ q = 8 - q ∧ fw9_ (q + 1) = 7 - q := by rcases h3 with rfl | rfl | rfl <;> decide
  rw [hlw] at hW
  unfold z3_
  simp only
  have i := hP.1 (q + 1) k m o W (by omega) (by omega) hk hm ho (by omega) (fun z => by
    have : lw9_ (q + 1) = q + 1 := by rcases h3 with rfl | rfl | rfl <;> decide
    rw [this]; exact tp9_m hW (by omega) (by omega)) hw (fun z => by omega)
  cases hp : P (q + 1) none k m o with
  | none => rw [hp] at i; exact i
  | some r =>
    rw [hp] at i
    obtain ⟨a1, a2, a3, a4, F, e2, b1, b2, b3, b4⟩ := i
    simp only at a1 a2 a3 a4 b2 b3 b4 ⊢
    exact RD_eq b3 a2 a3 (hP.2.1 q _ _ _ _ W F e2 (by omega) a1 a4 ho (by omega) (by rw [hlw]; exact hW) (lv_mono b1 (by split <;> omega)) b2 b4)

end
section
theorem si_35 {k nd op : Nat} {F W : List fr_} {e : Term} (hF : lv_all 1 F) (hW : tp9_ 1 W) : si_ 35 k (F ++ W) e nd op = if nd = 20 then .inr (3, k) else .inl (k + 1, (1, 0, CL_ F e, .null, 0) :: W, none, nd + 1, op) := by
  unfold si_
  rw [if_pos rfl]
  unfold ha_
  rw [rt_all hF hW]
theorem si_63 {k nd op : Nat} {F W : List fr_} {e : Term} (hF : lv_all 3 F) (hW : tp9_ 3 W) : si_ 63 k (F ++ W) e nd op = if nd = 20 then .inr (3, k) else .inl (k + 1, (7, 0, CL_ F e, .null, 0) :: W, none, nd + 1, op) := by
  unfold si_
  rw [if_neg (by decide), if_pos rfl]
  unfold qu_
  rw [rt_all hF hW]
theorem si_58 {k nd op : Nat} {F W : List fr_} {g : fr_} {e : Term} (hF : lv_all 1 F) (hg : g.1 = 7) : si_ 58 k (F ++ g :: W) e nd op = .inl (k + 1, (2, 0, g.2.2.1, CL_ F e, 0) :: W, none, nd, op) := by
  unfold si_
  rw [if_neg (by decide), if_neg (by decide), if_pos rfl]
  unfold cl_
  rw [rt_all hF (show tp9_ 1 (g :: W) from ⟨by omega, by omega⟩)]
  simp only
  rw [if_pos hg]
theorem si_44 {k nd op : Nat} {F W : List fr_} {g : fr_} {e : Term} (hF : lv_all 1 F) (hg : g.1 = 8) : si_ 44 k (F ++ g :: W) e nd op = .inl (k + 1, (8, g.2.1, sa_ g.2.2.1 (CL_ F e), g.2.2.2.1, g.2.2.2.2) :: W, none, nd, op) := by
  unfold si_
  rw [if_neg (by decide), if_neg (by decide), if_neg (by decide), if_neg (by decide), if_neg (by decide), if_neg (by decide), if_pos rfl]
  unfold cm2_
  rw [rt_all hF (show tp9_ 1 (g :: W) from ⟨by omega, by omega⟩)]
  simp only
  rw [if_pos hg]
theorem si_41 {k nd op : Nat} {F W : List fr_} {g : fr_} {e : Term} (hF : lv_all 1 F) (hg : g.1 = 0 ∨ g.1 = 8) : si_ 41 k (F ++ g :: W) e nd op = .inl (k + 1, W, some (if g.1 = 0 then CL_ F e else .sub (.long g.2.2.2.2) (sa_ g.2.2.1 (CL_ F e))), nd, op - 1) := by
  unfold si_
  rw [if_neg (by decide), if_neg (by decide), if_neg (by decide), if_neg (by decide), if_neg (by decide), if_neg (by decide), if_neg (by decide), if_pos rfl]
  unfold cz_
  rw [rt_all hF (show tp9_ 1 (g :: W) from ⟨by omega, by omega⟩)]
  simp only
  rcases hg with z | z
  · rw [if_pos z, if_pos z]
  · rw [if_neg (by omega), if_pos z, if_neg (by omega)]
theorem ti1s {T : Int32 → Int32} {M : mm_} {n : Nat} {P : pf2_} {t : Nat} (h : TF_ T (bf_ M n) n) (hP : TI_ M n P t) {k m o : Nat} {W F : List fr_} {e e2 : Term} (hk : k ≤ n) (hm : m ≤ 20) (ho : o ≤ 12) (ht : 9 * (20 - m) + 9 * (12 - o) + 1 ≤ t + 1) (hW : tp9_ 1 W) (hF : lv_all 1 F) (hc : CL_ F e2 = tm_ e) (hM : MU_ 2 (bf_ M n k) F) : RD_ M n 1 W k m o (k, F ++ W, some e2, m, o) (z1_ P T (some e) k m o) := by
  unfold z1_
  simp only
  rw [TF_t h (by omega)]
  have hf2 : fw9_ 2 = 6 := by decide
  by_cases hq : bf_ M n k = 35
  · rw [if_pos hq]
    have he : ¬ en_d M n k := en_no hq (by decide)
    have hkn : k < n := TF_lt h hq (by decide)
    have hsi := si_35 (k := k) (nd := m) (op := o) (e := e2) hF hW
    rw [← hq] at hsi
    by_cases hm2 : m < 20
    · rw [if_pos hm2]
      rw [if_neg (by omega)] at hsi
      have e1 := FX_si hk he hsi
      have i := hP.1 2 (k + 1) (m + 1) o ((1, 0, CL_ F e2, .null, 0) :: W) (by omega) (by omega) (by omega) (by omega) ho (by omega) (fun _ => ⟨Or.inl (by simp [lw9_]), by simp⟩) (HW_o (by simp)) (fun z => by omega)
      cases hp : P 2 none (k + 1) (m + 1) o with
      | none => rw [hp] at i; exact RD_none (BD_eq e1 i)
      | some r =>
        rw [hp] at i
        obtain ⟨a1, a2, a3, a4, F2, e3, b1, b2, b3, b4⟩ := i
        simp only at a1 a2 a3 a4 b2 b3 b4 ⊢
        have e4 : FX_ M n (k, F ++ W, some e2, m, o) = FX_ M n (r.2.1, (F2 ++ [(1, 0, CL_ F e2, .null, 0)]) ++ W, some e3, r.2.2, o) := by
          rw [e1, b3, List.append_assoc]; rfl
        have e5 : CL_ (F2 ++ [(1, 0, CL_ F e2, .null, 0)]) e3 = tm_ (.rem e r.1) := by
          rw [CL_snoc, b2, hc]; rfl
        refine RD_eq e4 (by omega) (by omega) (hP.2.1 1 _ _ _ _ W _ e3 (by omega) a1 a4 ho (by omega) hW (by rw [if_neg (by decide)]; exact lv_app (lv_mono b1 (by omega)) (lv_1 (by simp) (by simp))) e5 ?_)
        exact ⟨b4.1, b4.2.1, fun z1 z2 => CMP_app (b4.2.2.1 z1 z2), b4.2.2.2.1, b4.2.2.2.2⟩
    · rw [if_neg hm2]
      rw [if_pos (by omega)] at hsi
      exact BD_some hk he hsi
  · rw [if_neg hq]
    exact ⟨hk, Nat.le_refl _, Nat.le_refl _, hm, F, e2, hF, hc, rfl, fun _ => hM.1 (by omega), fun _ => hM.2.1 (by omega), fun _ => hM.2.2.1 (by omega), fun _ => hM.2.2.2.1 (by omega), fun _ => hq⟩
theorem ti1n {T : Int32 → Int32} {M : mm_} {n : Nat} {P : pf2_} {t : Nat} (hP : TI_ M n P t) {k m o : Nat} {W : List fr_} (hk : k ≤ n) (hm : m ≤ 20) (ho : o ≤ 12) (ht : 9 * (20 - m) + 9 * (12 - o) + fw9_ 1 ≤ t + 1) (hW : tp9_ 1 W) (hw : HW_ (bf_ M n) k W) : RD_ M n 1 W k m o (k, W, none, m, o) (z1_ P T none k m o) := by
  have hf1 : fw9_ 1 = 7 := by decide
  have hf2 : fw9_ 2 = 6 := by decide
  unfold z1_
  simp only
  have i := hP.1 2 k m o W (by omega) (by omega) hk hm ho (by omega) (fun z => tp9_m hW (by decide) (by decide)) hw (fun z => by omega)
  cases hp : P 2 none k m o with
  | none => rw [hp] at i; exact i
  | some r =>
    rw [hp] at i
    obtain ⟨a1, a2, a3, a4, F, e2, b1, b2, b3, b4⟩ := i
    simp only at a1 a2 a3 a4 b2 b3 b4 ⊢
    exact RD_eq b3 a2 a3 (hP.2.1 1 _ _ _ _ W F e2 (by omega) a1 a4 ho (by omega) hW (by rw [if_neg (by decide)]; exact lv_mono b1 (by omega)) b2 b4)
theorem ti2 {T : Int32 → Int32} {M : mm_} {n : Nat} {P : pf2_} {t : Nat} (h : TF_ T (bf_ M n) n) (hP : TI_ M n P t) {k m o : Nat} {W : List fr_} (hk : k ≤ n) (hm : m ≤ 20) (ho : o ≤ 12) (ht : 9 * (20 - m) + 9 * (12 - o) + fw9_ 2 ≤ t + 1) (hW : tp9_ 3 W) (hw : HW_ (bf_ M n) k W) : RD_ M n 2 W k m o (k, W, none, m, o) (z2_ P T k m o) := by
  have hf1 : fw9_ 1 = 7 := by decide
  have hf2 : fw9_ 2 = 6 := by decide
  have hf3 : fw9_ 3 = 5 := by decide
  unfold z2_
  have i := hP.1 3 k m o W (by omega) (by omega) hk hm ho (by omega) (fun z => hW) hw (fun z => by omega)
  cases hp : P 3 none k m o with
  | none => rw [hp] at i; exact i
  | some a =>
    rw [hp] at i
    obtain ⟨a1, a2, a3, a4, F, e2, b1, b2, b3, b4⟩ := i
    simp only at a1 a2 a3 a4 b2 b3 b4 ⊢
    rw [TF_t h (by omega)]
    by_cases hq : bf_ M n a.2.1 = 63
    · rw [if_pos hq]
      have he : ¬ en_d M n a.2.1 := en_no hq (by decide)
      have hkn : a.2.1 < n := TF_lt h hq (by decide)
      have hsi := si_63 (k := a.2.1) (nd := a.2.2) (op := o) (e := e2) b1 hW
      rw [← hq] at hsi
      by_cases hm2 : a.2.2 < 20
      · rw [if_pos hm2]
        rw [if_neg (by omega)] at hsi
        have e1 := b3.trans (FX_si a1 he hsi)
        have i := hP.1 1 (a.2.1 + 1) (a.2.2 + 1) o ((7, 0, CL_ F e2, .null, 0) :: W) (by omega) (by omega) (by omega) (by omega) ho (by omega) (fun _ => ⟨Or.inr (by simp), by simp⟩) (HW_o (by simp)) (fun z => by omega)
        cases hp1 : P 1 none (a.2.1 + 1) (a.2.2 + 1) o with
        | none => rw [hp1] at i; exact RD_none (BD_eq e1 i)
        | some r =>
          rw [hp1] at i
          obtain ⟨c1, c2, c3, c4, F1, e3, d1, d2, d3, d4⟩ := i
          simp only at c1 c2 c3 c4 d2 d3 d4 ⊢
          rw [TF_t h (by omega)]
          by_cases hq2 : bf_ M n r.2.1 = 58
          · rw [if_pos hq2]
            have he2 : ¬ en_d M n r.2.1 := en_no hq2 (by decide)
            have hkn2 : r.2.1 < n := TF_lt h hq2 (by decide)
            have hsi2 := si_58 (k := r.2.1) (nd := r.2.2) (op := o) (e := e3) (W := W) (g := (7, 0, CL_ F e2, .null, 0)) d1 rfl
            rw [← hq2] at hsi2
            have e4 := (e1.trans d3).trans (FX_si c1 he2 hsi2)
            have i := hP.1 2 (r.2.1 + 1) r.2.2 o ((2, 0, CL_ F e2, CL_ F1 e3, 0) :: W) (by omega) (by omega) (by omega) c4 ho (by omega) (fun _ => ⟨Or.inl (by simp [lw9_]), by simp⟩) (HW_o (by simp)) (fun z => by omega)
            cases hp2 : P 2 none (r.2.1 + 1) r.2.2 o with
            | none => rw [hp2] at i; exact RD_none (BD_eq e4 i)
            | some x =>
              rw [hp2] at i
              obtain ⟨g1, g2, g3, g4, F2, e5, h1, h2, h3, h4⟩ := i
              simp only at g1 g2 g3 g4 h2 h3 h4 ⊢
              refine ⟨g1, by simp only; omega, by simp only; omega, g4, F2 ++ [(2, 0, CL_ F e2, CL_ F1 e3, 0)], e5, lv_app h1 (lv_1 (by simp) (by simp)), ?_, ?_, ?_⟩
              · rw [CL_snoc, h2, b2, d2]; rfl
              · rw [e4, h3, List.append_assoc]; rfl
              · exact ⟨h4.1, h4.2.1, fun z1 z2 => CMP_app (h4.2.2.1 z1 z2), h4.2.2.2.1, h4.2.2.2.2⟩
          · rw [if_neg hq2]
            exact RD_none (BD_eq (e1.trans d3) (BD_stuck c1 d1 d4 (by simp) (Or.inr (Or.inl rfl)) (fun z => absurd z hq2) (fun _ => by simp [tp6_]) (fun _ => rfl)))
      · rw [if_neg hm2]
        rw [if_pos (by omega)] at hsi
        exact RD_none (BD_eq b3 (BD_some a1 he hsi))
    · rw [if_neg hq]
      exact ⟨a1, a2, a3, a4, F, e2, lv_mono b1 (by omega), b2, b3, fun _ => b4.1 (by omega), fun _ => b4.2.1 (by omega), fun _ => b4.2.2.1 (by omega), fun _ => hq, fun z => by omega⟩
/-! arguments -/
theorem ti8 {T : Int32 → Int32} {M : mm_} {n : Nat} {P : pf2_} {t : Nat} (h : TF_ T (bf_ M n) n) (hP : TI_ M n P t) {k m o : Nat} {W : List fr_} (hk : k ≤ n) (hm : m ≤ 20) (ho : o ≤ 12) (ht : 9 * (20 - m) + 9 * (12 - o) + 8 ≤ t + 1) (hW : cw9_ W) (hw : ¬ bf_ M n k = 41) : RD8_ M n W k m o (k, W, none, m, o) (z8_ P T k m o) := by
  have hf1 : fw9_ 1 = 7 := by decide
  cases W with
  | nil => exact absurd hW id
  | cons g V =>
  obtain ⟨g8, gn⟩ : g.1 = 8 ∧ g.2.2.1 = .null := hW
  have tpg : ∀ (c : Int32) (x y : Term) (w : Int64), tp9_ (lw9_ 1) (((8, c, x, y, w) : fr_) :: V) := fun c x y w => ⟨Or.inr (by simp), by simp⟩
  have hg : tp9_ (lw9_ 1) (g :: V) := ⟨Or.inr (by omega), by omega⟩
  unfold z8_
  have i := hP.1 1 k m o (g :: V) (by omega) (by omega) hk hm ho (by omega) (fun z => hg) ⟨by show (decide (g.1 = 8) && decide (ac_ g.2.2.1 = 3)) = false; rw [gn]; simp [ac_], fun _ => hw⟩ (fun z => by omega)
  cases hp : P 1 none k m o with
  | none => rw [hp] at i; exact i
  | some a =>
    rw [hp] at i
    obtain ⟨a1, a2, a3, a4, F, e2, b1, b2, b3, b4⟩ := i
    simp only at a1 a2 a3 a4 b2 b3 b4 ⊢
    rw [TF_t h (by omega)]
    by_cases hq : bf_ M n a.2.1 = 44
    · rw [if_pos hq]
      have he : ¬ en_d M n a.2.1 := en_no hq (by decide)
      have hkn : a.2.1 < n := TF_lt h hq (by decide)
      have hsi := si_44 (k := a.2.1) (nd := a.2.2) (op := o) (e := e2) (W := V) b1 g8
      rw [← hq, gn] at hsi
      have e1 := b3.trans (FX_si a1 he hsi)
      have i := hP.1 1 (a.2.1 + 1) a.2.2 o ((8, g.2.1, sa_ .null (CL_ F e2), g.2.2.2.1, g.2.2.2.2) :: V) (by omega) (by omega) (by omega) a4 ho (by omega) (fun _ => tpg _ _ _ _) ⟨by simp [f3b_, sa_, ac_], fun z => by simp [fqb_, sa_, ac_] at z⟩ (fun z => by omega)
      cases hp1 : P 1 none (a.2.1 + 1) a.2.2 o with
      | none => rw [hp1] at i; exact BD_eq e1 i
      | some b =>
        rw [hp1] at i
        obtain ⟨c1, c2, c3, c4, F1, e3, d1, d2, d3, d4⟩ := i
        simp only at c1 c2 c3 c4 d2 d3 d4 ⊢
        rw [TF_t h (by omega)]
        by_cases hq2 : bf_ M n b.2.1 = 44
        · rw [if_pos hq2]
          have he2 : ¬ en_d M n b.2.1 := en_no hq2 (by decide)
          have hkn2 : b.2.1 < n := TF_lt h hq2 (by decide)
          have hsi2 := si_44 (k := b.2.1) (nd := b.2.2) (op := o) (e := e3) (W := V) (g := (8, g.2.1, sa_ .null (CL_ F e2), g.2.2.2.1, g.2.2.2.2)) d1 rfl
          rw [← hq2] at hsi2
          have e4 := (e1.trans d3).trans (FX_si c1 he2 hsi2)
          have i := hP.1 1 (b.2.1 + 1) b.2.2 o ((8, g.2.1, sa_ (sa_ .null (CL_ F e2)) (CL_ F1 e3), g.2.2.2.1, g.2.2.2.2) :: V) (by omega) (by omega) (by omega) c4 ho (by omega) (fun _ => tpg _ _ _ _) ⟨by simp [f3b_, sa_, ac_], fun z => by simp [fqb_, sa_, ac_] at z⟩ (fun z => by omega)
          cases hp2 : P 1 none (b.2.1 + 1) b.2.2 o with
          | none => rw [hp2] at i; exact BD_eq e4 i
          | some x =>
            rw [hp2] at i
            obtain ⟨g1, g2, g3, g4, F2, e5, h1, h2, h3, h4⟩ := i
            simp only at g1 g2 g3 g4 h2 h3 h4 ⊢
            rw [TF_t h (by omega)]
            by_cases hq3 : bf_ M n x.2.1 = 44
            · rw [if_pos hq3]
              have he3 : ¬ en_d M n x.2.1 := en_no hq3 (by decide)
              have hkn3 : x.2.1 < n := TF_lt h hq3 (by decide)
              have hsi3 := si_44 (k := x.2.1) (nd := x.2.2) (op := o) (e := e5) (W := V) (g := (8, g.2.1, sa_ (sa_ .null (CL_ F e2)) (CL_ F1 e3), g.2.2.2.1, g.2.2.2.2)) h1 rfl
              rw [← hq3] at hsi3
              have e6 := (e4.trans h3).trans (FX_si g1 he3 hsi3)
              refine BD_eq e6 ?_
              have hso : ∃ z, so_ M n (x.2.1 + 1) ((8, g.2.1, sa_ (sa_ (sa_ .null (CL_ F e2)) (CL_ F1 e3)) (CL_ F2 e5), g.2.2.2.1, g.2.2.2.2) :: V) x.2.2 o = .inr z := by
                unfold so_
                split
                · exact ⟨_, rfl⟩
                · rw [if_neg (by simp [fqb_, sa_, ac_])]
                  unfold so2_
                  rw [if_pos (by simp [f3b_, sa_, ac_])]
                  exact ⟨_, rfl⟩
              obtain ⟨z, hz⟩ := hso
              exact BD_none (by omega) hz
            · rw [if_neg hq3]
              refine ⟨g1, by simp only; omega, by simp only; omega, g4, by show 3 < 4; decide, hq3, F2, e5, sa_ (sa_ .null (CL_ F e2)) (CL_ F1 e3), g, V, rfl, h1, by simp [sa_, ao_], ?_, e4.trans h3, h4⟩
              simp only [sa_, tm_, b2, d2, h2]
        · rw [if_neg hq2]
          refine ⟨c1, by simp only; omega, by simp only; omega, c4, by show 2 < 4; decide, hq2, F1, e3, sa_ .null (CL_ F e2), g, V, rfl, d1, by simp [sa_, ao_], ?_, e1.trans d3, d4⟩
          simp only [sa_, tm_, b2, d2]
    · rw [if_neg hq]
      refine ⟨a1, a2, a3, a4, by show 1 < 4; decide, hq, F, e2, .null, g, V, rfl, b1, trivial, ?_, ?_, b4⟩
      · simp only [sa_, tm_, b2]
      · rw [b3]
        obtain ⟨x1, x2, x3, x4, x5⟩ := g
        simp only at g8 gn ⊢
        rw [g8, gn]
theorem RD_7 {M : mm_} {n k m o k2 m2 : Nat} {W : List fr_} {S : ss_} {e : Term} (hk : k2 ≤ n) (h1 : k ≤ k2) (h2 : m ≤ m2) (h3 : m2 ≤ 20) (h : FX_ M n S = FX_ M n (k2, W, some (tm_ e), m2, o)) : RD_ M n 7 W k m o S (some (e, k2, m2)) := ⟨hk, h1, h2, h3, [], tm_ e, lv_nil, rfl, h, MU_6 (by omega)⟩
theorem tiw {T : Int32 → Int32} {M : mm_} {n : Nat} {v : Int32} {nm : Bool} {P : pf2_} {t : Nat} (h : TF_ T (bf_ M n) n) (hK : KN_ M v nm) (hP : TI_ M n P t) {k m o : Nat} {W : List fr_} (hk : k < n) (hm : m ≤ 20) (ho : o ≤ 12) (ht : 9 * (20 - m) + 9 * (12 - o) + 1 ≤ t + 1) (hso : so_ M n k W m o = rr_ M n k W m o) (hio : io_ (bf_ M n k) = 1) : RD_ M n 7 W k m o (k, W, none, m, o) (zw_ P T v nm k m o (srT_ T (nI k) 200 0 0 0)) := by
  obtain ⟨hsr, hry⟩ := srT_rz h (show k ≤ n by omega)
  have hn := h.1
  obtain ⟨z, hz⟩ : ∃ z, rz_ M n k = z := ⟨_, rfl⟩
  have hz1 : 1 ≤ z := by
    rw [← hz]
    unfold rz_
    obtain ⟨u, hu⟩ : ∃ u, n - k = u + 1 := ⟨n - k - 1, by omega⟩
    rw [hu, rn_, if_pos hio]
    omega
  have hzn : k + z ≤ n := by
    rcases Nat.lt_or_ge n (k + z) with q | q
    · have := hry (z - 1) (by omega)
      rw [h.2.2.1 (k + (z - 1)) (by omega)] at this
      exact absurd this (by decide)
    · exact q
  have hne := isn_ne h (show k ≤ n by omega) hz1 hzn
  rw [hz] at hsr hry
  rw [hsr]
  unfold zw_
  simp only
  unfold rr_ at hso
  rw [hz] at hso
  have hKn : nm = true ↔ M.1 0 14 = 0 := by
    rcases hK with ⟨a, b, -⟩ | ⟨a, b, -⟩
    · simp [a, b]
    · simp [a, b]
  by_cases hn1 : ne_ (bf_ M n) k z
  · rw [if_pos (hne.mpr hn1)]
    have hz2 : 2 < z := hn1.1
    rw [if_neg (fun q => by omega)] at hso
    by_cases hc : m < 20 ∧ nm = true ∧ z ≤ 12 ∧ T (nI (k + z)) = 40 ∧ o < 12
    · rw [if_pos hc]
      obtain ⟨c1, c2, c3, c4, c5⟩ := hc
      rw [TF_t h (by omega)] at c4
      rw [if_neg (by omega), if_neg (by omega), if_neg (fun q => q hn1), if_neg (fun q => q (hKn.mp c2)), if_neg (fun q => q c4), if_neg (by omega)] at hso
      have hkz : k + z < n := TF_lt h c4 (by decide)
      have e1 := FX_so (show k ≤ n by omega) hso
      rw [Nat.min_eq_left c3]
      rw [TF_t h (by omega)]
      by_cases h41 : bf_ M n (k + z + 1) = 41
      · rw [if_pos h41]
        have hkz2 : k + z + 1 < n := TF_lt h h41 (by decide)
        refine RD_7 (by omega) (by omega) (by omega) (by omega) (e1.trans ?_)
        have e2 : so_ M n (k + z + 1) ((8, 0, .null, .null, nm_ (bf_ M n) k z) :: W) (m + 1) (o + 1) = .inl (k + z + 1 + 1, W, some (.sub (.long (nm_ (bf_ M n) k z)) .null), m + 1, o) := by
          unfold so_
          rw [if_neg (en_no h41 (by decide)), if_pos ⟨by simp [fqb_, ac_], h41⟩]
          rfl
        rw [FX_so (by omega) e2]
        show _ = FX_ M n (k + z + 2, W, some (.sub (.long (de_ (ky_ (lN (LE_ (bf_ M n) k z)) 0))) .null), m + 1, o)
        rw [show (0 : Int32) = nI 0 from rfl, de_ky c3 hry (by decide)]
      · rw [if_neg h41]
        have i := hP.2.2 (k + z + 1) (m + 1) (o + 1) ((8, 0, .null, .null, nm_ (bf_ M n) k z) :: W) (by omega) (by omega) (by omega) (by omega) ⟨rfl, rfl⟩ h41
        cases hp : P 8 none (k + z + 1) (m + 1) (o + 1) with
        | none => rw [hp] at i; exact RD_none (BD_eq e1 i)
        | some x =>
          rw [hp] at i
          obtain ⟨a1, a2, a3, a4, a5, a6, F, e2, xs, g, V, hg, b1, b2, b3, b4, b5⟩ := i
          obtain ⟨hg1, rfl⟩ := List.cons.inj hg
          subst hg1
          simp only at a1 a2 a3 a4 a5 a6 b3 b4 b5 ⊢
          rw [TF_t h (by omega)]
          by_cases hq : bf_ M n x.2.1 = 41
          · rw [if_pos hq]
            have hkx : x.2.1 < n := TF_lt h hq (by decide)
            have hsi := si_41 (k := x.2.1) (nd := x.2.2) (op := o + 1) (e := e2) (W := W) (g := (8, 0, xs, .null, nm_ (bf_ M n) k z)) b1 (Or.inr rfl)
            rw [← hq] at hsi
            refine RD_7 (by omega) (by omega) (by omega) a4 ((e1.trans b4).trans ((FX_si a1 (en_no hq (by decide)) hsi).trans ?_))
            show FX_ M n (x.2.1 + 1, W, some (.sub (.long (nm_ (bf_ M n) k z)) (sa_ xs (CL_ F e2))), x.2.2, o) = FX_ M n (x.2.1 + 1, W, some (.sub (.long (de_ (ky_ (lN (LE_ (bf_ M n) k z)) (nI (an_ x.1))))) (tm_ x.1)), x.2.2, o)
            rw [de_ky c3 hry a5, b3]
          · rw [if_neg hq]
            exact RD_none (BD_eq (e1.trans b4) (BD_stuck a1 b1 b5 (by simp) (Or.inr (Or.inr rfl)) (fun _ => by simp [tp6_]) (fun y => absurd y a6) (fun y => absurd y hq)))
    · rw [if_neg hc]
      refine RD_none ?_
      have : ∃ q, so_ M n k W m o = .inr q := by
        rw [hso]
        by_cases y1 : m = 20
        · rw [if_pos y1]; exact ⟨_, rfl⟩
        rw [if_neg y1]
        by_cases y2 : 12 < z
        · rw [if_pos y2]; exact ⟨_, rfl⟩
        rw [if_neg y2, if_neg (fun q => q hn1)]
        by_cases y3 : ¬ M.1 0 14 = 0
        · rw [if_pos y3]; exact ⟨_, rfl⟩
        rw [if_neg y3]
        by_cases y4 : ¬ bf_ M n (k + z) = 40
        · rw [if_pos y4]; exact ⟨_, rfl⟩
        rw [if_neg y4]
        by_cases y5 : o = 12
        · rw [if_pos y5]; exact ⟨_, rfl⟩
        exact absurd ⟨by omega, hKn.mpr (Decidable.not_not.mp y3), by omega, by rw [TF_t h (by omega)]; exact Decidable.not_not.mp y4, by omega⟩ hc
      obtain ⟨q, hq⟩ := this
      exact BD_none (by omega) hq
  · rw [if_neg (fun q => hn1 (hne.mp q))]
    by_cases hv : z = 1 ∧ il_ (bf_ M n k) = 1
    · rw [if_pos hv] at hso
      obtain ⟨v1, v2⟩ := vx_vo h (show k ≤ n by omega) hK hv.2
      have h46 : ¬ bf_ M n k = 46 := fun q => absurd hv.2 (by rw [q]; decide)
      rw [TF_t h (by omega)]
      by_cases hc : z = 1 ∧ ¬ bf_ M n k = 46 ∧ m < 20 ∧ ¬ vx2_ T k < 0 ∧ vx2_ T k < v
      · rw [if_pos hc]
        have hvo := v1.mp hc.2.2.2
        rw [if_neg (by omega), if_neg hvo] at hso
        refine RD_7 (by omega) (by omega) (by omega) (by omega) ((FX_so (by omega) hso).trans ?_)
        rw [← v2 hvo]; rfl
      · rw [if_neg hc]
        refine RD_none ?_
        have : ∃ q, so_ M n k W m o = .inr q := by
          rw [hso]
          split
          · exact ⟨_, rfl⟩
          split
          · exact ⟨_, rfl⟩
          rename_i y1 y2
          exact absurd ⟨hv.1, h46, by omega, v1.mpr y2⟩ hc
        obtain ⟨q, hq⟩ := this
        exact BD_none (by omega) hq
    · rw [if_neg hv] at hso
      rw [TF_t h (by omega)]
      have hx : ¬ (z = 1 ∧ ¬ bf_ M n k = 46 ∧ m < 20 ∧ ¬ vx2_ T k < 0 ∧ vx2_ T k < v) := by
        rintro ⟨q1, q2, -⟩
        refine hv ⟨q1, ?_⟩
        unfold io_ at hio
        split at hio
        · rename_i y; exact y.resolve_right q2
        · exact absurd hio (by decide)
      rw [if_neg hx]
      refine RD_none ?_
      have : ∃ q, so_ M n k W m o = .inr q := by
        rw [hso]
        by_cases y1 : m = 20
        · rw [if_pos y1]; exact ⟨_, rfl⟩
        rw [if_neg y1]
        by_cases y2 : 12 < z
        · rw [if_pos y2]; exact ⟨_, rfl⟩
        rw [if_neg y2, if_pos hn1]
        exact ⟨_, rfl⟩
      obtain ⟨q, hq⟩ := this
      exact BD_none (by omega) hq
theorem nv_k {f : Nat → Int32} : ∀ (u k w : Nat), k ≤ (nv_ f u k w).1
  | 0, k, w => by rw [nv_]; omega
  | u + 1, k, w => by
    rw [nv_]
    split
    · have := nv_k (f := f) u (k + 1) (dn_ w (dg_ (f k))); omega
    · exact Nat.le_refl _
theorem ti7 {T : Int32 → Int32} {M : mm_} {n : Nat} {v : Int32} {nm : Bool} {P : pf2_} {t : Nat} (h : TF_ T (bf_ M n) n) (hK : KN_ M v nm) (hP : TI_ M n P t) {k m o : Nat} {W : List fr_} (hk : k ≤ n) (hm : m ≤ 20) (ho : o ≤ 12) (ht : 9 * (20 - m) + 9 * (12 - o) + 1 ≤ t + 1) (hs6 : ¬ bf_ M n k = 45 ∧ ¬ bf_ M n k = 33) (hW : HW_ (bf_ M n) k W) : RD_ M n 7 W k m o (k, W, none, m, o) (z7_ P T v nm k m o) := by
  have hn := h.1
  have hf1 : fw9_ 1 = 7 := by decide
  unfold z7_
  rw [TF_t h (by omega), fg_ig, rb_io]
  by_cases he : en_d M n k
  · have hso : so_ M n k W m o = .inr (1, k) := if_pos he
    have hb : ¬ 32 < bf_ M n k := fun q => en_no rfl q he
    have g1 : ig_ (bf_ M n k) = 0 := by
      rcases ig_01 (bf_ M n k) with z | z
      · exact z
      · obtain ⟨j, hj, e⟩ := ig_dg z
        rw [e] at hb
        exact absurd (nI_lt (a := 32) (b := 48 + j) (by omega) (by omega)) hb
    have g2 : io_ (bf_ M n k) = 0 := by
      rcases io_01 (bf_ M n k) with z | z
      · exact z
      · unfold io_ at z
        split at z
        · rename_i y
          rcases y with y | y
          · obtain ⟨j, j1, j2, e⟩ := il_j y
            rw [e] at hb
            exact absurd (nI_lt (a := 32) (b := j) (by omega) (by omega)) hb
          · rw [y] at hb; exact absurd (by decide) hb
        · exact absurd z (by decide)
    rw [if_pos g1, if_pos g2, if_neg (fun q => by rw [q.1] at hb; exact absurd (by decide) hb)]
    exact BD_none hk hso
  · have hkn : k < n := by
      rcases Nat.lt_or_ge k n with z | z
      · exact z
      · exact absurd (en_n z) he
    have hf3 : ¬ f3b_ W = true := by rw [hW.1]; decide
    by_cases hg : ig_ (bf_ M n k) = 0
    · rw [if_pos hg]
      by_cases hi : io_ (bf_ M n k) = 0
      · rw [if_pos hi]
        by_cases hc : bf_ M n k = 40
        · have hso : so_ M n k W m o = if o = 12 then .inr (3, k) else .inl (k + 1, (0, 0, .null, .null, 0) :: W, none, m, o + 1) := by
            rw [so_in he hW]
            unfold so2_
            rw [if_neg hf3, if_neg (fun z => z hg), if_neg (fun z => z.elim hs6.1 hs6.2), if_pos hc]
          by_cases ho2 : o < 12
          · rw [if_pos ⟨hc, ho2⟩]
            rw [if_neg (by omega)] at hso
            have e1 := FX_so hk hso
            have i := hP.1 1 (k + 1) m (o + 1) ((0, 0, .null, .null, 0) :: W) (by omega) (by omega) (by omega) hm (by omega) (by omega) (fun _ => ⟨Or.inl (by simp [lw9_]), by simp⟩) (HW_o (by simp)) (fun z => by omega)
            cases hp : P 1 none (k + 1) m (o + 1) with
            | none => rw [hp] at i; exact RD_none (BD_eq e1 i)
            | some x =>
              rw [hp] at i
              obtain ⟨a1, a2, a3, a4, F, e2, b1, b2, b3, b4⟩ := i
              simp only at a1 a2 a3 a4 b2 b3 b4 ⊢
              rw [TF_t h (by omega)]
              by_cases hq : bf_ M n x.2.1 = 41
              · rw [if_pos hq]
                have hkx : x.2.1 < n := TF_lt h hq (by decide)
                have hsi := si_41 (k := x.2.1) (nd := x.2.2) (op := o + 1) (e := e2) (W := W) (g := (0, 0, .null, .null, 0)) b1 (Or.inl rfl)
                rw [← hq] at hsi
                refine RD_7 (by omega) (by omega) a3 a4 ((e1.trans b3).trans ((FX_si a1 (en_no hq (by decide)) hsi).trans ?_))
                show FX_ M n (x.2.1 + 1, W, some (CL_ F e2), x.2.2, o) = _
                rw [b2]
              · rw [if_neg hq]
                exact RD_none (BD_eq (e1.trans b3) (BD_stuck a1 b1 b4 (by simp) (Or.inl rfl) (fun _ => by simp [tp6_]) (fun _ => by simp [tp6_]) (fun y => absurd y hq)))
          · rw [if_neg (fun z => ho2 z.2)]
            rw [if_pos (by omega)] at hso
            exact BD_none hk hso
        · rw [if_neg (fun z => hc z.1)]
          refine BD_none (z := (1, k)) hk ?_
          rw [so_in he hW]
          unfold so2_
          rw [if_neg hf3, if_neg (fun z => z hg), if_neg (fun z => z.elim hs6.1 hs6.2), if_neg hc, if_neg (fun z => z hi)]
      · rw [if_neg hi]
        refine tiw h hK hP hkn hm ho ht ?_ ((io_01 _).resolve_left hi)
        rw [so_in he hW]
        unfold so2_
        rw [if_neg hf3, if_neg (fun z => z hg), if_neg (fun z => z.elim hs6.1 hs6.2), if_neg (fun z => by rw [z] at hi; exact hi (by decide)), if_pos hi]
    · rw [if_neg hg]
      have hso : so_ M n k W m o = rn2_ (bf_ M n) n k W m o := by
        rw [so_in he hW]
        unfold so2_
        rw [if_neg hf3, if_pos hg]
      obtain ⟨a2, ea, hr⟩ := nuP_nv h (n - k) 200 k 0 0 (by omega) (by omega) (by omega) (by omega) ⟨by omega, by omega, Or.inl ⟨rfl, by omega⟩⟩
      have ea : nuP_ T 200 k 0 = ((nv_ (bf_ M n) (n - k) k 0).1, lN a2) := ea
      rw [ea]
      simp only
      have g := nv_le (bf_ M n) (n - k) k 0 (by omega)
      have gk := nv_k (f := bf_ M n) (n - k) k 0
      unfold rn2_ at hso
      generalize nv_ (bf_ M n) (n - k) k 0 = p at hso hr g gk ⊢
      obtain ⟨r1, r2, r3⟩ := hr
      have hle : lN a2 ≤ 2147483647 ↔ ¬ 2147483647 < p.2 := by
        rw [show (2147483647 : Int64) = lN 2147483647 from rfl, lN_le2 (by omega) (by omega)]
        omega
      by_cases hc : lN a2 ≤ 2147483647 ∧ m < 20
      · rw [if_pos hc]
        rw [if_neg (by omega), if_neg (hle.mp hc.1)] at hso
        have hp := hle.mp hc.1
        have e3 : a2 = p.2 := by omega
        refine RD_7 (by omega) (by omega) (by omega) (by omega) ((FX_so hk hso).trans ?_)
        rw [e3]
        show _ = FX_ M n (p.1, W, some (.int (lN p.2).toInt32), m + 1, o)
        rw [lN_i]
      · rw [if_neg hc]
        refine RD_none ?_
        have : ∃ q, so_ M n k W m o = .inr q := by
          rw [hso]
          split
          · exact ⟨_, rfl⟩
          split
          · exact ⟨_, rfl⟩
          rename_i y1 y2
          exact absurd ⟨hle.mpr y2, by omega⟩ hc
        obtain ⟨q, hq⟩ := this
        exact BD_none hk hq

end
section
/-! the two readers find the same -/
theorem TI_all {T : Int32 → Int32} {M : mm_} {n : Nat} {v : Int32} {nm : Bool} (h : TF_ T (bf_ M n) n) (hK : KN_ M v nm) : ∀ t, TI_ M n (pz2_ T v nm t) t
  | 0 => by
    refine ⟨fun q k m o W h1 h2 _ _ _ h3 => ?_, fun q e k m o W F e2 h1 _ _ _ h3 => ?_, fun k m o W _ _ _ h3 => ?_⟩
    · have : 1 ≤ fw9_ q := by
        unfold fw9_
        split
        · omega
        · split <;> omega
      omega
    · omega
    · omega
  | t + 1 => by
    have hP := TI_all h hK t
    have hz : ∀ q l k m o, pz2_ T v nm (t + 1) q l k m o = zs_ (pz2_ T v nm t) T v nm q l k m o := fun _ _ _ _ _ => rfl
    generalize pz2_ T v nm t = P at hP hz
    refine ⟨fun q k m o W h1 h2 hk hm ho h3 h4 h5 h6 => ?_, fun q e k m o W F e2 h1 hk hm ho h3 h4 h5 h6 h7 => ?_, fun k m o W hk hm ho h3 h4 h5 => ?_⟩
    · rw [hz]
      obtain rfl | rfl | rfl | rfl | rfl | rfl | rfl : q = 1 ∨ q = 2 ∨ q = 3 ∨ q = 4 ∨ q = 5 ∨ q = 6 ∨ q = 7 := by omega
      · exact ti1n (T := T) hP hk hm ho h3 (h4 (by omega)) h5
      · exact ti2 h hP hk hm ho h3 (h4 (by omega)) h5
      · exact ti3n (T := T) hP (by omega) hk hm ho h3 (h4 (by omega)) h5
      · exact ti3n (T := T) hP (by omega) hk hm ho h3 (h4 (by omega)) h5
      · exact ti3n (T := T) hP (by omega) hk hm ho h3 (h4 (by omega)) h5
      · exact ti6 (v := v) (nm := nm) h hP hk hm ho h3 h5
      · exact ti7 h hK hP hk hm ho h3 (h6 rfl) h5
    · rw [hz]
      obtain rfl | rfl | rfl | rfl := h1
      · exact ti1s h hP hk hm ho h3 h4 h5 h6 h7
      · exact ti3s h hP (by omega) hk hm ho h3 h4 h5 h6 h7
      · exact ti3s h hP (by omega) hk hm ho h3 h4 h5 h6 h7
      · exact ti3s h hP (by omega) hk hm ho h3 h4 h5 h6 h7
    · rw [hz]
      exact ti8 h hP hk hm ho h3 h4 h5
/-- an expression: the same tree up to the same place, or a fault -/
def XT2_ (M : mm_) (n k : Nat) : px2_ → Prop
  | none => ∃ z, ex_ M n k = .inr z
  | some x => x.2.1 ≤ n ∧ k ≤ x.2.1 ∧ (en_d M n x.2.1 → ex_ M n k = .inl (tm_ x.1, x.2.1)) ∧ (¬ en_d M n x.2.1 → ∃ z, ex_ M n k = .inr z)
theorem ex_tie {T : Int32 → Int32} {M : mm_} {n k : Nat} {v : Int32} {nm : Bool} (h : TF_ T (bf_ M n) n) (hK : KN_ M v nm) (hk : k ≤ n) : XT2_ M n k (pe2_ T v nm (some k)) := by
  have i := (TI_all h hK 297).1 1 k 0 0 [] (by omega) (by omega) hk (by omega) (by omega) (by decide) (fun _ => trivial) ⟨rfl, fun z => by simp [fqb_] at z⟩ (fun z => by omega)
  have e0 : ex_ M n k = FX_ M n (k, [], none, 0, 0) := rfl
  show XT2_ M n k (pz2_ T v nm 297 1 none k 0 0)
  cases hp : pz2_ T v nm 297 1 none k 0 0 with
  | none => rw [hp] at i; obtain ⟨z, hz⟩ := i; exact ⟨z, e0.trans hz⟩
  | some x =>
    rw [hp] at i
    obtain ⟨a1, a2, a3, a4, F, e, b1, b2, b3, b4⟩ := i
    refine ⟨a1, a2, fun he => ?_, fun he => ?_⟩
    · rw [e0, b3, FX_end a1 he]
      unfold fx_
      simp only
      rw [rt_all b1 (show tp9_ 1 [] from trivial), b2]
      rfl
    · obtain ⟨z, hz⟩ := si_end2 (k := x.2.1) (nd := x.2.2) (op := 0) (e := e) (W := []) b1 b4 (Or.inl rfl) (fun _ => by simp [tp6_]) (fun _ => by simp [tp6_]) (fun _ => Or.inr rfl)
      obtain ⟨z2, hz2⟩ := BD_some a1 he hz
      exact ⟨z2, by rw [e0, b3]; exact hz2⟩

end
section
/-! the tapes are the same; methods are found by the same names -/
def TQ_ (n : Nat) (M : mm_) : Prop := ∀ k, k < n → M.1 36 k = M.1 1 k ∧ 0 ≤ M.1 1 k
theorem TF_of {n : Nat} {M N : mm_} (ht : tpX_ M n) (h : TQ_ n M) (e : ∀ i, N.1 1 i = M.1 1 i) : TF_ (tb_ M) (bf_ N n) n := by
  refine ⟨ht.1, fun k hk => ?_, fun k hk => ?_, fun k hk => ?_⟩
  · unfold tb_ bf_
    rw [ht.2]
    by_cases q : k < n
    · rw [if_pos ⟨nI_le (a := 0) (b := k) (by omega) (by omega), nI_lt q (by have := ht.1; omega)⟩, if_pos q, nI_clamp (by omega), (h k q).1, e]
    · rw [if_neg (fun z => absurd z.2 (Int32.not_lt.mpr (nI_le (a := n) (b := k) (by omega) (by omega)))), if_neg q]
  · unfold bf_; rw [if_neg (by omega)]
  · unfold bf_; rw [if_pos hk, e]; exact (h k hk).2
/-- a key of the class's, and the reference's name and number of parameters -/
def NK_ (K a : Int64) (p : Int32) : Prop := ∃ (f : Nat → Int32) (k z j : Nat), ry_ f k z ∧ z ≤ 12 ∧ j < 4 ∧ K = ky_ (lN (LE_ f k z)) (nI j) ∧ a = nm_ f k z ∧ p = nI j
theorem NK_eq {K1 a1 K2 a2 : Int64} {p1 p2 : Int32} (h1 : NK_ K1 a1 p1) (h2 : NK_ K2 a2 p2) : K1 = K2 ↔ (a1 = a2 ∧ p1 = p2) := by
  obtain ⟨f1, k1, z1, j1, r1, s1, t1, rfl, rfl, rfl⟩ := h1
  obtain ⟨f2, k2, z2, j2, r2, s2, t2, rfl, rfl, rfl⟩ := h2
  have l1 : LE_ f1 k1 z1 < 2 ^ 60 := Nat.lt_of_lt_of_le (LE_lt z1 r1) (p32_le s1)
  have l2 : LE_ f2 k2 z2 < 2 ^ 60 := Nat.lt_of_lt_of_le (LE_lt z2 r2) (p32_le s2)
  have b1 : BE_ f1 k1 z1 < 2 ^ 60 := Nat.lt_of_lt_of_le (BE_lt z1 r1) (p32_le s1)
  have b2 : BE_ f2 k2 z2 < 2 ^ 60 := Nat.lt_of_lt_of_le (BE_lt z2 r2) (p32_le s2)
  rw [nm_BE z1 s1 r1, nm_BE z2 s2 r2]
  constructor
  · intro h
    have e := congrArg (fun x : Int64 => x.toBitVec.toNat) h
    rw [ky_N l1 t1, ky_N l2 t2] at e
    have ej : j1 = j2 := by omega
    have el : LE_ f1 k1 z1 = LE_ f2 k2 z2 := by omega
    have v1 := rv_LE z1 12 k1 0 s1 r1
    have v2 := rv_LE z2 12 k2 0 s2 r2
    rw [el, v2] at v1
    exact ⟨by congr 1; omega, by rw [ej]⟩
  · rintro ⟨h, hj⟩
    have e := congrArg (fun x : Int64 => x.toBitVec.toNat) h
    rw [tbl_ (by omega), tbl_ (by omega)] at e
    have v1 := rv_BE z1 12 k1 0 s1 r1
    have v2 := rv_BE z2 12 k2 0 s2 r2
    rw [e, v2] at v1
    rw [hj]
    congr 2
    omega
theorem fd_fm {A B : mm_} {c : Nat} {K a : Int64} {p : Int32} (h : ∀ m, m < c → NK_ (A.2.1 46 m) (B.2.1 5 m) (B.1 6 m)) (hK : NK_ K a p) : ∀ u i, i + u ≤ c → fd1_ A c K u i = fm_ B a p u i
  | 0, _, _ => rfl
  | u + 1, i, hi => by
    rw [fd1_, fm_, fd_fm h hK u (i + 1) (by omega)]
    by_cases q : A.2.1 46 i = K
    · rw [if_pos q, if_pos ((NK_eq (h i (by omega)) hK).mp q)]
    · rw [if_neg q, if_neg (fun z => q ((NK_eq (h i (by omega)) hK).mpr z))]
theorem fd_neg {M : mm_} {c : Nat} {y : Int64} (hc : c ≤ 16) : fd1_ M c y c 0 = -1 ↔ fd1_ M c y c 0 < 0 := by
  rcases fd1_in (M := M) (c := c) (y := y) c 0 with z | ⟨m, hm, z⟩
  · rw [z]; decide
  · rw [z]
    constructor
    · intro q; exact absurd q (nI_ne1 m (by omega))
    · intro q; exact absurd (Int32.lt_of_le_of_lt (nI_le (a := 0) (b := m) (by omega) (by omega)) q) (by decide)
theorem fig_j {c : Int32} (h : 48 ≤ c ∧ c ≤ 51) : ∃ j, j < 4 ∧ c - 48 = nI j := by
  obtain ⟨j, hj, rfl⟩ := ix_ (x := c) (n := 52) (by decide) (fun y => absurd (Int32.le_trans h.1 (Int32.le_of_lt y)) (by decide)) (fun y => absurd (Int32.le_trans y h.2) (by decide))
  have h48 : 48 ≤ j := by
    rcases Nat.lt_or_ge j 48 with q | q
    · exact absurd (Int32.lt_of_lt_of_le (nI_lt q (by decide)) h.1) Int32.lt_irrefl
    · exact q
  refine ⟨j - 48, by omega, ?_⟩
  obtain ⟨i, rfl⟩ : ∃ i, j = i + 48 := ⟨j - 48, by omega⟩
  rw [← nI_add, show nI 48 = (48 : Int32) from rfl, Int32.add_sub_cancel, Nat.add_sub_cancel]
theorem fig_c {c : Int32} (h : -1 ≤ c) : (c - 48 < 0 ∨ ¬ c - 48 ≤ 3) ↔ ¬ (48 ≤ c ∧ c ≤ 51) := by
  have h1 : -1 ≤ c.toInt := by
    have := Int32.le_iff_toInt_le.mp h
    rw [show (-1 : Int32).toInt = -1 by decide] at this
    exact this
  have h2 : c.toInt < 2 ^ 31 := Int32.toInt_lt c
  have e : (c - 48).toInt = c.toInt - 48 := by
    rw [Int32.toInt_sub, show (48 : Int32).toInt = 48 by decide]
    exact Int.bmod_eq_of_le (by omega) (by omega)
  rw [Int32.lt_iff_toInt_lt, Int32.le_iff_toInt_le, Int32.le_iff_toInt_le, Int32.le_iff_toInt_le, e, show (0 : Int32).toInt = 0 by decide, show (3 : Int32).toInt = 3 by decide, show (48 : Int32).toInt = 48 by decide, show (51 : Int32).toInt = 51 by decide]
  omega
theorem bf_m1 {T : Int32 → Int32} {f : Nat → Int32} {n k : Nat} (h : TF_ T f n) : -1 ≤ f k := by
  rcases Nat.lt_or_ge k n with q | q
  · exact Int32.le_trans (by decide) (h.2.2.2 k q)
  · rw [h.2.2.1 k q]; decide
theorem bf_neg {T : Int32 → Int32} {f : Nat → Int32} {n k : Nat} (h : TF_ T f n) : f k < 0 ↔ f k = -1 := by
  rcases Nat.lt_or_ge k n with q | q
  · constructor
    · intro z; exact absurd (Int32.lt_of_le_of_lt (h.2.2.2 k q) z) (by decide)
    · intro z; rw [z]; decide
  · rw [h.2.2.1 k q]; decide
theorem bf_mw {M : mm_} {n : Nat} {v : Int32} : bf_ (mw_ M v) n = bf_ M n := mw_bf (pf_rf _)
/-- a method's text: both readers take it, or neither -/
def MT_ (N : mm_) (n : Nat) (T : Int32 → Int32) : Prop :=
  (∃ x a p, mx_ T = some x ∧ qE_ T (qx_ (mx_ T)) = some x.2.1 ∧ NK_ (ky_ (mr_ T).2.2 (pv_ T (mq2_ T))) a p ∧ ∀ c, me_ N n c = if c = 16 ∨ ¬ fm_ N a p c 0 < 0 then .inr (5, n) else .inl (tm_ x.1, a, p)) ∨
  (qE_ T (qx_ (mx_ T)) = none ∧ ∀ c, ∃ q, me_ N n c = .inr q)
theorem mt_tie {T : Int32 → Int32} {N : mm_} {n : Nat} (h : TF_ T (bf_ N n) n) : MT_ N n T := by
  have hn := h.1
  obtain ⟨hsr, hry⟩ := srT_rz h (Nat.zero_le n)
  obtain ⟨z, hz⟩ : ∃ z, rz_ N n 0 = z := ⟨_, rfl⟩
  have hzn : z ≤ n := by rw [← hz]; have := rz_le N n 0; omega
  rw [hz] at hsr hry
  have hmr : mr_ T = (z, nI (dt_ (bf_ N n) 0 z), lN (LE_ (bf_ N n) 0 (min z 12))) := hsr
  have hme : ∀ c, me_ N n c = ml_ (me2_ N n c (nm_ (bf_ N n) 0 z) (bf_ N n (z + 1) - 48) (ex_ (mw_ N (bf_ N n (z + 1) - 48)) n (z + 4))) (mh_ N n) := fun c => by rw [← hz]; rfl
  have hbad : ∀ q, mh_ N n = some q → ∀ c, ∃ q, me_ N n c = .inr q := fun q hq c => ⟨q, by rw [hme c, hq]; rfl⟩
  have hmh : mh_ N n = if 12 < z then some (3, 12) else if ¬ ne_ (bf_ N n) 0 z then some (1, 0) else if ¬ bf_ N n z = 40 then some (1, z)
    else if bf_ N n (z + 1) - 48 < 0 ∨ ¬ bf_ N n (z + 1) - 48 ≤ 3 then some (1, z + 1) else if ¬ bf_ N n (z + 2) = 41 then some (1, z + 2)
    else if ¬ bf_ N n (z + 3) = 61 then some (1, z + 3) else none := by unfold mh_; rw [hz]
  have hq1 : mq1_ T = if ne_ (bf_ N n) 0 z ∧ z ≤ 12 then some z else none := by
    unfold mq1_
    rw [hmr]
    simp only
    by_cases z0 : z = 0
    · subst z0
      rw [if_pos, if_neg (fun q => absurd q.1.1 (by omega))]
      rw [if_neg]
      intro q
      exact absurd q.1 (by simp [dt_]; decide)
    · have hne := isn_ne h (Nat.zero_le n) (show 1 ≤ z by omega) (by omega)
      by_cases q : ne_ (bf_ N n) 0 z
      · rw [if_pos (hne.mpr q), if_neg (by decide)]
        by_cases q2 : z ≤ 12
        · rw [if_pos q2, if_pos ⟨q, q2⟩]; exact congrArg some (Nat.zero_add z)
        · rw [if_neg q2, if_neg (fun y => q2 y.2)]
      · rw [if_neg (fun y => q (hne.mp y)), if_pos rfl, if_neg (fun y => q y.1)]
  by_cases c1 : ne_ (bf_ N n) 0 z ∧ z ≤ 12
  · rw [if_pos c1] at hq1
    rw [if_neg (by omega), if_neg (fun q => q c1.1)] at hmh
    have hq2 : mq2_ T = if bf_ N n z = 40 then some (z + 1) else none := by
      unfold mq2_
      rw [hq1, qe2_, TF_t h (by omega)]
    by_cases c2 : bf_ N n z = 40
    · have z1 : z < n := TF_lt h c2 (by decide)
      rw [if_pos c2] at hq2
      rw [if_neg (fun q => q c2)] at hmh
      have hfc := fig_c (bf_m1 (k := z + 1) h)
      have hpv : pv_ T (mq2_ T) = if 48 ≤ bf_ N n (z + 1) ∧ bf_ N n (z + 1) ≤ 51 then bf_ N n (z + 1) - 48 else 0 := by
        rw [hq2]; unfold pv_; simp only; rw [TF_t h (by omega)]
      have hqp : qp_ T (mq2_ T) = if 48 ≤ bf_ N n (z + 1) ∧ bf_ N n (z + 1) ≤ 51 then some (z + 2) else none := by
        rw [hq2]; unfold qp_; simp only; rw [TF_t h (by omega)]
      by_cases c3 : 48 ≤ bf_ N n (z + 1) ∧ bf_ N n (z + 1) ≤ 51
      · rw [if_pos c3] at hpv hqp
        rw [if_neg (fun q => hfc.mp q c3)] at hmh
        have z2 : z + 1 < n := TF_lt h rfl (Int32.le_trans (by decide) c3.1)
        have hq5 : mq5_ T = if bf_ N n (z + 2) = 41 then (if bf_ N n (z + 3) = 61 then some (z + 4) else none) else none := by
          unfold mq5_
          rw [hqp]
          unfold qe2_
          simp only
          rw [TF_t h (by omega)]
          by_cases q : bf_ N n (z + 2) = 41
          · rw [if_pos q, if_pos q]
            simp only
            rw [TF_t h (by omega)]
          · rw [if_neg q, if_neg q]
        by_cases c4 : bf_ N n (z + 2) = 41
        · have z3 : z + 2 < n := TF_lt h c4 (by decide)
          rw [if_pos c4] at hq5
          rw [if_neg (fun q => q c4)] at hmh
          by_cases c5 : bf_ N n (z + 3) = 61
          · have z4 : z + 3 < n := TF_lt h c5 (by decide)
            rw [if_pos c5] at hq5
            rw [if_neg (fun q => q c5)] at hmh
            obtain ⟨j, hj, ej⟩ := fig_j c3
            rw [ej] at hpv
            have hTw : TF_ T (bf_ (mw_ N (nI j)) n) n := by rw [bf_mw]; exact h
            have hK : KN_ (mw_ N (nI j)) (nI j) true := Or.inl ⟨rfl, by simp [mw_, sI_], j, hj, rfl, by simp [mw_, sI_]⟩
            have ht := ex_tie hTw hK (show z + 4 ≤ n by omega)
            have hmx : mx_ T = pe2_ T (nI j) true (some (z + 4)) := by unfold mx_; rw [hpv, hq5]
            rw [← hmx] at ht
            have hed : ∀ k, en_d (mw_ N (nI j)) n k ↔ bf_ N n k = -1 := fun k => by
              unfold en_d
              rw [bf_mw, ← bf_neg h]
              constructor
              · rintro (q | q)
                · exact q
                · exact absurd (by simp [mw_, sI_]) q.1
              · intro q; exact Or.inl q
            have hme2 : ∀ c, me_ N n c = me2_ N n c (nm_ (bf_ N n) 0 z) (nI j) (ex_ (mw_ N (nI j)) n (z + 4)) := fun c => by
              rw [hme c, hmh, ej]; rfl
            cases hx : mx_ T with
            | none =>
              rw [hx] at ht
              obtain ⟨q, hq⟩ := ht
              refine Or.inr ⟨by rw [hx]; rfl, fun c => ⟨q, by rw [hme2 c, hq]; rfl⟩⟩
            | some x =>
              rw [hx] at ht
              obtain ⟨t1, t2, t3, t4⟩ := ht
              have hqE : qE_ T (qx_ (mx_ T)) = if bf_ N n x.2.1 = -1 then some x.2.1 else none := by
                rw [hx]; unfold qE_ qx_; simp only; rw [TF_t h (by omega)]
              by_cases c6 : bf_ N n x.2.1 = -1
              · rw [if_pos c6] at hqE
                refine Or.inl ⟨x, nm_ (bf_ N n) 0 z, nI j, hx, hqE, ⟨bf_ N n, 0, z, j, hry, c1.2, hj, ?_, rfl, rfl⟩, fun c => ?_⟩
                · rw [hmr, hpv, Nat.min_eq_left c1.2]
                · rw [hme2 c, t3 ((hed _).mpr c6)]; rfl
              · rw [if_neg c6] at hqE
                obtain ⟨q, hq⟩ := t4 (fun y => c6 ((hed _).mp y))
                exact Or.inr ⟨hqE, fun c => ⟨q, by rw [hme2 c, hq]; rfl⟩⟩
          · rw [if_pos c5] at hmh
            rw [if_neg c5] at hq5
            exact Or.inr ⟨by unfold mx_; rw [hq5]; rfl, hbad _ hmh⟩
        · rw [if_pos c4] at hmh
          rw [if_neg c4] at hq5
          exact Or.inr ⟨by unfold mx_; rw [hq5]; rfl, hbad _ hmh⟩
      · rw [if_neg c3] at hqp
        rw [if_pos (hfc.mpr c3)] at hmh
        exact Or.inr ⟨by unfold mx_ mq5_; rw [hqp]; rfl, hbad _ hmh⟩
    · rw [if_neg c2] at hq2
      rw [if_pos c2] at hmh
      exact Or.inr ⟨by unfold mx_ mq5_; rw [hq2]; rfl, hbad _ hmh⟩
  · rw [if_neg c1] at hq1
    refine Or.inr ⟨by unfold mx_ mq5_ mq2_; rw [hq1]; rfl, ?_⟩
    by_cases q : 12 < z
    · rw [if_pos q] at hmh; exact hbad _ hmh
    · rw [if_neg q, if_pos (fun y => c1 ⟨y, by omega⟩)] at hmh; exact hbad _ hmh

end
