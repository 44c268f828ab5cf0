section REFS
variable {C : mc_} {G : gg_} {Q : State → Prop} {pc : Nat} {lv : List (Option Value)} {st : List Value} {M : mm_} {own : String} {cc : ByteArray} {nL : Nat} {ry : Option FieldType} {d : Nat} {post : Option Value → mm_ → Prop}
theorem w_putR {ci N index j a : Nat} {fs : List Nat} {K : String} {T : u_T} {ty0 : Nat → FieldType} {ty : FieldType} {x : Nat} (X : cx_ C G own cc nL ry d) (hd : decode cc pc = .ok (.putfield index, 3)) (hin : ∀ w ∈ u_ws K T N, w ∈ gw_) (hty : ∀ k, k < N → parseFieldDescriptor (T k).2.2.1 = some (ty0 k)) (hnm : ∀ a, a < N → ∀ b, b < N → a ≠ b → (T a).2.1 ≠ (T b).2.1) (hc : vwCl[ci]? = some (K, T, N)) (hj : j < N) (hlink : Cond.fieldLink own index (T j).1 (T j).2.1 (T j).2.2.1 ∈ gw_) (hfin : (T j).2.2.2 = false) (hdt : parseFieldDescriptor (T j).2.2.1 = some ty) (hf : fs[j]? = some 2) (ha : ds_[a]? = some (.inr (ci, fs)))
    (hnar : narrow ty (.ref (G.1 x)) = .ref (G.1 x)) (hfit : fits ty (.ref (G.1 x)) = true) (k : wq_ C G Q (pc + 3) lv st (sR_ M a j (some x))) : wq_ C G Q pc lv (.ref (G.1 x) :: .ref (G.1 a) :: st) M := by
  obtain ⟨p, l, e, R, s, m, args, below, meth, c, cs, sl⟩ := C
  obtain ⟨hx, hb, hml, hrt, hown, hts, ⟨hK, hox⟩, hG, hbs, hlk, hfr, hlo, hcs, hsl⟩ := X
  intro H locs ls hl hP hS
  have hlen : j < (fl_ G M a 0 fs).length := (List.getElem?_eq_some_iff.mp (fl_at (G := G) (M := M) (k := a) hf)).1
  refine va_put hx hb hts hin ty0 hty hnm hown hK hP (wl_D hG) hS a (wl_at ha) hc j hj (hts _ hlink) (fun _ h9 => h9) hfin hdt hnar hfit hlen hd (fun H1 locs1 hP1 hD1 hS1 => k H1 locs1 ls hl ?_ hS1)
  rw [← wl_set (M := M) ha (fun j9 d9 hj9 => ce_sR j9 d9 hj9)]
  have he : ce_ G (sR_ M a j (some x)) a (.inr (ci, fs)) = .inr (ci, (fl_ G M a 0 fs).set j (.ref (G.1 x))) := by
    simp only [ce_]
    rw [← fl_set (M := M) hf (fun i g hi => fv_sR i g hi)]
    simp [fv_, sR_, va_rf]
  rw [he]
  exact hP1
theorem w_aaload {a n t i x : Nat} {ty : FieldType} (X : cx_ C G own cc nL ry d) (hd : decode cc pc = .ok (.aaload, 1)) (ha : ds_[a]? = some (.inl (t, n, 2))) (ht : (tt_ G)[t]? = some (G.2.1 t, ty)) (hr : ty.isReference = true) (hin : i < n ∧ n < 2147483648) (hv : M.2.2 a i = some x) (k : wq_ C G Q (pc + 1) lv (.ref (G.1 x) :: st) M) : wq_ C G Q pc lv (.int (nI i) :: .ref (G.1 a) :: st) M := by
  obtain ⟨p, l, e, R, s, m, args, below, meth, c, cs, sl⟩ := C
  obtain ⟨hx, hb, hml, hrt, hown, hts, ⟨hK, hox⟩, hG, hbs, hlk, hfr, hlo, hcs, hsl⟩ := X
  intro H locs ls hl hP hS
  have h9 : vp_in (nI i) n := vp_in_nI hin.1 hin.2
  have h8 : (nI i).toNatClampNeg = i := pk_cl i rfl (by omega)
  refine W.aald (v := va_rf ((M.2.2 a i).map G.1)) (ty := ty) hx hb (hP a _ (wl_at ha)) ((hK.2 t _ ht).1 n (fun j => va_rf ((M.2.2 a j).map G.1))) hr (fun q => by cases q) (by show ¬ (_ ∨ (arrV _ _ _).slots.size ≤ _); rw [arrV_size]; exact h9) (by show (arrV _ _ _).slots[_]? = _; rw [h8, arrV_read _ _ hin.1]) rfl rfl hd ?_
  rw [hv]
  exact k H locs ls hl hP hS
theorem w_aastore {a n t i x ci N : Nat} {fs : List Nat} {K : String} {T : u_T} (X : cx_ C G own cc nL ry d) (hd : decode cc pc = .ok (.aastore, 1)) (ha : ds_[a]? = some (.inl (t, n, 2))) (ht : (tt_ G)[t]? = some (G.2.1 t, .object K)) (hv : ds_[x]? = some (.inr (ci, fs))) (hc : vwCl[ci]? = some (K, T, N)) (hin : i < n ∧ n < 2147483648) (k : wq_ C G Q (pc + 1) lv st (sR_ M a i (some x))) : wq_ C G Q pc lv (.ref (G.1 x) :: .int (nI i) :: .ref (G.1 a) :: st) M := by
  obtain ⟨p, l, e, R, s, m, args, below, meth, c, cs, sl⟩ := C
  obtain ⟨hx, hb, hml, hrt, hown, hts, ⟨hK, hox⟩, hG, hbs, hlk, hfr, hlo, hcs, hsl⟩ := X
  intro H locs ls hl hP hS
  have h9 : vp_in (nI i) n := vp_in_nI hin.1 hin.2
  have h8 : (nI i).toNatClampNeg = i := pk_cl i rfl (by omega)
  refine va_astq hx hb hK hP (wl_D hG) hS a t x ci (wl_at ha) ht (wl_at hv) hc h9 hd (fun H1 locs1 hP1 hD1 hS1 => k H1 locs1 ls hl ?_ hS1)
  rw [← wl_set (M := M) ha (fun j9 d9 hj9 => ce_sR j9 d9 hj9)]
  have he : ce_ G (sR_ M a i (some x)) a (.inl (t, n, 2)) = .inl (G.2.1 t, n, .inr (.inr (.inr (.inr (va_up (fun j => (M.2.2 a j).map G.1) (nI i).toNatClampNeg (some (G.1 x))))))) := by
    have hf9 : (fun j => ((sR_ M a i (some x)).2.2 a j).map G.1) = va_up (fun j => (M.2.2 a j).map G.1) (nI i).toNatClampNeg (some (G.1 x)) := by
      funext j
      rw [h8]
      by_cases hj : j = i
      · subst hj; simp [sR_, va_up]
      · simp [sR_, va_up, hj]
    show Sum.inl (G.2.1 t, n, Sum.inr (Sum.inr (Sum.inr (Sum.inr (fun j => ((sR_ M a i (some x)).2.2 a j).map G.1))))) = _
    rw [hf9]
  rw [he]
  exact hP1
theorem w_alen {a n t kd : Nat} {ty : FieldType} (X : cx_ C G own cc nL ry d) (hd : decode cc pc = .ok (.arraylength, 1)) (ha : ds_[a]? = some (.inl (t, n, kd))) (ht : (tt_ G)[t]? = some (G.2.1 t, ty)) (k : wq_ C G Q (pc + 1) lv (.int (nI n) :: st) M) : wq_ C G Q pc lv (.ref (G.1 a) :: st) M := by
  obtain ⟨p, l, e, R, s, m, args, below, meth, c, cs, sl⟩ := C
  obtain ⟨hx, hb, hml, hrt, hown, hts, ⟨hK, hox⟩, hG, hbs, hlk, hfr, hlo, hcs, hsl⟩ := X
  intro H locs ls hl hP hS
  match kd with
  | 0 => exact va_alen hx hb hK hP a t (wl_at ha) ht rfl hd (k H locs ls hl hP hS)
  | 1 => exact va_alen hx hb hK hP a t (wl_at ha) ht rfl hd (k H locs ls hl hP hS)
  | _ + 2 => exact va_alen hx hb hK hP a t (wl_at ha) ht rfl hd (k H locs ls hl hP hS)
theorem w_areturn {x : Nat} {K : String} (X : cx_ C G own cc nL (some (.object K)) d) (hd : decode cc pc = .ok (.areturn, 1)) (hp : post (some (.ref (G.1 x))) M) : wq_ C G (qe_ C G post) pc lv [.ref (G.1 x)] M := by
  obtain ⟨p, l, e, R, s, m, args, below, meth, c, cs, sl⟩ := C
  obtain ⟨hx, hb, hml, hrt, hown, hts, ⟨hK, hox⟩, hG, hbs, hlk, hfr, hlo, hcs, hsl⟩ := X
  intro H locs ls hl hP hS
  exact W.aret hx hb hrt (Or.inl ⟨_, rfl⟩) (Or.inr ⟨_, rfl⟩) (fun t ht hW => ⟨⟨_, M, rfl, hp, by rw [ht]; exact hP⟩, hS.F ht⟩) hS.2.2 hd hlk
theorem w_ldcS {index i : Nat} {tx : String} (X : cx_ C G own cc nL ry d) (hd : decode cc pc = .ok (.ldc index, 2)) (hq : (own, index, tx, i) ∈ skX_) (k : wq_ C G Q (pc + 2) lv (.ref (G.1 (1000 + i)) :: st) M) : wq_ C G Q pc lv st M := by
  obtain ⟨p, l, e, R, s, m, args, below, meth, c, cs, sl⟩ := C
  obtain ⟨hx, hb, hml, hrt, hown, hts, ⟨hK, hox⟩, hG, hbs, hlk, hfr, hlo, hcs, hsl⟩ := X
  intro H locs ls hl hP hS
  exact va_ldcS hx hb hown (hox.2.1 _ hq) hd (k H locs ls hl hP hS)
end REFS
def fR_ (G : gg_) (x : Nat) (N : mm_) : Option Value → mm_ → Prop := fun v N2 => v = some (.ref (G.1 x)) ∧ N2 = N
