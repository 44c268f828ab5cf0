/-! new int[12][7], in a constructor -/
theorem vr_outer (c : ClassId) (N h0 : Nat) : ∀ i : Nat, Jvm.Free.Multi.outerC c N h0 i = arrV c N (fun j => va_rf (if j < i then some (h0 + 1 + j) else none))
  | 0 => by
    show ({ cls := c, slots := Array.replicate N .null, vm := .none } : Cell) = _
    rw [arrV_new]
    refine congrArg (arrV c N) (funext fun j => ?_)
    simp [va_rf]
  | i + 1 => by
    show (Jvm.Free.Multi.outerC c N h0 i).setSlot i (.ref (h0 + 1 + i)) = _
    rw [vr_outer c N h0 i, arrV_store]
    refine congrArg (arrV c N) (funext fun j => ?_)
    by_cases e : j = i
    · subst e
      simp [updV, va_rf]
    · by_cases h : j < i
      · simp [updV, e, h, Nat.lt_succ_of_lt h]
      · simp [updV, e, h, show ¬ j < i + 1 by omega]
def vrM_ (M : mm_) : mm_ := (M.1, M.2.1, fun x j => if x = 248 ∧ j < 12 then some (249 + j) else M.2.2 x j)
theorem wm_take {G : gg_} {M : mm_} {n q : Nat} : wm_ G M (n + q) = wm_ G M n ++ ((dall_.drop n).take q).map (fun x => (G.1 x.1, ce_ G M x.1 x.2)) := by
  unfold wm_
  rw [List.take_add, List.map_append]
section MNA
variable {C : mc_} {G : gg_} {Q : State → Prop} {pc : Nat} {lv : List (Option Value)} {st : List Value} {M : mm_} {nn : Nat} {own : String} {cc : ByteArray} {nL : Nat} {ry : Option FieldType} {d MC MS a b : Nat}
set_option maxRecDepth 100000 in
set_option maxHeartbeats 4000000 in
theorem n_mna {index : Nat} (X : cnX_ C G own cc nL ry d MC MS) (hd : decode cc pc = .ok (.multianewarray index 2, 4)) (hcl : Cond.classLink own index ("[" ++ (FieldType.array .int).toString) ∈ gw_) (hac : Cond.arrayClass .int ∈ gw_) (hn : nn = 214) (hA : a + 13 ≤ MC) (hB : b + 96 ≤ MS)
    (kk : wn_ (ca_ C (a + 13) (b + 96)) G Q (pc + 4) lv (.ref (G.1 248) :: st) (vrM_ M) (nn + 13)) : wn_ (ca_ C a b) G Q pc lv (.int 7 :: .int 12 :: st) M nn := by
  obtain ⟨p, l, e, R, s, m, args, below, meth, c, cs, sl⟩ := C
  obtain ⟨hx, hb, hml, hrt, hown, hts, ⟨hK, hox⟩, ⟨hbs, hg⟩, hlk, hfr, hlo, hcs, hsl⟩ := X
  intro H locs ls hl hP hS
  obtain ⟨hP, hs, hz⟩ := hP
  have hov : (Cond.arrayOver (.array .int)).before args s = true := by
    have h := hox.1.2.2
    unfold Cond.before Cond.holds at h ⊢
    simp only [Cond.value] at h ⊢
    exact h
  have g248 : G.1 248 = H.size := by rw [hg 248 (by decide), hs, hn]; rfl
  have grow : ∀ i, i < 12 → G.1 (249 + i) = H.size + 1 + i := fun i hi => by
    rw [hg (249 + i) (by unfold dnX_; omega), hs, hn]
    show G.2.2.2 + pi_ (249 + i) = _
    unfold pi_
    rw [if_neg (by omega), if_pos (by omega)]
    omega
  intro T hT Xs
  obtain ⟨vm₁, cA, comp, -, fA, fC, hO, -, X', step⟩ := Xs.multianewarray2F hx hown (hts _ hcl) hov (hts _ hac) (g := F0 m pc ls (.int 7 :: .int 12 :: st)) rfl (by rw [hb]; exact hd) rfl (by decide) (by decide) (by decide) (by decide) (by decide) (by decide) (by decide) (by show a + (1 + 12) ≤ R.cells; omega) (by show b + (12 + 12 * 7) ≤ R.slots; omega)
  have hcA : G.2.1 5 = cA := Option.some.inj ((show s.vm.findClass ("[" ++ (FieldType.array .int).toString) = some (G.2.1 5) from (hK.2 5 _ rfl).2).symm.trans fA)
  have hcy : G.2.1 0 = comp := Option.some.inj ((show s.vm.findClass ("[" ++ FieldType.int.toString) = some (G.2.1 0) from (hK.2 0 _ rfl).2).symm.trans fC)
  generalize hF : Jvm.Free.Multi.fill (T.setVm vm₁) cA comp (12 : Int32).toNatClampNeg (7 : Int32).toNatClampNeg (defaultValue .int) (12 : Int32).toNatClampNeg = F at X' step
  have hTh : (T.setVm vm₁).heap = H := hT
  obtain ⟨f1, f2, -, -⟩ := Jvm.Free.Multi.fill_facts (T.setVm vm₁) cA comp (12 : Int32).toNatClampNeg (7 : Int32).toNatClampNeg (defaultValue .int) (12 : Int32).toNatClampNeg
  rw [hF, hTh] at f1 f2
  have hold : ∀ x : Nat, x < H.size → F.heap[x]? = H[x]? := fun x hx => by
    have := Jvm.Free.Multi.fill_old (T.setVm vm₁) cA comp (12 : Int32).toNatClampNeg (7 : Int32).toNatClampNeg (defaultValue .int) (a := x) (by rw [hTh]; exact hx) (12 : Int32).toNatClampNeg
    rw [hF, hTh] at this
    exact this
  have hrow : ∀ j : Nat, j < 12 → F.heap[H.size + 1 + j]? = some (Jvm.Free.Multi.innerC comp 7 (defaultValue .int)) := fun j hj => by
    have := Jvm.Free.Multi.fill_inner (T.setVm vm₁) cA comp (12 : Int32).toNatClampNeg (7 : Int32).toNatClampNeg (defaultValue .int) (12 : Int32).toNatClampNeg j hj
    rw [hF, hTh] at this
    exact this
  have f1b : F.heap.size = H.size + 13 := by rw [f1]; show H.size + 1 + 12 = H.size + 13; omega
  have hout : F.heap[H.size]? = some (arrV cA 12 (fun j => va_rf (if j < 12 then some (H.size + 1 + j) else none))) := by
    rw [f2]
    exact congrArg some (vr_outer cA 12 H.size 12)
  have hP2 : va_P G.2.2.1 vwCl (wm_ G (vrM_ M) (nn + 13)) F.heap := by
    intro i q hq
    obtain ⟨hi, k, dd, h1, rfl⟩ := wm_key hq
    by_cases h2 : i < nn
    · have hk := (da_pi h1).1
      have hne : k ≠ 248 := fun z => by rw [z] at hk; have : pi_ 248 = 214 := rfl; omega
      have hw := wm_at (G := G) (M := M) h1 h2
      have e : ce_ G (vrM_ M) k dd = ce_ G M k dd := ce_eq (M := M) (M' := vrM_ M) rfl rfl (funext fun x => by show (if k = 248 ∧ x < 12 then some (249 + x) else M.2.2 k x) = M.2.2 k x; rw [if_neg (fun y => hne y.1)]) dd
      rw [e]
      exact (hP i _ hw).kept (hold _ (hP i _ hw).lt)
    · by_cases h3 : i = 214
      · rw [h3, show dall_[214]? = some (248, .inl (5, 12, 2)) by decide +kernel] at h1
        cases h1
        show F.heap[G.1 248]? = some (vp_cell (G.2.1 5) (12, .inr (.inr (.inr (.inr (fun i => ((vrM_ M).2.2 248 i).map G.1))))))
        rw [g248, hout, hcA, vp_cell_q]
        congr 2
        funext j
        show va_rf (if j < 12 then some (H.size + 1 + j) else none) = va_rf ((if 248 = 248 ∧ j < 12 then some (249 + j) else M.2.2 248 j).map G.1)
        by_cases hj : j < 12
        · rw [if_pos hj, if_pos ⟨rfl, hj⟩]
          show _ = va_rf (some (G.1 (249 + j)))
          rw [grow j hj]
        · rw [if_neg hj, if_neg (fun y => hj y.2), (hz 248 (by rw [hn]; decide)).2.2]
          rfl
      · obtain ⟨j, hj⟩ : ∃ j, i = 215 + j := ⟨i - 215, by omega⟩
        have hj12 : j < 12 := by omega
        have key : ∀ j, j < 12 → dall_[215 + j]? = some (249 + j, .inl (0, 7, 0)) := fun j h => dq_ok ((by decide +kernel : ∀ j, j < 12 → dq_ (249 + j) (215 + j) (.inl (0, 7, 0)) = true) j h)
        rw [hj, key j hj12] at h1
        cases h1
        show F.heap[G.1 (249 + j)]? = some (vp_cell (G.2.1 0) (7, .inl ((vrM_ M).1 (249 + j))))
        rw [grow j hj12, hrow j hj12, hcy, vp_cell_i]
        show some (Jvm.Free.Multi.innerC comp 7 (.int 0)) = some (arrV comp 7 (fun i => .int (M.1 (249 + j) i)))
        have hz0 := (hz (249 + j) (by rw [hn]; unfold pi_; rw [if_neg (by omega), if_pos (by omega)]; omega)).1
        have e0 : (fun i => Value.int (M.1 (249 + j) i)) = fun _ => Value.int 0 := funext fun i => by rw [hz0]
        rw [e0]
        exact congrArg some (arrV_new ..)
  have hz2 : zz_ (vrM_ M) (nn + 13) := fun k hk => by
    obtain ⟨y1, y2, y3⟩ := hz k (by omega)
    refine ⟨y1, y2, fun i => ?_⟩
    show (if k = 248 ∧ i < 12 then some (249 + i) else M.2.2 k i) = none
    rw [if_neg (fun y => by rw [y.1] at hk; have : pi_ 248 = 214 := rfl; omega)]
    exact y3 i
  obtain ⟨t, a1, b1⟩ := kk F.heap locs ls hl ⟨hP2, by rw [f1b, hs]; omega, hz2⟩ ⟨by rw [f1b]; have := hS.1; omega, fun x h1 h2 => (hold x (Nat.lt_of_lt_of_le h1 hS.1)).trans (hS.2.1 x h1 h2), hS.2.2⟩ F rfl X'
  refine ⟨t, step t ?_, b1⟩
  have e : T.heap.size = H.size := by rw [hT]
  rw [e, ← g248]
  exact a1
end MNA
