section MATH
variable {C : mc_} {G : gg_} {Q : State → Prop} {pc : Nat} {lv : List (Option Value)} {st : List Value} {M : mm_} {own : String} {cc : ByteArray} {nL : Nat} {ry : Option FieldType} {d : Nat}
theorem mw_ini : Cond.initialized "java/lang/Math" ∈ gw_ := gw_t 18 (by decide +kernel) rfl
theorem mw_minIS : Cond.static Lib.Math.min.name ∈ gw_ := gw_t 480 (by decide +kernel) rfl
theorem mw_minIC : Cond.code Lib.Math.min.name Lib.Math.min.code 2 (some .int) ∈ gw_ := gw_t 481 (by decide +kernel) rfl
theorem mw1_153 : Cond.methodLink RX1 153 Lib.Math.min.name ∈ gw_ := gw_t 479 (by decide +kernel) rfl
theorem mwJ1_38 : Cond.methodLink RJ1 38 Lib.Math.min.name ∈ gw_ := gw_t 527 (by decide +kernel) rfl
theorem mw4_125 : Cond.methodLink RX4 125 Lib.Math.min.name ∈ gw_ := gw_t 954 (by decide +kernel) rfl
theorem w_minI {x y : Int32} {index : Nat} (X : cx_ C G own cc nL ry (d + 1)) (hd : decode cc pc = .ok (.invokestatic index, 3)) (h1 : Cond.methodLink own index Lib.Math.min.name ∈ gw_) (hr : (st.map fun v => v.category).sum ≤ 8) (k : wq_ C G Q (pc + 3) lv (.int (if y < x then y else x) :: st) M) : wq_ C G Q pc lv (.int y :: .int x :: st) M := by
  obtain ⟨p, l, e, R, s, m, args, below, meth, c, cs, sl⟩ := C
  obtain ⟨hx, hb, hml, hrt, hown, hts, ⟨hK, hox⟩, hG, hbs, hlk, hfr, hlo, hcs, hsl⟩ := X
  intro H locs ls hl hP hS
  exact va_mmin hx hb hl.1.symm hown (hts _ h1) (hts _ mw_minIS) (hts _ mw_ini) (hts _ mw_minIC) (by omega) (by omega) hcs hsl hd (k H locs ls hl hP hS)
theorem mw_maxIS : Cond.static Lib.Math.max.name ∈ gw_ := gw_t 525 (by decide +kernel) rfl
theorem mw_maxIC : Cond.code Lib.Math.max.name Lib.Math.max.code 2 (some .int) ∈ gw_ := gw_t 526 (by decide +kernel) rfl
theorem mwJ1_92 : Cond.methodLink RJ1 92 Lib.Math.max.name ∈ gw_ := gw_t 524 (by decide +kernel) rfl
theorem w_maxI {x y : Int32} {index : Nat} (X : cx_ C G own cc nL ry (d + 1)) (hd : decode cc pc = .ok (.invokestatic index, 3)) (h1 : Cond.methodLink own index Lib.Math.max.name ∈ gw_) (hr : (st.map fun v => v.category).sum ≤ 8) (k : wq_ C G Q (pc + 3) lv (.int (if x < y then y else x) :: st) M) : wq_ C G Q pc lv (.int y :: .int x :: st) M := by
  obtain ⟨p, l, e, R, s, m, args, below, meth, c, cs, sl⟩ := C
  obtain ⟨hx, hb, hml, hrt, hown, hts, ⟨hK, hox⟩, hG, hbs, hlk, hfr, hlo, hcs, hsl⟩ := X
  intro H locs ls hl hP hS
  exact va_mmax hx hb hl.1.symm hown (hts _ h1) (hts _ mw_maxIS) (hts _ mw_ini) (hts _ mw_maxIC) (by omega) (by omega) hcs hsl hd (k H locs ls hl hP hS)
theorem mw_minLS : Cond.static Lib.MathLoose.min_long.x ∈ gw_ := gw_t 446 (by decide +kernel) rfl
theorem mw_minLC : Cond.code Lib.MathLoose.min_long.x Lib.MathLoose.min_long.code 4 (some .long) ∈ gw_ := gw_t 447 (by decide +kernel) rfl
theorem mw7_52 : Cond.methodLink RX7 52 Lib.MathLoose.min_long.x ∈ gw_ := gw_t 445 (by decide +kernel) rfl
theorem w_minL {x y : Int64} {index : Nat} (X : cx_ C G own cc nL ry (d + 1)) (hd : decode cc pc = .ok (.invokestatic index, 3)) (h1 : Cond.methodLink own index Lib.MathLoose.min_long.x ∈ gw_) (hr : (st.map fun v => v.category).sum ≤ 8) (k : wq_ C G Q (pc + 3) lv (.long (if y < x then y else x) :: st) M) : wq_ C G Q pc lv (.long y :: .long x :: st) M := by
  obtain ⟨p, l, e, R, s, m, args, below, meth, c, cs, sl⟩ := C
  obtain ⟨hx, hb, hml, hrt, hown, hts, ⟨hK, hox⟩, hG, hbs, hlk, hfr, hlo, hcs, hsl⟩ := X
  intro H locs ls hl hP hS
  exact va_mmin_long hx hb hl.1.symm hown (hts _ h1) (hts _ mw_minLS) (hts _ mw_ini) (hts _ mw_minLC) (by omega) (by omega) hcs hsl hd (k H locs ls hl hP hS)
end MATH
