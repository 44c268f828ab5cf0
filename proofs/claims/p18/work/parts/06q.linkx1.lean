section LINKX
variable {C : mc_} {G : gg_} {Q : State → Prop} {pc : Nat} {lv : List (Option Value)} {st : List Value} {M : mm_} {cc : ByteArray} {nL : Nat} {ry : Option FieldType} {d : Nat}
set_option maxRecDepth 100000 in
theorem f9_9 : Cond.fieldLink RX9 9 (TX9 0).1 (TX9 0).2.1 (TX9 0).2.2.1 ∈ gw_ := gw_t 40 rfl rfl
theorem g9_9 {a t : Nat} {fs : List Nat} (X : cx_ C G RX9 cc nL ry d) (hd : decode cc pc = .ok (.getfield 9, 3)) (ha : ds_[a]? = some (.inr (8, fs))) (hf : fs[0]? = some (t + 3)) (k : wq_ C G Q (pc + 3) lv (.ref (G.1 t) :: st) M) : wq_ C G Q pc lv (.ref (G.1 a) :: st) M := w_get (j := 0) (f := t + 3) (ci := 8) X hd inG9 rfl (by decide) f9_9 hf ha k
set_option maxRecDepth 100000 in
theorem f9_13 : Cond.fieldLink RX9 13 (TX9 1).1 (TX9 1).2.1 (TX9 1).2.2.1 ∈ gw_ := gw_t 41 rfl rfl
theorem g9_13 {a : Nat} {fs : List Nat} (X : cx_ C G RX9 cc nL ry d) (hd : decode cc pc = .ok (.getfield 13, 3)) (ha : ds_[a]? = some (.inr (8, fs))) (hf : fs[1]? = some 0) (k : wq_ C G Q (pc + 3) lv (.int (M.1 a 1) :: st) M) : wq_ C G Q pc lv (.ref (G.1 a) :: st) M := w_get (j := 1) (f := 0) (ci := 8) X hd inG9 rfl (by decide) f9_13 hf ha k
theorem p9_13 {a : Nat} {fs : List Nat} {x : Int32} (X : cx_ C G RX9 cc nL ry d) (hd : decode cc pc = .ok (.putfield 13, 3)) (ha : ds_[a]? = some (.inr (8, fs))) (hf : fs[1]? = some 0) (k : wq_ C G Q (pc + 3) lv st (sI_ M a 1 x)) : wq_ C G Q pc lv (.int x :: .ref (G.1 a) :: st) M := w_putI (j := 1) (ci := 8) (ty := .int) X hd inG9 tyX9_ok nmX9 rfl (by decide) f9_13 rfl (by decide +kernel) hf ha rfl rfl k
set_option maxRecDepth 100000 in
theorem f11_72 : Cond.fieldLink RX11 72 (TX9 1).1 (TX9 1).2.1 (TX9 1).2.2.1 ∈ gw_ := gw_t 42 rfl rfl
theorem g11_72 {a : Nat} {fs : List Nat} (X : cx_ C G RX11 cc nL ry d) (hd : decode cc pc = .ok (.getfield 72, 3)) (ha : ds_[a]? = some (.inr (8, fs))) (hf : fs[1]? = some 0) (k : wq_ C G Q (pc + 3) lv (.int (M.1 a 1) :: st) M) : wq_ C G Q pc lv (.ref (G.1 a) :: st) M := w_get (j := 1) (f := 0) (ci := 8) X hd inG9 rfl (by decide) f11_72 hf ha k
theorem p11_72 {a : Nat} {fs : List Nat} {x : Int32} (X : cx_ C G RX11 cc nL ry d) (hd : decode cc pc = .ok (.putfield 72, 3)) (ha : ds_[a]? = some (.inr (8, fs))) (hf : fs[1]? = some 0) (k : wq_ C G Q (pc + 3) lv st (sI_ M a 1 x)) : wq_ C G Q pc lv (.int x :: .ref (G.1 a) :: st) M := w_putI (j := 1) (ci := 8) (ty := .int) X hd inG9 tyX9_ok nmX9 rfl (by decide) f11_72 rfl (by decide +kernel) hf ha rfl rfl k
set_option maxRecDepth 100000 in
theorem f7_31 : Cond.fieldLink RX7 31 (TX9 1).1 (TX9 1).2.1 (TX9 1).2.2.1 ∈ gw_ := gw_t 43 rfl rfl
theorem g7_31 {a : Nat} {fs : List Nat} (X : cx_ C G RX7 cc nL ry d) (hd : decode cc pc = .ok (.getfield 31, 3)) (ha : ds_[a]? = some (.inr (8, fs))) (hf : fs[1]? = some 0) (k : wq_ C G Q (pc + 3) lv (.int (M.1 a 1) :: st) M) : wq_ C G Q pc lv (.ref (G.1 a) :: st) M := w_get (j := 1) (f := 0) (ci := 8) X hd inG9 rfl (by decide) f7_31 hf ha k
set_option maxRecDepth 100000 in
theorem f7_9 : Cond.fieldLink RX7 9 (TX7 0).1 (TX7 0).2.1 (TX7 0).2.2.1 ∈ gw_ := gw_t 56 rfl rfl
theorem g7_9 {a t : Nat} {fs : List Nat} (X : cx_ C G RX7 cc nL ry d) (hd : decode cc pc = .ok (.getfield 9, 3)) (ha : ds_[a]? = some (.inr (6, fs))) (hf : fs[0]? = some (t + 3)) (k : wq_ C G Q (pc + 3) lv (.ref (G.1 t) :: st) M) : wq_ C G Q pc lv (.ref (G.1 a) :: st) M := w_get (j := 0) (f := t + 3) (ci := 6) X hd inG7 rfl (by decide) f7_9 hf ha k
set_option maxRecDepth 100000 in
theorem f7_22 : Cond.fieldLink RX7 22 (TX7 1).1 (TX7 1).2.1 (TX7 1).2.2.1 ∈ gw_ := gw_t 57 rfl rfl
theorem g7_22 {a : Nat} {fs : List Nat} (X : cx_ C G RX7 cc nL ry d) (hd : decode cc pc = .ok (.getfield 22, 3)) (ha : ds_[a]? = some (.inr (6, fs))) (hf : fs[1]? = some 0) (k : wq_ C G Q (pc + 3) lv (.int (M.1 a 1) :: st) M) : wq_ C G Q pc lv (.ref (G.1 a) :: st) M := w_get (j := 1) (f := 0) (ci := 6) X hd inG7 rfl (by decide) f7_22 hf ha k
theorem p7_22 {a : Nat} {fs : List Nat} {x : Int32} (X : cx_ C G RX7 cc nL ry d) (hd : decode cc pc = .ok (.putfield 22, 3)) (ha : ds_[a]? = some (.inr (6, fs))) (hf : fs[1]? = some 0) (k : wq_ C G Q (pc + 3) lv st (sI_ M a 1 x)) : wq_ C G Q pc lv (.int x :: .ref (G.1 a) :: st) M := w_putI (j := 1) (ci := 6) (ty := .int) X hd inG7 tyX7_ok nmX7 rfl (by decide) f7_22 rfl (by decide +kernel) hf ha rfl rfl k
set_option maxRecDepth 100000 in
theorem f10_61 : Cond.fieldLink RX10 61 (TX7 1).1 (TX7 1).2.1 (TX7 1).2.2.1 ∈ gw_ := gw_t 58 rfl rfl
theorem g10_61 {a : Nat} {fs : List Nat} (X : cx_ C G RX10 cc nL ry d) (hd : decode cc pc = .ok (.getfield 61, 3)) (ha : ds_[a]? = some (.inr (6, fs))) (hf : fs[1]? = some 0) (k : wq_ C G Q (pc + 3) lv (.int (M.1 a 1) :: st) M) : wq_ C G Q pc lv (.ref (G.1 a) :: st) M := w_get (j := 1) (f := 0) (ci := 6) X hd inG7 rfl (by decide) f10_61 hf ha k
theorem p10_61 {a : Nat} {fs : List Nat} {x : Int32} (X : cx_ C G RX10 cc nL ry d) (hd : decode cc pc = .ok (.putfield 61, 3)) (ha : ds_[a]? = some (.inr (6, fs))) (hf : fs[1]? = some 0) (k : wq_ C G Q (pc + 3) lv st (sI_ M a 1 x)) : wq_ C G Q pc lv (.int x :: .ref (G.1 a) :: st) M := w_putI (j := 1) (ci := 6) (ty := .int) X hd inG7 tyX7_ok nmX7 rfl (by decide) f10_61 rfl (by decide +kernel) hf ha rfl rfl k
set_option maxRecDepth 100000 in
theorem f1_84 : Cond.fieldLink RX1 84 (TX7 1).1 (TX7 1).2.1 (TX7 1).2.2.1 ∈ gw_ := gw_t 59 rfl rfl
theorem g1_84 {a : Nat} {fs : List Nat} (X : cx_ C G RX1 cc nL ry d) (hd : decode cc pc = .ok (.getfield 84, 3)) (ha : ds_[a]? = some (.inr (6, fs))) (hf : fs[1]? = some 0) (k : wq_ C G Q (pc + 3) lv (.int (M.1 a 1) :: st) M) : wq_ C G Q pc lv (.ref (G.1 a) :: st) M := w_get (j := 1) (f := 0) (ci := 6) X hd inG7 rfl (by decide) f1_84 hf ha k
theorem p1_84 {a : Nat} {fs : List Nat} {x : Int32} (X : cx_ C G RX1 cc nL ry d) (hd : decode cc pc = .ok (.putfield 84, 3)) (ha : ds_[a]? = some (.inr (6, fs))) (hf : fs[1]? = some 0) (k : wq_ C G Q (pc + 3) lv st (sI_ M a 1 x)) : wq_ C G Q pc lv (.int x :: .ref (G.1 a) :: st) M := w_putI (j := 1) (ci := 6) (ty := .int) X hd inG7 tyX7_ok nmX7 rfl (by decide) f1_84 rfl (by decide +kernel) hf ha rfl rfl k
set_option maxRecDepth 100000 in
theorem f7_15 : Cond.fieldLink RX7 15 (TX7 2).1 (TX7 2).2.1 (TX7 2).2.2.1 ∈ gw_ := gw_t 60 rfl rfl
theorem g7_15 {a : Nat} {fs : List Nat} (X : cx_ C G RX7 cc nL ry d) (hd : decode cc pc = .ok (.getfield 15, 3)) (ha : ds_[a]? = some (.inr (6, fs))) (hf : fs[2]? = some 0) (k : wq_ C G Q (pc + 3) lv (.int (M.1 a 2) :: st) M) : wq_ C G Q pc lv (.ref (G.1 a) :: st) M := w_get (j := 2) (f := 0) (ci := 6) X hd inG7 rfl (by decide) f7_15 hf ha k
theorem p7_15 {a : Nat} {fs : List Nat} {x : Int32} (X : cx_ C G RX7 cc nL ry d) (hd : decode cc pc = .ok (.putfield 15, 3)) (ha : ds_[a]? = some (.inr (6, fs))) (hf : fs[2]? = some 0) (k : wq_ C G Q (pc + 3) lv st (sI_ M a 2 x)) : wq_ C G Q pc lv (.int x :: .ref (G.1 a) :: st) M := w_putI (j := 2) (ci := 6) (ty := .int) X hd inG7 tyX7_ok nmX7 rfl (by decide) f7_15 rfl (by decide +kernel) hf ha rfl rfl k
set_option maxRecDepth 100000 in
theorem f11_99 : Cond.fieldLink RX11 99 (TX7 2).1 (TX7 2).2.1 (TX7 2).2.2.1 ∈ gw_ := gw_t 61 rfl rfl
theorem g11_99 {a : Nat} {fs : List Nat} (X : cx_ C G RX11 cc nL ry d) (hd : decode cc pc = .ok (.getfield 99, 3)) (ha : ds_[a]? = some (.inr (6, fs))) (hf : fs[2]? = some 0) (k : wq_ C G Q (pc + 3) lv (.int (M.1 a 2) :: st) M) : wq_ C G Q pc lv (.ref (G.1 a) :: st) M := w_get (j := 2) (f := 0) (ci := 6) X hd inG7 rfl (by decide) f11_99 hf ha k
set_option maxRecDepth 100000 in
theorem f1_159 : Cond.fieldLink RX1 159 (TX7 2).1 (TX7 2).2.1 (TX7 2).2.2.1 ∈ gw_ := gw_t 62 rfl rfl
theorem g1_159 {a : Nat} {fs : List Nat} (X : cx_ C G RX1 cc nL ry d) (hd : decode cc pc = .ok (.getfield 159, 3)) (ha : ds_[a]? = some (.inr (6, fs))) (hf : fs[2]? = some 0) (k : wq_ C G Q (pc + 3) lv (.int (M.1 a 2) :: st) M) : wq_ C G Q pc lv (.ref (G.1 a) :: st) M := w_get (j := 2) (f := 0) (ci := 6) X hd inG7 rfl (by decide) f1_159 hf ha k
set_option maxRecDepth 100000 in
theorem f7_19 : Cond.fieldLink RX7 19 (TX7 3).1 (TX7 3).2.1 (TX7 3).2.2.1 ∈ gw_ := gw_t 63 rfl rfl
theorem p7_19 {a : Nat} {fs : List Nat} {x : Int32} (X : cx_ C G RX7 cc nL ry d) (hd : decode cc pc = .ok (.putfield 19, 3)) (ha : ds_[a]? = some (.inr (6, fs))) (hf : fs[3]? = some 0) (k : wq_ C G Q (pc + 3) lv st (sI_ M a 3 x)) : wq_ C G Q pc lv (.int x :: .ref (G.1 a) :: st) M := w_putI (j := 3) (ci := 6) (ty := .int) X hd inG7 tyX7_ok nmX7 rfl (by decide) f7_19 rfl (by decide +kernel) hf ha rfl rfl k
set_option maxRecDepth 100000 in
theorem f11_132 : Cond.fieldLink RX11 132 (TX7 3).1 (TX7 3).2.1 (TX7 3).2.2.1 ∈ gw_ := gw_t 64 rfl rfl
theorem g11_132 {a : Nat} {fs : List Nat} (X : cx_ C G RX11 cc nL ry d) (hd : decode cc pc = .ok (.getfield 132, 3)) (ha : ds_[a]? = some (.inr (6, fs))) (hf : fs[3]? = some 0) (k : wq_ C G Q (pc + 3) lv (.int (M.1 a 3) :: st) M) : wq_ C G Q pc lv (.ref (G.1 a) :: st) M := w_get (j := 3) (f := 0) (ci := 6) X hd inG7 rfl (by decide) f11_132 hf ha k
set_option maxRecDepth 100000 in
theorem f1_119 : Cond.fieldLink RX1 119 (TX7 4).1 (TX7 4).2.1 (TX7 4).2.2.1 ∈ gw_ := gw_t 65 rfl rfl
theorem g1_119 {a : Nat} {fs : List Nat} (X : cx_ C G RX1 cc nL ry d) (hd : decode cc pc = .ok (.getfield 119, 3)) (ha : ds_[a]? = some (.inr (6, fs))) (hf : fs[4]? = some 0) (k : wq_ C G Q (pc + 3) lv (.int (M.1 a 4) :: st) M) : wq_ C G Q pc lv (.ref (G.1 a) :: st) M := w_get (j := 4) (f := 0) (ci := 6) X hd inG7 rfl (by decide) f1_119 hf ha k
set_option maxRecDepth 100000 in
theorem f7_74 : Cond.fieldLink RX7 74 (TX7 4).1 (TX7 4).2.1 (TX7 4).2.2.1 ∈ gw_ := gw_t 66 rfl rfl
theorem g7_74 {a : Nat} {fs : List Nat} (X : cx_ C G RX7 cc nL ry d) (hd : decode cc pc = .ok (.getfield 74, 3)) (ha : ds_[a]? = some (.inr (6, fs))) (hf : fs[4]? = some 0) (k : wq_ C G Q (pc + 3) lv (.int (M.1 a 4) :: st) M) : wq_ C G Q pc lv (.ref (G.1 a) :: st) M := w_get (j := 4) (f := 0) (ci := 6) X hd inG7 rfl (by decide) f7_74 hf ha k
theorem p7_74 {a : Nat} {fs : List Nat} {x : Int32} (X : cx_ C G RX7 cc nL ry d) (hd : decode cc pc = .ok (.putfield 74, 3)) (ha : ds_[a]? = some (.inr (6, fs))) (hf : fs[4]? = some 0) (k : wq_ C G Q (pc + 3) lv st (sI_ M a 4 x)) : wq_ C G Q pc lv (.int x :: .ref (G.1 a) :: st) M := w_putI (j := 4) (ci := 6) (ty := .int) X hd inG7 tyX7_ok nmX7 rfl (by decide) f7_74 rfl (by decide +kernel) hf ha rfl rfl k
set_option maxRecDepth 100000 in
theorem f1_113 : Cond.fieldLink RX1 113 (TX7 5).1 (TX7 5).2.1 (TX7 5).2.2.1 ∈ gw_ := gw_t 67 rfl rfl
theorem g1_113 {a : Nat} {fs : List Nat} (X : cx_ C G RX1 cc nL ry d) (hd : decode cc pc = .ok (.getfield 113, 3)) (ha : ds_[a]? = some (.inr (6, fs))) (hf : fs[5]? = some 0) (k : wq_ C G Q (pc + 3) lv (.int (M.1 a 5) :: st) M) : wq_ C G Q pc lv (.ref (G.1 a) :: st) M := w_get (j := 5) (f := 0) (ci := 6) X hd inG7 rfl (by decide) f1_113 hf ha k
set_option maxRecDepth 100000 in
theorem f7_77 : Cond.fieldLink RX7 77 (TX7 5).1 (TX7 5).2.1 (TX7 5).2.2.1 ∈ gw_ := gw_t 68 rfl rfl
theorem g7_77 {a : Nat} {fs : List Nat} (X : cx_ C G RX7 cc nL ry d) (hd : decode cc pc = .ok (.getfield 77, 3)) (ha : ds_[a]? = some (.inr (6, fs))) (hf : fs[5]? = some 0) (k : wq_ C G Q (pc + 3) lv (.int (M.1 a 5) :: st) M) : wq_ C G Q pc lv (.ref (G.1 a) :: st) M := w_get (j := 5) (f := 0) (ci := 6) X hd inG7 rfl (by decide) f7_77 hf ha k
theorem p7_77 {a : Nat} {fs : List Nat} {x : Int32} (X : cx_ C G RX7 cc nL ry d) (hd : decode cc pc = .ok (.putfield 77, 3)) (ha : ds_[a]? = some (.inr (6, fs))) (hf : fs[5]? = some 0) (hz : x = 0 ∨ x = 1) (k : wq_ C G Q (pc + 3) lv st (sI_ M a 5 x)) : wq_ C G Q pc lv (.int x :: .ref (G.1 a) :: st) M := w_putI (j := 5) (ci := 6) (ty := .boolean) X hd inG7 tyX7_ok nmX7 rfl (by decide) f7_77 rfl (by decide +kernel) hf ha (zb_ hz).1 (zb_ hz).2 k
set_option maxRecDepth 100000 in
theorem f7_58 : Cond.fieldLink RX7 58 (TX7 6).1 (TX7 6).2.1 (TX7 6).2.2.1 ∈ gw_ := gw_t 69 rfl rfl
theorem g7_58 {a : Nat} {fs : List Nat} (X : cx_ C G RX7 cc nL ry d) (hd : decode cc pc = .ok (.getfield 58, 3)) (ha : ds_[a]? = some (.inr (6, fs))) (hf : fs[6]? = some 1) (k : wq_ C G Q (pc + 3) lv (.long (M.2.1 a 6) :: st) M) : wq_ C G Q pc lv (.ref (G.1 a) :: st) M := w_get (j := 6) (f := 1) (ci := 6) X hd inG7 rfl (by decide) f7_58 hf ha k
theorem p7_58 {a : Nat} {fs : List Nat} {x : Int64} (X : cx_ C G RX7 cc nL ry d) (hd : decode cc pc = .ok (.putfield 58, 3)) (ha : ds_[a]? = some (.inr (6, fs))) (hf : fs[6]? = some 1) (k : wq_ C G Q (pc + 3) lv st (sL_ M a 6 x)) : wq_ C G Q pc lv (.long x :: .ref (G.1 a) :: st) M := w_putL (j := 6) (ci := 6) (ty := .long) X hd inG7 tyX7_ok nmX7 rfl (by decide) f7_58 rfl (by decide +kernel) hf ha rfl rfl k
set_option maxRecDepth 100000 in
theorem f0_9 : Cond.fieldLink RX0 9 (TX0 0).1 (TX0 0).2.1 (TX0 0).2.2.1 ∈ gw_ := gw_t 99 rfl rfl
theorem g0_9 {a t : Nat} {fs : List Nat} (X : cx_ C G RX0 cc nL ry d) (hd : decode cc pc = .ok (.getfield 9, 3)) (ha : ds_[a]? = some (.inr (0, fs))) (hf : fs[0]? = some (t + 3)) (k : wq_ C G Q (pc + 3) lv (.ref (G.1 t) :: st) M) : wq_ C G Q pc lv (.ref (G.1 a) :: st) M := w_get (j := 0) (f := t + 3) (ci := 0) X hd inG0 rfl (by decide) f0_9 hf ha k
set_option maxRecDepth 100000 in
theorem f4_99 : Cond.fieldLink RX4 99 (TX0 0).1 (TX0 0).2.1 (TX0 0).2.2.1 ∈ gw_ := gw_t 100 rfl rfl
theorem g4_99 {a t : Nat} {fs : List Nat} (X : cx_ C G RX4 cc nL ry d) (hd : decode cc pc = .ok (.getfield 99, 3)) (ha : ds_[a]? = some (.inr (0, fs))) (hf : fs[0]? = some (t + 3)) (k : wq_ C G Q (pc + 3) lv (.ref (G.1 t) :: st) M) : wq_ C G Q pc lv (.ref (G.1 a) :: st) M := w_get (j := 0) (f := t + 3) (ci := 0) X hd inG0 rfl (by decide) f4_99 hf ha k
set_option maxRecDepth 100000 in
theorem f0_13 : Cond.fieldLink RX0 13 (TX0 1).1 (TX0 1).2.1 (TX0 1).2.2.1 ∈ gw_ := gw_t 101 rfl rfl
theorem g0_13 {a t : Nat} {fs : List Nat} (X : cx_ C G RX0 cc nL ry d) (hd : decode cc pc = .ok (.getfield 13, 3)) (ha : ds_[a]? = some (.inr (0, fs))) (hf : fs[1]? = some (t + 3)) (k : wq_ C G Q (pc + 3) lv (.ref (G.1 t) :: st) M) : wq_ C G Q pc lv (.ref (G.1 a) :: st) M := w_get (j := 1) (f := t + 3) (ci := 0) X hd inG0 rfl (by decide) f0_13 hf ha k
set_option maxRecDepth 100000 in
theorem f4_95 : Cond.fieldLink RX4 95 (TX0 1).1 (TX0 1).2.1 (TX0 1).2.2.1 ∈ gw_ := gw_t 102 rfl rfl
theorem g4_95 {a t : Nat} {fs : List Nat} (X : cx_ C G RX4 cc nL ry d) (hd : decode cc pc = .ok (.getfield 95, 3)) (ha : ds_[a]? = some (.inr (0, fs))) (hf : fs[1]? = some (t + 3)) (k : wq_ C G Q (pc + 3) lv (.ref (G.1 t) :: st) M) : wq_ C G Q pc lv (.ref (G.1 a) :: st) M := w_get (j := 1) (f := t + 3) (ci := 0) X hd inG0 rfl (by decide) f4_95 hf ha k
set_option maxRecDepth 100000 in
theorem f0_17 : Cond.fieldLink RX0 17 (TX0 2).1 (TX0 2).2.1 (TX0 2).2.2.1 ∈ gw_ := gw_t 103 rfl rfl
theorem g0_17 {a t : Nat} {fs : List Nat} (X : cx_ C G RX0 cc nL ry d) (hd : decode cc pc = .ok (.getfield 17, 3)) (ha : ds_[a]? = some (.inr (0, fs))) (hf : fs[2]? = some (t + 3)) (k : wq_ C G Q (pc + 3) lv (.ref (G.1 t) :: st) M) : wq_ C G Q pc lv (.ref (G.1 a) :: st) M := w_get (j := 2) (f := t + 3) (ci := 0) X hd inG0 rfl (by decide) f0_17 hf ha k
set_option maxRecDepth 100000 in
theorem f0_20 : Cond.fieldLink RX0 20 (TX0 3).1 (TX0 3).2.1 (TX0 3).2.2.1 ∈ gw_ := gw_t 104 rfl rfl
theorem g0_20 {a t : Nat} {fs : List Nat} (X : cx_ C G RX0 cc nL ry d) (hd : decode cc pc = .ok (.getfield 20, 3)) (ha : ds_[a]? = some (.inr (0, fs))) (hf : fs[3]? = some (t + 3)) (k : wq_ C G Q (pc + 3) lv (.ref (G.1 t) :: st) M) : wq_ C G Q pc lv (.ref (G.1 a) :: st) M := w_get (j := 3) (f := t + 3) (ci := 0) X hd inG0 rfl (by decide) f0_20 hf ha k
set_option maxRecDepth 100000 in
theorem f4_122 : Cond.fieldLink RX4 122 (TX0 3).1 (TX0 3).2.1 (TX0 3).2.2.1 ∈ gw_ := gw_t 105 rfl rfl
theorem g4_122 {a t : Nat} {fs : List Nat} (X : cx_ C G RX4 cc nL ry d) (hd : decode cc pc = .ok (.getfield 122, 3)) (ha : ds_[a]? = some (.inr (0, fs))) (hf : fs[3]? = some (t + 3)) (k : wq_ C G Q (pc + 3) lv (.ref (G.1 t) :: st) M) : wq_ C G Q pc lv (.ref (G.1 a) :: st) M := w_get (j := 3) (f := t + 3) (ci := 0) X hd inG0 rfl (by decide) f4_122 hf ha k
set_option maxRecDepth 100000 in
theorem f0_23 : Cond.fieldLink RX0 23 (TX0 4).1 (TX0 4).2.1 (TX0 4).2.2.1 ∈ gw_ := gw_t 106 rfl rfl
theorem g0_23 {a : Nat} {fs : List Nat} (X : cx_ C G RX0 cc nL ry d) (hd : decode cc pc = .ok (.getfield 23, 3)) (ha : ds_[a]? = some (.inr (0, fs))) (hf : fs[4]? = some 0) (k : wq_ C G Q (pc + 3) lv (.int (M.1 a 4) :: st) M) : wq_ C G Q pc lv (.ref (G.1 a) :: st) M := w_get (j := 4) (f := 0) (ci := 0) X hd inG0 rfl (by decide) f0_23 hf ha k
theorem p0_23 {a : Nat} {fs : List Nat} {x : Int32} (X : cx_ C G RX0 cc nL ry d) (hd : decode cc pc = .ok (.putfield 23, 3)) (ha : ds_[a]? = some (.inr (0, fs))) (hf : fs[4]? = some 0) (k : wq_ C G Q (pc + 3) lv st (sI_ M a 4 x)) : wq_ C G Q pc lv (.int x :: .ref (G.1 a) :: st) M := w_putI (j := 4) (ci := 0) (ty := .int) X hd inG0 tyX0_ok nmX0 rfl (by decide) f0_23 rfl (by decide +kernel) hf ha rfl rfl k
set_option maxRecDepth 100000 in
theorem f1_42 : Cond.fieldLink RX1 42 (TX0 4).1 (TX0 4).2.1 (TX0 4).2.2.1 ∈ gw_ := gw_t 107 rfl rfl
theorem g1_42 {a : Nat} {fs : List Nat} (X : cx_ C G RX1 cc nL ry d) (hd : decode cc pc = .ok (.getfield 42, 3)) (ha : ds_[a]? = some (.inr (0, fs))) (hf : fs[4]? = some 0) (k : wq_ C G Q (pc + 3) lv (.int (M.1 a 4) :: st) M) : wq_ C G Q pc lv (.ref (G.1 a) :: st) M := w_get (j := 4) (f := 0) (ci := 0) X hd inG0 rfl (by decide) f1_42 hf ha k
set_option maxRecDepth 100000 in
theorem f4_77 : Cond.fieldLink RX4 77 (TX0 4).1 (TX0 4).2.1 (TX0 4).2.2.1 ∈ gw_ := gw_t 108 rfl rfl
theorem g4_77 {a : Nat} {fs : List Nat} (X : cx_ C G RX4 cc nL ry d) (hd : decode cc pc = .ok (.getfield 77, 3)) (ha : ds_[a]? = some (.inr (0, fs))) (hf : fs[4]? = some 0) (k : wq_ C G Q (pc + 3) lv (.int (M.1 a 4) :: st) M) : wq_ C G Q pc lv (.ref (G.1 a) :: st) M := w_get (j := 4) (f := 0) (ci := 0) X hd inG0 rfl (by decide) f4_77 hf ha k
set_option maxRecDepth 100000 in
theorem f0_27 : Cond.fieldLink RX0 27 (TX0 5).1 (TX0 5).2.1 (TX0 5).2.2.1 ∈ gw_ := gw_t 109 rfl rfl
theorem g0_27 {a : Nat} {fs : List Nat} (X : cx_ C G RX0 cc nL ry d) (hd : decode cc pc = .ok (.getfield 27, 3)) (ha : ds_[a]? = some (.inr (0, fs))) (hf : fs[5]? = some 0) (k : wq_ C G Q (pc + 3) lv (.int (M.1 a 5) :: st) M) : wq_ C G Q pc lv (.ref (G.1 a) :: st) M := w_get (j := 5) (f := 0) (ci := 0) X hd inG0 rfl (by decide) f0_27 hf ha k
theorem p0_27 {a : Nat} {fs : List Nat} {x : Int32} (X : cx_ C G RX0 cc nL ry d) (hd : decode cc pc = .ok (.putfield 27, 3)) (ha : ds_[a]? = some (.inr (0, fs))) (hf : fs[5]? = some 0) (k : wq_ C G Q (pc + 3) lv st (sI_ M a 5 x)) : wq_ C G Q pc lv (.int x :: .ref (G.1 a) :: st) M := w_putI (j := 5) (ci := 0) (ty := .int) X hd inG0 tyX0_ok nmX0 rfl (by decide) f0_27 rfl (by decide +kernel) hf ha rfl rfl k
set_option maxRecDepth 100000 in
theorem f1_7 : Cond.fieldLink RX1 7 (TX1 0).1 (TX1 0).2.1 (TX1 0).2.2.1 ∈ gw_ := gw_t 128 rfl rfl
theorem g1_7 {a t : Nat} {fs : List Nat} (X : cx_ C G RX1 cc nL ry d) (hd : decode cc pc = .ok (.getfield 7, 3)) (ha : ds_[a]? = some (.inr (1, fs))) (hf : fs[0]? = some (t + 3)) (k : wq_ C G Q (pc + 3) lv (.ref (G.1 t) :: st) M) : wq_ C G Q pc lv (.ref (G.1 a) :: st) M := w_get (j := 0) (f := t + 3) (ci := 1) X hd inG1 rfl (by decide) f1_7 hf ha k
set_option maxRecDepth 100000 in
theorem f1_13 : Cond.fieldLink RX1 13 (TX1 1).1 (TX1 1).2.1 (TX1 1).2.2.1 ∈ gw_ := gw_t 129 rfl rfl
theorem r1_13 {a t : Nat} {fs : List Nat} (X : cx_ C G RX1 cc nL ry d) (hd : decode cc pc = .ok (.getfield 13, 3)) (ha : ds_[a]? = some (.inr (1, fs))) (hf : fs[1]? = some 2) (hv : M.2.2 a 1 = some t) (k : wq_ C G Q (pc + 3) lv (.ref (G.1 t) :: st) M) : wq_ C G Q pc lv (.ref (G.1 a) :: st) M := w_get (j := 1) (f := 2) (ci := 1) X hd inG1 rfl (by decide) f1_13 hf ha (by rw [fv_, hv]; exact k)
theorem p1_13 {a x : Nat} {fs : List Nat} (X : cx_ C G RX1 cc nL ry d) (hd : decode cc pc = .ok (.putfield 13, 3)) (ha : ds_[a]? = some (.inr (1, fs))) (hf : fs[1]? = some 2) (k : wq_ C G Q (pc + 3) lv st (sR_ M a 1 (some x))) : wq_ C G Q pc lv (.ref (G.1 x) :: .ref (G.1 a) :: st) M := w_putR (j := 1) (ci := 1) (ty := tyX1 1) X hd inG1 tyX1_ok nmX1 rfl (by decide) f1_13 rfl (by decide +kernel) hf ha rfl rfl k
set_option maxRecDepth 100000 in
theorem f1_17 : Cond.fieldLink RX1 17 (TX1 2).1 (TX1 2).2.1 (TX1 2).2.2.1 ∈ gw_ := gw_t 130 rfl rfl
theorem g1_17 {a : Nat} {fs : List Nat} (X : cx_ C G RX1 cc nL ry d) (hd : decode cc pc = .ok (.getfield 17, 3)) (ha : ds_[a]? = some (.inr (1, fs))) (hf : fs[2]? = some 0) (k : wq_ C G Q (pc + 3) lv (.int (M.1 a 2) :: st) M) : wq_ C G Q pc lv (.ref (G.1 a) :: st) M := w_get (j := 2) (f := 0) (ci := 1) X hd inG1 rfl (by decide) f1_17 hf ha k
theorem p1_17 {a : Nat} {fs : List Nat} {x : Int32} (X : cx_ C G RX1 cc nL ry d) (hd : decode cc pc = .ok (.putfield 17, 3)) (ha : ds_[a]? = some (.inr (1, fs))) (hf : fs[2]? = some 0) (k : wq_ C G Q (pc + 3) lv st (sI_ M a 2 x)) : wq_ C G Q pc lv (.int x :: .ref (G.1 a) :: st) M := w_putI (j := 2) (ci := 1) (ty := .int) X hd inG1 tyX1_ok nmX1 rfl (by decide) f1_17 rfl (by decide +kernel) hf ha rfl rfl k
set_option maxRecDepth 100000 in
theorem f1_21 : Cond.fieldLink RX1 21 (TX1 3).1 (TX1 3).2.1 (TX1 3).2.2.1 ∈ gw_ := gw_t 131 rfl rfl
theorem g1_21 {a : Nat} {fs : List Nat} (X : cx_ C G RX1 cc nL ry d) (hd : decode cc pc = .ok (.getfield 21, 3)) (ha : ds_[a]? = some (.inr (1, fs))) (hf : fs[3]? = some 0) (k : wq_ C G Q (pc + 3) lv (.int (M.1 a 3) :: st) M) : wq_ C G Q pc lv (.ref (G.1 a) :: st) M := w_get (j := 3) (f := 0) (ci := 1) X hd inG1 rfl (by decide) f1_21 hf ha k
theorem p1_21 {a : Nat} {fs : List Nat} {x : Int32} (X : cx_ C G RX1 cc nL ry d) (hd : decode cc pc = .ok (.putfield 21, 3)) (ha : ds_[a]? = some (.inr (1, fs))) (hf : fs[3]? = some 0) (hz : x = 0 ∨ x = 1) (k : wq_ C G Q (pc + 3) lv st (sI_ M a 3 x)) : wq_ C G Q pc lv (.int x :: .ref (G.1 a) :: st) M := w_putI (j := 3) (ci := 1) (ty := .boolean) X hd inG1 tyX1_ok nmX1 rfl (by decide) f1_21 rfl (by decide +kernel) hf ha (zb_ hz).1 (zb_ hz).2 k
set_option maxRecDepth 100000 in
theorem f1_25 : Cond.fieldLink RX1 25 (TX1 4).1 (TX1 4).2.1 (TX1 4).2.2.1 ∈ gw_ := gw_t 132 rfl rfl
theorem g1_25 {a : Nat} {fs : List Nat} (X : cx_ C G RX1 cc nL ry d) (hd : decode cc pc = .ok (.getfield 25, 3)) (ha : ds_[a]? = some (.inr (1, fs))) (hf : fs[4]? = some 0) (k : wq_ C G Q (pc + 3) lv (.int (M.1 a 4) :: st) M) : wq_ C G Q pc lv (.ref (G.1 a) :: st) M := w_get (j := 4) (f := 0) (ci := 1) X hd inG1 rfl (by decide) f1_25 hf ha k
theorem p1_25 {a : Nat} {fs : List Nat} {x : Int32} (X : cx_ C G RX1 cc nL ry d) (hd : decode cc pc = .ok (.putfield 25, 3)) (ha : ds_[a]? = some (.inr (1, fs))) (hf : fs[4]? = some 0) (k : wq_ C G Q (pc + 3) lv st (sI_ M a 4 x)) : wq_ C G Q pc lv (.int x :: .ref (G.1 a) :: st) M := w_putI (j := 4) (ci := 1) (ty := .int) X hd inG1 tyX1_ok nmX1 rfl (by decide) f1_25 rfl (by decide +kernel) hf ha rfl rfl k
set_option maxRecDepth 100000 in
theorem f1_28 : Cond.fieldLink RX1 28 (TX1 5).1 (TX1 5).2.1 (TX1 5).2.2.1 ∈ gw_ := gw_t 133 rfl rfl
theorem g1_28 {a : Nat} {fs : List Nat} (X : cx_ C G RX1 cc nL ry d) (hd : decode cc pc = .ok (.getfield 28, 3)) (ha : ds_[a]? = some (.inr (1, fs))) (hf : fs[5]? = some 0) (k : wq_ C G Q (pc + 3) lv (.int (M.1 a 5) :: st) M) : wq_ C G Q pc lv (.ref (G.1 a) :: st) M := w_get (j := 5) (f := 0) (ci := 1) X hd inG1 rfl (by decide) f1_28 hf ha k
theorem p1_28 {a : Nat} {fs : List Nat} {x : Int32} (X : cx_ C G RX1 cc nL ry d) (hd : decode cc pc = .ok (.putfield 28, 3)) (ha : ds_[a]? = some (.inr (1, fs))) (hf : fs[5]? = some 0) (k : wq_ C G Q (pc + 3) lv st (sI_ M a 5 x)) : wq_ C G Q pc lv (.int x :: .ref (G.1 a) :: st) M := w_putI (j := 5) (ci := 1) (ty := .int) X hd inG1 tyX1_ok nmX1 rfl (by decide) f1_28 rfl (by decide +kernel) hf ha rfl rfl k
set_option maxRecDepth 100000 in
theorem f1_31 : Cond.fieldLink RX1 31 (TX1 6).1 (TX1 6).2.1 (TX1 6).2.2.1 ∈ gw_ := gw_t 134 rfl rfl
theorem g1_31 {a : Nat} {fs : List Nat} (X : cx_ C G RX1 cc nL ry d) (hd : decode cc pc = .ok (.getfield 31, 3)) (ha : ds_[a]? = some (.inr (1, fs))) (hf : fs[6]? = some 0) (k : wq_ C G Q (pc + 3) lv (.int (M.1 a 6) :: st) M) : wq_ C G Q pc lv (.ref (G.1 a) :: st) M := w_get (j := 6) (f := 0) (ci := 1) X hd inG1 rfl (by decide) f1_31 hf ha k
theorem p1_31 {a : Nat} {fs : List Nat} {x : Int32} (X : cx_ C G RX1 cc nL ry d) (hd : decode cc pc = .ok (.putfield 31, 3)) (ha : ds_[a]? = some (.inr (1, fs))) (hf : fs[6]? = some 0) (hz : x = 0 ∨ x = 1) (k : wq_ C G Q (pc + 3) lv st (sI_ M a 6 x)) : wq_ C G Q pc lv (.int x :: .ref (G.1 a) :: st) M := w_putI (j := 6) (ci := 1) (ty := .boolean) X hd inG1 tyX1_ok nmX1 rfl (by decide) f1_31 rfl (by decide +kernel) hf ha (zb_ hz).1 (zb_ hz).2 k
set_option maxRecDepth 100000 in
theorem f10_84 : Cond.fieldLink RX10 84 (TX10 0).1 (TX10 0).2.1 (TX10 0).2.2.1 ∈ gw_ := gw_t 150 rfl rfl
theorem p10_84 {a : Nat} {fs : List Nat} {x : Int32} (X : cx_ C G RX10 cc nL ry d) (hd : decode cc pc = .ok (.putfield 84, 3)) (ha : ds_[a]? = some (.inr (9, fs))) (hf : fs[0]? = some 0) (k : wq_ C G Q (pc + 3) lv st (sI_ M a 0 x)) : wq_ C G Q pc lv (.int x :: .ref (G.1 a) :: st) M := w_putI (j := 0) (ci := 9) (ty := .int) X hd inG10 tyX10_ok nmX10 rfl (by decide) f10_84 rfl (by decide +kernel) hf ha rfl rfl k
set_option maxRecDepth 100000 in
theorem f11_121 : Cond.fieldLink RX11 121 (TX10 0).1 (TX10 0).2.1 (TX10 0).2.2.1 ∈ gw_ := gw_t 151 rfl rfl
theorem g11_121 {a : Nat} {fs : List Nat} (X : cx_ C G RX11 cc nL ry d) (hd : decode cc pc = .ok (.getfield 121, 3)) (ha : ds_[a]? = some (.inr (9, fs))) (hf : fs[0]? = some 0) (k : wq_ C G Q (pc + 3) lv (.int (M.1 a 0) :: st) M) : wq_ C G Q pc lv (.ref (G.1 a) :: st) M := w_get (j := 0) (f := 0) (ci := 9) X hd inG10 rfl (by decide) f11_121 hf ha k
set_option maxRecDepth 100000 in
theorem f10_7 : Cond.fieldLink RX10 7 (TX10 1).1 (TX10 1).2.1 (TX10 1).2.2.1 ∈ gw_ := gw_t 152 rfl rfl
theorem g10_7 {a t : Nat} {fs : List Nat} (X : cx_ C G RX10 cc nL ry d) (hd : decode cc pc = .ok (.getfield 7, 3)) (ha : ds_[a]? = some (.inr (9, fs))) (hf : fs[1]? = some (t + 3)) (k : wq_ C G Q (pc + 3) lv (.ref (G.1 t) :: st) M) : wq_ C G Q pc lv (.ref (G.1 a) :: st) M := w_get (j := 1) (f := t + 3) (ci := 9) X hd inG10 rfl (by decide) f10_7 hf ha k
set_option maxRecDepth 100000 in
theorem f10_21 : Cond.fieldLink RX10 21 (TX10 2).1 (TX10 2).2.1 (TX10 2).2.2.1 ∈ gw_ := gw_t 153 rfl rfl
theorem g10_21 {a t : Nat} {fs : List Nat} (X : cx_ C G RX10 cc nL ry d) (hd : decode cc pc = .ok (.getfield 21, 3)) (ha : ds_[a]? = some (.inr (9, fs))) (hf : fs[2]? = some (t + 3)) (k : wq_ C G Q (pc + 3) lv (.ref (G.1 t) :: st) M) : wq_ C G Q pc lv (.ref (G.1 a) :: st) M := w_get (j := 2) (f := t + 3) (ci := 9) X hd inG10 rfl (by decide) f10_21 hf ha k
set_option maxRecDepth 100000 in
theorem f5_11 : Cond.fieldLink RX5 11 (TX5 0).1 (TX5 0).2.1 (TX5 0).2.2.1 ∈ gw_ := gw_t 170 rfl rfl
theorem g5_11 {a t : Nat} {fs : List Nat} (X : cx_ C G RX5 cc nL ry d) (hd : decode cc pc = .ok (.getfield 11, 3)) (ha : ds_[a]? = some (.inr (5, fs))) (hf : fs[0]? = some (t + 3)) (k : wq_ C G Q (pc + 3) lv (.ref (G.1 t) :: st) M) : wq_ C G Q pc lv (.ref (G.1 a) :: st) M := w_get (j := 0) (f := t + 3) (ci := 5) X hd inG5 rfl (by decide) f5_11 hf ha k
set_option maxRecDepth 100000 in
theorem f5_17 : Cond.fieldLink RX5 17 (TX5 1).1 (TX5 1).2.1 (TX5 1).2.2.1 ∈ gw_ := gw_t 171 rfl rfl
theorem g5_17 {a t : Nat} {fs : List Nat} (X : cx_ C G RX5 cc nL ry d) (hd : decode cc pc = .ok (.getfield 17, 3)) (ha : ds_[a]? = some (.inr (5, fs))) (hf : fs[1]? = some (t + 3)) (k : wq_ C G Q (pc + 3) lv (.ref (G.1 t) :: st) M) : wq_ C G Q pc lv (.ref (G.1 a) :: st) M := w_get (j := 1) (f := t + 3) (ci := 5) X hd inG5 rfl (by decide) f5_17 hf ha k
set_option maxRecDepth 100000 in
theorem f5_22 : Cond.fieldLink RX5 22 (TX5 2).1 (TX5 2).2.1 (TX5 2).2.2.1 ∈ gw_ := gw_t 172 rfl rfl
theorem g5_22 {a : Nat} {fs : List Nat} (X : cx_ C G RX5 cc nL ry d) (hd : decode cc pc = .ok (.getfield 22, 3)) (ha : ds_[a]? = some (.inr (5, fs))) (hf : fs[2]? = some 0) (k : wq_ C G Q (pc + 3) lv (.int (M.1 a 2) :: st) M) : wq_ C G Q pc lv (.ref (G.1 a) :: st) M := w_get (j := 2) (f := 0) (ci := 5) X hd inG5 rfl (by decide) f5_22 hf ha k
theorem p5_22 {a : Nat} {fs : List Nat} {x : Int32} (X : cx_ C G RX5 cc nL ry d) (hd : decode cc pc = .ok (.putfield 22, 3)) (ha : ds_[a]? = some (.inr (5, fs))) (hf : fs[2]? = some 0) (k : wq_ C G Q (pc + 3) lv st (sI_ M a 2 x)) : wq_ C G Q pc lv (.int x :: .ref (G.1 a) :: st) M := w_putI (j := 2) (ci := 5) (ty := .int) X hd inG5 tyX5_ok nmX5 rfl (by decide) f5_22 rfl (by decide +kernel) hf ha rfl rfl k
set_option maxRecDepth 100000 in
theorem f2_25 : Cond.fieldLink RX2 25 (TX2 0).1 (TX2 0).2.1 (TX2 0).2.2.1 ∈ gw_ := gw_t 195 rfl rfl
theorem g2_25 {a : Nat} {fs : List Nat} (X : cx_ C G RX2 cc nL ry d) (hd : decode cc pc = .ok (.getfield 25, 3)) (ha : ds_[a]? = some (.inr (2, fs))) (hf : fs[0]? = some 0) (k : wq_ C G Q (pc + 3) lv (.int (M.1 a 0) :: st) M) : wq_ C G Q pc lv (.ref (G.1 a) :: st) M := w_get (j := 0) (f := 0) (ci := 2) X hd inG2 rfl (by decide) f2_25 hf ha k
theorem p2_25 {a : Nat} {fs : List Nat} {x : Int32} (X : cx_ C G RX2 cc nL ry d) (hd : decode cc pc = .ok (.putfield 25, 3)) (ha : ds_[a]? = some (.inr (2, fs))) (hf : fs[0]? = some 0) (k : wq_ C G Q (pc + 3) lv st (sI_ M a 0 x)) : wq_ C G Q pc lv (.int x :: .ref (G.1 a) :: st) M := w_putI (j := 0) (ci := 2) (ty := .int) X hd inG2 tyX2_ok nmX2 rfl (by decide) f2_25 rfl (by decide +kernel) hf ha rfl rfl k
set_option maxRecDepth 100000 in
theorem f3_22 : Cond.fieldLink RX3 22 (TX2 0).1 (TX2 0).2.1 (TX2 0).2.2.1 ∈ gw_ := gw_t 196 rfl rfl
theorem g3_22 {a : Nat} {fs : List Nat} (X : cx_ C G RX3 cc nL ry d) (hd : decode cc pc = .ok (.getfield 22, 3)) (ha : ds_[a]? = some (.inr (2, fs))) (hf : fs[0]? = some 0) (k : wq_ C G Q (pc + 3) lv (.int (M.1 a 0) :: st) M) : wq_ C G Q pc lv (.ref (G.1 a) :: st) M := w_get (j := 0) (f := 0) (ci := 2) X hd inG2 rfl (by decide) f3_22 hf ha k
theorem p3_22 {a : Nat} {fs : List Nat} {x : Int32} (X : cx_ C G RX3 cc nL ry d) (hd : decode cc pc = .ok (.putfield 22, 3)) (ha : ds_[a]? = some (.inr (2, fs))) (hf : fs[0]? = some 0) (k : wq_ C G Q (pc + 3) lv st (sI_ M a 0 x)) : wq_ C G Q pc lv (.int x :: .ref (G.1 a) :: st) M := w_putI (j := 0) (ci := 2) (ty := .int) X hd inG2 tyX2_ok nmX2 rfl (by decide) f3_22 rfl (by decide +kernel) hf ha rfl rfl k
set_option maxRecDepth 100000 in
theorem f10_99 : Cond.fieldLink RX10 99 (TX2 0).1 (TX2 0).2.1 (TX2 0).2.2.1 ∈ gw_ := gw_t 197 rfl rfl
theorem p10_99 {a : Nat} {fs : List Nat} {x : Int32} (X : cx_ C G RX10 cc nL ry d) (hd : decode cc pc = .ok (.putfield 99, 3)) (ha : ds_[a]? = some (.inr (2, fs))) (hf : fs[0]? = some 0) (k : wq_ C G Q (pc + 3) lv st (sI_ M a 0 x)) : wq_ C G Q pc lv (.int x :: .ref (G.1 a) :: st) M := w_putI (j := 0) (ci := 2) (ty := .int) X hd inG2 tyX2_ok nmX2 rfl (by decide) f10_99 rfl (by decide +kernel) hf ha rfl rfl k
set_option maxRecDepth 100000 in
theorem f4_149 : Cond.fieldLink RX4 149 (TX2 0).1 (TX2 0).2.1 (TX2 0).2.2.1 ∈ gw_ := gw_t 198 rfl rfl
theorem g4_149 {a : Nat} {fs : List Nat} (X : cx_ C G RX4 cc nL ry d) (hd : decode cc pc = .ok (.getfield 149, 3)) (ha : ds_[a]? = some (.inr (2, fs))) (hf : fs[0]? = some 0) (k : wq_ C G Q (pc + 3) lv (.int (M.1 a 0) :: st) M) : wq_ C G Q pc lv (.ref (G.1 a) :: st) M := w_get (j := 0) (f := 0) (ci := 2) X hd inG2 rfl (by decide) f4_149 hf ha k
set_option maxRecDepth 100000 in
theorem f11_171 : Cond.fieldLink RX11 171 (TX2 0).1 (TX2 0).2.1 (TX2 0).2.2.1 ∈ gw_ := gw_t 199 rfl rfl
theorem g11_171 {a : Nat} {fs : List Nat} (X : cx_ C G RX11 cc nL ry d) (hd : decode cc pc = .ok (.getfield 171, 3)) (ha : ds_[a]? = some (.inr (2, fs))) (hf : fs[0]? = some 0) (k : wq_ C G Q (pc + 3) lv (.int (M.1 a 0) :: st) M) : wq_ C G Q pc lv (.ref (G.1 a) :: st) M := w_get (j := 0) (f := 0) (ci := 2) X hd inG2 rfl (by decide) f11_171 hf ha k
set_option maxRecDepth 100000 in
theorem f10_119 : Cond.fieldLink RX10 119 (TX2 1).1 (TX2 1).2.1 (TX2 1).2.2.1 ∈ gw_ := gw_t 200 rfl rfl
theorem p10_119 {a : Nat} {fs : List Nat} {x : Int32} (X : cx_ C G RX10 cc nL ry d) (hd : decode cc pc = .ok (.putfield 119, 3)) (ha : ds_[a]? = some (.inr (2, fs))) (hf : fs[1]? = some 0) (k : wq_ C G Q (pc + 3) lv st (sI_ M a 1 x)) : wq_ C G Q pc lv (.int x :: .ref (G.1 a) :: st) M := w_putI (j := 1) (ci := 2) (ty := .int) X hd inG2 tyX2_ok nmX2 rfl (by decide) f10_119 rfl (by decide +kernel) hf ha rfl rfl k
set_option maxRecDepth 100000 in
theorem f4_159 : Cond.fieldLink RX4 159 (TX2 1).1 (TX2 1).2.1 (TX2 1).2.2.1 ∈ gw_ := gw_t 201 rfl rfl
theorem g4_159 {a : Nat} {fs : List Nat} (X : cx_ C G RX4 cc nL ry d) (hd : decode cc pc = .ok (.getfield 159, 3)) (ha : ds_[a]? = some (.inr (2, fs))) (hf : fs[1]? = some 0) (k : wq_ C G Q (pc + 3) lv (.int (M.1 a 1) :: st) M) : wq_ C G Q pc lv (.ref (G.1 a) :: st) M := w_get (j := 1) (f := 0) (ci := 2) X hd inG2 rfl (by decide) f4_159 hf ha k
set_option maxRecDepth 100000 in
theorem f2_48 : Cond.fieldLink RX2 48 (TX2 2).1 (TX2 2).2.1 (TX2 2).2.2.1 ∈ gw_ := gw_t 202 rfl rfl
theorem g2_48 {a : Nat} {fs : List Nat} (X : cx_ C G RX2 cc nL ry d) (hd : decode cc pc = .ok (.getfield 48, 3)) (ha : ds_[a]? = some (.inr (2, fs))) (hf : fs[2]? = some 1) (k : wq_ C G Q (pc + 3) lv (.long (M.2.1 a 2) :: st) M) : wq_ C G Q pc lv (.ref (G.1 a) :: st) M := w_get (j := 2) (f := 1) (ci := 2) X hd inG2 rfl (by decide) f2_48 hf ha k
set_option maxRecDepth 100000 in
theorem f10_96 : Cond.fieldLink RX10 96 (TX2 2).1 (TX2 2).2.1 (TX2 2).2.2.1 ∈ gw_ := gw_t 203 rfl rfl
theorem p10_96 {a : Nat} {fs : List Nat} {x : Int64} (X : cx_ C G RX10 cc nL ry d) (hd : decode cc pc = .ok (.putfield 96, 3)) (ha : ds_[a]? = some (.inr (2, fs))) (hf : fs[2]? = some 1) (k : wq_ C G Q (pc + 3) lv st (sL_ M a 2 x)) : wq_ C G Q pc lv (.long x :: .ref (G.1 a) :: st) M := w_putL (j := 2) (ci := 2) (ty := .long) X hd inG2 tyX2_ok nmX2 rfl (by decide) f10_96 rfl (by decide +kernel) hf ha rfl rfl k
set_option maxRecDepth 100000 in
theorem f2_10 : Cond.fieldLink RX2 10 (TX2 3).1 (TX2 3).2.1 (TX2 3).2.2.1 ∈ gw_ := gw_t 204 rfl rfl
set_option maxRecDepth 100000 in
theorem f10_121 : Cond.fieldLink RX10 121 (TX2 3).1 (TX2 3).2.1 (TX2 3).2.2.1 ∈ gw_ := gw_t 205 rfl rfl
theorem g10_121 {a t : Nat} {fs : List Nat} (X : cx_ C G RX10 cc nL ry d) (hd : decode cc pc = .ok (.getfield 121, 3)) (ha : ds_[a]? = some (.inr (2, fs))) (hf : fs[3]? = some (t + 3)) (k : wq_ C G Q (pc + 3) lv (.ref (G.1 t) :: st) M) : wq_ C G Q pc lv (.ref (G.1 a) :: st) M := w_get (j := 3) (f := t + 3) (ci := 2) X hd inG2 rfl (by decide) f10_121 hf ha k
set_option maxRecDepth 100000 in
theorem f4_175 : Cond.fieldLink RX4 175 (TX2 3).1 (TX2 3).2.1 (TX2 3).2.2.1 ∈ gw_ := gw_t 206 rfl rfl
theorem g4_175 {a t : Nat} {fs : List Nat} (X : cx_ C G RX4 cc nL ry d) (hd : decode cc pc = .ok (.getfield 175, 3)) (ha : ds_[a]? = some (.inr (2, fs))) (hf : fs[3]? = some (t + 3)) (k : wq_ C G Q (pc + 3) lv (.ref (G.1 t) :: st) M) : wq_ C G Q pc lv (.ref (G.1 a) :: st) M := w_get (j := 3) (f := t + 3) (ci := 2) X hd inG2 rfl (by decide) f4_175 hf ha k
set_option maxRecDepth 100000 in
theorem f2_16 : Cond.fieldLink RX2 16 (TX2 4).1 (TX2 4).2.1 (TX2 4).2.2.1 ∈ gw_ := gw_t 207 rfl rfl
set_option maxRecDepth 100000 in
theorem f10_134 : Cond.fieldLink RX10 134 (TX2 4).1 (TX2 4).2.1 (TX2 4).2.2.1 ∈ gw_ := gw_t 208 rfl rfl
theorem g10_134 {a t : Nat} {fs : List Nat} (X : cx_ C G RX10 cc nL ry d) (hd : decode cc pc = .ok (.getfield 134, 3)) (ha : ds_[a]? = some (.inr (2, fs))) (hf : fs[4]? = some (t + 3)) (k : wq_ C G Q (pc + 3) lv (.ref (G.1 t) :: st) M) : wq_ C G Q pc lv (.ref (G.1 a) :: st) M := w_get (j := 4) (f := t + 3) (ci := 2) X hd inG2 rfl (by decide) f10_134 hf ha k
set_option maxRecDepth 100000 in
theorem f4_171 : Cond.fieldLink RX4 171 (TX2 4).1 (TX2 4).2.1 (TX2 4).2.2.1 ∈ gw_ := gw_t 209 rfl rfl
theorem g4_171 {a t : Nat} {fs : List Nat} (X : cx_ C G RX4 cc nL ry d) (hd : decode cc pc = .ok (.getfield 171, 3)) (ha : ds_[a]? = some (.inr (2, fs))) (hf : fs[4]? = some (t + 3)) (k : wq_ C G Q (pc + 3) lv (.ref (G.1 t) :: st) M) : wq_ C G Q pc lv (.ref (G.1 a) :: st) M := w_get (j := 4) (f := t + 3) (ci := 2) X hd inG2 rfl (by decide) f4_171 hf ha k
set_option maxRecDepth 100000 in
theorem f2_29 : Cond.fieldLink RX2 29 (TX2 5).1 (TX2 5).2.1 (TX2 5).2.2.1 ∈ gw_ := gw_t 210 rfl rfl
theorem p2_29 {a : Nat} {fs : List Nat} {x : Int32} (X : cx_ C G RX2 cc nL ry d) (hd : decode cc pc = .ok (.putfield 29, 3)) (ha : ds_[a]? = some (.inr (2, fs))) (hf : fs[5]? = some 0) (hz : x = 0 ∨ x = 1) (k : wq_ C G Q (pc + 3) lv st (sI_ M a 5 x)) : wq_ C G Q pc lv (.int x :: .ref (G.1 a) :: st) M := w_putI (j := 5) (ci := 2) (ty := .boolean) X hd inG2 tyX2_ok nmX2 rfl (by decide) f2_29 rfl (by decide +kernel) hf ha (zb_ hz).1 (zb_ hz).2 k
set_option maxRecDepth 100000 in
theorem f10_137 : Cond.fieldLink RX10 137 (TX2 5).1 (TX2 5).2.1 (TX2 5).2.2.1 ∈ gw_ := gw_t 211 rfl rfl
theorem p10_137 {a : Nat} {fs : List Nat} {x : Int32} (X : cx_ C G RX10 cc nL ry d) (hd : decode cc pc = .ok (.putfield 137, 3)) (ha : ds_[a]? = some (.inr (2, fs))) (hf : fs[5]? = some 0) (hz : x = 0 ∨ x = 1) (k : wq_ C G Q (pc + 3) lv st (sI_ M a 5 x)) : wq_ C G Q pc lv (.int x :: .ref (G.1 a) :: st) M := w_putI (j := 5) (ci := 2) (ty := .boolean) X hd inG2 tyX2_ok nmX2 rfl (by decide) f10_137 rfl (by decide +kernel) hf ha (zb_ hz).1 (zb_ hz).2 k
set_option maxRecDepth 100000 in
theorem f4_168 : Cond.fieldLink RX4 168 (TX2 5).1 (TX2 5).2.1 (TX2 5).2.2.1 ∈ gw_ := gw_t 212 rfl rfl
theorem g4_168 {a : Nat} {fs : List Nat} (X : cx_ C G RX4 cc nL ry d) (hd : decode cc pc = .ok (.getfield 168, 3)) (ha : ds_[a]? = some (.inr (2, fs))) (hf : fs[5]? = some 0) (k : wq_ C G Q (pc + 3) lv (.int (M.1 a 5) :: st) M) : wq_ C G Q pc lv (.ref (G.1 a) :: st) M := w_get (j := 5) (f := 0) (ci := 2) X hd inG2 rfl (by decide) f4_168 hf ha k
set_option maxRecDepth 100000 in
theorem f2_33 : Cond.fieldLink RX2 33 (TX2 6).1 (TX2 6).2.1 (TX2 6).2.2.1 ∈ gw_ := gw_t 213 rfl rfl
theorem g2_33 {a : Nat} {fs : List Nat} (X : cx_ C G RX2 cc nL ry d) (hd : decode cc pc = .ok (.getfield 33, 3)) (ha : ds_[a]? = some (.inr (2, fs))) (hf : fs[6]? = some 0) (k : wq_ C G Q (pc + 3) lv (.int (M.1 a 6) :: st) M) : wq_ C G Q pc lv (.ref (G.1 a) :: st) M := w_get (j := 6) (f := 0) (ci := 2) X hd inG2 rfl (by decide) f2_33 hf ha k
theorem p2_33 {a : Nat} {fs : List Nat} {x : Int32} (X : cx_ C G RX2 cc nL ry d) (hd : decode cc pc = .ok (.putfield 33, 3)) (ha : ds_[a]? = some (.inr (2, fs))) (hf : fs[6]? = some 0) (k : wq_ C G Q (pc + 3) lv st (sI_ M a 6 x)) : wq_ C G Q pc lv (.int x :: .ref (G.1 a) :: st) M := w_putI (j := 6) (ci := 2) (ty := .int) X hd inG2 tyX2_ok nmX2 rfl (by decide) f2_33 rfl (by decide +kernel) hf ha rfl rfl k
set_option maxRecDepth 100000 in
theorem f10_144 : Cond.fieldLink RX10 144 (TX2 6).1 (TX2 6).2.1 (TX2 6).2.2.1 ∈ gw_ := gw_t 214 rfl rfl
theorem p10_144 {a : Nat} {fs : List Nat} {x : Int32} (X : cx_ C G RX10 cc nL ry d) (hd : decode cc pc = .ok (.putfield 144, 3)) (ha : ds_[a]? = some (.inr (2, fs))) (hf : fs[6]? = some 0) (k : wq_ C G Q (pc + 3) lv st (sI_ M a 6 x)) : wq_ C G Q pc lv (.int x :: .ref (G.1 a) :: st) M := w_putI (j := 6) (ci := 2) (ty := .int) X hd inG2 tyX2_ok nmX2 rfl (by decide) f10_144 rfl (by decide +kernel) hf ha rfl rfl k
set_option maxRecDepth 100000 in
theorem f2_36 : Cond.fieldLink RX2 36 (TX2 7).1 (TX2 7).2.1 (TX2 7).2.2.1 ∈ gw_ := gw_t 215 rfl rfl
theorem g2_36 {a : Nat} {fs : List Nat} (X : cx_ C G RX2 cc nL ry d) (hd : decode cc pc = .ok (.getfield 36, 3)) (ha : ds_[a]? = some (.inr (2, fs))) (hf : fs[7]? = some 0) (k : wq_ C G Q (pc + 3) lv (.int (M.1 a 7) :: st) M) : wq_ C G Q pc lv (.ref (G.1 a) :: st) M := w_get (j := 7) (f := 0) (ci := 2) X hd inG2 rfl (by decide) f2_36 hf ha k
theorem p2_36 {a : Nat} {fs : List Nat} {x : Int32} (X : cx_ C G RX2 cc nL ry d) (hd : decode cc pc = .ok (.putfield 36, 3)) (ha : ds_[a]? = some (.inr (2, fs))) (hf : fs[7]? = some 0) (k : wq_ C G Q (pc + 3) lv st (sI_ M a 7 x)) : wq_ C G Q pc lv (.int x :: .ref (G.1 a) :: st) M := w_putI (j := 7) (ci := 2) (ty := .int) X hd inG2 tyX2_ok nmX2 rfl (by decide) f2_36 rfl (by decide +kernel) hf ha rfl rfl k
set_option maxRecDepth 100000 in
theorem f4_165 : Cond.fieldLink RX4 165 (TX2 7).1 (TX2 7).2.1 (TX2 7).2.2.1 ∈ gw_ := gw_t 216 rfl rfl
theorem g4_165 {a : Nat} {fs : List Nat} (X : cx_ C G RX4 cc nL ry d) (hd : decode cc pc = .ok (.getfield 165, 3)) (ha : ds_[a]? = some (.inr (2, fs))) (hf : fs[7]? = some 0) (k : wq_ C G Q (pc + 3) lv (.int (M.1 a 7) :: st) M) : wq_ C G Q pc lv (.ref (G.1 a) :: st) M := w_get (j := 7) (f := 0) (ci := 2) X hd inG2 rfl (by decide) f4_165 hf ha k
set_option maxRecDepth 100000 in
theorem f2_21 : Cond.fieldLink RX2 21 (TX2 8).1 (TX2 8).2.1 (TX2 8).2.2.1 ∈ gw_ := gw_t 217 rfl rfl
theorem g2_21 {a t : Nat} {fs : List Nat} (X : cx_ C G RX2 cc nL ry d) (hd : decode cc pc = .ok (.getfield 21, 3)) (ha : ds_[a]? = some (.inr (2, fs))) (hf : fs[8]? = some (t + 3)) (k : wq_ C G Q (pc + 3) lv (.ref (G.1 t) :: st) M) : wq_ C G Q pc lv (.ref (G.1 a) :: st) M := w_get (j := 8) (f := t + 3) (ci := 2) X hd inG2 rfl (by decide) f2_21 hf ha k
set_option maxRecDepth 100000 in
theorem f4_152 : Cond.fieldLink RX4 152 (TX2 8).1 (TX2 8).2.1 (TX2 8).2.2.1 ∈ gw_ := gw_t 218 rfl rfl
theorem g4_152 {a t : Nat} {fs : List Nat} (X : cx_ C G RX4 cc nL ry d) (hd : decode cc pc = .ok (.getfield 152, 3)) (ha : ds_[a]? = some (.inr (2, fs))) (hf : fs[8]? = some (t + 3)) (k : wq_ C G Q (pc + 3) lv (.ref (G.1 t) :: st) M) : wq_ C G Q pc lv (.ref (G.1 a) :: st) M := w_get (j := 8) (f := t + 3) (ci := 2) X hd inG2 rfl (by decide) f4_152 hf ha k
set_option maxRecDepth 100000 in
theorem f11_180 : Cond.fieldLink RX11 180 (TX2 8).1 (TX2 8).2.1 (TX2 8).2.2.1 ∈ gw_ := gw_t 219 rfl rfl
theorem g11_180 {a t : Nat} {fs : List Nat} (X : cx_ C G RX11 cc nL ry d) (hd : decode cc pc = .ok (.getfield 180, 3)) (ha : ds_[a]? = some (.inr (2, fs))) (hf : fs[8]? = some (t + 3)) (k : wq_ C G Q (pc + 3) lv (.ref (G.1 t) :: st) M) : wq_ C G Q pc lv (.ref (G.1 a) :: st) M := w_get (j := 8) (f := t + 3) (ci := 2) X hd inG2 rfl (by decide) f11_180 hf ha k
set_option maxRecDepth 100000 in
theorem f2_39 : Cond.fieldLink RX2 39 (TX2 9).1 (TX2 9).2.1 (TX2 9).2.2.1 ∈ gw_ := gw_t 220 rfl rfl
theorem g2_39 {a : Nat} {fs : List Nat} (X : cx_ C G RX2 cc nL ry d) (hd : decode cc pc = .ok (.getfield 39, 3)) (ha : ds_[a]? = some (.inr (2, fs))) (hf : fs[9]? = some 0) (k : wq_ C G Q (pc + 3) lv (.int (M.1 a 9) :: st) M) : wq_ C G Q pc lv (.ref (G.1 a) :: st) M := w_get (j := 9) (f := 0) (ci := 2) X hd inG2 rfl (by decide) f2_39 hf ha k
theorem p2_39 {a : Nat} {fs : List Nat} {x : Int32} (X : cx_ C G RX2 cc nL ry d) (hd : decode cc pc = .ok (.putfield 39, 3)) (ha : ds_[a]? = some (.inr (2, fs))) (hf : fs[9]? = some 0) (k : wq_ C G Q (pc + 3) lv st (sI_ M a 9 x)) : wq_ C G Q pc lv (.int x :: .ref (G.1 a) :: st) M := w_putI (j := 9) (ci := 2) (ty := .int) X hd inG2 tyX2_ok nmX2 rfl (by decide) f2_39 rfl (by decide +kernel) hf ha rfl rfl k
set_option maxRecDepth 100000 in
theorem f3_13 : Cond.fieldLink RX3 13 (TX3 0).1 (TX3 0).2.1 (TX3 0).2.2.1 ∈ gw_ := gw_t 242 rfl rfl
theorem g3_13 {a t : Nat} {fs : List Nat} (X : cx_ C G RX3 cc nL ry d) (hd : decode cc pc = .ok (.getfield 13, 3)) (ha : ds_[a]? = some (.inr (3, fs))) (hf : fs[0]? = some (t + 3)) (k : wq_ C G Q (pc + 3) lv (.ref (G.1 t) :: st) M) : wq_ C G Q pc lv (.ref (G.1 a) :: st) M := w_get (j := 0) (f := t + 3) (ci := 3) X hd inG3 rfl (by decide) f3_13 hf ha k
set_option maxRecDepth 100000 in
theorem f3_18 : Cond.fieldLink RX3 18 (TX3 1).1 (TX3 1).2.1 (TX3 1).2.2.1 ∈ gw_ := gw_t 243 rfl rfl
theorem r3_18 {a t : Nat} {fs : List Nat} (X : cx_ C G RX3 cc nL ry d) (hd : decode cc pc = .ok (.getfield 18, 3)) (ha : ds_[a]? = some (.inr (3, fs))) (hf : fs[1]? = some 2) (hv : M.2.2 a 1 = some t) (k : wq_ C G Q (pc + 3) lv (.ref (G.1 t) :: st) M) : wq_ C G Q pc lv (.ref (G.1 a) :: st) M := w_get (j := 1) (f := 2) (ci := 3) X hd inG3 rfl (by decide) f3_18 hf ha (by rw [fv_, hv]; exact k)
theorem p3_18 {a x : Nat} {fs : List Nat} (X : cx_ C G RX3 cc nL ry d) (hd : decode cc pc = .ok (.putfield 18, 3)) (ha : ds_[a]? = some (.inr (3, fs))) (hf : fs[1]? = some 2) (k : wq_ C G Q (pc + 3) lv st (sR_ M a 1 (some x))) : wq_ C G Q pc lv (.ref (G.1 x) :: .ref (G.1 a) :: st) M := w_putR (j := 1) (ci := 3) (ty := tyX3 1) X hd inG3 tyX3_ok nmX3 rfl (by decide) f3_18 rfl (by decide +kernel) hf ha rfl rfl k
set_option maxRecDepth 100000 in
theorem f11_109 : Cond.fieldLink RX11 109 (TX3 1).1 (TX3 1).2.1 (TX3 1).2.2.1 ∈ gw_ := gw_t 244 rfl rfl
theorem r11_109 {a t : Nat} {fs : List Nat} (X : cx_ C G RX11 cc nL ry d) (hd : decode cc pc = .ok (.getfield 109, 3)) (ha : ds_[a]? = some (.inr (3, fs))) (hf : fs[1]? = some 2) (hv : M.2.2 a 1 = some t) (k : wq_ C G Q (pc + 3) lv (.ref (G.1 t) :: st) M) : wq_ C G Q pc lv (.ref (G.1 a) :: st) M := w_get (j := 1) (f := 2) (ci := 3) X hd inG3 rfl (by decide) f11_109 hf ha (by rw [fv_, hv]; exact k)
set_option maxRecDepth 100000 in
theorem f8_7 : Cond.fieldLink RX8 7 (TX8 0).1 (TX8 0).2.1 (TX8 0).2.2.1 ∈ gw_ := gw_t 256 rfl rfl
theorem g8_7 {a : Nat} {fs : List Nat} (X : cx_ C G RX8 cc nL ry d) (hd : decode cc pc = .ok (.getfield 7, 3)) (ha : ds_[a]? = some (.inr (7, fs))) (hf : fs[0]? = some 0) (k : wq_ C G Q (pc + 3) lv (.int (M.1 a 0) :: st) M) : wq_ C G Q pc lv (.ref (G.1 a) :: st) M := w_get (j := 0) (f := 0) (ci := 7) X hd inG8 rfl (by decide) f8_7 hf ha k
set_option maxRecDepth 100000 in
theorem f8_13 : Cond.fieldLink RX8 13 (TX8 1).1 (TX8 1).2.1 (TX8 1).2.2.1 ∈ gw_ := gw_t 257 rfl rfl
theorem g8_13 {a : Nat} {fs : List Nat} (X : cx_ C G RX8 cc nL ry d) (hd : decode cc pc = .ok (.getfield 13, 3)) (ha : ds_[a]? = some (.inr (7, fs))) (hf : fs[1]? = some 0) (k : wq_ C G Q (pc + 3) lv (.int (M.1 a 1) :: st) M) : wq_ C G Q pc lv (.ref (G.1 a) :: st) M := w_get (j := 1) (f := 0) (ci := 7) X hd inG8 rfl (by decide) f8_13 hf ha k
set_option maxRecDepth 100000 in
theorem f8_16 : Cond.fieldLink RX8 16 (TX8 2).1 (TX8 2).2.1 (TX8 2).2.2.1 ∈ gw_ := gw_t 258 rfl rfl
theorem g8_16 {a t : Nat} {fs : List Nat} (X : cx_ C G RX8 cc nL ry d) (hd : decode cc pc = .ok (.getfield 16, 3)) (ha : ds_[a]? = some (.inr (7, fs))) (hf : fs[2]? = some (t + 3)) (k : wq_ C G Q (pc + 3) lv (.ref (G.1 t) :: st) M) : wq_ C G Q pc lv (.ref (G.1 a) :: st) M := w_get (j := 2) (f := t + 3) (ci := 7) X hd inG8 rfl (by decide) f8_16 hf ha k
set_option maxRecDepth 100000 in
theorem f8_20 : Cond.fieldLink RX8 20 (TX8 3).1 (TX8 3).2.1 (TX8 3).2.2.1 ∈ gw_ := gw_t 259 rfl rfl
theorem g8_20 {a : Nat} {fs : List Nat} (X : cx_ C G RX8 cc nL ry d) (hd : decode cc pc = .ok (.getfield 20, 3)) (ha : ds_[a]? = some (.inr (7, fs))) (hf : fs[3]? = some 0) (k : wq_ C G Q (pc + 3) lv (.int (M.1 a 3) :: st) M) : wq_ C G Q pc lv (.ref (G.1 a) :: st) M := w_get (j := 3) (f := 0) (ci := 7) X hd inG8 rfl (by decide) f8_20 hf ha k
theorem p8_20 {a : Nat} {fs : List Nat} {x : Int32} (X : cx_ C G RX8 cc nL ry d) (hd : decode cc pc = .ok (.putfield 20, 3)) (ha : ds_[a]? = some (.inr (7, fs))) (hf : fs[3]? = some 0) (k : wq_ C G Q (pc + 3) lv st (sI_ M a 3 x)) : wq_ C G Q pc lv (.int x :: .ref (G.1 a) :: st) M := w_putI (j := 3) (ci := 7) (ty := .int) X hd inG8 tyX8_ok nmX8 rfl (by decide) f8_20 rfl (by decide +kernel) hf ha rfl rfl k
set_option maxRecDepth 100000 in
theorem f11_159 : Cond.fieldLink RX11 159 (TX8 3).1 (TX8 3).2.1 (TX8 3).2.2.1 ∈ gw_ := gw_t 260 rfl rfl
theorem g11_159 {a : Nat} {fs : List Nat} (X : cx_ C G RX11 cc nL ry d) (hd : decode cc pc = .ok (.getfield 159, 3)) (ha : ds_[a]? = some (.inr (7, fs))) (hf : fs[3]? = some 0) (k : wq_ C G Q (pc + 3) lv (.int (M.1 a 3) :: st) M) : wq_ C G Q pc lv (.ref (G.1 a) :: st) M := w_get (j := 3) (f := 0) (ci := 7) X hd inG8 rfl (by decide) f11_159 hf ha k
theorem p11_159 {a : Nat} {fs : List Nat} {x : Int32} (X : cx_ C G RX11 cc nL ry d) (hd : decode cc pc = .ok (.putfield 159, 3)) (ha : ds_[a]? = some (.inr (7, fs))) (hf : fs[3]? = some 0) (k : wq_ C G Q (pc + 3) lv st (sI_ M a 3 x)) : wq_ C G Q pc lv (.int x :: .ref (G.1 a) :: st) M := w_putI (j := 3) (ci := 7) (ty := .int) X hd inG8 tyX8_ok nmX8 rfl (by decide) f11_159 rfl (by decide +kernel) hf ha rfl rfl k
set_option maxRecDepth 100000 in
theorem f4_55 : Cond.fieldLink RX4 55 (TX4 0).1 (TX4 0).2.1 (TX4 0).2.2.1 ∈ gw_ := gw_t 278 rfl rfl
theorem p4_55 {a : Nat} {fs : List Nat} {x : Int32} (X : cx_ C G RX4 cc nL ry d) (hd : decode cc pc = .ok (.putfield 55, 3)) (ha : ds_[a]? = some (.inr (4, fs))) (hf : fs[0]? = some 0) (k : wq_ C G Q (pc + 3) lv st (sI_ M a 0 x)) : wq_ C G Q pc lv (.int x :: .ref (G.1 a) :: st) M := w_putI (j := 0) (ci := 4) (ty := .int) X hd inG4 tyX4_ok nmX4 rfl (by decide) f4_55 rfl (by decide +kernel) hf ha rfl rfl k
set_option maxRecDepth 100000 in
theorem f11_153 : Cond.fieldLink RX11 153 (TX4 0).1 (TX4 0).2.1 (TX4 0).2.2.1 ∈ gw_ := gw_t 279 rfl rfl
theorem g11_153 {a : Nat} {fs : List Nat} (X : cx_ C G RX11 cc nL ry d) (hd : decode cc pc = .ok (.getfield 153, 3)) (ha : ds_[a]? = some (.inr (4, fs))) (hf : fs[0]? = some 0) (k : wq_ C G Q (pc + 3) lv (.int (M.1 a 0) :: st) M) : wq_ C G Q pc lv (.ref (G.1 a) :: st) M := w_get (j := 0) (f := 0) (ci := 4) X hd inG4 rfl (by decide) f11_153 hf ha k
set_option maxRecDepth 100000 in
theorem f4_41 : Cond.fieldLink RX4 41 (TX4 1).1 (TX4 1).2.1 (TX4 1).2.2.1 ∈ gw_ := gw_t 280 rfl rfl
theorem g4_41 {a : Nat} {fs : List Nat} (X : cx_ C G RX4 cc nL ry d) (hd : decode cc pc = .ok (.getfield 41, 3)) (ha : ds_[a]? = some (.inr (4, fs))) (hf : fs[1]? = some 0) (k : wq_ C G Q (pc + 3) lv (.int (M.1 a 1) :: st) M) : wq_ C G Q pc lv (.ref (G.1 a) :: st) M := w_get (j := 1) (f := 0) (ci := 4) X hd inG4 rfl (by decide) f4_41 hf ha k
theorem p4_41 {a : Nat} {fs : List Nat} {x : Int32} (X : cx_ C G RX4 cc nL ry d) (hd : decode cc pc = .ok (.putfield 41, 3)) (ha : ds_[a]? = some (.inr (4, fs))) (hf : fs[1]? = some 0) (k : wq_ C G Q (pc + 3) lv st (sI_ M a 1 x)) : wq_ C G Q pc lv (.int x :: .ref (G.1 a) :: st) M := w_putI (j := 1) (ci := 4) (ty := .int) X hd inG4 tyX4_ok nmX4 rfl (by decide) f4_41 rfl (by decide +kernel) hf ha rfl rfl k
set_option maxRecDepth 100000 in
theorem f11_156 : Cond.fieldLink RX11 156 (TX4 1).1 (TX4 1).2.1 (TX4 1).2.2.1 ∈ gw_ := gw_t 281 rfl rfl
theorem g11_156 {a : Nat} {fs : List Nat} (X : cx_ C G RX11 cc nL ry d) (hd : decode cc pc = .ok (.getfield 156, 3)) (ha : ds_[a]? = some (.inr (4, fs))) (hf : fs[1]? = some 0) (k : wq_ C G Q (pc + 3) lv (.int (M.1 a 1) :: st) M) : wq_ C G Q pc lv (.ref (G.1 a) :: st) M := w_get (j := 1) (f := 0) (ci := 4) X hd inG4 rfl (by decide) f11_156 hf ha k
set_option maxRecDepth 100000 in
theorem f4_9 : Cond.fieldLink RX4 9 (TX4 2).1 (TX4 2).2.1 (TX4 2).2.2.1 ∈ gw_ := gw_t 282 rfl rfl
theorem g4_9 {a t : Nat} {fs : List Nat} (X : cx_ C G RX4 cc nL ry d) (hd : decode cc pc = .ok (.getfield 9, 3)) (ha : ds_[a]? = some (.inr (4, fs))) (hf : fs[2]? = some (t + 3)) (k : wq_ C G Q (pc + 3) lv (.ref (G.1 t) :: st) M) : wq_ C G Q pc lv (.ref (G.1 a) :: st) M := w_get (j := 2) (f := t + 3) (ci := 4) X hd inG4 rfl (by decide) f4_9 hf ha k
set_option maxRecDepth 100000 in
theorem f4_15 : Cond.fieldLink RX4 15 (TX4 3).1 (TX4 3).2.1 (TX4 3).2.2.1 ∈ gw_ := gw_t 283 rfl rfl
theorem g4_15 {a t : Nat} {fs : List Nat} (X : cx_ C G RX4 cc nL ry d) (hd : decode cc pc = .ok (.getfield 15, 3)) (ha : ds_[a]? = some (.inr (4, fs))) (hf : fs[3]? = some (t + 3)) (k : wq_ C G Q (pc + 3) lv (.ref (G.1 t) :: st) M) : wq_ C G Q pc lv (.ref (G.1 a) :: st) M := w_get (j := 3) (f := t + 3) (ci := 4) X hd inG4 rfl (by decide) f4_15 hf ha k
set_option maxRecDepth 100000 in
theorem f4_19 : Cond.fieldLink RX4 19 (TX4 4).1 (TX4 4).2.1 (TX4 4).2.2.1 ∈ gw_ := gw_t 284 rfl rfl
theorem g4_19 {a t : Nat} {fs : List Nat} (X : cx_ C G RX4 cc nL ry d) (hd : decode cc pc = .ok (.getfield 19, 3)) (ha : ds_[a]? = some (.inr (4, fs))) (hf : fs[4]? = some (t + 3)) (k : wq_ C G Q (pc + 3) lv (.ref (G.1 t) :: st) M) : wq_ C G Q pc lv (.ref (G.1 a) :: st) M := w_get (j := 4) (f := t + 3) (ci := 4) X hd inG4 rfl (by decide) f4_19 hf ha k
set_option maxRecDepth 100000 in
theorem f4_23 : Cond.fieldLink RX4 23 (TX4 5).1 (TX4 5).2.1 (TX4 5).2.2.1 ∈ gw_ := gw_t 285 rfl rfl
theorem g4_23 {a t : Nat} {fs : List Nat} (X : cx_ C G RX4 cc nL ry d) (hd : decode cc pc = .ok (.getfield 23, 3)) (ha : ds_[a]? = some (.inr (4, fs))) (hf : fs[5]? = some (t + 3)) (k : wq_ C G Q (pc + 3) lv (.ref (G.1 t) :: st) M) : wq_ C G Q pc lv (.ref (G.1 a) :: st) M := w_get (j := 5) (f := t + 3) (ci := 4) X hd inG4 rfl (by decide) f4_23 hf ha k
set_option maxRecDepth 100000 in
theorem f4_28 : Cond.fieldLink RX4 28 (TX4 6).1 (TX4 6).2.1 (TX4 6).2.2.1 ∈ gw_ := gw_t 286 rfl rfl
theorem g4_28 {a t : Nat} {fs : List Nat} (X : cx_ C G RX4 cc nL ry d) (hd : decode cc pc = .ok (.getfield 28, 3)) (ha : ds_[a]? = some (.inr (4, fs))) (hf : fs[6]? = some (t + 3)) (k : wq_ C G Q (pc + 3) lv (.ref (G.1 t) :: st) M) : wq_ C G Q pc lv (.ref (G.1 a) :: st) M := w_get (j := 6) (f := t + 3) (ci := 4) X hd inG4 rfl (by decide) f4_28 hf ha k
set_option maxRecDepth 100000 in
theorem f4_33 : Cond.fieldLink RX4 33 (TX4 7).1 (TX4 7).2.1 (TX4 7).2.2.1 ∈ gw_ := gw_t 287 rfl rfl
theorem g4_33 {a t : Nat} {fs : List Nat} (X : cx_ C G RX4 cc nL ry d) (hd : decode cc pc = .ok (.getfield 33, 3)) (ha : ds_[a]? = some (.inr (4, fs))) (hf : fs[7]? = some (t + 3)) (k : wq_ C G Q (pc + 3) lv (.ref (G.1 t) :: st) M) : wq_ C G Q pc lv (.ref (G.1 a) :: st) M := w_get (j := 7) (f := t + 3) (ci := 4) X hd inG4 rfl (by decide) f4_33 hf ha k
set_option maxRecDepth 100000 in
theorem f4_48 : Cond.fieldLink RX4 48 (TX4 8).1 (TX4 8).2.1 (TX4 8).2.2.1 ∈ gw_ := gw_t 288 rfl rfl
theorem g4_48 {a : Nat} {fs : List Nat} (X : cx_ C G RX4 cc nL ry d) (hd : decode cc pc = .ok (.getfield 48, 3)) (ha : ds_[a]? = some (.inr (4, fs))) (hf : fs[8]? = some 0) (k : wq_ C G Q (pc + 3) lv (.int (M.1 a 8) :: st) M) : wq_ C G Q pc lv (.ref (G.1 a) :: st) M := w_get (j := 8) (f := 0) (ci := 4) X hd inG4 rfl (by decide) f4_48 hf ha k
theorem p4_48 {a : Nat} {fs : List Nat} {x : Int32} (X : cx_ C G RX4 cc nL ry d) (hd : decode cc pc = .ok (.putfield 48, 3)) (ha : ds_[a]? = some (.inr (4, fs))) (hf : fs[8]? = some 0) (k : wq_ C G Q (pc + 3) lv st (sI_ M a 8 x)) : wq_ C G Q pc lv (.int x :: .ref (G.1 a) :: st) M := w_putI (j := 8) (ci := 4) (ty := .int) X hd inG4 tyX4_ok nmX4 rfl (by decide) f4_48 rfl (by decide +kernel) hf ha rfl rfl k
set_option maxRecDepth 100000 in
theorem f4_37 : Cond.fieldLink RX4 37 (TX4 9).1 (TX4 9).2.1 (TX4 9).2.2.1 ∈ gw_ := gw_t 289 rfl rfl
theorem g4_37 {a : Nat} {fs : List Nat} (X : cx_ C G RX4 cc nL ry d) (hd : decode cc pc = .ok (.getfield 37, 3)) (ha : ds_[a]? = some (.inr (4, fs))) (hf : fs[9]? = some 0) (k : wq_ C G Q (pc + 3) lv (.int (M.1 a 9) :: st) M) : wq_ C G Q pc lv (.ref (G.1 a) :: st) M := w_get (j := 9) (f := 0) (ci := 4) X hd inG4 rfl (by decide) f4_37 hf ha k
theorem p4_37 {a : Nat} {fs : List Nat} {x : Int32} (X : cx_ C G RX4 cc nL ry d) (hd : decode cc pc = .ok (.putfield 37, 3)) (ha : ds_[a]? = some (.inr (4, fs))) (hf : fs[9]? = some 0) (hz : x = 0 ∨ x = 1) (k : wq_ C G Q (pc + 3) lv st (sI_ M a 9 x)) : wq_ C G Q pc lv (.int x :: .ref (G.1 a) :: st) M := w_putI (j := 9) (ci := 4) (ty := .boolean) X hd inG4 tyX4_ok nmX4 rfl (by decide) f4_37 rfl (by decide +kernel) hf ha (zb_ hz).1 (zb_ hz).2 k
set_option maxRecDepth 100000 in
theorem f4_58 : Cond.fieldLink RX4 58 (TX4 10).1 (TX4 10).2.1 (TX4 10).2.2.1 ∈ gw_ := gw_t 290 rfl rfl
theorem g4_58 {a : Nat} {fs : List Nat} (X : cx_ C G RX4 cc nL ry d) (hd : decode cc pc = .ok (.getfield 58, 3)) (ha : ds_[a]? = some (.inr (4, fs))) (hf : fs[10]? = some 0) (k : wq_ C G Q (pc + 3) lv (.int (M.1 a 10) :: st) M) : wq_ C G Q pc lv (.ref (G.1 a) :: st) M := w_get (j := 10) (f := 0) (ci := 4) X hd inG4 rfl (by decide) f4_58 hf ha k
theorem p4_58 {a : Nat} {fs : List Nat} {x : Int32} (X : cx_ C G RX4 cc nL ry d) (hd : decode cc pc = .ok (.putfield 58, 3)) (ha : ds_[a]? = some (.inr (4, fs))) (hf : fs[10]? = some 0) (hz : x = 0 ∨ x = 1) (k : wq_ C G Q (pc + 3) lv st (sI_ M a 10 x)) : wq_ C G Q pc lv (.int x :: .ref (G.1 a) :: st) M := w_putI (j := 10) (ci := 4) (ty := .boolean) X hd inG4 tyX4_ok nmX4 rfl (by decide) f4_58 rfl (by decide +kernel) hf ha (zb_ hz).1 (zb_ hz).2 k
set_option maxRecDepth 100000 in
theorem f4_88 : Cond.fieldLink RX4 88 (TX4 11).1 (TX4 11).2.1 (TX4 11).2.2.1 ∈ gw_ := gw_t 291 rfl rfl
theorem g4_88 {a : Nat} {fs : List Nat} (X : cx_ C G RX4 cc nL ry d) (hd : decode cc pc = .ok (.getfield 88, 3)) (ha : ds_[a]? = some (.inr (4, fs))) (hf : fs[11]? = some 0) (k : wq_ C G Q (pc + 3) lv (.int (M.1 a 11) :: st) M) : wq_ C G Q pc lv (.ref (G.1 a) :: st) M := w_get (j := 11) (f := 0) (ci := 4) X hd inG4 rfl (by decide) f4_88 hf ha k
theorem p4_88 {a : Nat} {fs : List Nat} {x : Int32} (X : cx_ C G RX4 cc nL ry d) (hd : decode cc pc = .ok (.putfield 88, 3)) (ha : ds_[a]? = some (.inr (4, fs))) (hf : fs[11]? = some 0) (k : wq_ C G Q (pc + 3) lv st (sI_ M a 11 x)) : wq_ C G Q pc lv (.int x :: .ref (G.1 a) :: st) M := w_putI (j := 11) (ci := 4) (ty := .int) X hd inG4 tyX4_ok nmX4 rfl (by decide) f4_88 rfl (by decide +kernel) hf ha rfl rfl k
set_option maxRecDepth 100000 in
theorem f4_45 : Cond.fieldLink RX4 45 (TX4 12).1 (TX4 12).2.1 (TX4 12).2.2.1 ∈ gw_ := gw_t 292 rfl rfl
theorem g4_45 {a : Nat} {fs : List Nat} (X : cx_ C G RX4 cc nL ry d) (hd : decode cc pc = .ok (.getfield 45, 3)) (ha : ds_[a]? = some (.inr (4, fs))) (hf : fs[12]? = some 0) (k : wq_ C G Q (pc + 3) lv (.int (M.1 a 12) :: st) M) : wq_ C G Q pc lv (.ref (G.1 a) :: st) M := w_get (j := 12) (f := 0) (ci := 4) X hd inG4 rfl (by decide) f4_45 hf ha k
theorem p4_45 {a : Nat} {fs : List Nat} {x : Int32} (X : cx_ C G RX4 cc nL ry d) (hd : decode cc pc = .ok (.putfield 45, 3)) (ha : ds_[a]? = some (.inr (4, fs))) (hf : fs[12]? = some 0) (hz : x = 0 ∨ x = 1) (k : wq_ C G Q (pc + 3) lv st (sI_ M a 12 x)) : wq_ C G Q pc lv (.int x :: .ref (G.1 a) :: st) M := w_putI (j := 12) (ci := 4) (ty := .boolean) X hd inG4 tyX4_ok nmX4 rfl (by decide) f4_45 rfl (by decide +kernel) hf ha (zb_ hz).1 (zb_ hz).2 k
set_option maxRecDepth 100000 in
theorem f11_10 : Cond.fieldLink RX11 10 (TX11 0).1 (TX11 0).2.1 (TX11 0).2.2.1 ∈ gw_ := gw_t 320 rfl rfl
theorem g11_10 {a t : Nat} {fs : List Nat} (X : cx_ C G RX11 cc nL ry d) (hd : decode cc pc = .ok (.getfield 10, 3)) (ha : ds_[a]? = some (.inr (10, fs))) (hf : fs[0]? = some (t + 3)) (k : wq_ C G Q (pc + 3) lv (.ref (G.1 t) :: st) M) : wq_ C G Q pc lv (.ref (G.1 a) :: st) M := w_get (j := 0) (f := t + 3) (ci := 10) X hd inG11 rfl (by decide) f11_10 hf ha k
set_option maxRecDepth 100000 in
theorem f11_21 : Cond.fieldLink RX11 21 (TX11 1).1 (TX11 1).2.1 (TX11 1).2.2.1 ∈ gw_ := gw_t 321 rfl rfl
theorem g11_21 {a t : Nat} {fs : List Nat} (X : cx_ C G RX11 cc nL ry d) (hd : decode cc pc = .ok (.getfield 21, 3)) (ha : ds_[a]? = some (.inr (10, fs))) (hf : fs[1]? = some (t + 3)) (k : wq_ C G Q (pc + 3) lv (.ref (G.1 t) :: st) M) : wq_ C G Q pc lv (.ref (G.1 a) :: st) M := w_get (j := 1) (f := t + 3) (ci := 10) X hd inG11 rfl (by decide) f11_21 hf ha k
set_option maxRecDepth 100000 in
theorem f11_30 : Cond.fieldLink RX11 30 (TX11 2).1 (TX11 2).2.1 (TX11 2).2.2.1 ∈ gw_ := gw_t 322 rfl rfl
theorem g11_30 {a t : Nat} {fs : List Nat} (X : cx_ C G RX11 cc nL ry d) (hd : decode cc pc = .ok (.getfield 30, 3)) (ha : ds_[a]? = some (.inr (10, fs))) (hf : fs[2]? = some (t + 3)) (k : wq_ C G Q (pc + 3) lv (.ref (G.1 t) :: st) M) : wq_ C G Q pc lv (.ref (G.1 a) :: st) M := w_get (j := 2) (f := t + 3) (ci := 10) X hd inG11 rfl (by decide) f11_30 hf ha k
set_option maxRecDepth 100000 in
theorem f11_37 : Cond.fieldLink RX11 37 (TX11 3).1 (TX11 3).2.1 (TX11 3).2.2.1 ∈ gw_ := gw_t 323 rfl rfl
theorem g11_37 {a t : Nat} {fs : List Nat} (X : cx_ C G RX11 cc nL ry d) (hd : decode cc pc = .ok (.getfield 37, 3)) (ha : ds_[a]? = some (.inr (10, fs))) (hf : fs[3]? = some (t + 3)) (k : wq_ C G Q (pc + 3) lv (.ref (G.1 t) :: st) M) : wq_ C G Q pc lv (.ref (G.1 a) :: st) M := w_get (j := 3) (f := t + 3) (ci := 10) X hd inG11 rfl (by decide) f11_37 hf ha k
set_option maxRecDepth 100000 in
theorem f11_44 : Cond.fieldLink RX11 44 (TX11 4).1 (TX11 4).2.1 (TX11 4).2.2.1 ∈ gw_ := gw_t 324 rfl rfl
theorem g11_44 {a t : Nat} {fs : List Nat} (X : cx_ C G RX11 cc nL ry d) (hd : decode cc pc = .ok (.getfield 44, 3)) (ha : ds_[a]? = some (.inr (10, fs))) (hf : fs[4]? = some (t + 3)) (k : wq_ C G Q (pc + 3) lv (.ref (G.1 t) :: st) M) : wq_ C G Q pc lv (.ref (G.1 a) :: st) M := w_get (j := 4) (f := t + 3) (ci := 10) X hd inG11 rfl (by decide) f11_44 hf ha k
set_option maxRecDepth 100000 in
theorem f11_53 : Cond.fieldLink RX11 53 (TX11 5).1 (TX11 5).2.1 (TX11 5).2.2.1 ∈ gw_ := gw_t 325 rfl rfl
theorem g11_53 {a t : Nat} {fs : List Nat} (X : cx_ C G RX11 cc nL ry d) (hd : decode cc pc = .ok (.getfield 53, 3)) (ha : ds_[a]? = some (.inr (10, fs))) (hf : fs[5]? = some (t + 3)) (k : wq_ C G Q (pc + 3) lv (.ref (G.1 t) :: st) M) : wq_ C G Q pc lv (.ref (G.1 a) :: st) M := w_get (j := 5) (f := t + 3) (ci := 10) X hd inG11 rfl (by decide) f11_53 hf ha k
set_option maxRecDepth 100000 in
theorem f11_57 : Cond.fieldLink RX11 57 (TX11 6).1 (TX11 6).2.1 (TX11 6).2.2.1 ∈ gw_ := gw_t 326 rfl rfl
theorem g11_57 {a t : Nat} {fs : List Nat} (X : cx_ C G RX11 cc nL ry d) (hd : decode cc pc = .ok (.getfield 57, 3)) (ha : ds_[a]? = some (.inr (10, fs))) (hf : fs[6]? = some (t + 3)) (k : wq_ C G Q (pc + 3) lv (.ref (G.1 t) :: st) M) : wq_ C G Q pc lv (.ref (G.1 a) :: st) M := w_get (j := 6) (f := t + 3) (ci := 10) X hd inG11 rfl (by decide) f11_57 hf ha k
set_option maxRecDepth 100000 in
theorem f11_65 : Cond.fieldLink RX11 65 (TX11 7).1 (TX11 7).2.1 (TX11 7).2.2.1 ∈ gw_ := gw_t 327 rfl rfl
theorem g11_65 {a t : Nat} {fs : List Nat} (X : cx_ C G RX11 cc nL ry d) (hd : decode cc pc = .ok (.getfield 65, 3)) (ha : ds_[a]? = some (.inr (10, fs))) (hf : fs[7]? = some (t + 3)) (k : wq_ C G Q (pc + 3) lv (.ref (G.1 t) :: st) M) : wq_ C G Q pc lv (.ref (G.1 a) :: st) M := w_get (j := 7) (f := t + 3) (ci := 10) X hd inG11 rfl (by decide) f11_65 hf ha k
end LINKX
