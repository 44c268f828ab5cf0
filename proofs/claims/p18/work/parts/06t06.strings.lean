/-! String constants (text i at G.1 (1000 + i), its bytes at G.1 (2000 + i)), and the JDK's methods on them -/
section STR
variable {C : mc_} {G : gg_} {Q : State → Prop} {pc : Nat} {lv : List (Option Value)} {st : List Value} {M : mm_} {own : String} {cc : ByteArray} {nL : Nat} {ry : Option FieldType} {d : Nat} {post : Option Value → mm_ → Prop}
theorem w_gets1 {index : Nat} (X : cx_ C G own cc nL ry d) (hd : decode cc pc = .ok (.getstatic index, 3)) (h1 : Cond.fieldLink own index "java/lang/String" "COMPACT_STRINGS" "Z" ∈ gw_) (k : wq_ C G Q (pc + 3) lv (.int 1 :: st) M) : wq_ C G Q pc lv st M := by
  obtain ⟨p, l, e, R, s, m, args, below, meth, c, cs, sl⟩ := C
  obtain ⟨hx, hb, hml, hrt, hown, hts, ⟨hK, hox⟩, hG, hbs, hlk, hfr, hlo, hcs, hsl⟩ := X
  intro H locs ls hl hP hS
  exact va_gets hx hb hox.2.2.2.2.1 hS hown (hts _ h1) (fun _ h => h) hd (k H locs ls hl hP hS)
theorem w_getsQ {index : Nat} (X : cx_ C G own cc nL ry d) (hd : decode cc pc = .ok (.getstatic index, 3)) (h1 : Cond.fieldLink own index "jdk/internal/util/Preconditions" "SIOOBE_FORMATTER" "Ljava/util/function/BiFunction;" ∈ gw_) (k0 : wq_ C G Q (pc + 3) lv (.null :: st) M) (k1 : ∀ t : Nat, wq_ C G Q (pc + 3) lv (.ref t :: st) M) : wq_ C G Q pc lv st M := by
  obtain ⟨p, l, e, R, s, m, args, below, meth, c, cs, sl⟩ := C
  obtain ⟨hx, hb, hml, hrt, hown, hts, ⟨hK, hox⟩, hG, hbs, hlk, hfr, hlo, hcs, hsl⟩ := X
  intro H locs ls hl hP hS
  rcases hox.2.2.2.2.2.2.2 with h | ⟨t, h⟩
  · exact va_gets hx hb h hS hown (hts _ h1) (fun _ h => h) hd (k0 H locs ls hl hP hS)
  · exact va_gets hx hb h hS hown (hts _ h1) (fun _ h => h) hd (k1 t H locs ls hl hP hS)
theorem w_sfv {index i : Nat} (X : cx_ C G own cc nL ry d) (hd : decode cc pc = .ok (.getfield index, 3)) (hi : i < 9) (h1 : Cond.fieldLink own index "java/lang/String" "value" "[B" ∈ gw_) (k : wq_ C G Q (pc + 3) lv (.ref (G.1 (2000 + i)) :: st) M) : wq_ C G Q pc lv (.ref (G.1 (1000 + i)) :: st) M := by
  obtain ⟨p, l, e, R, s, m, args, below, meth, c, cs, sl⟩ := C
  obtain ⟨hx, hb, hml, hrt, hown, hts, ⟨hK, hox⟩, hG, hbs, hlk, hfr, hlo, hcs, hsl⟩ := X
  intro H locs ls hl hP hS
  exact vk_getf hx hb (hox.2.2.2.1.1 i hi).2.2.1 hS hown (hts _ h1) (fun _ h => h) hd (k H locs ls hl hP hS)
theorem w_sfc {index i : Nat} (X : cx_ C G own cc nL ry d) (hd : decode cc pc = .ok (.getfield index, 3)) (hi : i < 9) (h1 : Cond.fieldLink own index "java/lang/String" "coder" "B" ∈ gw_) (k : wq_ C G Q (pc + 3) lv (.int 0 :: st) M) : wq_ C G Q pc lv (.ref (G.1 (1000 + i)) :: st) M := by
  obtain ⟨p, l, e, R, s, m, args, below, meth, c, cs, sl⟩ := C
  obtain ⟨hx, hb, hml, hrt, hown, hts, ⟨hK, hox⟩, hG, hbs, hlk, hfr, hlo, hcs, hsl⟩ := X
  intro H locs ls hl hP hS
  exact vk_getf hx hb (hox.2.2.2.1.1 i hi).2.1 hS hown (hts _ h1) (fun _ h => h) hd (k H locs ls hl hP hS)
theorem w_slen {i : Nat} (X : cx_ C G own cc nL ry d) (hd : decode cc pc = .ok (.arraylength, 1)) (hi : i < 9) (k : wq_ C G Q (pc + 1) lv (.int (nI (sLen_.getD i 0)) :: st) M) : wq_ C G Q pc lv (.ref (G.1 (2000 + i)) :: st) M := by
  obtain ⟨p, l, e, R, s, m, args, below, meth, c, cs, sl⟩ := C
  obtain ⟨hx, hb, hml, hrt, hown, hts, ⟨hK, hox⟩, hG, hbs, hlk, hfr, hlo, hcs, hsl⟩ := X
  intro H locs ls hl hP hS
  exact va_tlen hx hb (hox.2.2.2.1.1 i hi).2.2.2 hS rfl hd (k H locs ls hl hP hS)
theorem w_sba {i j : Nat} (X : cx_ C G own cc nL ry d) (hd : decode cc pc = .ok (.baload, 1)) (hi : i < 9) (hj : j < sLen_.getD i 0 ∧ j < 1000) (k : wq_ C G Q (pc + 1) lv (.int ((sByt_.getD i []).getD j 0) :: st) M) : wq_ C G Q pc lv (.int (nI j) :: .ref (G.1 (2000 + i)) :: st) M := by
  obtain ⟨p, l, e, R, s, m, args, below, meth, c, cs, sl⟩ := C
  obtain ⟨hx, hb, hml, hrt, hown, hts, ⟨hK, hox⟩, hG, hbs, hlk, hfr, hlo, hcs, hsl⟩ := X
  intro H locs ls hl hP hS
  have h8 : (nI j).toNatClampNeg = j := pk_cl j rfl (by omega)
  have h9 : sLen_.getD i 0 < 2147483648 := by
    have := (by decide : ∀ i, i < 9 → sLen_.getD i 0 < 2147483648) i hi
    exact this
  exact va_tb hx hb (hox.2.2.2.1.1 i hi).2.2.2 hS (vp_in_nI hj.1 h9) (by rw [h8]) hd (k H locs ls hl hP hS)
theorem w_i2b {x : Int32} (X : cx_ C G own cc nL ry d) (hd : decode cc pc = .ok (.i2b, 1)) (k : wq_ C G Q (pc + 1) lv (.int x.toInt8.toInt32 :: st) M) : wq_ C G Q pc lv (.int x :: st) M := by
  obtain ⟨p, l, e, R, s, m, args, below, meth, c, cs, sl⟩ := C
  obtain ⟨hx, hb, hml, hrt, hown, hts, ⟨hK, hox⟩, hG, hbs, hlk, hfr, hlo, hcs, hsl⟩ := X
  intro H locs ls hl hP hS
  exact lv_i2b hx hb hd rfl (k H locs ls hl hP hS)
theorem w_tret {x : Int32} {ty : FieldType} (X : cx_ C G own cc nL (some ty) d) (hd : decode cc pc = .ok (.ireturn, 1)) (hn : narrow ty (.int x) = .int x) (hp : post (some (.int x)) M) : wq_ C G (qe_ C G post) pc lv [.int x] M := by
  obtain ⟨p, l, e, R, s, m, args, below, meth, c, cs, sl⟩ := C
  obtain ⟨hx, hb, hml, hrt, hown, hts, ⟨hK, hox⟩, hG, hbs, hlk, hfr, hlo, hcs, hsl⟩ := X
  intro H locs ls hl hP hS
  exact W.zret hx hb hrt hn (fun t ht hW => ⟨⟨_, M, rfl, hp, by rw [ht]; exact hP⟩, hS.F ht⟩) hS.2.2 hd hlk
theorem w_callT (As : List Value) {y : MethodName} {cy : ByteArray} {ny idx i : Nat} {ry2 : Option FieldType} (X : cx_ C G own cc nL ry (d + 1)) (hd : decode cc pc = .ok (.invokevirtual idx, 3)) (hk : lk_ own idx y cy ny ry2 As.length) (hy : y.cls = "java/lang/String") (hi : i < 9) (hM : cm_ G y cy ny ry2 d (.ref (G.1 (1000 + i)) :: As) M post) (hr : (st.map fun v => v.category).sum ≤ 8)
    (k : ∀ (v : Option Value) (N : mm_), post v N → wq_ C G Q (pc + 3) lv (v.toList ++ st) N) : wq_ C G Q pc lv (As.reverse ++ .ref (G.1 (1000 + i)) :: st) M := by
  obtain ⟨p, l, e, R, s, m, args, below, meth, c, cs, sl⟩ := C
  obtain ⟨hx, hb, hml, hrt, hown, hts, ⟨hK, hox⟩, hG, hbs, hlk, hfr, hlo, hcs, hsl⟩ := X
  obtain ⟨k1, k2, k3, k4, k5, k6, k7⟩ := hk
  intro H locs ls hl hP hS
  have hgood : GoodIn gw_ (wsV own idx y.cls y (.code y cy ny ry2 :: gw_)) := fun w hw => by
    simp only [wsV, List.cons_append, List.nil_append, List.mem_cons] at hw
    rcases hw with rfl | rfl | rfl | rfl | rfl | h
    · exact gw_gg _ k1
    · exact gw_gg _ k2
    · exact gw_gg _ k3
    · exact gw_gg _ k4
    · exact gw_gg _ k5
    · exact gw_gg _ h
  have hrec := vk_recv (i := i) hox.2.2.2.1 hi hS
  rw [← hy] at hrec
  refine w_run (va_runV (As := As) (rest := st) ⟨hx, hb, hml, hown, hts⟩ (hM l) (cwV As.length hts hgood rfl rfl rfl ⟨rfl, k6⟩ ⟨hfr, by show 8 + (ny + 11) + 64 * d ≤ R.locals; omega⟩) ⟨pc_blind, hrec, fun U hU hW => ⟨rfl, by rw [hU]; exact Nat.le_trans hbs hS.1, by rw [hU]; exact hP, kw_call ⟨hK, hox⟩ hS hU hW⟩⟩ rfl rfl (hl.1.trans hml) rfl (lv_room hr) hd ⟨hcs, hsl⟩) hS (fun v N H1 locs1 hp hP1 hS1 => k v N hp H1 locs1 ls hl hP1 hS1)
theorem w_t0fI {r : Int32} {N : mm_} {y : MethodName} {cy : ByteArray} {ny idx i : Nat} {ry2 : Option FieldType} (X : cx_ C G own cc nL ry (d + 1)) (hd : decode cc pc = .ok (.invokevirtual idx, 3)) (hk : lk_ own idx y cy ny ry2 0) (hy : y.cls = "java/lang/String") (hi : i < 9) (hM : cm_ G y cy ny ry2 d (.ref (G.1 (1000 + i)) :: []) M (fI_ r N)) (hr : (st.map fun v => v.category).sum ≤ 8) (k : wq_ C G Q (pc + 3) lv (.int r :: st) N) : wq_ C G Q pc lv (.ref (G.1 (1000 + i)) :: st) M := w_callT [] X hd hk hy hi hM hr (fun v N2 h => by obtain ⟨rfl, rfl⟩ := h; exact k)
theorem w_t1fI {a1 : Value} {r : Int32} {N : mm_} {y : MethodName} {cy : ByteArray} {ny idx i : Nat} {ry2 : Option FieldType} (X : cx_ C G own cc nL ry (d + 1)) (hd : decode cc pc = .ok (.invokevirtual idx, 3)) (hk : lk_ own idx y cy ny ry2 1) (hy : y.cls = "java/lang/String") (hi : i < 9) (hM : cm_ G y cy ny ry2 d (.ref (G.1 (1000 + i)) :: [a1]) M (fI_ r N)) (hr : (st.map fun v => v.category).sum ≤ 8) (k : wq_ C G Q (pc + 3) lv (.int r :: st) N) : wq_ C G Q pc lv (a1 :: .ref (G.1 (1000 + i)) :: st) M := w_callT [a1] X hd hk hy hi hM hr (fun v N2 h => by obtain ⟨rfl, rfl⟩ := h; exact k)
theorem w_t2fI {a1 a2 : Value} {r : Int32} {N : mm_} {y : MethodName} {cy : ByteArray} {ny idx i : Nat} {ry2 : Option FieldType} (X : cx_ C G own cc nL ry (d + 1)) (hd : decode cc pc = .ok (.invokevirtual idx, 3)) (hk : lk_ own idx y cy ny ry2 2) (hy : y.cls = "java/lang/String") (hi : i < 9) (hM : cm_ G y cy ny ry2 d (.ref (G.1 (1000 + i)) :: [a1, a2]) M (fI_ r N)) (hr : (st.map fun v => v.category).sum ≤ 8) (k : wq_ C G Q (pc + 3) lv (.int r :: st) N) : wq_ C G Q pc lv (a2 :: a1 :: .ref (G.1 (1000 + i)) :: st) M := w_callT [a1, a2] X hd hk hy hi hM hr (fun v N2 h => by obtain ⟨rfl, rfl⟩ := h; exact k)
end STR
theorem fs_38 : Cond.fieldLink RJ0 38 "java/lang/String" "COMPACT_STRINGS" "Z" ∈ gw_ := gw_t 508 (by decide +kernel) rfl
theorem fs_1053 : Cond.fieldLink RJ0 1053 "jdk/internal/util/Preconditions" "SIOOBE_FORMATTER" "Ljava/util/function/BiFunction;" ∈ gw_ := gw_t 549 (by decide +kernel) rfl
theorem fs_15 : Cond.fieldLink RJ0 15 "java/lang/String" "coder" "B" ∈ gw_ := gw_of (by decide +kernel) (by decide)
theorem fs_9 : Cond.fieldLink RJ0 9 "java/lang/String" "value" "[B" ∈ gw_ := gw_of (by decide +kernel) (by decide)
theorem kJ0_492 : lk_ RJ0 492 yJ0_isLatin1_aae02 cJ0_isLatin1_aae02 1 (some .boolean) 0 := ⟨gw_t 504 (by decide +kernel) rfl, gw_t 505 (by decide +kernel) rfl, gw_t 506 (by decide +kernel) rfl, gw_t 19 (by decide +kernel) rfl, gw_t 507 (by decide +kernel) rfl, by decide +kernel, by decide⟩
theorem kJ0_335 : lk_ RJ0 335 yJ0_coder_7d493 cJ0_coder_7d493 1 (some .byte) 0 := ⟨gw_t 514 (by decide +kernel) rfl, gw_t 515 (by decide +kernel) rfl, gw_t 516 (by decide +kernel) rfl, gw_t 19 (by decide +kernel) rfl, gw_t 517 (by decide +kernel) rfl, by decide +kernel, by decide⟩
theorem kJ0_505 : lk_ RJ0 505 yJ0_length_8abf5 cJ0_length_8abf5 1 (some .int) 0 := ⟨gw_t 510 (by decide +kernel) rfl, gw_t 511 (by decide +kernel) rfl, gw_t 512 (by decide +kernel) rfl, gw_t 19 (by decide +kernel) rfl, gw_t 513 (by decide +kernel) rfl, by decide +kernel, by decide⟩
theorem kJ0_633 : lk_ RJ0 633 yJ0_indexOf_7cf53 cJ0_indexOf_7cf53 3 (some .int) 2 := ⟨gw_t 500 (by decide +kernel) rfl, gw_t 501 (by decide +kernel) rfl, gw_t 502 (by decide +kernel) rfl, gw_t 19 (by decide +kernel) rfl, gw_t 503 (by decide +kernel) rfl, by decide +kernel, by decide⟩
theorem kJ0_637 : ls_ RJ0 637 yJ1_indexOf_4cfef cJ1_indexOf_4cfef 4 (some .int) 4 := ⟨gw_t 518 (by decide +kernel) rfl, gw_t 519 (by decide +kernel) rfl, gw_t 20 (by decide +kernel) rfl, gw_t 520 (by decide +kernel) rfl, by decide +kernel, by decide⟩
theorem kJ1_88 : ls_ RJ1 88 yJ1_canEncode_9a6ad cJ1_canEncode_9a6ad 1 (some .boolean) 1 := ⟨gw_t 521 (by decide +kernel) rfl, gw_t 522 (by decide +kernel) rfl, gw_t 20 (by decide +kernel) rfl, gw_t 523 (by decide +kernel) rfl, by decide +kernel, by decide⟩
theorem kJ1_95 : ls_ RJ1 95 yJ1_indexOfChar_4cfef cJ1_indexOfChar_4cfef 6 (some .int) 4 := ⟨gw_t 528 (by decide +kernel) rfl, gw_t 529 (by decide +kernel) rfl, gw_t 20 (by decide +kernel) rfl, gw_t 530 (by decide +kernel) rfl, by decide +kernel, by decide⟩
theorem kJ0_495 : ls_ RJ0 495 yJ1_charAt_3b067 cJ1_charAt_3b067 2 (some .char) 2 := ⟨gw_t 674 (by decide +kernel) rfl, gw_t 675 (by decide +kernel) rfl, gw_t 20 (by decide +kernel) rfl, gw_t 676 (by decide +kernel) rfl, by decide +kernel, by decide⟩
theorem kJ1_9 : ls_ RJ1 9 yJ0_checkIndex_df160 cJ0_checkIndex_df160 2 none 2 := ⟨gw_t 677 (by decide +kernel) rfl, gw_t 678 (by decide +kernel) rfl, gw_t 19 (by decide +kernel) rfl, gw_t 679 (by decide +kernel) rfl, by decide +kernel, by decide⟩
theorem kJ0_1059 : ls_ RJ0 1059 yJ3_checkIndex_8e157 cJ3_checkIndex_8e157 3 (some .int) 3 := ⟨gw_t 680 (by decide +kernel) rfl, gw_t 681 (by decide +kernel) rfl, gw_t 22 (by decide +kernel) rfl, gw_t 682 (by decide +kernel) rfl, by decide +kernel, by decide⟩
set_option maxRecDepth 100000 in
set_option maxHeartbeats 4000000 in
theorem cJ0_coder (G : gg_) (hG : gd_ G) (d : Nat) (M : mm_) (i : Nat) (hi : i < 9) : cm_ G yJ0_coder_7d493 cJ0_coder_7d493 1 (some .byte) (d) [.ref (G.1 (1000 + i))] M (fI_ 0 M) := by
  refine cm_of hG (by decide) (Nat.le_of_ble_eq_true rfl) (fun C X => ?_)
  refine w_gets1 X dJ0_coder_7d493_0 fs_38 ?_
  refine w_if_eq (tgt := 13) X dJ0_coder_7d493_3 (by decide) (fun h3 => absurd h3 (by decide)) (fun h3 => ?_)
  refine w_aload_n X dJ0_coder_7d493_6 rfl rfl ?_
  refine w_sfc X dJ0_coder_7d493_7 hi fs_15 ?_
  refine w_goto (tgt := 14) X dJ0_coder_7d493_10 (by decide) ?_
  exact w_tret X dJ0_coder_7d493_14 rfl ⟨rfl, rfl⟩
set_option maxRecDepth 100000 in
set_option maxHeartbeats 4000000 in
theorem cJ0_isLatin1 (G : gg_) (hG : gd_ G) (d : Nat) (M : mm_) (i : Nat) (hi : i < 9) : cm_ G yJ0_isLatin1_aae02 cJ0_isLatin1_aae02 1 (some .boolean) (d) [.ref (G.1 (1000 + i))] M (fI_ 1 M) := by
  refine cm_of hG (by decide) (Nat.le_of_ble_eq_true rfl) (fun C X => ?_)
  refine w_gets1 X dJ0_isLatin1_aae02_0 fs_38 ?_
  refine w_if_eq (tgt := 17) X dJ0_isLatin1_aae02_3 (by decide) (fun h3 => absurd h3 (by decide)) (fun h3 => ?_)
  refine w_aload_n X dJ0_isLatin1_aae02_6 rfl rfl ?_
  refine w_sfc X dJ0_isLatin1_aae02_7 hi fs_15 ?_
  refine w_if_ne (tgt := 17) X dJ0_isLatin1_aae02_10 (by decide) (fun h10 => absurd rfl h10) (fun h10 => ?_)
  refine w_iconst (v := 1) X dJ0_isLatin1_aae02_13 (by decide) ?_
  refine w_goto (tgt := 18) X dJ0_isLatin1_aae02_14 (by decide) ?_
  exact w_zrF X dJ0_isLatin1_aae02_18 (Or.inr rfl) rfl rfl
theorem sL_lt : ∀ i, i < 9 → sLen_.getD i 0 < 100 := by decide
set_option maxRecDepth 100000 in
set_option maxHeartbeats 4000000 in
theorem cJ0_length (G : gg_) (hG : gd_ G) (d : Nat) (M : mm_) (i : Nat) (hi : i < 9) : cm_ G yJ0_length_8abf5 cJ0_length_8abf5 1 (some .int) (d + 1) [.ref (G.1 (1000 + i))] M (fI_ (nI (sLen_.getD i 0)) M) := by
  refine cm_of hG (by decide) (Nat.le_of_ble_eq_true rfl) (fun C X => ?_)
  refine w_aload_n X dJ0_length_8abf5_0 rfl rfl ?_
  refine w_sfv X dJ0_length_8abf5_1 hi fs_9 ?_
  refine w_slen X dJ0_length_8abf5_4 hi ?_
  refine w_aload_n X dJ0_length_8abf5_5 rfl rfl ?_
  refine w_t0fI X dJ0_length_8abf5_6 kJ0_335 rfl hi (cJ0_coder G hG _ _ i hi) (Nat.le_of_ble_eq_true rfl) ?_
  refine w_ishr X dJ0_length_8abf5_9 ?_
  have h9 := sL_lt i hi
  exact w_irF X dJ0_length_8abf5_10 (sc_shr0 (by omega)) rfl
set_option maxRecDepth 100000 in
set_option maxHeartbeats 4000000 in
theorem cJ3_ci0 (G : gg_) (hG : gd_ G) (d : Nat) (M : mm_) (j n : Nat) (hj : j < n) (hn : n < 1000) : cm_ G yJ3_checkIndex_8e157 cJ3_checkIndex_8e157 3 (some .int) (d) [.int (nI j), .int (nI n), .null] M (fI_ (nI j) M) := by
  refine cm_of hG (by decide) (Nat.le_of_ble_eq_true rfl) (fun C X => ?_)
  refine w_iload_n X dJ3_checkIndex_8e157_0 rfl rfl ?_
  refine w_if_lt (tgt := 9) X dJ3_checkIndex_8e157_1 (by decide) (fun h1 => absurd h1 (nI_pos (by omega))) (fun h1 => ?_)
  refine w_iload_n X dJ3_checkIndex_8e157_4 rfl rfl ?_
  refine w_iload_n X dJ3_checkIndex_8e157_5 rfl rfl ?_
  refine w_icmp_lt (tgt := 16) X dJ3_checkIndex_8e157_6 (by decide) (fun h6 => ?_) (fun h6 => absurd (nI_lt hj (by omega)) h6)
  refine w_iload_n X dJ3_checkIndex_8e157_16 rfl rfl ?_
  exact w_irF X dJ3_checkIndex_8e157_17 rfl rfl
set_option maxRecDepth 100000 in
set_option maxHeartbeats 4000000 in
theorem cJ3_ci1 (G : gg_) (hG : gd_ G) (d : Nat) (M : mm_) (j n : Nat) (hj : j < n) (hn : n < 1000) (t : Nat) : cm_ G yJ3_checkIndex_8e157 cJ3_checkIndex_8e157 3 (some .int) (d) [.int (nI j), .int (nI n), .ref t] M (fI_ (nI j) M) := by
  refine cm_of hG (by decide) (Nat.le_of_ble_eq_true rfl) (fun C X => ?_)
  refine w_iload_n X dJ3_checkIndex_8e157_0 rfl rfl ?_
  refine w_if_lt (tgt := 9) X dJ3_checkIndex_8e157_1 (by decide) (fun h1 => absurd h1 (nI_pos (by omega))) (fun h1 => ?_)
  refine w_iload_n X dJ3_checkIndex_8e157_4 rfl rfl ?_
  refine w_iload_n X dJ3_checkIndex_8e157_5 rfl rfl ?_
  refine w_icmp_lt (tgt := 16) X dJ3_checkIndex_8e157_6 (by decide) (fun h6 => ?_) (fun h6 => absurd (nI_lt hj (by omega)) h6)
  refine w_iload_n X dJ3_checkIndex_8e157_16 rfl rfl ?_
  exact w_irF X dJ3_checkIndex_8e157_17 rfl rfl
set_option maxRecDepth 100000 in
set_option maxHeartbeats 4000000 in
theorem cJ0_checkIndex (G : gg_) (hG : gd_ G) (d : Nat) (M : mm_) (j n : Nat) (hj : j < n) (hn : n < 1000) : cm_ G yJ0_checkIndex_df160 cJ0_checkIndex_df160 2 none (d + 1) [.int (nI j), .int (nI n)] M (fV_ M) := by
  refine cm_of hG (by decide) (Nat.le_of_ble_eq_true rfl) (fun C X => ?_)
  refine w_iload_n X dJ0_checkIndex_df160_0 rfl rfl ?_
  refine w_iload_n X dJ0_checkIndex_df160_1 rfl rfl ?_
  refine w_getsQ X dJ0_checkIndex_df160_2 fs_1053 ?_ (fun t => ?_)
  · refine w_s3fI X dJ0_checkIndex_df160_5 kJ0_1059 (cJ3_ci0 G hG _ _ j n hj hn) (Nat.le_of_ble_eq_true rfl) ?_
    refine w_pop X dJ0_checkIndex_df160_8 rfl ?_
    exact w_vrF X dJ0_checkIndex_df160_9 rfl
  · refine w_s3fI X dJ0_checkIndex_df160_5 kJ0_1059 (cJ3_ci1 G hG _ _ j n hj hn t) (Nat.le_of_ble_eq_true rfl) ?_
    refine w_pop X dJ0_checkIndex_df160_8 rfl ?_
    exact w_vrF X dJ0_checkIndex_df160_9 rfl
/-- the byte j of text i -/
def sC_ (i j : Nat) : Int32 := (sByt_.getD i []).getD j 0
theorem sC_c : ∀ i, i < 9 → ∀ j, j < sLen_.getD i 0 → ((sC_ i j &&& 255).toUInt32 % 65536).toInt32 = sC_ i j ∧ narrow .char (.int (sC_ i j)) = .int (sC_ i j) := by decide +kernel
set_option maxRecDepth 100000 in
set_option maxHeartbeats 4000000 in
theorem cJ1_charAt (G : gg_) (hG : gd_ G) (d : Nat) (M : mm_) (i j : Nat) (hi : i < 9) (hj : j < sLen_.getD i 0) : cm_ G yJ1_charAt_3b067 cJ1_charAt_3b067 2 (some .char) (d + 2) [.ref (G.1 (2000 + i)), .int (nI j)] M (fI_ (sC_ i j) M) := by
  refine cm_of hG (by decide) (Nat.le_of_ble_eq_true rfl) (fun C X => ?_)
  have h9 := sL_lt i hi
  refine w_iload_n X dJ1_charAt_3b067_0 rfl rfl ?_
  refine w_aload_n X dJ1_charAt_3b067_1 rfl rfl ?_
  refine w_slen X dJ1_charAt_3b067_2 hi ?_
  refine w_s2fV X dJ1_charAt_3b067_3 kJ1_9 (cJ0_checkIndex G hG _ _ j _ hj (by omega)) (Nat.le_of_ble_eq_true rfl) ?_
  refine w_aload_n X dJ1_charAt_3b067_6 rfl rfl ?_
  refine w_iload_n X dJ1_charAt_3b067_7 rfl rfl ?_
  refine w_sba X dJ1_charAt_3b067_8 hi ⟨hj, by omega⟩ ?_
  refine w_sipush (v := 255) X dJ1_charAt_3b067_9 (by decide) ?_
  refine w_iand X dJ1_charAt_3b067_12 ?_
  refine w_i2c X dJ1_charAt_3b067_13 ?_
  have h8 := sC_c i hi j hj
  unfold sC_ at h8
  rw [h8.1]
  exact w_tret X dJ1_charAt_3b067_14 h8.2 ⟨rfl, rfl⟩
set_option maxRecDepth 100000 in
set_option maxHeartbeats 4000000 in
theorem cJ0_charAt (G : gg_) (hG : gd_ G) (d : Nat) (M : mm_) (i j : Nat) (hi : i < 9) (hj : j < sLen_.getD i 0) : cm_ G yJ0_charAt_5068e cJ0_charAt_5068e 2 (some .char) (d + 3) [.ref (G.1 (1000 + i)), .int (nI j)] M (fI_ (sC_ i j) M) := by
  refine cm_of hG (by decide) (Nat.le_of_ble_eq_true rfl) (fun C X => ?_)
  refine w_aload_n X dJ0_charAt_5068e_0 rfl rfl ?_
  refine w_t0fI X dJ0_charAt_5068e_1 kJ0_492 rfl hi (cJ0_isLatin1 G hG _ _ i hi) (Nat.le_of_ble_eq_true rfl) ?_
  refine w_if_eq (tgt := 16) X dJ0_charAt_5068e_4 (by decide) (fun h4 => absurd h4 (by decide)) (fun h4 => ?_)
  refine w_aload_n X dJ0_charAt_5068e_7 rfl rfl ?_
  refine w_sfv X dJ0_charAt_5068e_8 hi fs_9 ?_
  refine w_iload_n X dJ0_charAt_5068e_11 rfl rfl ?_
  refine w_s2fI X dJ0_charAt_5068e_12 kJ0_495 (cJ1_charAt G hG _ _ i j hi hj) (Nat.le_of_ble_eq_true rfl) ?_
  exact w_tret X dJ0_charAt_5068e_15 (sC_c i hi j hj).2 ⟨rfl, rfl⟩
def ixl_ (i : Nat) (c : Int32) : Nat → Nat → Int32
  | 0, _ => -1
  | u + 1, j => if sC_ i j = c then nI j else ixl_ i c u (j + 1)
def enc_ (c : Int32) : Int32 := if 0 ≤ c ∧ c ≤ 255 then 1 else 0
def ixo_ (i : Nat) (c : Int32) : Int32 := if enc_ c = 0 then -1 else ixl_ i c.toInt8.toInt32 (sLen_.getD i 0) 0
set_option maxRecDepth 100000 in
set_option maxHeartbeats 600000 in
theorem cJ1_canEncode (G : gg_) (hG : gd_ G) (d : Nat) (M : mm_) (c : Int32) : cm_ G yJ1_canEncode_9a6ad cJ1_canEncode_9a6ad 1 (some .boolean) (d) [.int c] M (fI_ (enc_ c) M) := by
  refine cm_of hG (by decide) (Nat.le_of_ble_eq_true rfl) (fun C X => ?_)
  refine w_iload_n X dJ1_canEncode_9a6ad_0 rfl rfl ?_
  refine w_if_lt (tgt := 15) X dJ1_canEncode_9a6ad_1 (by decide) (fun h1 => ?_) (fun h1 => ?_)
  · refine w_iconst (v := 0) X dJ1_canEncode_9a6ad_15 (by decide) ?_
    refine w_zrF X dJ1_canEncode_9a6ad_16 (by first | exact Or.inl rfl | exact Or.inr rfl) ?_ rfl
    unfold enc_
    exact (if_neg (fun z => absurd h1 (Int32.not_lt.mpr z.1))).symm
  · refine w_iload_n X dJ1_canEncode_9a6ad_4 rfl rfl ?_
    refine w_sipush (v := 255) X dJ1_canEncode_9a6ad_5 (by decide) ?_
    refine w_icmp_gt (tgt := 15) X dJ1_canEncode_9a6ad_8 (by decide) (fun h8 => ?_) (fun h8 => ?_)
    · refine w_iconst (v := 0) X dJ1_canEncode_9a6ad_15 (by decide) ?_
      refine w_zrF X dJ1_canEncode_9a6ad_16 (by first | exact Or.inl rfl | exact Or.inr rfl) ?_ rfl
      unfold enc_
      exact (if_neg (fun z => absurd h8 (Int32.not_lt.mpr z.2))).symm
    · refine w_iconst (v := 1) X dJ1_canEncode_9a6ad_11 (by decide) ?_
      refine w_goto (tgt := 16) X dJ1_canEncode_9a6ad_12 (by decide) ?_
      refine w_zrF X dJ1_canEncode_9a6ad_16 (by first | exact Or.inl rfl | exact Or.inr rfl) ?_ rfl
      unfold enc_
      exact (if_pos ⟨Int32.not_lt.mp h1, Int32.not_lt.mp h8⟩).symm
set_option maxRecDepth 100000 in
set_option maxHeartbeats 4000000 in
theorem cJ1_indexOfChar (G : gg_) (hG : gd_ G) (d : Nat) (M : mm_) (i : Nat) (hi : i < 9) (c : Int32) : cm_ G yJ1_indexOfChar_4cfef cJ1_indexOfChar_4cfef 6 (some .int) (d) [.ref (G.1 (2000 + i)), .int c, .int 0, .int (nI (sLen_.getD i 0))] M (fI_ (ixl_ i c.toInt8.toInt32 (sLen_.getD i 0) 0) M) := by
  refine cm_of hG (by decide) (Nat.le_of_ble_eq_true rfl) (fun C X => ?_)
  have h9 := sL_lt i hi
  have lp : ∀ (u j : Nat), j + u = sLen_.getD i 0 → ixl_ i c.toInt8.toInt32 u j = ixl_ i c.toInt8.toInt32 (sLen_.getD i 0) 0 → wq_ C G (qe_ C G (fI_ (ixl_ i c.toInt8.toInt32 (sLen_.getD i 0) 0) M)) 7 [some (.ref (G.1 (2000 + i))), some (.int c), some (.int 0), some (.int (nI (sLen_.getD i 0))), some (.int c.toInt8.toInt32), some (.int (nI j))] [] M := by
    intro u
    induction u with
    | zero =>
      intro j h1 h3
      have hm : j = sLen_.getD i 0 := by omega
      rw [ixl_] at h3
      rw [hm]
      refine w_iload X dJ1_indexOfChar_4cfef_7 rfl ?_
      refine w_iload_n X dJ1_indexOfChar_4cfef_9 rfl rfl ?_
      refine w_icmp_ge (tgt := 31) X dJ1_indexOfChar_4cfef_10 (by decide) (fun h10 => ?_) (fun h10 => absurd (Int32.le_refl _) h10)
      refine w_iconst (v := -1) X dJ1_indexOfChar_4cfef_31 (by decide) ?_
      exact w_irF X dJ1_indexOfChar_4cfef_32 h3 rfl
    | succ u ih =>
      intro j h1 h3
      rw [ixl_] at h3
      refine w_iload X dJ1_indexOfChar_4cfef_7 rfl ?_
      refine w_iload_n X dJ1_indexOfChar_4cfef_9 rfl rfl ?_
      refine w_icmp_ge (tgt := 31) X dJ1_indexOfChar_4cfef_10 (by decide) (fun h10 => absurd h10 (nI_ge (by omega) (by omega))) (fun h10 => ?_)
      refine w_aload_n X dJ1_indexOfChar_4cfef_13 rfl rfl ?_
      refine w_iload X dJ1_indexOfChar_4cfef_14 rfl ?_
      refine w_sba X dJ1_indexOfChar_4cfef_16 hi (by omega) ?_
      refine w_iload X dJ1_indexOfChar_4cfef_17 rfl ?_
      refine w_icmp_ne (tgt := 25) X dJ1_indexOfChar_4cfef_19 (by decide) (fun h19 => ?_) (fun h19 => ?_)
      · rw [if_neg (show ¬ sC_ i j = _ from h19)] at h3
        refine w_iinc (v := 1) X dJ1_indexOfChar_4cfef_25 rfl (by decide) (by decide) ?_
        refine w_goto (tgt := 7) X dJ1_indexOfChar_4cfef_28 (by decide) ?_
        rw [nI_1]
        exact ih (j + 1) (by omega) h3
      · rw [if_pos (show sC_ i j = _ from h19)] at h3
        refine w_iload X dJ1_indexOfChar_4cfef_22 rfl ?_
        exact w_irF X dJ1_indexOfChar_4cfef_24 h3 rfl
  refine w_iload_n X dJ1_indexOfChar_4cfef_0 rfl rfl ?_
  refine w_i2b X dJ1_indexOfChar_4cfef_1 ?_
  refine w_istore X dJ1_indexOfChar_4cfef_2 (by decide) ?_
  refine w_iload_n X dJ1_indexOfChar_4cfef_4 rfl rfl ?_
  refine w_istore X dJ1_indexOfChar_4cfef_5 (by decide) ?_
  exact lp _ 0 (by omega) rfl
theorem mx0_ : ∀ i, i < 9 → ((if nI (sLen_.getD i 0) < nI (sLen_.getD i 0) then nI (sLen_.getD i 0) else nI (sLen_.getD i 0)) = nI (sLen_.getD i 0)) ∧ (0 : Int32) < nI (sLen_.getD i 0) := by decide +kernel
set_option maxRecDepth 100000 in
set_option maxHeartbeats 4000000 in
theorem cJ1_indexOf (G : gg_) (hG : gd_ G) (d : Nat) (M : mm_) (i : Nat) (hi : i < 9) (c : Int32) : cm_ G yJ1_indexOf_4cfef cJ1_indexOf_4cfef 4 (some .int) (d + 1) [.ref (G.1 (2000 + i)), .int c, .int 0, .int (nI (sLen_.getD i 0))] M (fI_ (ixo_ i c) M) := by
  refine cm_of hG (by decide) (Nat.le_of_ble_eq_true rfl) (fun C X => ?_)
  refine w_iload_n X dJ1_indexOf_4cfef_0 rfl rfl ?_
  refine w_s1fI X dJ1_indexOf_4cfef_1 kJ1_88 (cJ1_canEncode G hG _ _ _) (Nat.le_of_ble_eq_true rfl) ?_
  refine w_if_ne (tgt := 9) X dJ1_indexOf_4cfef_4 (by decide) (fun h4 => ?_) (fun h4 => ?_)
  · refine w_iload_n X dJ1_indexOf_4cfef_9 rfl rfl ?_
    refine w_iconst (v := 0) X dJ1_indexOf_4cfef_10 (by decide) ?_
    refine w_maxI X dJ1_indexOf_4cfef_11 mwJ1_92 (Nat.le_of_ble_eq_true rfl) ?_
    refine w_istore_n X dJ1_indexOf_4cfef_14 rfl (by decide) ?_
    refine w_iload_n X dJ1_indexOf_4cfef_15 rfl rfl ?_
    refine w_aload_n X dJ1_indexOf_4cfef_16 rfl rfl ?_
    refine w_slen X dJ1_indexOf_4cfef_17 hi ?_
    refine w_minI X dJ1_indexOf_4cfef_18 mwJ1_38 (Nat.le_of_ble_eq_true rfl) ?_
    rw [(mx0_ i hi).1]
    refine w_istore_n X dJ1_indexOf_4cfef_21 rfl (by decide) ?_
    refine w_iload_n X dJ1_indexOf_4cfef_22 rfl rfl ?_
    refine w_iload_n X dJ1_indexOf_4cfef_23 rfl rfl ?_
    refine w_icmp_lt (tgt := 29) X dJ1_indexOf_4cfef_24 (by decide) (fun h24 => ?_) (fun h24 => absurd (mx0_ i hi).2 h24)
    refine w_aload_n X dJ1_indexOf_4cfef_29 rfl rfl ?_
    refine w_iload_n X dJ1_indexOf_4cfef_30 rfl rfl ?_
    refine w_iload_n X dJ1_indexOf_4cfef_31 rfl rfl ?_
    refine w_iload_n X dJ1_indexOf_4cfef_32 rfl rfl ?_
    refine w_s4fI X dJ1_indexOf_4cfef_33 kJ1_95 (cJ1_indexOfChar G hG _ _ i hi c) (Nat.le_of_ble_eq_true rfl) ?_
    refine w_irF X dJ1_indexOf_4cfef_36 ?_ rfl
    unfold ixo_
    exact (if_neg h4).symm
  · refine w_iconst (v := -1) X dJ1_indexOf_4cfef_7 (by decide) ?_
    refine w_irF X dJ1_indexOf_4cfef_8 ?_ rfl
    unfold ixo_
    exact (if_pos h4).symm
set_option maxRecDepth 100000 in
set_option maxHeartbeats 4000000 in
theorem cJ0_indexOf2 (G : gg_) (hG : gd_ G) (d : Nat) (M : mm_) (i : Nat) (hi : i < 9) (c : Int32) : cm_ G yJ0_indexOf_7cf53 cJ0_indexOf_7cf53 3 (some .int) (d + 2) [.ref (G.1 (1000 + i)), .int c, .int 0] M (fI_ (ixo_ i c) M) := by
  refine cm_of hG (by decide) (Nat.le_of_ble_eq_true rfl) (fun C X => ?_)
  refine w_aload_n X dJ0_indexOf_7cf53_0 rfl rfl ?_
  refine w_t0fI X dJ0_indexOf_7cf53_1 kJ0_492 rfl hi (cJ0_isLatin1 G hG _ _ i hi) (Nat.le_of_ble_eq_true rfl) ?_
  refine w_if_eq (tgt := 23) X dJ0_indexOf_7cf53_4 (by decide) (fun h4 => absurd h4 (by decide)) (fun h4 => ?_)
  refine w_aload_n X dJ0_indexOf_7cf53_7 rfl rfl ?_
  refine w_sfv X dJ0_indexOf_7cf53_8 hi fs_9 ?_
  refine w_iload_n X dJ0_indexOf_7cf53_11 rfl rfl ?_
  refine w_iload_n X dJ0_indexOf_7cf53_12 rfl rfl ?_
  refine w_aload_n X dJ0_indexOf_7cf53_13 rfl rfl ?_
  refine w_t0fI X dJ0_indexOf_7cf53_14 kJ0_505 rfl hi (cJ0_length G hG _ _ i hi) (Nat.le_of_ble_eq_true rfl) ?_
  refine w_s4fI X dJ0_indexOf_7cf53_17 kJ0_637 (cJ1_indexOf G hG _ _ i hi c) (Nat.le_of_ble_eq_true rfl) ?_
  refine w_goto (tgt := 36) X dJ0_indexOf_7cf53_20 (by decide) ?_
  exact w_irF X dJ0_indexOf_7cf53_36 rfl rfl
set_option maxRecDepth 100000 in
set_option maxHeartbeats 4000000 in
theorem cJ0_indexOf (G : gg_) (hG : gd_ G) (d : Nat) (M : mm_) (i : Nat) (hi : i < 9) (c : Int32) : cm_ G yJ0_indexOf_0f7a4 cJ0_indexOf_0f7a4 2 (some .int) (d + 3) [.ref (G.1 (1000 + i)), .int c] M (fI_ (ixo_ i c) M) := by
  refine cm_of hG (by decide) (Nat.le_of_ble_eq_true rfl) (fun C X => ?_)
  refine w_aload_n X dJ0_indexOf_0f7a4_0 rfl rfl ?_
  refine w_iload_n X dJ0_indexOf_0f7a4_1 rfl rfl ?_
  refine w_iconst (v := 0) X dJ0_indexOf_0f7a4_2 (by decide) ?_
  refine w_t2fI X dJ0_indexOf_0f7a4_3 kJ0_633 rfl hi (cJ0_indexOf2 G hG _ _ i hi c) (Nat.le_of_ble_eq_true rfl) ?_
  exact w_irF X dJ0_indexOf_0f7a4_6 rfl rfl
def tkl_ (M : mm_) (i : Nat) (p : Int32) : Nat → Nat → Bool
  | 0, _ => true
  | u + 1, j => if tb_ M (p + nI j) = sC_ i j then tkl_ M i p u (j + 1) else false
/-- does text i stand here as a word -/
def tkw_ (M : mm_) (i : Nat) : Bool := tkl_ M i (M.1 37 1) (sLen_.getD i 0) 0 && (decide (tb_ M (M.1 37 1 + nI (sLen_.getD i 0)) = -1) || !decide (bl_ (tb_ M (M.1 37 1 + nI (sLen_.getD i 0))) = 0))
def tkM_ (M : mm_) (i : Nat) : mm_ := sk1_ 200 (sI_ M 37 1 (M.1 37 1 + nI (sLen_.getD i 0)))
set_option maxRecDepth 100000 in
set_option maxHeartbeats 4000000 in
theorem c7_takes (G : gg_) (hG : gd_ G) (d : Nat) (M : mm_) (n : Nat) (ht : tpX_ M n) (i : Nat) (hi : i < 9) : cm_ G yX7_takes cX7_takes 3 (some .boolean) (d + 4) [.ref (G.1 37), .ref (G.1 (1000 + i))] M (fI_ (if tkw_ M i = true then 1 else 0) (if tkw_ M i = true then tkM_ M i else M)) := by
  refine cm_of hG (by decide) (Nat.le_of_ble_eq_true rfl) (fun C X => ?_)
  have h9 := sL_lt i hi
  have lp : ∀ (u j : Nat), j + u = sLen_.getD i 0 → tkl_ M i (M.1 37 1) u j = tkl_ M i (M.1 37 1) (sLen_.getD i 0) 0 → wq_ C G (qe_ C G (fI_ (if tkw_ M i = true then 1 else 0) (if tkw_ M i = true then tkM_ M i else M))) 2 [some (.ref (G.1 37)), some (.ref (G.1 (1000 + i))), some (.int (nI j))] [] M := by
    intro u
    induction u with
    | zero =>
      intro j h1 h3
      have hm : j = sLen_.getD i 0 := by omega
      rw [tkl_] at h3
      rw [hm]
      refine w_iload_n X dX7_takes_2 rfl rfl ?_
      refine w_aload_n X dX7_takes_3 rfl rfl ?_
      refine w_t0fI X dX7_takes_4 k7_81 rfl hi (cJ0_length G hG _ _ i hi) (Nat.le_of_ble_eq_true rfl) ?_
      refine w_icmp_ge (tgt := 39) X dX7_takes_7 (by decide) (fun h7 => ?_) (fun h7 => absurd (Int32.le_refl _) h7)
      refine w_aload_n X dX7_takes_39 rfl rfl ?_
      refine g7_9 X dX7_takes_40 s_37 rfl ?_
      refine w_aload_n X dX7_takes_43 rfl rfl ?_
      refine g7_22 X dX7_takes_44 s_37 rfl ?_
      refine w_aload_n X dX7_takes_47 rfl rfl ?_
      refine w_t0fI X dX7_takes_48 k7_81 rfl hi (cJ0_length G hG _ _ i hi) (Nat.le_of_ble_eq_true rfl) ?_
      refine w_iadd X dX7_takes_51 ?_
      refine w_v1fI X dX7_takes_52 k7_25 rfl s_35 (c9_at G hG _ _ n ht _) (Nat.le_of_ble_eq_true rfl) ?_
      refine w_istore_n X dX7_takes_55 rfl (by decide) ?_
      refine w_iload_n X dX7_takes_56 rfl rfl ?_
      refine w_iconst (v := -1) X dX7_takes_57 (by decide) ?_
      refine w_icmp_eq (tgt := 70) X dX7_takes_58 (by decide) (fun h58 => ?_) (fun h58 => ?_)
      · have hw : tkw_ M i = true := by unfold tkw_; rw [← h3, h58]; rfl
        refine w_aload_n X dX7_takes_70 rfl rfl ?_
        refine w_dup X dX7_takes_71 rfl ?_
        refine g7_22 X dX7_takes_72 s_37 rfl ?_
        refine w_aload_n X dX7_takes_75 rfl rfl ?_
        refine w_t0fI X dX7_takes_76 k7_81 rfl hi (cJ0_length G hG _ _ i hi) (Nat.le_of_ble_eq_true rfl) ?_
        refine w_iadd X dX7_takes_79 ?_
        refine p7_22 X dX7_takes_80 s_37 rfl ?_
        refine w_aload_n X dX7_takes_83 rfl rfl ?_
        refine w_v0fV X dX7_takes_84 k7_92 rfl s_37 (c7_skipBlanks G hG _ _ n (tp_37 ht)) (Nat.le_of_ble_eq_true rfl) ?_
        refine w_iconst (v := 1) X dX7_takes_87 (by decide) ?_
        rw [if_pos hw, if_pos hw]
        exact w_zrF X dX7_takes_88 (Or.inr rfl) rfl rfl
      · refine w_iload_n X dX7_takes_61 rfl rfl ?_
        refine w_s1fI X dX7_takes_62 k7_89 (c7_isBlank G hG _ _ _) (Nat.le_of_ble_eq_true rfl) ?_
        refine w_if_ne (tgt := 70) X dX7_takes_65 (by decide) (fun h65 => ?_) (fun h65 => ?_)
        · have hw : tkw_ M i = true := by unfold tkw_; rw [← h3, decide_eq_false h65]; simp
          refine w_aload_n X dX7_takes_70 rfl rfl ?_
          refine w_dup X dX7_takes_71 rfl ?_
          refine g7_22 X dX7_takes_72 s_37 rfl ?_
          refine w_aload_n X dX7_takes_75 rfl rfl ?_
          refine w_t0fI X dX7_takes_76 k7_81 rfl hi (cJ0_length G hG _ _ i hi) (Nat.le_of_ble_eq_true rfl) ?_
          refine w_iadd X dX7_takes_79 ?_
          refine p7_22 X dX7_takes_80 s_37 rfl ?_
          refine w_aload_n X dX7_takes_83 rfl rfl ?_
          refine w_v0fV X dX7_takes_84 k7_92 rfl s_37 (c7_skipBlanks G hG _ _ n (tp_37 ht)) (Nat.le_of_ble_eq_true rfl) ?_
          refine w_iconst (v := 1) X dX7_takes_87 (by decide) ?_
          rw [if_pos hw, if_pos hw]
          exact w_zrF X dX7_takes_88 (Or.inr rfl) rfl rfl
        · have hw : ¬ tkw_ M i = true := by unfold tkw_; rw [decide_eq_false h58, decide_eq_true h65]; simp
          refine w_iconst (v := 0) X dX7_takes_68 (by decide) ?_
          rw [if_neg hw, if_neg hw]
          exact w_zrF X dX7_takes_69 (Or.inl rfl) rfl rfl
    | succ u ih =>
      intro j h1 h3
      rw [tkl_] at h3
      refine w_iload_n X dX7_takes_2 rfl rfl ?_
      refine w_aload_n X dX7_takes_3 rfl rfl ?_
      refine w_t0fI X dX7_takes_4 k7_81 rfl hi (cJ0_length G hG _ _ i hi) (Nat.le_of_ble_eq_true rfl) ?_
      refine w_icmp_ge (tgt := 39) X dX7_takes_7 (by decide) (fun h7 => absurd h7 (nI_ge (by omega) (by omega))) (fun h7 => ?_)
      refine w_aload_n X dX7_takes_10 rfl rfl ?_
      refine g7_9 X dX7_takes_11 s_37 rfl ?_
      refine w_aload_n X dX7_takes_14 rfl rfl ?_
      refine g7_22 X dX7_takes_15 s_37 rfl ?_
      refine w_iload_n X dX7_takes_18 rfl rfl ?_
      refine w_iadd X dX7_takes_19 ?_
      refine w_v1fI X dX7_takes_20 k7_25 rfl s_35 (c9_at G hG _ _ n ht _) (Nat.le_of_ble_eq_true rfl) ?_
      refine w_aload_n X dX7_takes_23 rfl rfl ?_
      refine w_iload_n X dX7_takes_24 rfl rfl ?_
      refine w_t1fI X dX7_takes_25 k7_85 rfl hi (cJ0_charAt G hG _ _ i j hi (by omega)) (Nat.le_of_ble_eq_true rfl) ?_
      refine w_icmp_eq (tgt := 33) X dX7_takes_28 (by decide) (fun h28 => ?_) (fun h28 => ?_)
      · rw [if_pos h28] at h3
        refine w_iinc (v := 1) X dX7_takes_33 rfl (by decide) (by decide) ?_
        refine w_goto (tgt := 2) X dX7_takes_36 (by decide) ?_
        rw [nI_1]
        exact ih (j + 1) (by omega) h3
      · rw [if_neg h28] at h3
        have hw : ¬ tkw_ M i = true := by unfold tkw_; rw [← h3]; simp
        refine w_iconst (v := 0) X dX7_takes_31 (by decide) ?_
        rw [if_neg hw, if_neg hw]
        exact w_zrF X dX7_takes_32 (Or.inl rfl) rfl rfl
  refine w_iconst (v := 0) X dX7_takes_0 (by decide) ?_
  refine w_istore_n X dX7_takes_1 rfl (by decide) ?_
  exact lp _ 0 (by omega) rfl

