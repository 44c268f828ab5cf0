section
/-! the cases of the law's switch -/
theorem s_0 : ds_[0]? = some (.inr (11, dr_fs)) := rfl
theorem kH_45 : lkH_ RL 45 yL_feed cL_feed 6 [(0, 11, 14, 13)] 4 := ⟨gw_of (by decide +kernel) (by decide), gw_of (by decide +kernel) (by decide), inL_, gw_of (by decide +kernel) (by decide), ⟨by decide, by decide, by decide +kernel⟩, by decide⟩
theorem kH_72 : lkH_ RL 72 yL_call cL_call 7 [(0, 14, 17, 19)] 6 := ⟨gw_of (by decide +kernel) (by decide), gw_of (by decide +kernel) (by decide), inL_, gw_of (by decide +kernel) (by decide), ⟨by decide, by decide, by decide +kernel⟩, by decide⟩
theorem kH_88 : lkH_ RL 88 yL_record cL_record 5 [(0, 10, 13, 19), (0, 10, 17, 13)] 4 := ⟨gw_of (by decide +kernel) (by decide), gw_of (by decide +kernel) (by decide), inL_, gw_of (by decide +kernel) (by decide), ⟨by decide, by decide, by decide +kernel⟩, by decide⟩
theorem kH_96 : lkH_ RL 96 yL_job cL_job 5 [(0, 10, 13, 19), (0, 10, 17, 13)] 4 := ⟨gw_of (by decide +kernel) (by decide), gw_of (by decide +kernel) (by decide), inL_, gw_of (by decide +kernel) (by decide), ⟨by decide, by decide, by decide +kernel⟩, by decide⟩
theorem kH_99 : lkH_ RL 99 yL_counted cL_counted 6 [(0, 12, 15, 19), (0, 12, 19, 13)] 5 := ⟨gw_of (by decide +kernel) (by decide), gw_of (by decide +kernel) (by decide), inL_, gw_of (by decide +kernel) (by decide), ⟨by decide, by decide, by decide +kernel⟩, by decide⟩
theorem kH_107 : lkH_ RL 107 yL_kept cL_kept 5 [(0, 10, 13, 19), (0, 10, 17, 13)] 4 := ⟨gw_of (by decide +kernel) (by decide), gw_of (by decide +kernel) (by decide), inL_, gw_of (by decide +kernel) (by decide), ⟨by decide, by decide, by decide +kernel⟩, by decide⟩
theorem kH_110 : lkH_ RL 110 yL_replay cL_replay 4 [(0, 9, 12, 19)] 3 := ⟨gw_of (by decide +kernel) (by decide), gw_of (by decide +kernel) (by decide), inL_, gw_of (by decide +kernel) (by decide), ⟨by decide, by decide, by decide +kernel⟩, by decide⟩
section CASES
variable {C : mc_} {G : gg_} {Q : State → Prop} {M : mm_} {b L a sl i : Nat} {xs : Nat → Int32} {w1 w2 w3 w4 : Int32} {o5 o6 : Option Value}
set_option maxRecDepth 100000 in
theorem law_0 (h : LX_ C G b L xs) (hL : L ≤ 2560) (hi : i + 5 ≤ L) (ha : a + 1 ≤ 601024) (hs : sl + 6 ≤ 7293034) (h1 : xs (nI i + 1).toNatClampNeg = w1) (h2 : xs (nI i + 2).toNatClampNeg = w2) (h3 : xs (nI i + 3).toNatClampNeg = w3) (h4 : xs (nI i + 4).toNatClampNeg = w4) (hB : IV_ M) (K : ∀ (N : mm_) (p5 p6 : Option Value), IV_ N → wq_ (ca_ C (a + 1) (sl + 6)) G Q 614 [some (.ref b), some (.ref (G.1 34)), some (.ref (G.1 0)), some (.ref (G.1 262)), some (.int (nI i)), p5, p6] [] N) : wq_ (ca_ C a sl) G Q 120 [some (.ref b), some (.ref (G.1 34)), some (.ref (G.1 0)), some (.ref (G.1 262)), some (.int (nI i)), o5, o6] [] M := by
  have hG := LX_gd h
  have X := LX_cx (a := a) (sl := sl) h (by omega) (by omega)
  have X1 := LX_cx (a := a + 1) (sl := sl + 6) h ha hs
  refine w_aload_n X dL_law_120 rfl rfl ?_
  refine w_scr (v := 1) (w := w1) X (LX_sc h) dL_law_121 dL_law_122 dL_law_124 dL_law_125 dL_law_126 (by decide) rfl rfl (sc_in (k := 1) (by omega) hL) h1 ?_
  refine w_scr (v := 2) (w := w2) X (LX_sc h) dL_law_127 dL_law_128 dL_law_130 dL_law_131 dL_law_132 (by decide) rfl rfl (sc_in (k := 2) (by omega) hL) h2 ?_
  refine w_i2l X dL_law_133 ?_
  refine w_bipush (v := 32) X dL_law_134 (by decide) ?_
  refine w_lshl X dL_law_136 ?_
  refine w_scr (v := 3) (w := w3) X (LX_sc h) dL_law_137 dL_law_138 dL_law_140 dL_law_141 dL_law_142 (by decide) rfl rfl (sc_in (k := 3) (by omega) hL) h3 ?_
  refine w_i2l X dL_law_143 ?_
  refine w_ldc2 X dL_law_144 qL_43 ?_
  refine w_land X dL_law_147 ?_
  refine w_lor X dL_law_148 ?_
  refine w_aload_n X dL_law_149 rfl rfl ?_
  refine w_help [.ref (G.1 34), .int w1, .long _, .ref (G.1 262)] h ha hs dL_law_150 kH_45 (uL_feed hG hB w1 _) (by decide) (Nat.le_of_ble_eq_true rfl) (fun v N1 z1 => ?_)
  obtain ⟨r1, rfl, z1⟩ := z1
  refine w_istore X1 dL_law_153 (by decide) ?_
  refine w_aload_n X1 dL_law_155 rfl rfl ?_
  refine w_scr (v := 1) (w := w1) X1 (LX_sc h) dL_law_156 dL_law_157 dL_law_159 dL_law_160 dL_law_161 (by decide) rfl rfl (sc_in (k := 1) (by omega) hL) h1 ?_
  refine w_scr (v := 2) (w := w2) X1 (LX_sc h) dL_law_162 dL_law_163 dL_law_165 dL_law_166 dL_law_167 (by decide) rfl rfl (sc_in (k := 2) (by omega) hL) h2 ?_
  refine w_i2l X1 dL_law_168 ?_
  refine w_bipush (v := 32) X1 dL_law_169 (by decide) ?_
  refine w_lshl X1 dL_law_171 ?_
  refine w_scr (v := 3) (w := w3) X1 (LX_sc h) dL_law_172 dL_law_173 dL_law_175 dL_law_176 dL_law_177 (by decide) rfl rfl (sc_in (k := 3) (by omega) hL) h3 ?_
  refine w_i2l X1 dL_law_178 ?_
  refine w_ldc2 X1 dL_law_179 qL_43 ?_
  refine w_land X1 dL_law_182 ?_
  refine w_lor X1 dL_law_183 ?_
  refine w_v2 X1 dL_law_184 kL_50 rfl s_0 (uR_feed hG z1) (Nat.le_of_ble_eq_true rfl) (fun v N2 z2 => ?_)
  obtain ⟨r2, rfl, z2⟩ := z2
  refine w_istore X1 dL_law_187 (by decide) ?_
  refine w_goto (tgt := 614) X1 dL_law_189 (by decide) ?_
  exact K _ _ _ z2.1
set_option maxRecDepth 100000 in
theorem law_1 (h : LX_ C G b L xs) (hL : L ≤ 2560) (hi : i + 5 ≤ L) (ha : a + 1 ≤ 601024) (hs : sl + 6 ≤ 7293034) (h1 : xs (nI i + 1).toNatClampNeg = w1) (h2 : xs (nI i + 2).toNatClampNeg = w2) (h3 : xs (nI i + 3).toNatClampNeg = w3) (h4 : xs (nI i + 4).toNatClampNeg = w4) (hB : IV_ M) (K : ∀ (N : mm_) (p5 p6 : Option Value), IV_ N → wq_ (ca_ C (a + 1) (sl + 6)) G Q 614 [some (.ref b), some (.ref (G.1 34)), some (.ref (G.1 0)), some (.ref (G.1 262)), some (.int (nI i)), p5, p6] [] N) : wq_ (ca_ C a sl) G Q 192 [some (.ref b), some (.ref (G.1 34)), some (.ref (G.1 0)), some (.ref (G.1 262)), some (.int (nI i)), o5, o6] [] M := by
  have hG := LX_gd h
  have X := LX_cx (a := a) (sl := sl) h (by omega) (by omega)
  have X1 := LX_cx (a := a + 1) (sl := sl + 6) h ha hs
  refine w_aload_n X dL_law_192 rfl rfl ?_
  refine w_v0fI X dL_law_193 kL_51 rfl s_34 (c11_wipe G hG 1299 M) (Nat.le_of_ble_eq_true rfl) ?_
  refine w_pop X dL_law_196 rfl ?_
  refine w_aload_n X dL_law_197 rfl rfl ?_
  refine w_v0fI X dL_law_198 kL_55 rfl s_0 (c12_wipe G hG 1299 (sI_ M 35 1 0)) (Nat.le_of_ble_eq_true rfl) ?_
  refine w_pop X dL_law_201 rfl ?_
  refine w_goto (tgt := 614) X dL_law_202 (by decide) ?_
  exact w_widen (by omega) (by omega) (K _ _ _ (IV_wipe hB))
set_option maxRecDepth 100000 in
theorem law_2 (h : LX_ C G b L xs) (hL : L ≤ 2560) (hi : i + 5 ≤ L) (ha : a + 1 ≤ 601024) (hs : sl + 6 ≤ 7293034) (h1 : xs (nI i + 1).toNatClampNeg = w1) (h2 : xs (nI i + 2).toNatClampNeg = w2) (h3 : xs (nI i + 3).toNatClampNeg = w3) (h4 : xs (nI i + 4).toNatClampNeg = w4) (hB : IV_ M) (K : ∀ (N : mm_) (p5 p6 : Option Value), IV_ N → wq_ (ca_ C (a + 1) (sl + 6)) G Q 614 [some (.ref b), some (.ref (G.1 34)), some (.ref (G.1 0)), some (.ref (G.1 262)), some (.int (nI i)), p5, p6] [] N) : wq_ (ca_ C a sl) G Q 205 [some (.ref b), some (.ref (G.1 34)), some (.ref (G.1 0)), some (.ref (G.1 262)), some (.int (nI i)), o5, o6] [] M := by
  have hG := LX_gd h
  have X := LX_cx (a := a) (sl := sl) h (by omega) (by omega)
  have X1 := LX_cx (a := a + 1) (sl := sl + 6) h ha hs
  refine w_aload_n X dL_law_205 rfl rfl ?_
  refine w_v0 X dL_law_206 kL_56 rfl s_34 (uX_method hG hB) (Nat.le_of_ble_eq_true rfl) (fun v N1 z1 => ?_)
  obtain ⟨r1, rfl, z1⟩ := z1
  refine w_pop X dL_law_209 rfl ?_
  refine w_aload_n X dL_law_210 rfl rfl ?_
  refine w_v0 X dL_law_211 kL_59 rfl s_0 (uR_method hG z1) (Nat.le_of_ble_eq_true rfl) (fun v N2 z2 => ?_)
  obtain ⟨r2, rfl, z2⟩ := z2
  refine w_pop X dL_law_214 rfl ?_
  refine w_goto (tgt := 614) X dL_law_215 (by decide) ?_
  exact w_widen (by omega) (by omega) (K _ _ _ z2.1)
set_option maxRecDepth 100000 in
theorem law_3 (h : LX_ C G b L xs) (hL : L ≤ 2560) (hi : i + 5 ≤ L) (ha : a + 1 ≤ 601024) (hs : sl + 6 ≤ 7293034) (h1 : xs (nI i + 1).toNatClampNeg = w1) (h2 : xs (nI i + 2).toNatClampNeg = w2) (h3 : xs (nI i + 3).toNatClampNeg = w3) (h4 : xs (nI i + 4).toNatClampNeg = w4) (hB : IV_ M) (K : ∀ (N : mm_) (p5 p6 : Option Value), IV_ N → wq_ (ca_ C (a + 1) (sl + 6)) G Q 614 [some (.ref b), some (.ref (G.1 34)), some (.ref (G.1 0)), some (.ref (G.1 262)), some (.int (nI i)), p5, p6] [] N) : wq_ (ca_ C a sl) G Q 218 [some (.ref b), some (.ref (G.1 34)), some (.ref (G.1 0)), some (.ref (G.1 262)), some (.int (nI i)), o5, o6] [] M := by
  have hG := LX_gd h
  have X := LX_cx (a := a) (sl := sl) h (by omega) (by omega)
  have X1 := LX_cx (a := a + 1) (sl := sl + 6) h ha hs
  refine w_aload_n X dL_law_218 rfl rfl ?_
  refine w_v0 X dL_law_219 kL_60 rfl s_34 (uX_command hG hB) (Nat.le_of_ble_eq_true rfl) (fun v N1 z1 => ?_)
  obtain ⟨r1, rfl, z1⟩ := z1
  refine w_pop X dL_law_222 rfl ?_
  refine w_aload_n X dL_law_223 rfl rfl ?_
  refine w_v0 X dL_law_224 kL_63 rfl s_0 (uR_command hG z1) (Nat.le_of_ble_eq_true rfl) (fun v N2 z2 => ?_)
  obtain ⟨r2, rfl, z2⟩ := z2
  refine w_pop X dL_law_227 rfl ?_
  refine w_goto (tgt := 614) X dL_law_228 (by decide) ?_
  exact w_widen (by omega) (by omega) (K _ _ _ z2.1)
set_option maxRecDepth 100000 in
theorem law_4 (h : LX_ C G b L xs) (hL : L ≤ 2560) (hi : i + 5 ≤ L) (ha : a + 1 ≤ 601024) (hs : sl + 6 ≤ 7293034) (h1 : xs (nI i + 1).toNatClampNeg = w1) (h2 : xs (nI i + 2).toNatClampNeg = w2) (h3 : xs (nI i + 3).toNatClampNeg = w3) (h4 : xs (nI i + 4).toNatClampNeg = w4) (hB : IV_ M) (K : ∀ (N : mm_) (p5 p6 : Option Value), IV_ N → wq_ (ca_ C (a + 1) (sl + 6)) G Q 614 [some (.ref b), some (.ref (G.1 34)), some (.ref (G.1 0)), some (.ref (G.1 262)), some (.int (nI i)), p5, p6] [] N) : wq_ (ca_ C a sl) G Q 231 [some (.ref b), some (.ref (G.1 34)), some (.ref (G.1 0)), some (.ref (G.1 262)), some (.int (nI i)), o5, o6] [] M := by
  have hG := LX_gd h
  have X := LX_cx (a := a) (sl := sl) h (by omega) (by omega)
  have X1 := LX_cx (a := a + 1) (sl := sl + 6) h ha hs
  refine w_aload_n X dL_law_231 rfl rfl ?_
  refine w_v0 X dL_law_232 kL_64 rfl s_34 (uX_fault hG hB) (Nat.le_of_ble_eq_true rfl) (fun v N1 z1 => ?_)
  obtain ⟨r1, rfl, z1⟩ := z1
  refine w_pop X dL_law_235 rfl ?_
  refine w_aload_n X dL_law_236 rfl rfl ?_
  refine w_v0 X dL_law_237 kL_67 rfl s_0 (uR_fault hG z1) (Nat.le_of_ble_eq_true rfl) (fun v N2 z2 => ?_)
  obtain ⟨r2, rfl, z2⟩ := z2
  refine w_pop X dL_law_240 rfl ?_
  refine w_goto (tgt := 614) X dL_law_241 (by decide) ?_
  exact w_widen (by omega) (by omega) (K _ _ _ z2)
set_option maxRecDepth 100000 in
theorem law_5 (h : LX_ C G b L xs) (hL : L ≤ 2560) (hi : i + 5 ≤ L) (ha : a + 1 ≤ 601024) (hs : sl + 6 ≤ 7293034) (h1 : xs (nI i + 1).toNatClampNeg = w1) (h2 : xs (nI i + 2).toNatClampNeg = w2) (h3 : xs (nI i + 3).toNatClampNeg = w3) (h4 : xs (nI i + 4).toNatClampNeg = w4) (hB : IV_ M) (K : ∀ (N : mm_) (p5 p6 : Option Value), IV_ N → wq_ (ca_ C (a + 1) (sl + 6)) G Q 614 [some (.ref b), some (.ref (G.1 34)), some (.ref (G.1 0)), some (.ref (G.1 262)), some (.int (nI i)), p5, p6] [] N) : wq_ (ca_ C a sl) G Q 244 [some (.ref b), some (.ref (G.1 34)), some (.ref (G.1 0)), some (.ref (G.1 262)), some (.int (nI i)), o5, o6] [] M := by
  have hG := LX_gd h
  have X := LX_cx (a := a) (sl := sl) h (by omega) (by omega)
  have X1 := LX_cx (a := a + 1) (sl := sl + 6) h ha hs
  refine w_aload_n X dL_law_244 rfl rfl ?_
  refine w_v0 X dL_law_245 kL_68 rfl s_34 (uX_place hG hB) (Nat.le_of_ble_eq_true rfl) (fun v N1 z1 => ?_)
  obtain ⟨r1, rfl, z1⟩ := z1
  refine w_pop X dL_law_248 rfl ?_
  refine w_aload_n X dL_law_249 rfl rfl ?_
  refine w_v0 X dL_law_250 kL_71 rfl s_0 (uR_place hG z1) (Nat.le_of_ble_eq_true rfl) (fun v N2 z2 => ?_)
  obtain ⟨r2, rfl, z2⟩ := z2
  refine w_pop X dL_law_253 rfl ?_
  refine w_goto (tgt := 614) X dL_law_254 (by decide) ?_
  exact w_widen (by omega) (by omega) (K _ _ _ z2)
set_option maxRecDepth 100000 in
theorem law_6 (h : LX_ C G b L xs) (hL : L ≤ 2560) (hi : i + 5 ≤ L) (ha : a + 1 ≤ 601024) (hs : sl + 6 ≤ 7293034) (h1 : xs (nI i + 1).toNatClampNeg = w1) (h2 : xs (nI i + 2).toNatClampNeg = w2) (h3 : xs (nI i + 3).toNatClampNeg = w3) (h4 : xs (nI i + 4).toNatClampNeg = w4) (hB : IV_ M) (K : ∀ (N : mm_) (p5 p6 : Option Value), IV_ N → wq_ (ca_ C (a + 1) (sl + 6)) G Q 614 [some (.ref b), some (.ref (G.1 34)), some (.ref (G.1 0)), some (.ref (G.1 262)), some (.int (nI i)), p5, p6] [] N) : wq_ (ca_ C a sl) G Q 257 [some (.ref b), some (.ref (G.1 34)), some (.ref (G.1 0)), some (.ref (G.1 262)), some (.int (nI i)), o5, o6] [] M := by
  have hG := LX_gd h
  have X := LX_cx (a := a) (sl := sl) h (by omega) (by omega)
  have X1 := LX_cx (a := a + 1) (sl := sl + 6) h ha hs
  refine w_aload_n X dL_law_257 rfl rfl ?_
  refine w_scr (v := 1) (w := w1) X (LX_sc h) dL_law_258 dL_law_259 dL_law_261 dL_law_262 dL_law_263 (by decide) rfl rfl (sc_in (k := 1) (by omega) hL) h1 ?_
  refine w_scr (v := 2) (w := w2) X (LX_sc h) dL_law_264 dL_law_265 dL_law_267 dL_law_268 dL_law_269 (by decide) rfl rfl (sc_in (k := 2) (by omega) hL) h2 ?_
  refine w_scr (v := 3) (w := w3) X (LX_sc h) dL_law_270 dL_law_271 dL_law_273 dL_law_274 dL_law_275 (by decide) rfl rfl (sc_in (k := 3) (by omega) hL) h3 ?_
  refine w_scr (v := 4) (w := w4) X (LX_sc h) dL_law_276 dL_law_277 dL_law_279 dL_law_280 dL_law_281 (by decide) rfl rfl (sc_in (k := 4) (by omega) hL) h4 ?_
  refine w_aload_n X dL_law_282 rfl rfl ?_
  refine w_help [.ref (G.1 34), .int w1, .int w2, .int w3, .int w4, .ref (G.1 262)] h ha hs dL_law_283 kH_72 (uL_call hG hB w1 w2 w3 w4) (by decide) (Nat.le_of_ble_eq_true rfl) (fun v N1 z1 => ?_)
  obtain ⟨r1, rfl, z1⟩ := z1
  refine w_istore X1 dL_law_286 (by decide) ?_
  refine w_aload_n X1 dL_law_288 rfl rfl ?_
  refine w_scr (v := 1) (w := w1) X1 (LX_sc h) dL_law_289 dL_law_290 dL_law_292 dL_law_293 dL_law_294 (by decide) rfl rfl (sc_in (k := 1) (by omega) hL) h1 ?_
  refine w_scr (v := 2) (w := w2) X1 (LX_sc h) dL_law_295 dL_law_296 dL_law_298 dL_law_299 dL_law_300 (by decide) rfl rfl (sc_in (k := 2) (by omega) hL) h2 ?_
  refine w_scr (v := 3) (w := w3) X1 (LX_sc h) dL_law_301 dL_law_302 dL_law_304 dL_law_305 dL_law_306 (by decide) rfl rfl (sc_in (k := 3) (by omega) hL) h3 ?_
  refine w_scr (v := 4) (w := w4) X1 (LX_sc h) dL_law_307 dL_law_308 dL_law_310 dL_law_311 dL_law_312 (by decide) rfl rfl (sc_in (k := 4) (by omega) hL) h4 ?_
  refine w_v4 X1 dL_law_313 kL_75 rfl s_0 (uR_call hG z1 w1 w2 w3 w4) (Nat.le_of_ble_eq_true rfl) (fun v N2 z2 => ?_)
  obtain ⟨r2, rfl, z2⟩ := z2
  refine w_istore X1 dL_law_316 (by decide) ?_
  refine w_goto (tgt := 614) X1 dL_law_318 (by decide) ?_
  exact K _ _ _ z2.1
set_option maxRecDepth 100000 in
theorem law_7 (h : LX_ C G b L xs) (hL : L ≤ 2560) (hi : i + 5 ≤ L) (ha : a + 1 ≤ 601024) (hs : sl + 6 ≤ 7293034) (h1 : xs (nI i + 1).toNatClampNeg = w1) (h2 : xs (nI i + 2).toNatClampNeg = w2) (h3 : xs (nI i + 3).toNatClampNeg = w3) (h4 : xs (nI i + 4).toNatClampNeg = w4) (hB : IV_ M) (K : ∀ (N : mm_) (p5 p6 : Option Value), IV_ N → wq_ (ca_ C (a + 1) (sl + 6)) G Q 614 [some (.ref b), some (.ref (G.1 34)), some (.ref (G.1 0)), some (.ref (G.1 262)), some (.int (nI i)), p5, p6] [] N) : wq_ (ca_ C a sl) G Q 321 [some (.ref b), some (.ref (G.1 34)), some (.ref (G.1 0)), some (.ref (G.1 262)), some (.int (nI i)), o5, o6] [] M := by
  have hG := LX_gd h
  have X := LX_cx (a := a) (sl := sl) h (by omega) (by omega)
  have X1 := LX_cx (a := a + 1) (sl := sl + 6) h ha hs
  refine w_aload_n X dL_law_321 rfl rfl ?_
  refine w_v0 X dL_law_322 kL_76 rfl s_34 (uX_value hG hB) (Nat.le_of_ble_eq_true rfl) (fun v N1 z1 => ?_)
  obtain ⟨r1, rfl, z1⟩ := z1
  refine w_pop X dL_law_325 rfl ?_
  refine w_aload_n X dL_law_326 rfl rfl ?_
  refine w_v0 X dL_law_327 kL_79 rfl s_0 (uR_value hG z1) (Nat.le_of_ble_eq_true rfl) (fun v N2 z2 => ?_)
  obtain ⟨r2, rfl, z2⟩ := z2
  refine w_pop X dL_law_330 rfl ?_
  refine w_goto (tgt := 614) X dL_law_331 (by decide) ?_
  exact w_widen (by omega) (by omega) (K _ _ _ z2.1)
set_option maxRecDepth 100000 in
theorem law_8 (h : LX_ C G b L xs) (hL : L ≤ 2560) (hi : i + 5 ≤ L) (ha : a + 1 ≤ 601024) (hs : sl + 6 ≤ 7293034) (h1 : xs (nI i + 1).toNatClampNeg = w1) (h2 : xs (nI i + 2).toNatClampNeg = w2) (h3 : xs (nI i + 3).toNatClampNeg = w3) (h4 : xs (nI i + 4).toNatClampNeg = w4) (hB : IV_ M) (K : ∀ (N : mm_) (p5 p6 : Option Value), IV_ N → wq_ (ca_ C (a + 1) (sl + 6)) G Q 614 [some (.ref b), some (.ref (G.1 34)), some (.ref (G.1 0)), some (.ref (G.1 262)), some (.int (nI i)), p5, p6] [] N) : wq_ (ca_ C a sl) G Q 334 [some (.ref b), some (.ref (G.1 34)), some (.ref (G.1 0)), some (.ref (G.1 262)), some (.int (nI i)), o5, o6] [] M := by
  have hG := LX_gd h
  have X := LX_cx (a := a) (sl := sl) h (by omega) (by omega)
  have X1 := LX_cx (a := a + 1) (sl := sl + 6) h ha hs
  refine w_aload_n X dL_law_334 rfl rfl ?_
  refine w_v0 X dL_law_335 kL_80 rfl s_34 (uX_invoked hG hB) (Nat.le_of_ble_eq_true rfl) (fun v N1 z1 => ?_)
  obtain ⟨r1, rfl, z1⟩ := z1
  refine w_pop X dL_law_338 rfl ?_
  refine w_aload_n X dL_law_339 rfl rfl ?_
  refine w_v0 X dL_law_340 kL_83 rfl s_0 (uR_invoked hG z1) (Nat.le_of_ble_eq_true rfl) (fun v N2 z2 => ?_)
  obtain ⟨r2, rfl, z2⟩ := z2
  refine w_pop X dL_law_343 rfl ?_
  refine w_goto (tgt := 614) X dL_law_344 (by decide) ?_
  exact w_widen (by omega) (by omega) (K _ _ _ z2.1)
set_option maxRecDepth 100000 in
theorem law_9 (h : LX_ C G b L xs) (hL : L ≤ 2560) (hi : i + 5 ≤ L) (ha : a + 1 ≤ 601024) (hs : sl + 6 ≤ 7293034) (h1 : xs (nI i + 1).toNatClampNeg = w1) (h2 : xs (nI i + 2).toNatClampNeg = w2) (h3 : xs (nI i + 3).toNatClampNeg = w3) (h4 : xs (nI i + 4).toNatClampNeg = w4) (hB : IV_ M) (K : ∀ (N : mm_) (p5 p6 : Option Value), IV_ N → wq_ (ca_ C (a + 1) (sl + 6)) G Q 614 [some (.ref b), some (.ref (G.1 34)), some (.ref (G.1 0)), some (.ref (G.1 262)), some (.int (nI i)), p5, p6] [] N) : wq_ (ca_ C a sl) G Q 347 [some (.ref b), some (.ref (G.1 34)), some (.ref (G.1 0)), some (.ref (G.1 262)), some (.int (nI i)), o5, o6] [] M := by
  have hG := LX_gd h
  have X := LX_cx (a := a) (sl := sl) h (by omega) (by omega)
  have X1 := LX_cx (a := a + 1) (sl := sl + 6) h ha hs
  refine w_aload_n X dL_law_347 rfl rfl ?_
  refine w_v0 X dL_law_348 kL_84 rfl s_34 (uX_records hG hB) (Nat.le_of_ble_eq_true rfl) (fun v N1 z1 => ?_)
  obtain ⟨r1, rfl, z1⟩ := z1
  refine w_pop X dL_law_351 rfl ?_
  refine w_aload_n X dL_law_352 rfl rfl ?_
  refine w_v0 X dL_law_353 kL_87 rfl s_0 (uR_records hG z1) (Nat.le_of_ble_eq_true rfl) (fun v N2 z2 => ?_)
  obtain ⟨r2, rfl, z2⟩ := z2
  refine w_pop X dL_law_356 rfl ?_
  refine w_goto (tgt := 614) X dL_law_357 (by decide) ?_
  exact w_widen (by omega) (by omega) (K _ _ _ z2.1)
set_option maxRecDepth 100000 in
theorem law_10 (h : LX_ C G b L xs) (hL : L ≤ 2560) (hi : i + 5 ≤ L) (ha : a + 1 ≤ 601024) (hs : sl + 6 ≤ 7293034) (h1 : xs (nI i + 1).toNatClampNeg = w1) (h2 : xs (nI i + 2).toNatClampNeg = w2) (h3 : xs (nI i + 3).toNatClampNeg = w3) (h4 : xs (nI i + 4).toNatClampNeg = w4) (hB : IV_ M) (K : ∀ (N : mm_) (p5 p6 : Option Value), IV_ N → wq_ (ca_ C (a + 1) (sl + 6)) G Q 614 [some (.ref b), some (.ref (G.1 34)), some (.ref (G.1 0)), some (.ref (G.1 262)), some (.int (nI i)), p5, p6] [] N) : wq_ (ca_ C a sl) G Q 360 [some (.ref b), some (.ref (G.1 34)), some (.ref (G.1 0)), some (.ref (G.1 262)), some (.int (nI i)), o5, o6] [] M := by
  have hG := LX_gd h
  have X := LX_cx (a := a) (sl := sl) h (by omega) (by omega)
  have X1 := LX_cx (a := a + 1) (sl := sl + 6) h ha hs
  refine w_aload_n X dL_law_360 rfl rfl ?_
  refine w_scr (v := 1) (w := w1) X (LX_sc h) dL_law_361 dL_law_362 dL_law_364 dL_law_365 dL_law_366 (by decide) rfl rfl (sc_in (k := 1) (by omega) hL) h1 ?_
  refine w_scr (v := 2) (w := w2) X (LX_sc h) dL_law_367 dL_law_368 dL_law_370 dL_law_371 dL_law_372 (by decide) rfl rfl (sc_in (k := 2) (by omega) hL) h2 ?_
  refine w_aload_n X dL_law_373 rfl rfl ?_
  refine w_help [.ref (G.1 34), .int w1, .int w2, .ref (G.1 262)] h ha hs dL_law_374 kH_88 (uL_record hG hB w1 w2) (by decide) (Nat.le_of_ble_eq_true rfl) (fun v N1 z1 => ?_)
  obtain ⟨r1, rfl, z1⟩ := z1
  refine w_istore X1 dL_law_377 (by decide) ?_
  refine w_aload_n X1 dL_law_379 rfl rfl ?_
  refine w_scr (v := 1) (w := w1) X1 (LX_sc h) dL_law_380 dL_law_381 dL_law_383 dL_law_384 dL_law_385 (by decide) rfl rfl (sc_in (k := 1) (by omega) hL) h1 ?_
  refine w_scr (v := 2) (w := w2) X1 (LX_sc h) dL_law_386 dL_law_387 dL_law_389 dL_law_390 dL_law_391 (by decide) rfl rfl (sc_in (k := 2) (by omega) hL) h2 ?_
  refine w_v2 X1 dL_law_392 kL_91 rfl s_0 (uR_record hG z1 w1 w2) (Nat.le_of_ble_eq_true rfl) (fun v N2 z2 => ?_)
  obtain ⟨r2, rfl, z2⟩ := z2
  refine w_istore X1 dL_law_395 (by decide) ?_
  refine w_goto (tgt := 614) X1 dL_law_397 (by decide) ?_
  exact K _ _ _ z2.1
set_option maxRecDepth 100000 in
theorem law_11 (h : LX_ C G b L xs) (hL : L ≤ 2560) (hi : i + 5 ≤ L) (ha : a + 1 ≤ 601024) (hs : sl + 6 ≤ 7293034) (h1 : xs (nI i + 1).toNatClampNeg = w1) (h2 : xs (nI i + 2).toNatClampNeg = w2) (h3 : xs (nI i + 3).toNatClampNeg = w3) (h4 : xs (nI i + 4).toNatClampNeg = w4) (hB : IV_ M) (K : ∀ (N : mm_) (p5 p6 : Option Value), IV_ N → wq_ (ca_ C (a + 1) (sl + 6)) G Q 614 [some (.ref b), some (.ref (G.1 34)), some (.ref (G.1 0)), some (.ref (G.1 262)), some (.int (nI i)), p5, p6] [] N) : wq_ (ca_ C a sl) G Q 400 [some (.ref b), some (.ref (G.1 34)), some (.ref (G.1 0)), some (.ref (G.1 262)), some (.int (nI i)), o5, o6] [] M := by
  have hG := LX_gd h
  have X := LX_cx (a := a) (sl := sl) h (by omega) (by omega)
  have X1 := LX_cx (a := a + 1) (sl := sl + 6) h ha hs
  refine w_aload_n X dL_law_400 rfl rfl ?_
  refine w_v0 X dL_law_401 kL_92 rfl s_34 (uX_clear hG hB) (Nat.le_of_ble_eq_true rfl) (fun v N1 z1 => ?_)
  obtain ⟨r1, rfl, z1⟩ := z1
  refine w_pop X dL_law_404 rfl ?_
  refine w_aload_n X dL_law_405 rfl rfl ?_
  refine w_v0 X dL_law_406 kL_95 rfl s_0 (uR_clear hG z1) (Nat.le_of_ble_eq_true rfl) (fun v N2 z2 => ?_)
  obtain ⟨r2, rfl, z2⟩ := z2
  refine w_pop X dL_law_409 rfl ?_
  refine w_goto (tgt := 614) X dL_law_410 (by decide) ?_
  exact w_widen (by omega) (by omega) (K _ _ _ z2.1)
set_option maxRecDepth 100000 in
theorem law_12 (h : LX_ C G b L xs) (hL : L ≤ 2560) (hi : i + 5 ≤ L) (ha : a + 1 ≤ 601024) (hs : sl + 6 ≤ 7293034) (h1 : xs (nI i + 1).toNatClampNeg = w1) (h2 : xs (nI i + 2).toNatClampNeg = w2) (h3 : xs (nI i + 3).toNatClampNeg = w3) (h4 : xs (nI i + 4).toNatClampNeg = w4) (hB : IV_ M) (K : ∀ (N : mm_) (p5 p6 : Option Value), IV_ N → wq_ (ca_ C (a + 1) (sl + 6)) G Q 614 [some (.ref b), some (.ref (G.1 34)), some (.ref (G.1 0)), some (.ref (G.1 262)), some (.int (nI i)), p5, p6] [] N) : wq_ (ca_ C a sl) G Q 413 [some (.ref b), some (.ref (G.1 34)), some (.ref (G.1 0)), some (.ref (G.1 262)), some (.int (nI i)), o5, o6] [] M := by
  have hG := LX_gd h
  have X := LX_cx (a := a) (sl := sl) h (by omega) (by omega)
  have X1 := LX_cx (a := a + 1) (sl := sl + 6) h ha hs
  refine w_aload_n X dL_law_413 rfl rfl ?_
  refine w_scr (v := 1) (w := w1) X (LX_sc h) dL_law_414 dL_law_415 dL_law_417 dL_law_418 dL_law_419 (by decide) rfl rfl (sc_in (k := 1) (by omega) hL) h1 ?_
  refine w_scr (v := 2) (w := w2) X (LX_sc h) dL_law_420 dL_law_421 dL_law_423 dL_law_424 dL_law_425 (by decide) rfl rfl (sc_in (k := 2) (by omega) hL) h2 ?_
  refine w_aload_n X dL_law_426 rfl rfl ?_
  refine w_help [.ref (G.1 34), .int w1, .int w2, .ref (G.1 262)] h ha hs dL_law_427 kH_96 (uL_job hG hB w1 w2) (by decide) (Nat.le_of_ble_eq_true rfl) (fun v N1 z1 => ?_)
  obtain ⟨r1, rfl, z1⟩ := z1
  refine w_istore X1 dL_law_430 (by decide) ?_
  refine w_aload_n X1 dL_law_432 rfl rfl ?_
  refine w_scr (v := 1) (w := w1) X1 (LX_sc h) dL_law_433 dL_law_434 dL_law_436 dL_law_437 dL_law_438 (by decide) rfl rfl (sc_in (k := 1) (by omega) hL) h1 ?_
  refine w_scr (v := 2) (w := w2) X1 (LX_sc h) dL_law_439 dL_law_440 dL_law_442 dL_law_443 dL_law_444 (by decide) rfl rfl (sc_in (k := 2) (by omega) hL) h2 ?_
  refine w_v2 X1 dL_law_445 kL_98 rfl s_0 (uR_job hG z1 w1 w2) (Nat.le_of_ble_eq_true rfl) (fun v N2 z2 => ?_)
  obtain ⟨r2, rfl, z2⟩ := z2
  refine w_istore X1 dL_law_448 (by decide) ?_
  refine w_goto (tgt := 614) X1 dL_law_450 (by decide) ?_
  exact K _ _ _ z2.1
set_option maxRecDepth 100000 in
theorem law_13 (h : LX_ C G b L xs) (hL : L ≤ 2560) (hi : i + 5 ≤ L) (ha : a + 1 ≤ 601024) (hs : sl + 6 ≤ 7293034) (h1 : xs (nI i + 1).toNatClampNeg = w1) (h2 : xs (nI i + 2).toNatClampNeg = w2) (h3 : xs (nI i + 3).toNatClampNeg = w3) (h4 : xs (nI i + 4).toNatClampNeg = w4) (hB : IV_ M) (K : ∀ (N : mm_) (p5 p6 : Option Value), IV_ N → wq_ (ca_ C (a + 1) (sl + 6)) G Q 614 [some (.ref b), some (.ref (G.1 34)), some (.ref (G.1 0)), some (.ref (G.1 262)), some (.int (nI i)), p5, p6] [] N) : wq_ (ca_ C a sl) G Q 453 [some (.ref b), some (.ref (G.1 34)), some (.ref (G.1 0)), some (.ref (G.1 262)), some (.int (nI i)), o5, o6] [] M := by
  have hG := LX_gd h
  have X := LX_cx (a := a) (sl := sl) h (by omega) (by omega)
  have X1 := LX_cx (a := a + 1) (sl := sl + 6) h ha hs
  refine w_aload_n X dL_law_453 rfl rfl ?_
  refine w_scr (v := 1) (w := w1) X (LX_sc h) dL_law_454 dL_law_455 dL_law_457 dL_law_458 dL_law_459 (by decide) rfl rfl (sc_in (k := 1) (by omega) hL) h1 ?_
  refine w_scr (v := 2) (w := w2) X (LX_sc h) dL_law_460 dL_law_461 dL_law_463 dL_law_464 dL_law_465 (by decide) rfl rfl (sc_in (k := 2) (by omega) hL) h2 ?_
  refine w_scr (v := 3) (w := w3) X (LX_sc h) dL_law_466 dL_law_467 dL_law_469 dL_law_470 dL_law_471 (by decide) rfl rfl (sc_in (k := 3) (by omega) hL) h3 ?_
  refine w_aload_n X dL_law_472 rfl rfl ?_
  refine w_help [.ref (G.1 34), .int w1, .int w2, .int w3, .ref (G.1 262)] h ha hs dL_law_473 kH_99 (uL_counted hG hB w1 w2 w3) (by decide) (Nat.le_of_ble_eq_true rfl) (fun v N1 z1 => ?_)
  obtain ⟨r1, rfl, z1⟩ := z1
  refine w_istore X1 dL_law_476 (by decide) ?_
  refine w_aload_n X1 dL_law_478 rfl rfl ?_
  refine w_scr (v := 1) (w := w1) X1 (LX_sc h) dL_law_479 dL_law_480 dL_law_482 dL_law_483 dL_law_484 (by decide) rfl rfl (sc_in (k := 1) (by omega) hL) h1 ?_
  refine w_scr (v := 2) (w := w2) X1 (LX_sc h) dL_law_485 dL_law_486 dL_law_488 dL_law_489 dL_law_490 (by decide) rfl rfl (sc_in (k := 2) (by omega) hL) h2 ?_
  refine w_scr (v := 3) (w := w3) X1 (LX_sc h) dL_law_491 dL_law_492 dL_law_494 dL_law_495 dL_law_496 (by decide) rfl rfl (sc_in (k := 3) (by omega) hL) h3 ?_
  refine w_v3 X1 dL_law_497 kL_102 rfl s_0 (uR_counted hG z1 w1 w2 w3) (Nat.le_of_ble_eq_true rfl) (fun v N2 z2 => ?_)
  obtain ⟨r2, rfl, z2⟩ := z2
  refine w_istore X1 dL_law_500 (by decide) ?_
  refine w_goto (tgt := 614) X1 dL_law_502 (by decide) ?_
  exact K _ _ _ z2.1
set_option maxRecDepth 100000 in
theorem law_14 (h : LX_ C G b L xs) (hL : L ≤ 2560) (hi : i + 5 ≤ L) (ha : a + 1 ≤ 601024) (hs : sl + 6 ≤ 7293034) (h1 : xs (nI i + 1).toNatClampNeg = w1) (h2 : xs (nI i + 2).toNatClampNeg = w2) (h3 : xs (nI i + 3).toNatClampNeg = w3) (h4 : xs (nI i + 4).toNatClampNeg = w4) (hB : IV_ M) (K : ∀ (N : mm_) (p5 p6 : Option Value), IV_ N → wq_ (ca_ C (a + 1) (sl + 6)) G Q 614 [some (.ref b), some (.ref (G.1 34)), some (.ref (G.1 0)), some (.ref (G.1 262)), some (.int (nI i)), p5, p6] [] N) : wq_ (ca_ C a sl) G Q 505 [some (.ref b), some (.ref (G.1 34)), some (.ref (G.1 0)), some (.ref (G.1 262)), some (.int (nI i)), o5, o6] [] M := by
  have hG := LX_gd h
  have X := LX_cx (a := a) (sl := sl) h (by omega) (by omega)
  have X1 := LX_cx (a := a + 1) (sl := sl + 6) h ha hs
  refine w_aload_n X dL_law_505 rfl rfl ?_
  refine w_v0 X dL_law_506 kL_103 rfl s_34 (uX_keeps hG hB) (Nat.le_of_ble_eq_true rfl) (fun v N1 z1 => ?_)
  obtain ⟨r1, rfl, z1⟩ := z1
  refine w_pop X dL_law_509 rfl ?_
  refine w_aload_n X dL_law_510 rfl rfl ?_
  refine w_v0 X dL_law_511 kL_106 rfl s_0 (uR_keeps hG z1) (Nat.le_of_ble_eq_true rfl) (fun v N2 z2 => ?_)
  obtain ⟨r2, rfl, z2⟩ := z2
  refine w_pop X dL_law_514 rfl ?_
  refine w_goto (tgt := 614) X dL_law_515 (by decide) ?_
  exact w_widen (by omega) (by omega) (K _ _ _ z2.1)
set_option maxRecDepth 100000 in
theorem law_15 (h : LX_ C G b L xs) (hL : L ≤ 2560) (hi : i + 5 ≤ L) (ha : a + 1 ≤ 601024) (hs : sl + 6 ≤ 7293034) (h1 : xs (nI i + 1).toNatClampNeg = w1) (h2 : xs (nI i + 2).toNatClampNeg = w2) (h3 : xs (nI i + 3).toNatClampNeg = w3) (h4 : xs (nI i + 4).toNatClampNeg = w4) (hB : IV_ M) (K : ∀ (N : mm_) (p5 p6 : Option Value), IV_ N → wq_ (ca_ C (a + 1) (sl + 6)) G Q 614 [some (.ref b), some (.ref (G.1 34)), some (.ref (G.1 0)), some (.ref (G.1 262)), some (.int (nI i)), p5, p6] [] N) : wq_ (ca_ C a sl) G Q 518 [some (.ref b), some (.ref (G.1 34)), some (.ref (G.1 0)), some (.ref (G.1 262)), some (.int (nI i)), o5, o6] [] M := by
  have hG := LX_gd h
  have X := LX_cx (a := a) (sl := sl) h (by omega) (by omega)
  have X1 := LX_cx (a := a + 1) (sl := sl + 6) h ha hs
  refine w_aload_n X dL_law_518 rfl rfl ?_
  refine w_scr (v := 1) (w := w1) X (LX_sc h) dL_law_519 dL_law_520 dL_law_522 dL_law_523 dL_law_524 (by decide) rfl rfl (sc_in (k := 1) (by omega) hL) h1 ?_
  refine w_scr (v := 2) (w := w2) X (LX_sc h) dL_law_525 dL_law_526 dL_law_528 dL_law_529 dL_law_530 (by decide) rfl rfl (sc_in (k := 2) (by omega) hL) h2 ?_
  refine w_aload_n X dL_law_531 rfl rfl ?_
  refine w_help [.ref (G.1 34), .int w1, .int w2, .ref (G.1 262)] h ha hs dL_law_532 kH_107 (uL_kept hG hB w1 w2) (by decide) (Nat.le_of_ble_eq_true rfl) (fun v N1 z1 => ?_)
  obtain ⟨r1, rfl, z1⟩ := z1
  refine w_istore X1 dL_law_535 (by decide) ?_
  refine w_aload_n X1 dL_law_537 rfl rfl ?_
  refine w_scr (v := 1) (w := w1) X1 (LX_sc h) dL_law_538 dL_law_539 dL_law_541 dL_law_542 dL_law_543 (by decide) rfl rfl (sc_in (k := 1) (by omega) hL) h1 ?_
  refine w_scr (v := 2) (w := w2) X1 (LX_sc h) dL_law_544 dL_law_545 dL_law_547 dL_law_548 dL_law_549 (by decide) rfl rfl (sc_in (k := 2) (by omega) hL) h2 ?_
  refine w_v2 X1 dL_law_550 kL_109 rfl s_0 (uR_kept hG z1 w1 w2) (Nat.le_of_ble_eq_true rfl) (fun v N2 z2 => ?_)
  obtain ⟨r2, rfl, z2⟩ := z2
  refine w_istore X1 dL_law_553 (by decide) ?_
  refine w_goto (tgt := 614) X1 dL_law_555 (by decide) ?_
  exact K _ _ _ z2.1
set_option maxRecDepth 100000 in
theorem law_16 (h : LX_ C G b L xs) (hL : L ≤ 2560) (hi : i + 5 ≤ L) (ha : a + 1 ≤ 601024) (hs : sl + 6 ≤ 7293034) (h1 : xs (nI i + 1).toNatClampNeg = w1) (h2 : xs (nI i + 2).toNatClampNeg = w2) (h3 : xs (nI i + 3).toNatClampNeg = w3) (h4 : xs (nI i + 4).toNatClampNeg = w4) (hB : IV_ M) (K : ∀ (N : mm_) (p5 p6 : Option Value), IV_ N → wq_ (ca_ C (a + 1) (sl + 6)) G Q 614 [some (.ref b), some (.ref (G.1 34)), some (.ref (G.1 0)), some (.ref (G.1 262)), some (.int (nI i)), p5, p6] [] N) : wq_ (ca_ C a sl) G Q 558 [some (.ref b), some (.ref (G.1 34)), some (.ref (G.1 0)), some (.ref (G.1 262)), some (.int (nI i)), o5, o6] [] M := by
  have hG := LX_gd h
  have X := LX_cx (a := a) (sl := sl) h (by omega) (by omega)
  have X1 := LX_cx (a := a + 1) (sl := sl + 6) h ha hs
  refine w_aload_n X dL_law_558 rfl rfl ?_
  refine w_scr (v := 1) (w := w1) X (LX_sc h) dL_law_559 dL_law_560 dL_law_562 dL_law_563 dL_law_564 (by decide) rfl rfl (sc_in (k := 1) (by omega) hL) h1 ?_
  refine w_aload_n X dL_law_565 rfl rfl ?_
  refine w_help [.ref (G.1 34), .int w1, .ref (G.1 262)] h ha hs dL_law_566 kH_110 (uL_replay hG hB w1) (by decide) (Nat.le_of_ble_eq_true rfl) (fun v N1 z1 => ?_)
  obtain ⟨r1, rfl, z1⟩ := z1
  refine w_istore X1 dL_law_569 (by decide) ?_
  refine w_aload_n X1 dL_law_571 rfl rfl ?_
  refine w_scr (v := 1) (w := w1) X1 (LX_sc h) dL_law_572 dL_law_573 dL_law_575 dL_law_576 dL_law_577 (by decide) rfl rfl (sc_in (k := 1) (by omega) hL) h1 ?_
  refine w_v1 X1 dL_law_578 kL_113 rfl s_0 (uR_replay hG z1 w1) (Nat.le_of_ble_eq_true rfl) (fun v N2 z2 => ?_)
  obtain ⟨r2, rfl, z2⟩ := z2
  refine w_istore X1 dL_law_581 (by decide) ?_
  refine w_aload_n X1 dL_law_583 rfl rfl ?_
  refine w_v0fI X1 dL_law_584 kL_114 rfl s_0 (c12_thrown G hG 1299 N2) (Nat.le_of_ble_eq_true rfl) ?_
  refine w_iload X1 dL_law_587 rfl ?_
  refine w_icmp_eq (tgt := 594) X1 dL_law_589 (by decide) (fun _ => ?_) (fun z => absurd z2.2.1 z)
  refine w_iload X1 dL_law_594 rfl ?_
  refine w_if_ne (tgt := 611) X1 dL_law_596 (by decide) (fun _ => ?_) (fun z0 => ?_)
  · refine w_goto (tgt := 614) X1 dL_law_611 (by decide) ?_
    exact K _ _ _ z2.1
  · refine w_aload_n X1 dL_law_599 rfl rfl ?_
    refine w_iconst (v := nI 0) X1 dL_law_600 (by decide) ?_
    refine w_laloadN X1 dL_law_601 s_262 rfl ⟨by decide, by decide⟩ ?_
    refine w_iload X1 dL_law_602 rfl ?_
    refine w_i2l X1 dL_law_604 ?_
    refine w_lcmp X1 dL_law_605 ?_
    refine w_if_eq (tgt := 611) X1 dL_law_606 (by decide) (fun _ => ?_) (fun z => absurd (by rw [z2.2.2 z0]; exact lgc_ _) z)
    refine w_goto (tgt := 614) X1 dL_law_611 (by decide) ?_
    exact K _ _ _ z2.1
end CASES
end
section
/-! the law's loop -/
theorem law_cmp {L i : Nat} (hL : L ≤ 2560) (hi : i ≤ 2570) (h : ¬ nI L - 5 < nI i) : i + 5 ≤ L := by
  refine Nat.le_of_not_lt (fun z => h ?_)
  by_cases h5 : 5 ≤ L
  · rw [show (5 : Int32) = nI 5 from rfl, pk_sub h5]
    exact nI_lt (by omega) (by omega)
  · have e : ∀ x : Nat, x < 5 → nI x - 5 < 0 := by decide
    have e2 : (0 : Int32) ≤ nI i := by
      rw [← nI_0]
      exact nI_le (by omega) (by omega)
    exact Int32.lt_of_lt_of_le (e L (by omega)) e2
section LOOP
variable {C : mc_} {G : gg_} {b L : Nat} {xs : Nat → Int32}
set_option maxRecDepth 100000 in
theorem law_loop (h : LX_ C G b L xs) (hL : L ≤ 2560) : ∀ (u i a sl : Nat) (M : mm_) (o5 o6 : Option Value), L ≤ i + 5 * u + 4 → i ≤ L + 5 → a + u ≤ 601024 → sl + 6 * u ≤ 7293034 → IV_ M → wq_ (ca_ C a sl) G (lwq_ C) 23 [some (.ref b), some (.ref (G.1 34)), some (.ref (G.1 0)), some (.ref (G.1 262)), some (.int (nI i)), o5, o6] [] M := by
  intro u
  induction u with
  | zero =>
    intro i a sl M o5 o6 h1 h2 ha hs hB
    have X := LX_cx (a := a) (sl := sl) h (by omega) (by omega)
    refine w_iload X dL_law_23 rfl ?_
    refine w_aload_n X dL_law_25 rfl rfl ?_
    refine w_sclen X (LX_sc h) dL_law_26 ?_
    refine w_iconst (v := 5) X dL_law_27 (by decide) ?_
    refine w_isub X dL_law_28 ?_
    refine w_icmp_gt (tgt := 620) X dL_law_29 (by decide) (fun _ => ?_) (fun z => ?_)
    · refine w_iconst (v := 1) X dL_law_620 (by decide) ?_
      exact w_lawret h (by omega) (by omega) dL_law_621
    · have := law_cmp hL (by omega) z
      omega
  | succ u ih =>
    intro i a sl M o5 o6 h1 h2 ha hs hB
    have X := LX_cx (a := a) (sl := sl) h (by omega) (by omega)
    have X1 := LX_cx (a := a + 1) (sl := sl + 6) h (by omega) (by omega)
    refine w_iload X dL_law_23 rfl ?_
    refine w_aload_n X dL_law_25 rfl rfl ?_
    refine w_sclen X (LX_sc h) dL_law_26 ?_
    refine w_iconst (v := 5) X dL_law_27 (by decide) ?_
    refine w_isub X dL_law_28 ?_
    refine w_icmp_gt (tgt := 620) X dL_law_29 (by decide) (fun _ => ?_) (fun z => ?_)
    · refine w_iconst (v := 1) X dL_law_620 (by decide) ?_
      exact w_lawret h (by omega) (by omega) dL_law_621
    have hi := law_cmp hL (by omega) z
    have K : ∀ (N : mm_) (p5 p6 : Option Value), IV_ N → wq_ (ca_ C (a + 1) (sl + 6)) G (lwq_ C) 614 [some (.ref b), some (.ref (G.1 34)), some (.ref (G.1 0)), some (.ref (G.1 262)), some (.int (nI i)), p5, p6] [] N := by
      intro N p5 p6 hN
      refine w_iinc (v := 5) X1 dL_law_614 rfl (by decide) (by decide) ?_
      refine w_goto (tgt := 23) X1 dL_law_617 (by decide) ?_
      rw [show nI i + 5 = nI (i + 5) from nI_add i 5]
      exact ih (i + 5) (a + 1) (sl + 6) N p5 p6 (by omega) (by omega) (by omega) (by omega) hN
    refine w_aload_n X dL_law_32 rfl rfl ?_
    refine w_iload X dL_law_33 rfl ?_
    refine w_sld X (LX_sc h) dL_law_35 (vp_in_nI (by omega) (by omega)) ?_
    refine w_bipush (v := 31) X dL_law_36 (by decide) ?_
    refine w_iand X dL_law_38 ?_
    generalize xs (nI i).toNatClampNeg &&& 31 = t
    by_cases ht : t.toInt < 0 ∨ 16 < t.toInt
    · refine w_tableOut (tgt := 614) X dL_law_39 ht (by decide) ?_
      exact w_widen (by omega) (by omega) (K _ _ _ hB)
    obtain ⟨n, hn⟩ : ∃ n : Nat, t.toInt = (n : Int) := ⟨t.toInt.toNat, by omega⟩
    have hn2 : n = 0 ∨ n = 1 ∨ n = 2 ∨ n = 3 ∨ n = 4 ∨ n = 5 ∨ n = 6 ∨ n = 7 ∨ n = 8 ∨ n = 9 ∨ n = 10 ∨ n = 11 ∨ n = 12 ∨ n = 13 ∨ n = 14 ∨ n = 15 ∨ n = 16 := by omega
    rcases hn2 with rfl | rfl | rfl | rfl | rfl | rfl | rfl | rfl | rfl | rfl | rfl | rfl | rfl | rfl | rfl | rfl | rfl
    · exact w_tableIn (tgt := 120) (off := 81) X dL_law_39 (by rw [hn]; decide) (by rw [hn]; decide) (by rw [hn]; decide) (by decide) (law_0 h hL hi (by omega) (by omega) rfl rfl rfl rfl hB K)
    · exact w_tableIn (tgt := 192) (off := 153) X dL_law_39 (by rw [hn]; decide) (by rw [hn]; decide) (by rw [hn]; decide) (by decide) (law_1 h hL hi (by omega) (by omega) rfl rfl rfl rfl hB K)
    · exact w_tableIn (tgt := 205) (off := 166) X dL_law_39 (by rw [hn]; decide) (by rw [hn]; decide) (by rw [hn]; decide) (by decide) (law_2 h hL hi (by omega) (by omega) rfl rfl rfl rfl hB K)
    · exact w_tableIn (tgt := 218) (off := 179) X dL_law_39 (by rw [hn]; decide) (by rw [hn]; decide) (by rw [hn]; decide) (by decide) (law_3 h hL hi (by omega) (by omega) rfl rfl rfl rfl hB K)
    · exact w_tableIn (tgt := 231) (off := 192) X dL_law_39 (by rw [hn]; decide) (by rw [hn]; decide) (by rw [hn]; decide) (by decide) (law_4 h hL hi (by omega) (by omega) rfl rfl rfl rfl hB K)
    · exact w_tableIn (tgt := 244) (off := 205) X dL_law_39 (by rw [hn]; decide) (by rw [hn]; decide) (by rw [hn]; decide) (by decide) (law_5 h hL hi (by omega) (by omega) rfl rfl rfl rfl hB K)
    · exact w_tableIn (tgt := 257) (off := 218) X dL_law_39 (by rw [hn]; decide) (by rw [hn]; decide) (by rw [hn]; decide) (by decide) (law_6 h hL hi (by omega) (by omega) rfl rfl rfl rfl hB K)
    · exact w_tableIn (tgt := 321) (off := 282) X dL_law_39 (by rw [hn]; decide) (by rw [hn]; decide) (by rw [hn]; decide) (by decide) (law_7 h hL hi (by omega) (by omega) rfl rfl rfl rfl hB K)
    · exact w_tableIn (tgt := 334) (off := 295) X dL_law_39 (by rw [hn]; decide) (by rw [hn]; decide) (by rw [hn]; decide) (by decide) (law_8 h hL hi (by omega) (by omega) rfl rfl rfl rfl hB K)
    · exact w_tableIn (tgt := 347) (off := 308) X dL_law_39 (by rw [hn]; decide) (by rw [hn]; decide) (by rw [hn]; decide) (by decide) (law_9 h hL hi (by omega) (by omega) rfl rfl rfl rfl hB K)
    · exact w_tableIn (tgt := 360) (off := 321) X dL_law_39 (by rw [hn]; decide) (by rw [hn]; decide) (by rw [hn]; decide) (by decide) (law_10 h hL hi (by omega) (by omega) rfl rfl rfl rfl hB K)
    · exact w_tableIn (tgt := 400) (off := 361) X dL_law_39 (by rw [hn]; decide) (by rw [hn]; decide) (by rw [hn]; decide) (by decide) (law_11 h hL hi (by omega) (by omega) rfl rfl rfl rfl hB K)
    · exact w_tableIn (tgt := 413) (off := 374) X dL_law_39 (by rw [hn]; decide) (by rw [hn]; decide) (by rw [hn]; decide) (by decide) (law_12 h hL hi (by omega) (by omega) rfl rfl rfl rfl hB K)
    · exact w_tableIn (tgt := 453) (off := 414) X dL_law_39 (by rw [hn]; decide) (by rw [hn]; decide) (by rw [hn]; decide) (by decide) (law_13 h hL hi (by omega) (by omega) rfl rfl rfl rfl hB K)
    · exact w_tableIn (tgt := 505) (off := 466) X dL_law_39 (by rw [hn]; decide) (by rw [hn]; decide) (by rw [hn]; decide) (by decide) (law_14 h hL hi (by omega) (by omega) rfl rfl rfl rfl hB K)
    · exact w_tableIn (tgt := 518) (off := 479) X dL_law_39 (by rw [hn]; decide) (by rw [hn]; decide) (by rw [hn]; decide) (by decide) (law_15 h hL hi (by omega) (by omega) rfl rfl rfl rfl hB K)
    · exact w_tableIn (tgt := 558) (off := 519) X dL_law_39 (by rw [hn]; decide) (by rw [hn]; decide) (by rw [hn]; decide) (by decide) (law_16 h hL hi (by omega) (by omega) rfl rfl rfl rfl hB K)
theorem wn_wq {D : mc_} {Q : State → Prop} {pc : Nat} {lv : List (Option Value)} {st : List Value} {M : mm_} (ha : ∀ k, k < 263 → aok_ M k = true) (k : wq_ D G Q pc lv st M) : wn_ D G Q pc lv st M 263 := by
  obtain ⟨p, l, e, R, s, m, args, below, meth, c, cs, sl⟩ := D
  intro H locs ls hl hP hS
  exact k H locs ls hl (hp_wl ha hP) hS
set_option maxRecDepth 100000 in
theorem law_head (X : cnX_ C G RL cL_law 7 ret 1300 263 15532) (hg : ga_ G) (h : LX_ C G b L xs) (hL : L ≤ 2560) : wn_ (ca_ C 0 0) G (lwq_ C) 0 [some (.ref b), none, none, none, none, none, none] [] Z0_ 0 := by
  refine n_new X dL_law_0 rfl inG11 tyX11_ok clL_8 ins11_ in11_ rfl (by decide +kernel) (by decide) (by decide) (by decide) ?_
  refine n_dup X dL_law_3 rfl ?_
  refine n_ctor [] X dL_law_4 kL_39 (i11_ G hg 1295 _) (Nat.le_of_ble_eq_true rfl) (by decide) (by decide) ?_
  refine n_astore_n X dL_law_7 rfl (by decide) ?_
  refine n_new X dL_law_8 rfl inG12 tyX12_ok clL_40 ins12_ in12_ rfl (by decide +kernel) (by decide) (by decide) (by decide) ?_
  refine n_dup X dL_law_11 rfl ?_
  refine n_ctor [] X dL_law_12 kL_42 (i12_ G hg 1298 _) (Nat.le_of_ble_eq_true rfl) (by decide) (by decide) ?_
  refine n_astore_n X dL_law_15 rfl (by decide) ?_
  refine n_iconst (v := 1) X dL_law_16 (by decide) ?_
  refine n_newL X dL_law_17 rfl rfl ac_long rfl (fun _ _ h => h) rfl (by decide) (by decide) (by decide) (by decide) (by decide) ?_
  refine wn_wq (M := M1_) aok_1 ?_
  have Y := LX_cx (a := 263) (sl := 15532) h (by decide) (by decide)
  refine w_astore_n Y dL_law_19 rfl (by decide) ?_
  refine w_iconst (v := 0) Y dL_law_20 (by decide) ?_
  refine w_istore Y dL_law_21 (by decide) ?_
  exact law_loop h hL 512 0 263 15532 M1_ none none (by omega) (by omega) (by decide) (by decide) IV_1
end LOOP
theorem hp_0 {G : gg_} {H : Heap} (h : G.2.2.2 = H.size) : hp_ G Z0_ 0 H := ⟨(fun k q h => by cases h), (by rw [h]; rfl), fun k _ => ⟨fun _ => rfl, fun _ => rfl, fun _ => rfl⟩⟩

end
