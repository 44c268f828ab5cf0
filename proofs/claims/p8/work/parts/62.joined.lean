/-! Machine: joined -/
def joX_ (c a b : Int32) : Int32 := if c = 43 then a + b else if c = 45 then a - b else if c = 42 then a * b else if c = 47 then (if b = 0 then 0 else a / b) else if c = 37 then (if b = 0 then 0 else a - a / b * b) else if c = 60 then (if a < b then 1 else 0) else if c = 61 then (if a = b then 1 else 0) else if b < a then 1 else 0
set_option maxRecDepth 100000 in
set_option maxHeartbeats 600000 in
theorem c4_joined (G : gg_) (hG : gd_ G) (d : Nat) (M : mm_) (c a b : Int32) : cm_ G yX4_joined cX4_joined 3 (some .int) (d) [.int c, .int a, .int b] M (fI_ (joX_ c a b) M) := by
  refine cm_of hG (by decide) (Nat.le_of_ble_eq_true rfl) (fun C X => ?_)
  refine w_iload_n X dX4_joined_0 rfl rfl ?_
  by_cases k43 : c = 43
  · refine w_tableIn (tgt := 116) (off := 115) X dX4_joined_1 (by rw [k43]; decide) (by rw [k43]; decide) (by rw [k43]; decide) (by decide) ?_
    refine w_iload_n X dX4_joined_116 rfl rfl ?_
    refine w_iload_n X dX4_joined_117 rfl rfl ?_
    refine w_iadd X dX4_joined_118 ?_
    refine w_irF X dX4_joined_119 ?_ rfl
    unfold joX_
    rw [if_pos k43]
  by_cases k45 : c = 45
  · refine w_tableIn (tgt := 120) (off := 119) X dX4_joined_1 (by rw [k45]; decide) (by rw [k45]; decide) (by rw [k45]; decide) (by decide) ?_
    refine w_iload_n X dX4_joined_120 rfl rfl ?_
    refine w_iload_n X dX4_joined_121 rfl rfl ?_
    refine w_isub X dX4_joined_122 ?_
    refine w_irF X dX4_joined_123 ?_ rfl
    unfold joX_
    rw [if_neg k43, if_pos k45]
  by_cases k42 : c = 42
  · refine w_tableIn (tgt := 124) (off := 123) X dX4_joined_1 (by rw [k42]; decide) (by rw [k42]; decide) (by rw [k42]; decide) (by decide) ?_
    refine w_iload_n X dX4_joined_124 rfl rfl ?_
    refine w_iload_n X dX4_joined_125 rfl rfl ?_
    refine w_imul X dX4_joined_126 ?_
    refine w_irF X dX4_joined_127 ?_ rfl
    unfold joX_
    rw [if_neg k43, if_neg k45, if_pos k42]
  by_cases k47 : c = 47
  · refine w_tableIn (tgt := 128) (off := 127) X dX4_joined_1 (by rw [k47]; decide) (by rw [k47]; decide) (by rw [k47]; decide) (by decide) ?_
    refine w_iload_n X dX4_joined_128 rfl rfl ?_
    refine w_if_ne (tgt := 136) X dX4_joined_129 (by decide) (fun h129 => ?_) (fun h129 => ?_)
    · refine w_iload_n X dX4_joined_136 rfl rfl ?_
      refine w_iload_n X dX4_joined_137 rfl rfl ?_
      refine w_idiv X dX4_joined_138 (h129) ?_
      refine w_irF X dX4_joined_139 ?_ rfl
      unfold joX_
      rw [if_neg k43, if_neg k45, if_neg k42, if_pos k47, if_neg h129]
    · refine w_iconst (v := 0) X dX4_joined_132 (by decide) ?_
      refine w_goto (tgt := 139) X dX4_joined_133 (by decide) ?_
      refine w_irF X dX4_joined_139 ?_ rfl
      unfold joX_
      rw [if_neg k43, if_neg k45, if_neg k42, if_pos k47, if_pos h129]
  by_cases k37 : c = 37
  · refine w_tableIn (tgt := 140) (off := 139) X dX4_joined_1 (by rw [k37]; decide) (by rw [k37]; decide) (by rw [k37]; decide) (by decide) ?_
    refine w_iload_n X dX4_joined_140 rfl rfl ?_
    refine w_if_ne (tgt := 148) X dX4_joined_141 (by decide) (fun h141 => ?_) (fun h141 => ?_)
    · refine w_iload_n X dX4_joined_148 rfl rfl ?_
      refine w_iload_n X dX4_joined_149 rfl rfl ?_
      refine w_irem X dX4_joined_150 (h141) ?_
      refine w_irF X dX4_joined_151 ?_ rfl
      unfold joX_
      rw [if_neg k43, if_neg k45, if_neg k42, if_neg k47, if_pos k37, if_neg h141]
    · refine w_iconst (v := 0) X dX4_joined_144 (by decide) ?_
      refine w_goto (tgt := 151) X dX4_joined_145 (by decide) ?_
      refine w_irF X dX4_joined_151 ?_ rfl
      unfold joX_
      rw [if_neg k43, if_neg k45, if_neg k42, if_neg k47, if_pos k37, if_pos h141]
  by_cases k60 : c = 60
  · refine w_tableIn (tgt := 152) (off := 151) X dX4_joined_1 (by rw [k60]; decide) (by rw [k60]; decide) (by rw [k60]; decide) (by decide) ?_
    refine w_iload_n X dX4_joined_152 rfl rfl ?_
    refine w_iload_n X dX4_joined_153 rfl rfl ?_
    refine w_icmp_ge (tgt := 161) X dX4_joined_154 (by decide) (fun h154 => ?_) (fun h154 => ?_)
    · refine w_iconst (v := 0) X dX4_joined_161 (by decide) ?_
      refine w_irF X dX4_joined_162 ?_ rfl
      unfold joX_
      rw [if_neg k43, if_neg k45, if_neg k42, if_neg k47, if_neg k37, if_pos k60, if_neg (Int32.not_lt.mpr h154)]
    · refine w_iconst (v := 1) X dX4_joined_157 (by decide) ?_
      refine w_goto (tgt := 162) X dX4_joined_158 (by decide) ?_
      refine w_irF X dX4_joined_162 ?_ rfl
      unfold joX_
      rw [if_neg k43, if_neg k45, if_neg k42, if_neg k47, if_neg k37, if_pos k60, if_pos (Int32.not_le.mp h154)]
  by_cases k61 : c = 61
  · refine w_tableIn (tgt := 163) (off := 162) X dX4_joined_1 (by rw [k61]; decide) (by rw [k61]; decide) (by rw [k61]; decide) (by decide) ?_
    refine w_iload_n X dX4_joined_163 rfl rfl ?_
    refine w_iload_n X dX4_joined_164 rfl rfl ?_
    refine w_icmp_ne (tgt := 172) X dX4_joined_165 (by decide) (fun h165 => ?_) (fun h165 => ?_)
    · refine w_iconst (v := 0) X dX4_joined_172 (by decide) ?_
      refine w_irF X dX4_joined_173 ?_ rfl
      unfold joX_
      rw [if_neg k43, if_neg k45, if_neg k42, if_neg k47, if_neg k37, if_neg k60, if_pos k61, if_neg h165]
    · refine w_iconst (v := 1) X dX4_joined_168 (by decide) ?_
      refine w_goto (tgt := 173) X dX4_joined_169 (by decide) ?_
      refine w_irF X dX4_joined_173 ?_ rfl
      unfold joX_
      rw [if_neg k43, if_neg k45, if_neg k42, if_neg k47, if_neg k37, if_neg k60, if_pos k61, if_pos h165]
  have n43 : ¬ c.toInt = 43 := fun q => k43 (Int32.toInt_inj.mp (q.trans (by decide : (43 : Int) = (43 : Int32).toInt)))
  have n45 : ¬ c.toInt = 45 := fun q => k45 (Int32.toInt_inj.mp (q.trans (by decide : (45 : Int) = (45 : Int32).toInt)))
  have n42 : ¬ c.toInt = 42 := fun q => k42 (Int32.toInt_inj.mp (q.trans (by decide : (42 : Int) = (42 : Int32).toInt)))
  have n47 : ¬ c.toInt = 47 := fun q => k47 (Int32.toInt_inj.mp (q.trans (by decide : (47 : Int) = (47 : Int32).toInt)))
  have n37 : ¬ c.toInt = 37 := fun q => k37 (Int32.toInt_inj.mp (q.trans (by decide : (37 : Int) = (37 : Int32).toInt)))
  have n60 : ¬ c.toInt = 60 := fun q => k60 (Int32.toInt_inj.mp (q.trans (by decide : (60 : Int) = (60 : Int32).toInt)))
  have n61 : ¬ c.toInt = 61 := fun q => k61 (Int32.toInt_inj.mp (q.trans (by decide : (61 : Int) = (61 : Int32).toInt)))
  have key : ∀ i : Nat, i < 25 → ¬ i = 0 → ¬ i = 5 → ¬ i = 6 → ¬ i = 8 → ¬ i = 10 → ¬ i = 23 → ¬ i = 24 → (#[(139 : Int), 173, 173, 173, 173, 123, 115, 173, 119, 173, 127, 173, 173, 173, 173, 173, 173, 173, 173, 173, 173, 173, 173, 151, 162])[i]? = some 173 := by
    intro i h0 h1 h2 h3 h4 h5 h6 h7
    rcases (by omega : i = 1 ∨ i = 2 ∨ i = 3 ∨ i = 4 ∨ i = 7 ∨ i = 9 ∨ i = 11 ∨ i = 12 ∨ i = 13 ∨ i = 14 ∨ i = 15 ∨ i = 16 ∨ i = 17 ∨ i = 18 ∨ i = 19 ∨ i = 20 ∨ i = 21 ∨ i = 22) with rfl | rfl | rfl | rfl | rfl | rfl | rfl | rfl | rfl | rfl | rfl | rfl | rfl | rfl | rfl | rfl | rfl | rfl <;> rfl
  have rst : wq_ C G (qe_ C G (fI_ (joX_ c a b) M)) 174 (en_ 3 [.int c, .int a, .int b]) [] M := by
    refine w_iload_n X dX4_joined_174 rfl rfl ?_
    refine w_iload_n X dX4_joined_175 rfl rfl ?_
    refine w_icmp_le (tgt := 183) X dX4_joined_176 (by decide) (fun h176 => ?_) (fun h176 => ?_)
    · refine w_iconst (v := 0) X dX4_joined_183 (by decide) ?_
      refine w_irF X dX4_joined_184 ?_ rfl
      unfold joX_
      rw [if_neg k43, if_neg k45, if_neg k42, if_neg k47, if_neg k37, if_neg k60, if_neg k61, if_neg (Int32.not_lt.mpr h176)]
    · refine w_iconst (v := 1) X dX4_joined_179 (by decide) ?_
      refine w_goto (tgt := 184) X dX4_joined_180 (by decide) ?_
      refine w_irF X dX4_joined_184 ?_ rfl
      unfold joX_
      rw [if_neg k43, if_neg k45, if_neg k42, if_neg k47, if_neg k37, if_neg k60, if_neg k61, if_pos (Int32.not_le.mp h176)]
  by_cases hin : (37 : Int) ≤ c.toInt ∧ c.toInt ≤ 61
  · exact w_tableIn (tgt := 174) (off := 173) X dX4_joined_1 (by omega) (by omega) (key _ (by omega) (by omega) (by omega) (by omega) (by omega) (by omega) (by omega) (by omega)) (by decide) rst
  · exact w_tableOut (tgt := 174) X dX4_joined_1 (by omega) (by decide) rst
