theorem s_34 : ds_[34]? = some (.inr (10, [38, 40, 41, 48, 136, 246, 248, 250])) := by decide +kernel
theorem s_35 : ds_[35]? = some (.inr (8, [39, 0])) := by decide +kernel
theorem s_36 : ds_[36]? = some (.inl (0, 200, 0)) := by decide +kernel
theorem s_37 : ds_[37]? = some (.inr (6, [38, 0, 0, 0, 0, 0, 1])) := by decide +kernel
theorem s_38 : ds_[38]? = some (.inr (9, [0, 40, 42])) := by decide +kernel
theorem s_39 : ds_[39]? = some (.inr (1, [40, 2, 0, 0, 0, 0, 0])) := by decide +kernel
theorem s_45 : ds_[45]? = some (.inr (5, [49, 50, 0])) := by decide +kernel
theorem s_46 : ds_[46]? = some (.inl (1, 16, 1)) := by decide +kernel
theorem s_47 : ds_[47]? = some (.inl (3, 17, 2)) := by decide +kernel
theorem s_133 : ds_[133]? = some (.inr (3, [137, 2])) := by decide +kernel
theorem s_134 : ds_[134]? = some (.inl (4, 8, 2)) := by decide +kernel
theorem s_243 : ds_[243]? = some (.inr (7, [0, 0, 247, 0])) := by decide +kernel
theorem s_244 : ds_[244]? = some (.inl (0, 1500, 0)) := by decide +kernel
theorem s_245 : ds_[245]? = some (.inr (7, [0, 0, 249, 0])) := by decide +kernel
theorem s_246 : ds_[246]? = some (.inl (0, 280, 0)) := by decide +kernel
theorem s_247 : ds_[247]? = some (.inr (4, [0, 0, 48, 136, 246, 248, 251, 264, 0, 0, 0, 0, 0])) := by decide +kernel
theorem s_248 : ds_[248]? = some (.inl (5, 12, 2)) := by decide +kernel
theorem s_261 : ds_[261]? = some (.inl (0, 220, 0)) := by decide +kernel
theorem s_262 : ds_[262]? = some (.inl (1, 1, 1)) := by decide +kernel
/-- k is a Code's cell, its arrays behind it -/
def cdX_ (k : Nat) : Prop := ds_[k]? = some (.inr (0, [k + 4, k + 5, k + 6, k + 7, 0, 0])) ∧ ds_[k + 1]? = some (.inl (0, 26, 0)) ∧ ds_[k + 2]? = some (.inl (1, 26, 1)) ∧ ds_[k + 3]? = some (.inl (0, 26, 0)) ∧ ds_[k + 4]? = some (.inl (0, 26, 0))
theorem cd_body0 : ∀ i, i < 17 → ds_[48 + 5 * i]? = some (.inr (0, [48 + 5 * i + 4, 48 + 5 * i + 5, 48 + 5 * i + 6, 48 + 5 * i + 7, 0, 0])) := by decide +kernel
theorem cd_body1 : ∀ i, i < 17 → ds_[48 + 5 * i + 1]? = some (.inl (0, 26, 0)) := by decide +kernel
theorem cd_body2 : ∀ i, i < 17 → ds_[48 + 5 * i + 2]? = some (.inl (1, 26, 1)) := by decide +kernel
theorem cd_body3 : ∀ i, i < 17 → ds_[48 + 5 * i + 3]? = some (.inl (0, 26, 0)) := by decide +kernel
theorem cd_body4 : ∀ i, i < 17 → ds_[48 + 5 * i + 4]? = some (.inl (0, 26, 0)) := by decide +kernel
theorem cd_body : ∀ i, i < 17 → cdX_ (48 + 5 * i) := fun i h => ⟨cd_body0 i h, cd_body1 i h, cd_body2 i h, cd_body3 i h, cd_body4 i h⟩
/-- k is a Job's cell, its two Codes and its counts behind it -/
def jd_ (k : Nat) : Prop := ds_[k]? = some (.inr (2, [0, 0, 1, k + 4, k + 9, 0, 0, 0, k + 14, 0])) ∧ ds_[k + 11]? = some (.inl (0, 48, 0)) ∧ cdX_ (k + 1) ∧ cdX_ (k + 6)
theorem cd_je0 : ∀ i, i < 9 → ds_[135 + 12 * i + 1]? = some (.inr (0, [135 + 12 * i + 1 + 4, 135 + 12 * i + 1 + 5, 135 + 12 * i + 1 + 6, 135 + 12 * i + 1 + 7, 0, 0])) := by decide +kernel
theorem cd_je1 : ∀ i, i < 9 → ds_[135 + 12 * i + 1 + 1]? = some (.inl (0, 26, 0)) := by decide +kernel
theorem cd_je2 : ∀ i, i < 9 → ds_[135 + 12 * i + 1 + 2]? = some (.inl (1, 26, 1)) := by decide +kernel
theorem cd_je3 : ∀ i, i < 9 → ds_[135 + 12 * i + 1 + 3]? = some (.inl (0, 26, 0)) := by decide +kernel
theorem cd_je4 : ∀ i, i < 9 → ds_[135 + 12 * i + 1 + 4]? = some (.inl (0, 26, 0)) := by decide +kernel
theorem cd_je : ∀ i, i < 9 → cdX_ (135 + 12 * i + 1) := fun i h => ⟨cd_je0 i h, cd_je1 i h, cd_je2 i h, cd_je3 i h, cd_je4 i h⟩
theorem cd_jc0 : ∀ i, i < 9 → ds_[135 + 12 * i + 6]? = some (.inr (0, [135 + 12 * i + 6 + 4, 135 + 12 * i + 6 + 5, 135 + 12 * i + 6 + 6, 135 + 12 * i + 6 + 7, 0, 0])) := by decide +kernel
theorem cd_jc1 : ∀ i, i < 9 → ds_[135 + 12 * i + 6 + 1]? = some (.inl (0, 26, 0)) := by decide +kernel
theorem cd_jc2 : ∀ i, i < 9 → ds_[135 + 12 * i + 6 + 2]? = some (.inl (1, 26, 1)) := by decide +kernel
theorem cd_jc3 : ∀ i, i < 9 → ds_[135 + 12 * i + 6 + 3]? = some (.inl (0, 26, 0)) := by decide +kernel
theorem cd_jc4 : ∀ i, i < 9 → ds_[135 + 12 * i + 6 + 4]? = some (.inl (0, 26, 0)) := by decide +kernel
theorem cd_jc : ∀ i, i < 9 → cdX_ (135 + 12 * i + 6) := fun i h => ⟨cd_jc0 i h, cd_jc1 i h, cd_jc2 i h, cd_jc3 i h, cd_jc4 i h⟩
theorem jd_a0 : ∀ i, i < 9 → ds_[135 + 12 * i]? = some (.inr (2, [0, 0, 1, 135 + 12 * i + 4, 135 + 12 * i + 9, 0, 0, 0, 135 + 12 * i + 14, 0])) := by decide +kernel
theorem jd_a1 : ∀ i, i < 9 → ds_[135 + 12 * i + 11]? = some (.inl (0, 48, 0)) := by decide +kernel
theorem jd_all : ∀ i, i < 9 → jd_ (135 + 12 * i) := fun i h => ⟨jd_a0 i h, jd_a1 i h, cd_je i h, cd_jc i h⟩
/-- the machine's rows of variables -/
theorem vr_row : ∀ i, i < 12 → ds_[249 + i]? = some (.inl (0, 7, 0)) := by decide +kernel

