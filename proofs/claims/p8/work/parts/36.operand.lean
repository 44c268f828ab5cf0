def fqb_ : List fr_ → Bool
  | [] => false
  | f :: _ => decide (f.1 = 8) && decide (ac_ f.2.2.1 = 0)
def f3b_ : List fr_ → Bool
  | [] => false
  | f :: _ => decide (f.1 = 8) && decide (ac_ f.2.2.1 = 3)
def co0_ (k : Nat) (W : List fr_) (nd op : Nat) : ss_ ⊕ (Int32 × Nat) := match W with
  | [] => .inr (1, k)
  | f :: r => .inl (k + 1, r, some (.sub (.long f.2.2.2.2) .null), nd, op - 1)
def en2_ (M : mm_) (n k : Nat) : Prop := bf_ M n k < 0 ∨ (¬ M.1 0 14 = 0 ∧ bf_ M n k ≤ 32)
/-- what can stand where an operand is wanted, behind the tests for the end and for ) -/
def so2_ (M : mm_) (n k : Nat) (W : List fr_) (nd op : Nat) : ss_ ⊕ (Int32 × Nat) :=
  if f3b_ W = true then .inr (3, k) else if ¬ ig_ (bf_ M n k) = 0 then rn2_ (bf_ M n) n k W nd op
  else if bf_ M n k = 45 ∨ bf_ M n k = 33 then (if nd = 20 then .inr (3, k) else .inl (k + 1, (6, bf_ M n k, .null, .null, 0) :: W, none, nd + 1, op))
  else if bf_ M n k = 40 then (if op = 12 then .inr (3, k) else .inl (k + 1, (0, 0, .null, .null, 0) :: W, none, nd, op + 1))
  else if ¬ io_ (bf_ M n k) = 0 then rr_ M n k W nd op else .inr (1, k)
theorem ok_rn {f : Nat → Int32} {n k nd op : Nat} {W : List fr_} : ok_ 1 (rn2_ f n k W nd op) := by
  unfold rn2_
  split
  · simp [ok_]
  · split <;> simp [ok_]
theorem f3_at {M : mm_} {n k nd op : Nat} {f : fr_} {r : List fr_} {u : Option Term} (h : pr_ M n k (f :: r) u nd op) (h8 : f.1 = 8) : M.1 9 r.length = nI (ac_ f.2.2.1) := by
  rw [h.2.2.2.2.1.2.2.2.2.1]
  unfold fu_
  rw [h8]
  rfl
theorem pr_front {N : mm_} {n k nd op : Nat} {W : List fr_} (c : Int32) (h : pr_ N n k W none nd op) (hn : nd < 20) : pr_ (sI_ (wa_ (sI_ N 0 13 (nI (nd + 1))) W.length 6 0 c) 0 5 (nI (k + 1))) n (k + 1) ((6, c, .null, .null, 0) :: W) none (nd + 1) op := by
  obtain ⟨h0, h5, hc, h20, hw, ho, h13, h23, hn1, hn2, hop, hop2, hcq⟩ := h
  simp only [cu_, co_] at hc ho
  refine ⟨tz_sI (tz_wa (tz_sI h0 (by omega))) (by omega), by simp [sI_], ?_, by simp [wa_, sI_], ?_, ?_, by simp [wa_, sI_], by simp [wa_, sI_, h23], by simp [nw_, nf_, cn_] at hn1 ⊢; omega, by omega, by simpa [no_] using hop, hop2, trivial⟩
  · have e1 : cs_ ((6, c, .null, .null, 0) :: W) ++ cu_ none = cs_ W ++ [] := by simp [cs_, fc_, cu_]
    rw [e1]
    exact cd_sI (cd_wa (cd_sI hc (by omega) (by omega))) (by omega) (by omega)
  · exact ⟨wr_sI (wr_wa (wr_sI hw (Or.inl (by omega))) (Nat.le_refl _)) (Or.inl (by omega)), ⟨by simp, fun q => by simp at q⟩, by simp [wa_, sI_]; rfl, by simp [wa_, sI_, fp_]; rfl, by simp [wa_, sI_, fu_], fun q => by simp at q⟩
  · have e2 : os_ ((6, c, .null, .null, 0) :: W) ++ co_ (cs_ ((6, c, .null, .null, 0) :: W)).length none = os_ W ++ [] := by simp [os_, ff_, co_]
    rw [e2]
    exact od_sI (od_wa (od_sI ho (by omega) (by omega))) (by omega) (by omega)
def so_ (M : mm_) (n k : Nat) (W : List fr_) (nd op : Nat) : ss_ ⊕ (Int32 × Nat) := if bf_ M n k < 0 ∨ (¬ M.1 0 14 = 0 ∧ bf_ M n k ≤ 32) then .inr (1, k) else if fqb_ W = true ∧ bf_ M n k = 41 then co0_ k W nd op else so2_ M n k W nd op
theorem ao_0 : ∀ {x : Term}, ao_ x → ac_ x = 0 → x = .null
  | .null, _, _ => rfl
  | .add a r, _, h => by simp [ac_] at h
set_option maxRecDepth 100000 in
set_option maxHeartbeats 4000000 in
theorem w12_readOperand_63 {C : mc_} {G : gg_} (hG : gd_ G) {d : Nat} {M : mm_} {n k nd op : Nat} {W : List fr_} (h : pr_ M n k W none nd op) (hf : M.1 0 3 = 0) (hk : k < 268435456) (X : cx_ C G RX12 cX12_readOperand 4 (some .boolean) (d + 4)) (a b : Int32) : wq_ C G (qe_ C G (rI_ (py_ M n (so2_ M n k W nd op)))) 63 [some (.ref (G.1 0)), some (.int a), some (.int (bf_ M n k)), some (.int b)] [] M := by
  have hle := pr_len h
  have h0 := h.1
  have h5 := h.2.1
  have h20 := h.2.2.2.1
  have h13 := h.2.2.2.2.2.2.1
  have h23 := h.2.2.2.2.2.2.2.1
  have hn2 := h.2.2.2.2.2.2.2.2.2.1
  have hop2 := h.2.2.2.2.2.2.2.2.2.2.2.1
  generalize hres : so2_ M n k W nd op = res
  have j99 : f3b_ W = false → wq_ C G (qe_ C G (rI_ (py_ M n res))) 99 [some (.ref (G.1 0)), some (.int a), some (.int (bf_ M n k)), some (.int b)] [] M := by
    intro hb3
    unfold so2_ at hres
    rw [if_neg (by rw [hb3]; decide)] at hres
    refine w_iload_n X dX12_readOperand_99 rfl rfl ?_
    refine w_s1fI X dX12_readOperand_100 k12_isFigure (c12_isFigure G hG _ _ _) (Nat.le_of_ble_eq_true rfl) ?_
    refine w_if_eq (tgt := 112) X dX12_readOperand_103 (by decide) (fun h103 => ?_) (fun h103 => ?_)
    · rw [if_neg (fun q => q h103)] at hres
      refine w_iload_n X dX12_readOperand_112 rfl rfl ?_
      refine w_bipush (v := 45) X dX12_readOperand_113 (by decide) ?_
      refine w_icmp_eq (tgt := 124) X dX12_readOperand_115 (by decide) (fun h115 => ?_) (fun h115 => ?_)
      · have ec : bf_ M n k = 45 ∨ bf_ M n k = 33 := by first | exact Or.inl h115 | exact Or.inr h121
        rw [if_pos ec] at hres
        by_cases hd20 : nd = 20
        · have e20 : M.1 0 13 = 20 := by rw [h13, hd20]; rfl
          rw [if_pos hd20] at hres
          refine w_aload_n X dX12_readOperand_124 rfl rfl ?_
          refine w_aload_n X dX12_readOperand_125 rfl rfl ?_
          refine g12_at X dX12_readOperand_126 ?_
          try simp only [gI_sI, gI_sL, gL_sI, gL_sL, false_and, and_false, and_self, if_false, if_true, reduceIte, Nat.reduceEqDiff, h5]
          refine w_v1fI X dX12_readOperand_129 k12_count rfl rfl (c12_count G hG _ _ _) (Nat.le_of_ble_eq_true rfl) ?_
          refine w_if_eq (tgt := 192) X dX12_readOperand_132 (by decide) (fun h132 => ?_) (fun h132 => absurd (if_pos e20) h132)
          refine w_iconst (v := 0) X dX12_readOperand_192 (by decide) ?_
          refine w_zrR X dX12_readOperand_193 (by first | exact Or.inl rfl | exact Or.inr rfl) ?_
          rw [← hres, if_pos e20]
          exact py_f (Or.inl rfl) (px_fa (pf_rf M) hf)
        · have e20 : ¬ M.1 0 13 = 20 := fun q => hd20 ((nI_eq (b := 20) (by omega) (by omega)).mp (h13.symm.trans q))
          rw [if_neg hd20] at hres
          refine w_aload_n X dX12_readOperand_124 rfl rfl ?_
          refine w_aload_n X dX12_readOperand_125 rfl rfl ?_
          refine g12_at X dX12_readOperand_126 ?_
          try simp only [gI_sI, gI_sL, gL_sI, gL_sL, false_and, and_false, and_self, if_false, if_true, reduceIte, Nat.reduceEqDiff, h5, gI_wa]
          refine w_v1fI X dX12_readOperand_129 k12_count rfl rfl (c12_count G hG _ _ _) (Nat.le_of_ble_eq_true rfl) ?_
          rw [if_neg e20, if_neg e20]
          simp only [h13, nI_1]
          refine w_if_eq (tgt := 192) X dX12_readOperand_132 (by decide) (fun h132 => absurd h132 (by decide)) (fun h132 => ?_)
          refine w_aload_n X dX12_readOperand_135 rfl rfl ?_
          refine w_bipush (v := 6) X dX12_readOperand_136 (by decide) ?_
          refine w_iconst (v := 0) X dX12_readOperand_138 (by decide) ?_
          refine w_iload_n X dX12_readOperand_139 rfl rfl ?_
          refine w_v3fV X dX12_readOperand_140 k12_wait rfl rfl (c12_wait G hG _ _ W.length (by simp [sI_, h20]) (by first | omega | exact at5_ (by omega)) _ _ _) (Nat.le_of_ble_eq_true rfl) ?_
          refine w_aload_n X dX12_readOperand_143 rfl rfl ?_
          refine w_dup X dX12_readOperand_144 rfl ?_
          refine g12_at X dX12_readOperand_145 ?_
          try simp only [gI_sI, gI_sL, gL_sI, gL_sL, false_and, and_false, and_self, if_false, if_true, reduceIte, Nat.reduceEqDiff, h5, gI_wa]
          refine w_iconst (v := 1) X dX12_readOperand_148 (by decide) ?_
          refine w_iadd X dX12_readOperand_149 ?_
          rw [nI_1]
          refine p12_at X dX12_readOperand_150 ?_
          refine w_goto (tgt := 192) X dX12_readOperand_153 (by decide) ?_
          refine w_iconst (v := 0) X dX12_readOperand_192 (by decide) ?_
          refine w_zrR X dX12_readOperand_193 (by first | exact Or.inl rfl | exact Or.inr rfl) ?_
          rw [← hres]
          exact ⟨Or.inl rfl, ⟨pf_sI (pf_wa (pf_sI (pf_rf M) (by first | omega | exact at5_ (by omega)))) (by first | omega | exact at5_ (by omega)), pr_front _ h (by first | omega | exact at5_ (by omega)), by simp [wa_, sI_, hf]⟩, rfl⟩
      · refine w_iload_n X dX12_readOperand_118 rfl rfl ?_
        refine w_bipush (v := 33) X dX12_readOperand_119 (by decide) ?_
        refine w_icmp_ne (tgt := 156) X dX12_readOperand_121 (by decide) (fun h121 => ?_) (fun h121 => ?_)
        · rw [if_neg (fun q => q.elim h115 h121)] at hres
          refine w_iload_n X dX12_readOperand_156 rfl rfl ?_
          refine w_bipush (v := 40) X dX12_readOperand_157 (by decide) ?_
          refine w_icmp_ne (tgt := 171) X dX12_readOperand_159 (by decide) (fun h159 => ?_) (fun h159 => ?_)
          · rw [if_neg h159] at hres
            refine w_iload_n X dX12_readOperand_171 rfl rfl ?_
            refine w_s1fI X dX12_readOperand_172 k12_isOfRow (c12_isOfRow G hG _ _ _) (Nat.le_of_ble_eq_true rfl) ?_
            refine w_if_eq (tgt := 183) X dX12_readOperand_175 (by decide) (fun h175 => ?_) (fun h175 => ?_)
            · rw [if_neg (fun q => q h175)] at hres
              refine w_aload_n X dX12_readOperand_183 rfl rfl ?_
              refine w_iconst (v := 1) X dX12_readOperand_184 (by decide) ?_
              refine w_aload_n X dX12_readOperand_185 rfl rfl ?_
              refine g12_at X dX12_readOperand_186 ?_
              try simp only [gI_sI, gI_sL, gL_sI, gL_sL, false_and, and_false, and_self, if_false, if_true, reduceIte, Nat.reduceEqDiff, h5]
              refine w_v2fV X dX12_readOperand_189 k12_fail rfl rfl (c12_fail G hG _ _ _ _) (Nat.le_of_ble_eq_true rfl) ?_
              refine w_iconst (v := 0) X dX12_readOperand_192 (by decide) ?_
              refine w_zrR X dX12_readOperand_193 (Or.inl rfl) ?_
              rw [← hres]
              exact py_f (Or.inl rfl) (px_fa (pf_rf M) hf)
            · rw [if_pos h175] at hres
              refine w_aload_n X dX12_readOperand_178 rfl rfl ?_
              refine w_v0rI X dX12_readOperand_179 k12_readRow rfl rfl (c12_readRow G hG _ M n k nd op W h hf hk) (Nat.le_of_ble_eq_true rfl) (fun r179 N179 h179 => ?_)
              refine w_zrR X dX12_readOperand_182 h179.1 ?_
              rw [← hres]
              exact h179
          · rw [if_pos h159] at hres
            refine w_aload_n X dX12_readOperand_162 rfl rfl ?_
            refine w_iconst (v := 0) X dX12_readOperand_163 (by decide) ?_
            refine w_iconst (v := 0) X dX12_readOperand_164 (by decide) ?_
            by_cases ho12 : op = 12
            · rw [if_pos ho12] at hres
              refine w_v2fV X dX12_readOperand_165 k12_open rfl rfl (c12_open_f G hG _ _ k _ _ h5 (by rw [h23, ho12])) (Nat.le_of_ble_eq_true rfl) ?_
              refine w_goto (tgt := 192) X dX12_readOperand_168 (by decide) ?_
              refine w_iconst (v := 0) X dX12_readOperand_192 (by decide) ?_
              refine w_zrR X dX12_readOperand_193 (by first | exact Or.inl rfl | exact Or.inr rfl) ?_
              rw [← hres]
              exact py_f (Or.inl rfl) (px_fa (pf_rf M) hf)
            · rw [if_neg ho12] at hres
              refine w_v2fV X dX12_readOperand_165 k12_open rfl rfl (c12_open_o G hG _ _ k W.length op _ _ h5 h20 h23 (by first | omega | exact at5_ (by omega)) (by first | omega | exact at5_ (by omega))) (Nat.le_of_ble_eq_true rfl) ?_
              refine w_goto (tgt := 192) X dX12_readOperand_168 (by decide) ?_
              refine w_iconst (v := 0) X dX12_readOperand_192 (by decide) ?_
              refine w_zrR X dX12_readOperand_193 (by first | exact Or.inl rfl | exact Or.inr rfl) ?_
              rw [← hres]
              exact ⟨Or.inl rfl, ⟨pf_sI (pf_sL (pf_wa (pf_sI (pf_rf M) (by first | omega | exact at5_ (by omega)))) (by first | omega | exact at5_ (by omega))) (by first | omega | exact at5_ (by omega)), pr_paren h (by first | omega | exact at5_ (by omega)) 0, by simp [ob_, wa_, sI_, sL_, hf]⟩, rfl⟩
        · have ec : bf_ M n k = 45 ∨ bf_ M n k = 33 := by first | exact Or.inl h115 | exact Or.inr h121
          rw [if_pos ec] at hres
          by_cases hd20 : nd = 20
          · have e20 : M.1 0 13 = 20 := by rw [h13, hd20]; rfl
            rw [if_pos hd20] at hres
            refine w_aload_n X dX12_readOperand_124 rfl rfl ?_
            refine w_aload_n X dX12_readOperand_125 rfl rfl ?_
            refine g12_at X dX12_readOperand_126 ?_
            try simp only [gI_sI, gI_sL, gL_sI, gL_sL, false_and, and_false, and_self, if_false, if_true, reduceIte, Nat.reduceEqDiff, h5]
            refine w_v1fI X dX12_readOperand_129 k12_count rfl rfl (c12_count G hG _ _ _) (Nat.le_of_ble_eq_true rfl) ?_
            refine w_if_eq (tgt := 192) X dX12_readOperand_132 (by decide) (fun h132 => ?_) (fun h132 => absurd (if_pos e20) h132)
            refine w_iconst (v := 0) X dX12_readOperand_192 (by decide) ?_
            refine w_zrR X dX12_readOperand_193 (by first | exact Or.inl rfl | exact Or.inr rfl) ?_
            rw [← hres, if_pos e20]
            exact py_f (Or.inl rfl) (px_fa (pf_rf M) hf)
          · have e20 : ¬ M.1 0 13 = 20 := fun q => hd20 ((nI_eq (b := 20) (by omega) (by omega)).mp (h13.symm.trans q))
            rw [if_neg hd20] at hres
            refine w_aload_n X dX12_readOperand_124 rfl rfl ?_
            refine w_aload_n X dX12_readOperand_125 rfl rfl ?_
            refine g12_at X dX12_readOperand_126 ?_
            try simp only [gI_sI, gI_sL, gL_sI, gL_sL, false_and, and_false, and_self, if_false, if_true, reduceIte, Nat.reduceEqDiff, h5, gI_wa]
            refine w_v1fI X dX12_readOperand_129 k12_count rfl rfl (c12_count G hG _ _ _) (Nat.le_of_ble_eq_true rfl) ?_
            rw [if_neg e20, if_neg e20]
            simp only [h13, nI_1]
            refine w_if_eq (tgt := 192) X dX12_readOperand_132 (by decide) (fun h132 => absurd h132 (by decide)) (fun h132 => ?_)
            refine w_aload_n X dX12_readOperand_135 rfl rfl ?_
            refine w_bipush (v := 6) X dX12_readOperand_136 (by decide) ?_
            refine w_iconst (v := 0) X dX12_readOperand_138 (by decide) ?_
            refine w_iload_n X dX12_readOperand_139 rfl rfl ?_
            refine w_v3fV X dX12_readOperand_140 k12_wait rfl rfl (c12_wait G hG _ _ W.length (by simp [sI_, h20]) (by first | omega | exact at5_ (by omega)) _ _ _) (Nat.le_of_ble_eq_true rfl) ?_
            refine w_aload_n X dX12_readOperand_143 rfl rfl ?_
            refine w_dup X dX12_readOperand_144 rfl ?_
            refine g12_at X dX12_readOperand_145 ?_
            try simp only [gI_sI, gI_sL, gL_sI, gL_sL, false_and, and_false, and_self, if_false, if_true, reduceIte, Nat.reduceEqDiff, h5, gI_wa]
            refine w_iconst (v := 1) X dX12_readOperand_148 (by decide) ?_
            refine w_iadd X dX12_readOperand_149 ?_
            rw [nI_1]
            refine p12_at X dX12_readOperand_150 ?_
            refine w_goto (tgt := 192) X dX12_readOperand_153 (by decide) ?_
            refine w_iconst (v := 0) X dX12_readOperand_192 (by decide) ?_
            refine w_zrR X dX12_readOperand_193 (by first | exact Or.inl rfl | exact Or.inr rfl) ?_
            rw [← hres]
            exact ⟨Or.inl rfl, ⟨pf_sI (pf_wa (pf_sI (pf_rf M) (by first | omega | exact at5_ (by omega)))) (by first | omega | exact at5_ (by omega)), pr_front _ h (by first | omega | exact at5_ (by omega)), by simp [wa_, sI_, hf]⟩, rfl⟩
    · rw [if_pos h103] at hres
      refine w_aload_n X dX12_readOperand_106 rfl rfl ?_
      refine w_v0rV X dX12_readOperand_107 k12_readNumber rfl rfl (c12_readNumber G hG _ M n k nd op W h hf (by omega)) (Nat.le_of_ble_eq_true rfl) (fun N107 h107 => ?_)
      refine w_iconst (v := 1) X dX12_readOperand_110 (by decide) ?_
      refine w_zrR X dX12_readOperand_111 (Or.inr rfl) ?_
      rw [← hres]
      exact ⟨Or.inr rfl, h107, ok_rn⟩
  by_cases hb3 : f3b_ W = true
  · cases W with
    | nil => simp [f3b_] at hb3
    | cons f r =>
      simp [f3b_] at hb3
      have e9 := f3_at h hb3.1
      have e8 : tp_ (f :: r) = 8 := by show nI f.1 = 8; rw [hb3.1]; rfl
      have h20 : M.1 0 20 = nI (r.length + 1) := by simpa using h20
      simp only [List.length_cons] at hle
      rw [hb3.2] at e9
      have hr2 : res = .inr (3, k) := by rw [← hres]; unfold so2_; rw [if_pos (by simp [f3b_, hb3])]
      refine w_aload_n X dX12_readOperand_63 rfl rfl ?_
      refine w_v0fI X dX12_readOperand_64 k12_last rfl rfl (c12_last G hG _ _ (r.length + 1) h20 (by omega)) (Nat.le_of_ble_eq_true rfl) ?_
      rw [show la_ M (r.length + 1) = 8 from (la_pr h).trans e8]
      refine w_bipush (v := 8) X dX12_readOperand_67 (by decide) ?_
      refine w_icmp_ne (tgt := 99) X dX12_readOperand_69 (by decide) (fun h69 => absurd rfl h69) (fun h69 => ?_)
      refine w_aload_n X dX12_readOperand_72 rfl rfl ?_
      refine g12_waitValues X dX12_readOperand_73 ?_
      refine w_aload_n X dX12_readOperand_76 rfl rfl ?_
      refine g12_waiting X dX12_readOperand_77 ?_
      try simp only [gI_sI, gI_sL, gL_sI, gL_sL, false_and, and_false, and_self, if_false, if_true, reduceIte, Nat.reduceEqDiff, h5, h20, e9]
      refine w_iconst (v := 1) X dX12_readOperand_80 (by decide) ?_
      refine w_isub X dX12_readOperand_81 ?_
      rw [nI_s1]
      refine w_ialoadN X dX12_readOperand_82 rfl rfl (by omega) ?_
      try simp only [gI_sI, gI_sL, gL_sI, gL_sL, false_and, and_false, and_self, if_false, if_true, reduceIte, Nat.reduceEqDiff, h5, h20, e9]
      refine w_iconst (v := 3) X dX12_readOperand_83 (by decide) ?_
      refine w_icmp_ne (tgt := 99) X dX12_readOperand_84 (by decide) (fun h84 => absurd rfl h84) (fun h84 => ?_)
      refine w_aload_n X dX12_readOperand_87 rfl rfl ?_
      refine w_iconst (v := 3) X dX12_readOperand_88 (by decide) ?_
      refine w_aload_n X dX12_readOperand_89 rfl rfl ?_
      refine g12_at X dX12_readOperand_90 ?_
      try simp only [gI_sI, gI_sL, gL_sI, gL_sL, false_and, and_false, and_self, if_false, if_true, reduceIte, Nat.reduceEqDiff, h5, h20, e9]
      refine w_v2fV X dX12_readOperand_93 k12_fail rfl rfl (c12_fail G hG _ _ _ _) (Nat.le_of_ble_eq_true rfl) ?_
      refine w_goto (tgt := 192) X dX12_readOperand_96 (by decide) ?_
      refine w_iconst (v := 0) X dX12_readOperand_192 (by decide) ?_
      refine w_zrR X dX12_readOperand_193 (by first | exact Or.inl rfl | exact Or.inr rfl) ?_
      rw [hr2]
      exact py_f (Or.inl rfl) (px_fa (pf_rf M) hf)
  · have hb3 : f3b_ W = false := by simpa using hb3
    refine w_aload_n X dX12_readOperand_63 rfl rfl ?_
    refine w_v0fI X dX12_readOperand_64 k12_last rfl rfl (c12_last G hG _ _ _ h20 (by omega)) (Nat.le_of_ble_eq_true rfl) ?_
    rw [la_pr h]
    refine w_bipush (v := 8) X dX12_readOperand_67 (by decide) ?_
    refine w_icmp_ne (tgt := 99) X dX12_readOperand_69 (by decide) (fun h69 => ?_) (fun h69 => ?_)
    · exact j99 hb3
    · obtain ⟨f, r, rfl, hf8⟩ := (tp_3 (k := 8) (by omega) (wr_8 h.2.2.2.2.1)).mp h69
      have e9 := f3_at h hf8
      have h20 : M.1 0 20 = nI (r.length + 1) := by simpa using h20
      simp only [List.length_cons] at hle
      have hna : ¬ ac_ f.2.2.1 = 3 := fun q => by simp [f3b_, hf8, q] at hb3
      have hac : ac_ f.2.2.1 ≤ 20 := by
        have q1 := (h.2.2.2.2.1.2.1.2 hf8).2
        have q2 := h.2.2.2.2.2.2.2.2.1
        simp [nw_, nf_, hf8] at q2
        omega
      refine w_aload_n X dX12_readOperand_72 rfl rfl ?_
      refine g12_waitValues X dX12_readOperand_73 ?_
      refine w_aload_n X dX12_readOperand_76 rfl rfl ?_
      refine g12_waiting X dX12_readOperand_77 ?_
      try simp only [gI_sI, gI_sL, gL_sI, gL_sL, false_and, and_false, and_self, if_false, if_true, reduceIte, Nat.reduceEqDiff, h5, h20]
      refine w_iconst (v := 1) X dX12_readOperand_80 (by decide) ?_
      refine w_isub X dX12_readOperand_81 ?_
      rw [nI_s1]
      refine w_ialoadN X dX12_readOperand_82 rfl rfl (by omega) ?_
      try simp only [gI_sI, gI_sL, gL_sI, gL_sL, false_and, and_false, and_self, if_false, if_true, reduceIte, Nat.reduceEqDiff, h5, h20]
      refine w_iconst (v := 3) X dX12_readOperand_83 (by decide) ?_
      refine w_icmp_ne (tgt := 99) X dX12_readOperand_84 (by decide) (fun h84 => ?_) (fun h84 => absurd h84 (fun q => hna ((nI_eq (b := 3) (by omega) (by omega)).mp (e9.symm.trans q))))
      exact j99 hb3
set_option maxRecDepth 100000 in
set_option maxHeartbeats 4000000 in
theorem c12_readOperand (G : gg_) (hG : gd_ G) (d : Nat) (M : mm_) (n k nd op : Nat) (W : List fr_) (h : pr_ M n k W none nd op) (hf : M.1 0 3 = 0) (hk : k < 268435456) (a : Int32) (ha : a = if fqb_ W = true then 1 else 0) : cm_ G yX12_readOperand cX12_readOperand 4 (some .boolean) (d + 6) [.ref (G.1 0), .int a] M (rI_ (py_ M n (so_ M n k W nd op))) := by
  refine cm_of hG (by decide) (Nat.le_of_ble_eq_true rfl) (fun C X => ?_)
  have hle := pr_len h
  have h0 := h.1
  have h5 := h.2.1
  have h20 := h.2.2.2.1
  generalize hres : so_ M n k W nd op = res
  have j63 : ∀ b : Int32, ¬ (bf_ M n k < 0 ∨ (¬ M.1 0 14 = 0 ∧ bf_ M n k ≤ 32)) → ¬ (fqb_ W = true ∧ bf_ M n k = 41) → wq_ C G (qe_ C G (rI_ (py_ M n res))) 63 [some (.ref (G.1 0)), some (.int a), some (.int (bf_ M n k)), some (.int b)] [] M := by
    intro b h1 h2
    have e : res = so2_ M n k W nd op := by rw [← hres]; unfold so_; rw [if_neg h1, if_neg h2]
    rw [e]
    exact w12_readOperand_63 (d := d + 2) hG h hf hk X a b
  by_cases hq : fqb_ W = true
  · rw [if_pos hq] at ha
    subst ha
    cases W with
    | nil => simp [fqb_] at hq
    | cons f r =>
      obtain ⟨kd, c, y, b, x⟩ := f
      have hq2 := hq
      simp [fqb_] at hq2
      obtain ⟨rfl, hac⟩ := hq2
      have hy : y = .null := ao_0 (h.2.2.2.2.1.2.1.2 rfl).1 hac
      subst hy
      have h20 : M.1 0 20 = nI (r.length + 1) := by simpa using h20
      simp only [List.length_cons] at hle
      refine w_aload_n X dX12_readOperand_0 rfl rfl ?_
      refine w_aload_n X dX12_readOperand_1 rfl rfl ?_
      refine g12_at X dX12_readOperand_2 ?_
      try simp only [gI_sI, gI_sL, gL_sI, gL_sL, false_and, and_false, and_self, if_false, if_true, reduceIte, Nat.reduceEqDiff, h5]
      refine w_v1fI X dX12_readOperand_5 k12_byteAt rfl rfl (c12_byteAt G hG _ _ (nI k) (fun z => tz_in h0 (by omega) z)) (Nat.le_of_ble_eq_true rfl) ?_
      rw [ba_bf h0 (by omega)]
      refine w_istore_n X dX12_readOperand_8 rfl (by decide) ?_
      refine w_iload_n X dX12_readOperand_9 rfl rfl ?_
      refine w_if_eq (tgt := 26) X dX12_readOperand_10 (by decide) (fun h10 => absurd h10 (by decide)) (fun h10 => ?_)
      refine w_aload_n X dX12_readOperand_13 rfl rfl ?_
      refine w_v0fI X dX12_readOperand_14 k12_last rfl rfl (c12_last G hG _ _ (r.length + 1) h20 (by omega)) (Nat.le_of_ble_eq_true rfl) ?_
      rw [show la_ M (r.length + 1) = 8 from la_pr h]
      refine w_bipush (v := 8) X dX12_readOperand_17 (by decide) ?_
      refine w_icmp_ne (tgt := 26) X dX12_readOperand_19 (by decide) (fun h19 => absurd rfl h19) (fun h19 => ?_)
      refine w_iconst (v := 1) X dX12_readOperand_22 (by decide) ?_
      refine w_goto (tgt := 27) X dX12_readOperand_23 (by decide) ?_
      refine w_istore_n X dX12_readOperand_27 rfl (by decide) ?_
      refine w_aload_n X dX12_readOperand_28 rfl rfl ?_
      refine w_v0fI X dX12_readOperand_29 k12_ended rfl rfl (c12_ended G hG _ _ n k h0 h5 (by omega)) (Nat.le_of_ble_eq_true rfl) ?_
      refine w_if_eq (tgt := 47) X dX12_readOperand_32 (by decide) (fun h32 => ?_) (fun h32 => ?_)
      · have e32 : ¬ (bf_ M n k < 0 ∨ (¬ M.1 0 14 = 0 ∧ bf_ M n k ≤ 32)) := fun q => by rw [if_pos q] at h32; exact absurd h32 (by decide)
        refine w_iload_n X dX12_readOperand_47 rfl rfl ?_
        refine w_if_eq (tgt := 63) X dX12_readOperand_48 (by decide) (fun h48 => absurd h48 (by decide)) (fun h48 => ?_)
        refine w_iload_n X dX12_readOperand_51 rfl rfl ?_
        refine w_bipush (v := 41) X dX12_readOperand_52 (by decide) ?_
        refine w_icmp_ne (tgt := 63) X dX12_readOperand_54 (by decide) (fun h54 => ?_) (fun h54 => ?_)
        · exact j63 1 e32 (fun q => h54 q.2)
        · refine w_aload_n X dX12_readOperand_57 rfl rfl ?_
          refine w_v0rV X dX12_readOperand_58 k12_close rfl rfl (c12_close_0 G hG _ M n k nd op r c b x h hf hk) (Nat.le_of_ble_eq_true rfl) (fun N58 h58 => ?_)
          refine w_iconst (v := 1) X dX12_readOperand_61 (by decide) ?_
          refine w_zrR X dX12_readOperand_62 (Or.inr rfl) ?_
          have hr2 : res = .inl (k + 1, r, some (.sub (.long x) .null), nd, op - 1) := by rw [← hres]; unfold so_; rw [if_neg e32, if_pos ⟨hq, h54⟩]; rfl
          rw [hr2]
          exact ⟨Or.inr rfl, h58, rfl⟩
      · have e32 : bf_ M n k < 0 ∨ (¬ M.1 0 14 = 0 ∧ bf_ M n k ≤ 32) := Decidable.by_contra (fun q => h32 (if_neg q))
        have hr1 : res = .inr (1, k) := by rw [← hres]; unfold so_; rw [if_pos e32]
        refine w_aload_n X dX12_readOperand_35 rfl rfl ?_
        refine w_iconst (v := 1) X dX12_readOperand_36 (by decide) ?_
        refine w_aload_n X dX12_readOperand_37 rfl rfl ?_
        refine g12_at X dX12_readOperand_38 ?_
        try simp only [gI_sI, gI_sL, gL_sI, gL_sL, false_and, and_false, and_self, if_false, if_true, reduceIte, Nat.reduceEqDiff, h5]
        refine w_v2fV X dX12_readOperand_41 k12_fail rfl rfl (c12_fail G hG _ _ _ _) (Nat.le_of_ble_eq_true rfl) ?_
        refine w_goto (tgt := 192) X dX12_readOperand_44 (by decide) ?_
        refine w_iconst (v := 0) X dX12_readOperand_192 (by decide) ?_
        refine w_zrR X dX12_readOperand_193 (by first | exact Or.inl rfl | exact Or.inr rfl) ?_
        rw [hr1]
        exact py_f (Or.inl rfl) (px_fa (pf_rf M) hf)
  · rw [if_neg hq] at ha
    subst ha
    refine w_aload_n X dX12_readOperand_0 rfl rfl ?_
    refine w_aload_n X dX12_readOperand_1 rfl rfl ?_
    refine g12_at X dX12_readOperand_2 ?_
    try simp only [gI_sI, gI_sL, gL_sI, gL_sL, false_and, and_false, and_self, if_false, if_true, reduceIte, Nat.reduceEqDiff, h5]
    refine w_v1fI X dX12_readOperand_5 k12_byteAt rfl rfl (c12_byteAt G hG _ _ (nI k) (fun z => tz_in h0 (by omega) z)) (Nat.le_of_ble_eq_true rfl) ?_
    rw [ba_bf h0 (by omega)]
    refine w_istore_n X dX12_readOperand_8 rfl (by decide) ?_
    refine w_iload_n X dX12_readOperand_9 rfl rfl ?_
    refine w_if_eq (tgt := 26) X dX12_readOperand_10 (by decide) (fun h10 => ?_) (fun h10 => absurd (rfl) h10)
    refine w_iconst (v := 0) X dX12_readOperand_26 (by decide) ?_
    refine w_istore_n X dX12_readOperand_27 rfl (by decide) ?_
    refine w_aload_n X dX12_readOperand_28 rfl rfl ?_
    refine w_v0fI X dX12_readOperand_29 k12_ended rfl rfl (c12_ended G hG _ _ n k h0 h5 (by omega)) (Nat.le_of_ble_eq_true rfl) ?_
    refine w_if_eq (tgt := 47) X dX12_readOperand_32 (by decide) (fun h32 => ?_) (fun h32 => ?_)
    · have e32 : ¬ (bf_ M n k < 0 ∨ (¬ M.1 0 14 = 0 ∧ bf_ M n k ≤ 32)) := fun q => by rw [if_pos q] at h32; exact absurd h32 (by decide)
      refine w_iload_n X dX12_readOperand_47 rfl rfl ?_
      refine w_if_eq (tgt := 63) X dX12_readOperand_48 (by decide) (fun h48 => ?_) (fun h48 => absurd (rfl) h48)
      exact j63 0 e32 (fun q => hq q.1)
    · have e32 : bf_ M n k < 0 ∨ (¬ M.1 0 14 = 0 ∧ bf_ M n k ≤ 32) := Decidable.by_contra (fun q => h32 (if_neg q))
      have hr1 : res = .inr (1, k) := by rw [← hres]; unfold so_; rw [if_pos e32]
      refine w_aload_n X dX12_readOperand_35 rfl rfl ?_
      refine w_iconst (v := 1) X dX12_readOperand_36 (by decide) ?_
      refine w_aload_n X dX12_readOperand_37 rfl rfl ?_
      refine g12_at X dX12_readOperand_38 ?_
      try simp only [gI_sI, gI_sL, gL_sI, gL_sL, false_and, and_false, and_self, if_false, if_true, reduceIte, Nat.reduceEqDiff, h5]
      refine w_v2fV X dX12_readOperand_41 k12_fail rfl rfl (c12_fail G hG _ _ _ _) (Nat.le_of_ble_eq_true rfl) ?_
      refine w_goto (tgt := 192) X dX12_readOperand_44 (by decide) ?_
      refine w_iconst (v := 0) X dX12_readOperand_192 (by decide) ?_
      refine w_zrR X dX12_readOperand_193 (by first | exact Or.inl rfl | exact Or.inr rfl) ?_
      rw [hr1]
      exact py_f (Or.inl rfl) (px_fa (pf_rf M) hf)
