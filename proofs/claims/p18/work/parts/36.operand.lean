section
def fqb_ : List fr_ → Bool
  | [] => false
  | f :: _ => decide (f.1 = 8) && decide (ac_ f.2.2.1 = 0)
def f3b_ : List fr_ → Bool
  | [] => false
  | f :: _ => decide (f.1 = 8) && decide (ac_ f.2.2.1 = 3)
def co0_ (k : Nat) (W : List fr_) (nd op : Nat) : ss_ ⊕ (Int32 × Nat) := match W with
  | [] => .inr (1, k)
  | f :: r => .inl (k + 1, r, some (.sub (.long f.2.2.2.2) .null), nd, op - 1)
/-- what can stand where an operand is wanted, behind the tests for the end and for ) -/
def so2_ (M : mm_) (n k : Nat) (W : List fr_) (nd op : Nat) : ss_ ⊕ (Int32 × Nat) :=
  if f3b_ W = true then .inr (3, k) else if ¬ ig_ (bf_ M n k) = 0 then rn2_ (bf_ M n) n k W nd op
  else if bf_ M n k = 45 ∨ bf_ M n k = 33 then (if nd = 20 then .inr (3, k) else .inl (k + 1, (6, bf_ M n k, .null, .null, 0) :: W, none, nd + 1, op))
  else if bf_ M n k = 40 then (if op = 12 then .inr (3, k) else .inl (k + 1, (0, 0, .null, .null, 0) :: W, none, nd, op + 1))
  else if ¬ io_ (bf_ M n k) = 0 then rr_ M n k W nd op else .inr (1, k)
theorem ok_rn {f : Nat → Int32} {n k nd op : Nat} {W : List fr_} : ok_ 1 (rn2_ f n k W nd op) := by
  unfold rn2_
  split
  · simp [ok_]
  · split <;> simp [ok_]
theorem f3_at {M : mm_} {n k nd op : Nat} {f : fr_} {r : List fr_} {u : Option Term} (h : pr_ M n k (f :: r) u nd op) (h8 : f.1 = 8) : M.1 9 r.length = nI (ac_ f.2.2.1) := by
  rw [h.2.2.2.2.1.2.2.2.2.1]
  unfold fu_
  rw [h8]
  rfl
theorem pr_front {N : mm_} {n k nd op : Nat} {W : List fr_} (c : Int32) (h : pr_ N n k W none nd op) (hn : nd < 20) : pr_ (sI_ (wa_ (sI_ N 0 13 (nI (nd + 1))) W.length 6 0 c) 0 5 (nI (k + 1))) n (k + 1) ((6, c, .null, .null, 0) :: W) none (nd + 1) op := by
  obtain ⟨h0, h5, hc, h20, hw, ho, h13, h23, hn1, hn2, hop, hop2, hcq⟩ := h
  simp only [cu_, co_] at hc ho
  refine ⟨tz_sI (tz_wa (tz_sI h0 (by omega))) (by omega), by simp [sI_], ?_, by simp [wa_, sI_], ?_, ?_, by simp [wa_, sI_], by simp [wa_, sI_, h23], by simp [nw_, nf_, cn_] at hn1 ⊢; omega, by omega, by simpa [no_] using hop, hop2, trivial⟩
  · have e1 : cs_ ((6, c, .null, .null, 0) :: W) ++ cu_ none = cs_ W ++ [] := by simp [cs_, fc_, cu_]
    rw [e1]
    exact cd_sI (cd_wa (cd_sI hc (by omega) (by omega))) (by omega) (by omega)
  · exact ⟨wr_sI (wr_wa (wr_sI hw (Or.inl (by omega))) (Nat.le_refl _)) (Or.inl (by omega)), ⟨by simp, fun q => by simp at q⟩, by simp [wa_, sI_]; rfl, by simp [wa_, sI_, fp_]; rfl, by simp [wa_, sI_, fu_], fun q => by simp at q⟩
  · have e2 : os_ ((6, c, .null, .null, 0) :: W) ++ co_ (cs_ ((6, c, .null, .null, 0) :: W)).length none = os_ W ++ [] := by simp [os_, ff_, co_]
    rw [e2]
    exact od_sI (od_wa (od_sI ho (by omega) (by omega))) (by omega) (by omega)
def so_ (M : mm_) (n k : Nat) (W : List fr_) (nd op : Nat) : ss_ ⊕ (Int32 × Nat) := if bf_ M n k < 0 ∨ (¬ M.1 0 14 = 0 ∧ bf_ M n k ≤ 32) then .inr (1, k) else if fqb_ W = true ∧ bf_ M n k = 41 then co0_ k W nd op else so2_ M n k W nd op
theorem ao_0 : ∀ {x : Term}, ao_ x → ac_ x = 0 → x = .null
  | .null, _, _ => rfl
  | .add a r, _, h => by simp [ac_] at h
set_option maxRecDepth 100000 in
set_option maxHeartbeats 4000000 in
theorem w12_readOperand_63 {C : mc_} {G : gg_} (hG : gd_ G) {d : Nat} {M : mm_} {n k nd op : Nat} {W : List fr_} (h : pr_ M n k W none nd op) (hf : M.1 0 3 = 0) (hk : k < 268435456) (X : cx_ C G RX12 cX12_readOperand 4 (some .boolean) (d + 4)) (a b : Int32) : wq_ C G (qe_ C G (rI_ (py_ M n (so2_ M n k W nd op)))) 63 [some (.ref (G.1 0)), some (.int a), some (.int (bf_ M n k)), some (.int b)] [] M := by
  have hle := pr_len h
  have h0 := h.1
  have h5 := h.2.1
  have h20 := h.2.2.2.1
  have h13 := h.2.2.2.2.2.2.1
  have h23 := h.2.2.2.2.2.2.2.1
  have hn2 := h.2.2.2.2.2.2.2.2.2.1
  have hop2 := h.2.2.2.2.2.2.2.2.2.2.2.1
  generalize hres : so2_ M n k W nd op = res
  have j99 : f3b_ W = false → wq_ C G (qe_ C G (rI_ (py_ M n res))) 99 [some (.ref (G.1 0)), some (.int a), some (.int (bf_ M n k)), some (.int b)] [] M := by
    intro hb3
    unfold so2_ at hres
    rw [if_neg (by rw [hb3]; decide)] at hres
    refine w_iload_n X dX12_readOperand_99 rfl rfl ?_
    refine w_s1fI X dX12_readOperand_100 k12_isFigure (c12_isFigure G hG _ _ _) (Nat.le_of_ble_eq_true rfl) ?_
    refine w_if_eq (tgt := 112) X dX12_readOperand_103 (by decide) (fun h103 => ?_) (fun h103 => ?_)
    · rw [if_neg (fun q => q h103)] at hres
      refine w_iload_n X dX12_readOperand_112 rfl rfl ?_
      refine w_bipush (v := 45) X dX12_readOperand_113 (by decide) ?_
      refine w_icmp_eq (tgt := 124) X dX12_readOperand_115 (by decide) (fun h115 => ?_) (fun h115 => ?_)
      · have ec : bf_ M n k = 45 ∨ bf_ M n k = 33 := by first | exact Or.inl h115 | exact Or.inr h121
        rw [if_pos ec] at hres
        by_cases hd20 : nd = 20
        · have e20 : M.1 0 13 = 20 := by rw [h13, hd20]; rfl
          rw [if_pos hd20] at hres
          refine w_aload_n X dX12_readOperand_124 rfl rfl ?_
          refine w_aload_n X dX12_readOperand_125 rfl rfl ?_
          refine g12_at X dX12_readOperand_126 ?_
          try simp only [gI_sI, gI_sL, gL_sI, gL_sL, false_and, and_false, and_self, if_false, if_true, reduceIte, Nat.reduceEqDiff, h5]
          refine w_v1fI X dX12_readOperand_129 k12_count rfl rfl (c12_count G hG _ _ _) (Nat.le_of_ble_eq_true rfl) ?_
          refine w_if_eq (tgt := 192) X dX12_readOperand_132 (by decide) (fun h132 => ?_) (fun h132 => absurd (if_pos e20) h132)
          refine w_iconst (v := 0) X dX12_readOperand_192 (by decide) ?_
          refine w_zrR X dX12_readOperand_193 (by first | exact Or.inl rfl | exact Or.inr rfl) ?_
          rw [← hres, if_pos e20]
          exact py_f (Or.inl rfl) (px_fa (pf_rf M) hf)
        · have e20 : ¬ M.1 0 13 = 20 := fun q => hd20 ((nI_eq (b := 20) (by omega) (by omega)).mp (h13.symm.trans q))
          rw [if_neg hd20] at hres
          refine w_aload_n X dX12_readOperand_124 rfl rfl ?_
          refine w_aload_n X dX12_readOperand_125 rfl rfl ?_
          refine g12_at X dX12_readOperand_126 ?_
          try simp only [gI_sI, gI_sL, gL_sI, gL_sL, false_and, and_false, and_self, if_false, if_true, reduceIte, Nat.reduceEqDiff, h5, gI_wa]
          refine w_v1fI X dX12_readOperand_129 k12_count rfl rfl (c12_count G hG _ _ _) (Nat.le_of_ble_eq_true rfl) ?_
          rw [if_neg e20, if_neg e20]
          simp only [h13, nI_1]
          refine w_if_eq (tgt := 192) X dX12_readOperand_132 (by decide) (fun h132 => absurd h132 (by decide)) (fun h132 => ?_)
          refine w_aload_n X dX12_readOperand_135 rfl rfl ?_
          refine w_bipush (v := 6) X dX12_readOperand_136 (by decide) ?_
          refine w_iconst (v := 0) X dX12_readOperand_138 (by decide) ?_
          refine w_iload_n X dX12_readOperand_139 rfl rfl ?_
          refine w_v3fV X dX12_readOperand_140 k12_wait rfl rfl (c12_wait G hG _ _ W.length (by simp [sI_, h20]) (by first | omega | exact at5_ (by omega)) _ _ _) (Nat.le_of_ble_eq_true rfl) ?_
          refine w_aload_n X dX12_readOperand_143 rfl rfl ?_
          refine w_dup X dX12_readOperand_144 rfl ?_
          refine g12_at X dX12_readOperand_145 ?_
          try simp only [gI_sI, gI_sL, gL_sI, gL_sL, false_and, and_false, and_self, if_false, if_true, reduceIte, Nat.reduceEqDiff, h5, gI_wa]
          refine w_iconst (v := 1) X dX12_readOperand_148 (by decide) ?_
          refine w_iadd X dX12_readOperand_149 ?_
          rw [nI_1]
          refine p12_at X dX12_readOperand_150 ?_
          refine w_goto (tgt := 192) X dX12_readOperand_153 (by decide) ?_
          refine w_iconst (v := 0) X dX12_readOperand_192 (by decide) ?_
          refine w_zrR X dX12_readOperand_193 (by first | exact Or.inl rfl | exact Or.inr rfl) ?_
          rw [← hres]
          exact ⟨Or.inl rfl, ⟨pf_sI (pf_wa (pf_sI (pf_rf M) (by first | omega | exact at5_ (by omega)))) (by first | omega | exact at5_ (by omega)), pr_front _ h (by first | omega | exact at5_ (by omega)), by simp [wa_, sI_, hf]⟩, rfl⟩
      · refine w_iload_n X dX12_readOperand_118 rfl rfl ?_
        refine w_bipush (v := 33) X dX12_readOperand_119 (by decide) ?_
        refine w_icmp_ne (tgt := 156) X dX12_readOperand_121 (by decide) (fun h121 => ?_) (fun h121 => ?_)
        · rw [if_neg (fun q => q.elim h115 h121)] at hres
          refine w_iload_n X dX12_readOperand_156 rfl rfl ?_
          refine w_bipush (v := 40) X dX12_readOperand_157 (by decide) ?_
          refine w_icmp_ne (tgt := 171) X dX12_readOperand_159 (by decide) (fun h159 => ?_) (fun h159 => ?_)
          · rw [if_neg h159] at hres
            refine w_iload_n X dX12_readOperand_171 rfl rfl ?_
            refine w_s1fI X dX12_readOperand_172 k12_isOfRow (c12_isOfRow G hG _ _ _) (Nat.le_of_ble_eq_true rfl) ?_
            refine w_if_eq (tgt := 183) X dX12_readOperand_175 (by decide) (fun h175 => ?_) (fun h175 => ?_)
            · rw [if_neg (fun q => q h175)] at hres
              refine w_aload_n X dX12_readOperand_183 rfl rfl ?_
              refine w_iconst (v := 1) X dX12_readOperand_184 (by decide) ?_
              refine w_aload_n X dX12_readOperand_185 rfl rfl ?_
              refine g12_at X dX12_readOperand_186 ?_
              try simp only [gI_sI, gI_sL, gL_sI, gL_sL, false_and, and_false, and_self, if_false, if_true, reduceIte, Nat.reduceEqDiff, h5]
              refine w_v2fV X dX12_readOperand_189 k12_fail rfl rfl (c12_fail G hG _ _ _ _) (Nat.le_of_ble_eq_true rfl) ?_
              refine w_iconst (v := 0) X dX12_readOperand_192 (by decide) ?_
              refine w_zrR X dX12_readOperand_193 (Or.inl rfl) ?_
              rw [← hres]
              exact py_f (Or.inl rfl) (px_fa (pf_rf M) hf)
            · rw [if_pos h175] at hres
              refine w_aload_n X dX12_readOperand_178 rfl rfl ?_
              refine w_v0rI X dX12_readOperand_179 k12_readRow rfl rfl (c12_readRow G hG _ M n k nd op W h hf hk) (Nat.le_of_ble_eq_true rfl) (fun r179 N179 h179 => ?_)
              refine w_zrR X dX12_readOperand_182 h179.1 ?_
              rw [← hres]
              exact h179
          · rw [if_pos h159] at hres
            refine w_aload_n X dX12_readOperand_162 rfl rfl ?_
            refine w_iconst (v := 0) X dX12_readOperand_163 (by decide) ?_
            refine w_iconst (v := 0) X dX12_readOperand_164 (by decide) ?_
            by_cases ho12 : op = 12
            · rw [if_pos ho12] at hres
              refine w_v2fV X dX12_readOperand_165 k12_open rfl rfl (c12_open_f G hG _ _ k _ _ h5 (by rw [h23, ho12])) (Nat.le_of_ble_eq_true rfl) ?_
              refine w_goto (tgt := 192) X dX12_readOperand_168 (by decide) ?_
              refine w_iconst (v := 0) X dX12_readOperand_192 (by decide) ?_
              refine w_zrR X dX12_readOperand_193 (by first | exact Or.inl rfl | exact Or.inr rfl) ?_
              rw [← hres]
              exact py_f (Or.inl rfl) (px_fa (pf_rf M) hf)
            · rw [if_neg ho12] at hres
              refine w_v2fV X dX12_readOperand_165 k12_open rfl rfl (c12_open_o G hG _ _ k W.length op _ _ h5 h20 h23 (by first | omega | exact at5_ (by omega)) (by first | omega | exact at5_ (by omega))) (Nat.le_of_ble_eq_true rfl) ?_
              refine w_goto (tgt := 192) X dX12_readOperand_168 (by decide) ?_
              refine w_iconst (v := 0) X dX12_readOperand_192 (by decide) ?_
              refine w_zrR X dX12_readOperand_193 (by first | exact Or.inl rfl | exact Or.inr rfl) ?_
              rw [← hres]
              exact ⟨Or.inl rfl, ⟨pf_sI (pf_sL (pf_wa (pf_sI (pf_rf M) (by first | omega | exact at5_ (by omega)))) (by first | omega | exact at5_ (by omega))) (by first | omega | exact at5_ (by omega)), pr_paren h (by first | omega | exact at5_ (by omega)) 0, by simp [ob_, wa_, sI_, sL_, hf]⟩, rfl⟩
        · have ec : bf_ M n k = 45 ∨ bf_ M n k = 33 := by first | exact Or.inl h115 | exact Or.inr h121
          rw [if_pos ec] at hres
          by_cases hd20 : nd = 20
          · have e20 : M.1 0 13 = 20 := by rw [h13, hd20]; rfl
            rw [if_pos hd20] at hres
            refine w_aload_n X dX12_readOperand_124 rfl rfl ?_
            refine w_aload_n X dX12_readOperand_125 rfl rfl ?_
            refine g12_at X dX12_readOperand_126 ?_
            try simp only [gI_sI, gI_sL, gL_sI, gL_sL, false_and, and_false, and_self, if_false, if_true, reduceIte, Nat.reduceEqDiff, h5]
            refine w_v1fI X dX12_readOperand_129 k12_count rfl rfl (c12_count G hG _ _ _) (Nat.le_of_ble_eq_true rfl) ?_
            refine w_if_eq (tgt := 192) X dX12_readOperand_132 (by decide) (fun h132 => ?_) (fun h132 => absurd (if_pos e20) h132)
            refine w_iconst (v := 0) X dX12_readOperand_192 (by decide) ?_
            refine w_zrR X dX12_readOperand_193 (by first | exact Or.inl rfl | exact Or.inr rfl) ?_
            rw [← hres, if_pos e20]
            exact py_f (Or.inl rfl) (px_fa (pf_rf M) hf)
          · have e20 : ¬ M.1 0 13 = 20 := fun q => hd20 ((nI_eq (b := 20) (by omega) (by omega)).mp (h13.symm.trans q))
            rw [if_neg hd20] at hres
            refine w_aload_n X dX12_readOperand_124 rfl rfl ?_
            refine w_aload_n X dX12_readOperand_125 rfl rfl ?_
            refine g12_at X dX12_readOperand_126 ?_
            try simp only [gI_sI, gI_sL, gL_sI, gL_sL, false_and, and_false, and_self, if_false, if_true, reduceIte, Nat.reduceEqDiff, h5, gI_wa]
            refine w_v1fI X dX12_readOperand_129 k12_count rfl rfl (c12_count G hG _ _ _) (Nat.le_of_ble_eq_true rfl) ?_
            rw [if_neg e20, if_neg e20]
            simp only [h13, nI_1]
            refine w_if_eq (tgt := 192) X dX12_readOperand_132 (by decide) (fun h132 => absurd h132 (by decide)) (fun h132 => ?_)
            refine w_aload_n X dX12_readOperand_135 rfl rfl ?_
            refine w_bipush (v := 6) X dX12_readOperand_136 (by decide) ?_
            refine w_iconst (v := 0) X dX12_readOperand_138 (by decide) ?_
            refine w_iload_n X dX12_readOperand_139 rfl rfl ?_
            refine w_v3fV X dX12_readOperand_140 k12_wait rfl rfl (c12_wait G hG _ _ W.length (by simp [sI_, h20]) (by first | omega | exact at5_ (by omega)) _ _ _) (Nat.le_of_ble_eq_true rfl) ?_
            refine w_aload_n X dX12_readOperand_143 rfl rfl ?_
            refine w_dup X dX12_readOperand_144 rfl ?_
            refine g12_at X dX12_readOperand_145 ?_
            try simp only [gI_sI, gI_sL, gL_sI, gL_sL, false_and, and_false, and_self, if_false, if_true, reduceIte, Nat.reduceEqDiff, h5, gI_wa]
            refine w_iconst (v := 1) X dX12_readOperand_148 (by decide) ?_
            refine w_iadd X dX12_readOperand_149 ?_
            rw [nI_1]
            refine p12_at X dX12_readOperand_150 ?_
            refine w_goto (tgt := 192) X dX12_readOperand_153 (by decide) ?_
            refine w_iconst (v := 0) X dX12_readOperand_192 (by decide) ?_
            refine w_zrR X dX12_readOperand_193 (by first | exact Or.inl rfl | exact Or.inr rfl) ?_
            rw [← hres]
            exact ⟨Or.inl rfl, ⟨pf_sI (pf_wa (pf_sI (pf_rf M) (by first | omega | exact at5_ (by omega)))) (by first | omega | exact at5_ (by omega)), pr_front _ h (by first | omega | exact at5_ (by omega)), by simp [wa_, sI_, hf]⟩, rfl⟩
    · rw [if_pos h103] at hres
      refine w_aload_n X dX12_readOperand_106 rfl rfl ?_
      refine w_v0rV X dX12_readOperand_107 k12_readNumber rfl rfl (c12_readNumber G hG _ M n k nd op W h hf (by omega)) (Nat.le_of_ble_eq_true rfl) (fun N107 h107 => ?_)
      refine w_iconst (v := 1) X dX12_readOperand_110 (by decide) ?_
      refine w_zrR X dX12_readOperand_111 (Or.inr rfl) ?_
      rw [← hres]
      exact ⟨Or.inr rfl, h107, ok_rn⟩
  by_cases hb3 : f3b_ W = true
  · cases W with
    | nil => simp [f3b_] at hb3
    | cons f r =>
      simp [f3b_] at hb3
      have e9 := f3_at h hb3.1
      have e8 : tp_ (f :: r) = 8 := by show nI f.1 = 8; rw [hb3.1]; rfl
      have h20 : M.1 0 20 = nI (r.length + 1) := by simpa using h20
      simp only [List.length_cons] at hle
      rw [hb3.2] at e9
      have hr2 : res = .inr (3, k) := by rw [← hres]; unfold so2_; rw [if_pos (by simp [f3b_, hb3])]
      refine w_aload_n X dX12_readOperand_63 rfl rfl ?_
      refine w_v0fI X dX12_readOperand_64 k12_last rfl rfl (c12_last G hG _ _ (r.length + 1) h20 (by omega)) (Nat.le_of_ble_eq_true rfl) ?_
      rw [show la_ M (r.length + 1) = 8 from (la_pr h).trans e8]
      refine w_bipush (v := 8) X dX12_readOperand_67 (by decide) ?_
      refine w_icmp_ne (tgt := 99) X dX12_readOperand_69 (by decide) (fun h69 => absurd rfl h69) (fun h69 => ?_)
      refine w_aload_n X dX12_readOperand_72 rfl rfl ?_
      refine g12_waitValues X dX12_readOperand_73 ?_
      refine w_aload_n X dX12_readOperand_76 rfl rfl ?_
      refine g12_waiting X dX12_readOperand_77 ?_
      try simp only [gI_sI, gI_sL, gL_sI, gL_sL, false_and, and_false, and_self, if_false, if_true, reduceIte, Nat.reduceEqDiff, h5, h20, e9]
      refine w_iconst (v := 1) X dX12_readOperand_80 (by decide) ?_
      refine w_isub X dX12_readOperand_81 ?_
      rw [nI_s1]
      refine w_ialoadN X dX12_readOperand_82 rfl rfl (by omega) ?_
      try simp only [gI_sI, gI_sL, gL_sI, gL_sL, false_and, and_false, and_self, if_false, if_true, reduceIte, Nat.reduceEqDiff, h5, h20, e9]
      refine w_iconst (v := 3) X dX12_readOperand_83 (by decide) ?_
      refine w_icmp_ne (tgt := 99) X dX12_readOperand_84 (by decide) (fun h84 => absurd rfl h84) (fun h84 => ?_)
      refine w_aload_n X dX12_readOperand_87 rfl rfl ?_
      refine w_iconst (v := 3) X dX12_readOperand_88 (by decide) ?_
      refine w_aload_n X dX12_readOperand_89 rfl rfl ?_
      refine g12_at X dX12_readOperand_90 ?_
      try simp only [gI_sI, gI_sL, gL_sI, gL_sL, false_and, and_false, and_self, if_false, if_true, reduceIte, Nat.reduceEqDiff, h5, h20, e9]
      refine w_v2fV X dX12_readOperand_93 k12_fail rfl rfl (c12_fail G hG _ _ _ _) (Nat.le_of_ble_eq_true rfl) ?_
      refine w_goto (tgt := 192) X dX12_readOperand_96 (by decide) ?_
      refine w_iconst (v := 0) X dX12_readOperand_192 (by decide) ?_
      refine w_zrR X dX12_readOperand_193 (by first | exact Or.inl rfl | exact Or.inr rfl) ?_
      rw [hr2]
      exact py_f (Or.inl rfl) (px_fa (pf_rf M) hf)
  · have hb3 : f3b_ W = false := by simpa using hb3
    refine w_aload_n X dX12_readOperand_63 rfl rfl ?_
    refine w_v0fI X dX12_readOperand_64 k12_last rfl rfl (c12_last G hG _ _ _ h20 (by omega)) (Nat.le_of_ble_eq_true rfl) ?_
    rw [la_pr h]
    refine w_bipush (v := 8) X dX12_readOperand_67 (by decide) ?_
    refine w_icmp_ne (tgt := 99) X dX12_readOperand_69 (by decide) (fun h69 => ?_) (fun h69 => ?_)
    · exact j99 hb3
    · obtain ⟨f, r, rfl, hf8⟩ := (tp_3 (k := 8) (by omega) (wr_8 h.2.2.2.2.1)).mp h69
      have e9 := f3_at h hf8
      have h20 : M.1 0 20 = nI (r.length + 1) := by simpa using h20
      simp only [List.length_cons] at hle
      have hna : ¬ ac_ f.2.2.1 = 3 := fun q => by simp [f3b_, hf8, q] at hb3
      have hac : ac_ f.2.2.1 ≤ 20 := by
        have q1 := (h.2.2.2.2.1.2.1.2 hf8).2
        have q2 := h.2.2.2.2.2.2.2.2.1
        simp [nw_, nf_, hf8] at q2
        omega
      refine w_aload_n X dX12_readOperand_72 rfl rfl ?_
      refine g12_waitValues X dX12_readOperand_73 ?_
      refine w_aload_n X dX12_readOperand_76 rfl rfl ?_
      refine g12_waiting X dX12_readOperand_77 ?_
      try simp only [gI_sI, gI_sL, gL_sI, gL_sL, false_and, and_false, and_self, if_false, if_true, reduceIte, Nat.reduceEqDiff, h5, h20]
      refine w_iconst (v := 1) X dX12_readOperand_80 (by decide) ?_
      refine w_isub X dX12_readOperand_81 ?_
      rw [nI_s1]
      refine w_ialoadN X dX12_readOperand_82 rfl rfl (by omega) ?_
      try simp only [gI_sI, gI_sL, gL_sI, gL_sL, false_and, and_false, and_self, if_false, if_true, reduceIte, Nat.reduceEqDiff, h5, h20]
      refine w_iconst (v := 3) X dX12_readOperand_83 (by decide) ?_
      refine w_icmp_ne (tgt := 99) X dX12_readOperand_84 (by decide) (fun h84 => ?_) (fun h84 => absurd h84 (fun q => hna ((nI_eq (b := 3) (by omega) (by omega)).mp (e9.symm.trans q))))
      exact j99 hb3
set_option maxRecDepth 100000 in
set_option maxHeartbeats 4000000 in
theorem c12_readOperand (G : gg_) (hG : gd_ G) (d : Nat) (M : mm_) (n k nd op : Nat) (W : List fr_) (h : pr_ M n k W none nd op) (hf : M.1 0 3 = 0) (hk : k < 268435456) (a : Int32) (ha : a = if fqb_ W = true then 1 else 0) : cm_ G yX12_readOperand cX12_readOperand 4 (some .boolean) (d + 6) [.ref (G.1 0), .int a] M (rI_ (py_ M n (so_ M n k W nd op))) := by
  refine cm_of hG (by decide) (Nat.le_of_ble_eq_true rfl) (fun C X => ?_)
  have hle := pr_len h
  have h0 := h.1
  have h5 := h.2.1
  have h20 := h.2.2.2.1
  generalize hres : so_ M n k W nd op = res
  have j63 : ∀ b : Int32, ¬ (bf_ M n k < 0 ∨ (¬ M.1 0 14 = 0 ∧ bf_ M n k ≤ 32)) → ¬ (fqb_ W = true ∧ bf_ M n k = 41) → wq_ C G (qe_ C G (rI_ (py_ M n res))) 63 [some (.ref (G.1 0)), some (.int a), some (.int (bf_ M n k)), some (.int b)] [] M := by
    intro b h1 h2
    have e : res = so2_ M n k W nd op := by rw [← hres]; unfold so_; rw [if_neg h1, if_neg h2]
    rw [e]
    exact w12_readOperand_63 (d := d + 2) hG h hf hk X a b
  by_cases hq : fqb_ W = true
  · rw [if_pos hq] at ha
    subst ha
    cases W with
    | nil => simp [fqb_] at hq
    | cons f r =>
      obtain ⟨kd, c, y, b, x⟩ := f
      have hq2 := hq
      simp [fqb_] at hq2
      obtain ⟨rfl, hac⟩ := hq2
      have hy : y = .null := ao_0 (h.2.2.2.2.1.2.1.2 rfl).1 hac
      subst hy
      have h20 : M.1 0 20 = nI (r.length + 1) := by simpa using h20
      simp only [List.length_cons] at hle
      refine w_aload_n X dX12_readOperand_0 rfl rfl ?_
      refine w_aload_n X dX12_readOperand_1 rfl rfl ?_
      refine g12_at X dX12_readOperand_2 ?_
      try simp only [gI_sI, gI_sL, gL_sI, gL_sL, false_and, and_false, and_self, if_false, if_true, reduceIte, Nat.reduceEqDiff, h5]
      refine w_v1fI X dX12_readOperand_5 k12_byteAt rfl rfl (c12_byteAt G hG _ _ (nI k) (fun z => tz_in h0 (by omega) z)) (Nat.le_of_ble_eq_true rfl) ?_
      rw [ba_bf h0 (by omega)]
      refine w_istore_n X dX12_readOperand_8 rfl (by decide) ?_
      refine w_iload_n X dX12_readOperand_9 rfl rfl ?_
      refine w_if_eq (tgt := 26) X dX12_readOperand_10 (by decide) (fun h10 => absurd h10 (by decide)) (fun h10 => ?_)
      refine w_aload_n X dX12_readOperand_13 rfl rfl ?_
      refine w_v0fI X dX12_readOperand_14 k12_last rfl rfl (c12_last G hG _ _ (r.length + 1) h20 (by omega)) (Nat.le_of_ble_eq_true rfl) ?_
      rw [show la_ M (r.length + 1) = 8 from la_pr h]
      refine w_bipush (v := 8) X dX12_readOperand_17 (by decide) ?_
      refine w_icmp_ne (tgt := 26) X dX12_readOperand_19 (by decide) (fun h19 => absurd rfl h19) (fun h19 => ?_)
      refine w_iconst (v := 1) X dX12_readOperand_22 (by decide) ?_
      refine w_goto (tgt := 27) X dX12_readOperand_23 (by decide) ?_
      refine w_istore_n X dX12_readOperand_27 rfl (by decide) ?_
      refine w_aload_n X dX12_readOperand_28 rfl rfl ?_
      refine w_v0fI X dX12_readOperand_29 k12_ended rfl rfl (c12_ended G hG _ _ n k h0 h5 (by omega)) (Nat.le_of_ble_eq_true rfl) ?_
      refine w_if_eq (tgt := 47) X dX12_readOperand_32 (by decide) (fun h32 => ?_) (fun h32 => ?_)
      · have e32 : ¬ (bf_ M n k < 0 ∨ (¬ M.1 0 14 = 0 ∧ bf_ M n k ≤ 32)) := fun q => by rw [if_pos q] at h32; exact absurd h32 (by decide)
        refine w_iload_n X dX12_readOperand_47 rfl rfl ?_
        refine w_if_eq (tgt := 63) X dX12_readOperand_48 (by decide) (fun h48 => absurd h48 (by decide)) (fun h48 => ?_)
        refine w_iload_n X dX12_readOperand_51 rfl rfl ?_
        refine w_bipush (v := 41) X dX12_readOperand_52 (by decide) ?_
        refine w_icmp_ne (tgt := 63) X dX12_readOperand_54 (by decide) (fun h54 => ?_) (fun h54 => ?_)
        · exact j63 1 e32 (fun q => h54 q.2)
        · refine w_aload_n X dX12_readOperand_57 rfl rfl ?_
          refine w_v0rV X dX12_readOperand_58 k12_close rfl rfl (c12_close_0 G hG _ M n k nd op r c b x h hf hk) (Nat.le_of_ble_eq_true rfl) (fun N58 h58 => ?_)
          refine w_iconst (v := 1) X dX12_readOperand_61 (by decide) ?_
          refine w_zrR X dX12_readOperand_62 (Or.inr rfl) ?_
          have hr2 : res = .inl (k + 1, r, some (.sub (.long x) .null), nd, op - 1) := by rw [← hres]; unfold so_; rw [if_neg e32, if_pos ⟨hq, h54⟩]; rfl
          rw [hr2]
          exact ⟨Or.inr rfl, h58, rfl⟩
      · have e32 : bf_ M n k < 0 ∨ (¬ M.1 0 14 = 0 ∧ bf_ M n k ≤ 32) := Decidable.by_contra (fun q => h32 (if_neg q))
        have hr1 : res = .inr (1, k) := by rw [← hres]; unfold so_; rw [if_pos e32]
        refine w_aload_n X dX12_readOperand_35 rfl rfl ?_
        refine w_iconst (v := 1) X dX12_readOperand_36 (by decide) ?_
        refine w_aload_n X dX12_readOperand_37 rfl rfl ?_
        refine g12_at X dX12_readOperand_38 ?_
        try simp only [gI_sI, gI_sL, gL_sI, gL_sL, false_and, and_false, and_self, if_false, if_true, reduceIte, Nat.reduceEqDiff, h5]
        refine w_v2fV X dX12_readOperand_41 k12_fail rfl rfl (c12_fail G hG _ _ _ _) (Nat.le_of_ble_eq_true rfl) ?_
        refine w_goto (tgt := 192) X dX12_readOperand_44 (by decide) ?_
        refine w_iconst (v := 0) X dX12_readOperand_192 (by decide) ?_
        refine w_zrR X dX12_readOperand_193 (by first | exact Or.inl rfl | exact Or.inr rfl) ?_
        rw [hr1]
        exact py_f (Or.inl rfl) (px_fa (pf_rf M) hf)
  · rw [if_neg hq] at ha
    subst ha
    refine w_aload_n X dX12_readOperand_0 rfl rfl ?_
    refine w_aload_n X dX12_readOperand_1 rfl rfl ?_
    refine g12_at X dX12_readOperand_2 ?_
    try simp only [gI_sI, gI_sL, gL_sI, gL_sL, false_and, and_false, and_self, if_false, if_true, reduceIte, Nat.reduceEqDiff, h5]
    refine w_v1fI X dX12_readOperand_5 k12_byteAt rfl rfl (c12_byteAt G hG _ _ (nI k) (fun z => tz_in h0 (by omega) z)) (Nat.le_of_ble_eq_true rfl) ?_
    rw [ba_bf h0 (by omega)]
    refine w_istore_n X dX12_readOperand_8 rfl (by decide) ?_
    refine w_iload_n X dX12_readOperand_9 rfl rfl ?_
    refine w_if_eq (tgt := 26) X dX12_readOperand_10 (by decide) (fun h10 => ?_) (fun h10 => absurd (rfl) h10)
    refine w_iconst (v := 0) X dX12_readOperand_26 (by decide) ?_
    refine w_istore_n X dX12_readOperand_27 rfl (by decide) ?_
    refine w_aload_n X dX12_readOperand_28 rfl rfl ?_
    refine w_v0fI X dX12_readOperand_29 k12_ended rfl rfl (c12_ended G hG _ _ n k h0 h5 (by omega)) (Nat.le_of_ble_eq_true rfl) ?_
    refine w_if_eq (tgt := 47) X dX12_readOperand_32 (by decide) (fun h32 => ?_) (fun h32 => ?_)
    · have e32 : ¬ (bf_ M n k < 0 ∨ (¬ M.1 0 14 = 0 ∧ bf_ M n k ≤ 32)) := fun q => by rw [if_pos q] at h32; exact absurd h32 (by decide)
      refine w_iload_n X dX12_readOperand_47 rfl rfl ?_
      refine w_if_eq (tgt := 63) X dX12_readOperand_48 (by decide) (fun h48 => ?_) (fun h48 => absurd (rfl) h48)
      exact j63 0 e32 (fun q => hq q.1)
    · have e32 : bf_ M n k < 0 ∨ (¬ M.1 0 14 = 0 ∧ bf_ M n k ≤ 32) := Decidable.by_contra (fun q => h32 (if_neg q))
      have hr1 : res = .inr (1, k) := by rw [← hres]; unfold so_; rw [if_pos e32]
      refine w_aload_n X dX12_readOperand_35 rfl rfl ?_
      refine w_iconst (v := 1) X dX12_readOperand_36 (by decide) ?_
      refine w_aload_n X dX12_readOperand_37 rfl rfl ?_
      refine g12_at X dX12_readOperand_38 ?_
      try simp only [gI_sI, gI_sL, gL_sI, gL_sL, false_and, and_false, and_self, if_false, if_true, reduceIte, Nat.reduceEqDiff, h5]
      refine w_v2fV X dX12_readOperand_41 k12_fail rfl rfl (c12_fail G hG _ _ _ _) (Nat.le_of_ble_eq_true rfl) ?_
      refine w_goto (tgt := 192) X dX12_readOperand_44 (by decide) ?_
      refine w_iconst (v := 0) X dX12_readOperand_192 (by decide) ?_
      refine w_zrR X dX12_readOperand_193 (by first | exact Or.inl rfl | exact Or.inr rfl) ?_
      rw [hr1]
      exact py_f (Or.inl rfl) (px_fa (pf_rf M) hf)

end
section
/-! the parser's steps: they go on, their faults are faults, and what stands before an argument -/
def nz_ : ss_ ⊕ (Int32 × Nat) → Prop
  | .inl _ => True
  | .inr (f, _) => ¬ f = 0
/-- a step from place k: the place grows, and stays on the tape -/
def gk_ (n k : Nat) : ss_ ⊕ (Int32 × Nat) → Prop
  | .inl S => k < S.1 ∧ S.1 ≤ n
  | .inr _ => True
def iw_ (f : Nat → Int32) (k : Nat) : List fr_ → Prop
  | [] => True
  | g :: _ => g.1 = 8 → 1 ≤ k ∧ (ac_ g.2.2.1 = 0 ↔ f (k - 1) = 40)
def iq_ (f : Nat → Int32) : ss_ ⊕ (Int32 × Nat) → Prop
  | .inl S => S.2.2.1 = none → iw_ f S.1 S.2.1
  | .inr _ => True
theorem bf_lt {M : mm_} {n k : Nat} (h : ¬ bf_ M n k < 0) : k < n := by
  rcases Nat.lt_or_ge k n with q | q
  · exact q
  · exact absurd (show bf_ M n k < 0 by unfold bf_; rw [if_neg (by omega)]; decide) h
theorem ac_sa1 (x e : Term) : ¬ ac_ (sa_ x e) = 0 := by cases x <;> simp [sa_, ac_]
theorem nz_rn {f : Nat → Int32} {n k nd op : Nat} {W : List fr_} : nz_ (rn2_ f n k W nd op) := by
  unfold rn2_
  split
  · simp [nz_]
  · split <;> simp [nz_]
theorem nz_rr {M : mm_} {n k nd op : Nat} {W : List fr_} : nz_ (rr_ M n k W nd op) := by
  unfold rr_
  repeat' split
  all_goals simp [nz_]
theorem nz_so {M : mm_} {n k nd op : Nat} {W : List fr_} : nz_ (so_ M n k W nd op) := by
  unfold so_
  split
  · simp [nz_]
  · split
    · unfold co0_; split <;> simp [nz_]
    · unfold so2_
      split
      · simp [nz_]
      · split
        · exact nz_rn
        · split
          · split <;> simp [nz_]
          · split
            · split <;> simp [nz_]
            · split
              · exact nz_rr
              · simp [nz_]
theorem gk_rn {f : Nat → Int32} {n k nd op : Nat} {W : List fr_} (hk : k < n) (h : ¬ ig_ (f k) = 0) : gk_ n k (rn2_ f n k W nd op) := by
  unfold rn2_
  split
  · trivial
  · split
    · trivial
    · obtain ⟨u, hu⟩ : ∃ u, n - k = u + 1 := ⟨n - k - 1, by omega⟩
      have h1 : ig_ (f k) = 1 := (ig_01 _).resolve_left h
      have e : nv_ f (n - k) k 0 = nv_ f u (k + 1) (dn_ 0 (dg_ (f k))) := by rw [hu]; simp only [nv_]; rw [if_pos h1]
      have g := nv_le f u (k + 1) (dn_ 0 (dg_ (f k))) (dn_le _ _)
      rw [e]
      exact ⟨by simp only; omega, by simp only; omega⟩
theorem gk_rr {M : mm_} {n k nd op : Nat} {W : List fr_} (hk : k < n) : gk_ n k (rr_ M n k W nd op) := by
  unfold rr_
  split
  · split
    · trivial
    · split
      · trivial
      · exact ⟨by simp only; omega, by simp only; omega⟩
  · split
    · trivial
    · split
      · trivial
      · split
        · trivial
        · split
          · trivial
          · split
            · trivial
            · rename_i h40
              split
              · trivial
              · have h41 : bf_ M n (k + rz_ M n k) = 40 := Decidable.not_not.mp h40
                have := bf_lt (M := M) (n := n) (k := k + rz_ M n k) (by rw [h41]; decide)
                exact ⟨by simp only; omega, by simp only; omega⟩
theorem gk_so {M : mm_} {n k nd op : Nat} {W : List fr_} : gk_ n k (so_ M n k W nd op) := by
  unfold so_
  split
  · trivial
  · rename_i hne
    have hk : k < n := bf_lt (fun q => hne (Or.inl q))
    split
    · unfold co0_
      split
      · trivial
      · exact ⟨by simp only; omega, by simp only; omega⟩
    · unfold so2_
      split
      · trivial
      · split
        · rename_i hg
          exact gk_rn hk hg
        · split
          · split
            · trivial
            · exact ⟨by simp only; omega, by simp only; omega⟩
          · split
            · split
              · trivial
              · exact ⟨by simp only; omega, by simp only; omega⟩
            · split
              · exact gk_rr hk
              · trivial
theorem iq_so {M : mm_} {n k nd op : Nat} {W : List fr_} : iq_ (bf_ M n) (so_ M n k W nd op) := by
  unfold so_
  split
  · trivial
  · split
    · unfold co0_
      split
      · trivial
      · intro q; simp at q
    · unfold so2_
      split
      · trivial
      · split
        · unfold rn2_
          split
          · trivial
          · split
            · trivial
            · intro q; simp at q
        · split
          · split
            · trivial
            · intro _ q; simp at q
          · split
            · split
              · trivial
              · intro _ q; simp at q
            · split
              · unfold rr_
                split
                · split
                  · trivial
                  · split
                    · trivial
                    · intro q; simp at q
                · split
                  · trivial
                  · split
                    · trivial
                    · split
                      · trivial
                      · split
                        · trivial
                        · split
                          · trivial
                          · rename_i h40
                            split
                            · trivial
                            · intro _ _
                              refine ⟨by simp only; omega, ?_⟩
                              simp only [ac_, Nat.add_sub_cancel, true_iff]
                              exact Decidable.not_not.mp h40
              · trivial
/-- a sign's step -/
def s1_ (f : Nat → Int32) (k : Nat) : ss_ ⊕ (Int32 × Nat) → Prop
  | .inl S => S.1 = k + 1 ∧ (f k = 40 ∨ S.2.2.1 = none → iw_ f S.1 S.2.1)
  | .inr (g, _) => ¬ g = 0
theorem s1_ha {f : Nat → Int32} {k nd op : Nat} {W : List fr_} {e : Term} : s1_ f k (ha_ k W e nd op) := by
  unfold ha_
  split
  · simp [s1_]
  · exact ⟨rfl, fun _ q => by simp at q⟩
theorem s1_qu {f : Nat → Int32} {k nd op : Nat} {W : List fr_} {e : Term} : s1_ f k (qu_ k W e nd op) := by
  unfold qu_
  split
  · simp [s1_]
  · exact ⟨rfl, fun _ q => by simp at q⟩
theorem s1_cl {f : Nat → Int32} {k nd op : Nat} {W : List fr_} {e : Term} : s1_ f k (cl_ k W e nd op) := by
  unfold cl_
  split
  · simp [s1_]
  · split
    · exact ⟨rfl, fun _ q => by simp at q⟩
    · simp [s1_]
theorem s1_bt {f : Nat → Int32} {k nd op L : Nat} {c : Int32} {W : List fr_} {e : Term} (hL : L ≤ 7) : s1_ f k (bt_ L c k W e nd op) := by
  unfold bt_
  generalize rt_ (if L = 3 then 4 else L) W e = q
  split
  · simp [s1_]
  · split
    · simp [s1_]
    · exact ⟨rfl, fun _ q => by simp at q; omega⟩
theorem s1_cm {f : Nat → Int32} {k nd op : Nat} {W : List fr_} {e : Term} (h : f k = 44) : s1_ f k (cm2_ k W e nd op) := by
  unfold cm2_
  split
  · simp [s1_]
  · split
    · refine ⟨rfl, fun _ _ => ⟨by simp only; omega, ?_⟩⟩
      simp only [Nat.add_sub_cancel]
      constructor
      · intro q; exact absurd q (ac_sa1 _ _)
      · intro q; rw [h] at q; exact absurd q (by decide)
    · simp [s1_]

end
section
theorem s1_cz {f : Nat → Int32} {k nd op : Nat} {W : List fr_} {e : Term} (h : f k = 41) : s1_ f k (cz_ k W e nd op) := by
  have h4 : ¬ f k = 40 := by rw [h]; decide
  unfold cz_
  split
  · simp [s1_]
  · split
    · exact ⟨rfl, fun q => by rcases q with q | q; exact absurd q h4; simp at q⟩
    · split
      · exact ⟨rfl, fun q => by rcases q with q | q; exact absurd q h4; simp at q⟩
      · simp [s1_]
theorem s1_si {f : Nat → Int32} {k nd op : Nat} {W : List fr_} {e : Term} : s1_ f k (si_ (f k) k W e nd op) := by
  unfold si_
  split
  · exact s1_ha
  · split
    · exact s1_qu
    · split
      · exact s1_cl
      · split
        · exact s1_bt (by omega)
        · split
          · exact s1_bt (by omega)
          · split
            · exact s1_bt (by omega)
            · split
              · rename_i h; exact s1_cm h
              · split
                · rename_i h; exact s1_cz h
                · simp [s1_]
/-- the parser's loop -/
def lo_ (M : mm_) (n : Nat) : Nat → ss_ → ss_ ⊕ (Int32 × Nat)
  | 0, S => .inl S
  | t + 1, S => match S.2.2.1 with
    | none => match so_ M n S.1 S.2.1 S.2.2.2.1 S.2.2.2.2 with
      | .inl S2 => lo_ M n t S2
      | .inr q => .inr q
    | some e => if bf_ M n S.1 < 0 ∨ (¬ M.1 0 14 = 0 ∧ bf_ M n S.1 ≤ 32) then .inl S else match si_ (bf_ M n S.1) S.1 S.2.1 e S.2.2.2.1 S.2.2.2.2 with
      | .inl S2 => lo_ M n t S2
      | .inr q => .inr q
def fx_ : ss_ ⊕ (Int32 × Nat) → (Term × Nat) ⊕ (Int32 × Nat)
  | .inr q => .inr q
  | .inl S => match S.2.2.1 with
    | none => .inr (1, S.1)
    | some e => if (rt_ 1 S.2.1 e).1.isEmpty = true then .inl ((rt_ 1 S.2.1 e).2, S.1) else .inr (1, S.1)
/-- an expression's tree and the place behind it, or the fault -/
def ex_ (M : mm_) (n k : Nat) : (Term × Nat) ⊕ (Int32 × Nat) := fx_ (lo_ M n (n + 1 - k) (k, [], none, 0, 0))
def pz_ (M : mm_) (n : Nat) : (Term × Nat) ⊕ (Int32 × Nat) → mm_ → Prop
  | .inl (e, k), N => pf_ M N ∧ N.1 0 3 = 0 ∧ k ≤ n ∧ ∃ nd op, pr_ N n k [] (some e) nd op
  | .inr (f, w), N => pf_ M N ∧ N.1 0 3 = f ∧ N.1 0 4 = nI w ∧ ¬ f = 0
theorem bf_pf {M N : mm_} {n : Nat} (h : pf_ M N) : bf_ N n = bf_ M n := by
  funext k
  unfold bf_
  rw [h.1 1 k (by omega) (by omega) (by omega) (by omega) (by omega) (by omega)]
theorem so_pf {M N : mm_} {n k nd op : Nat} {W : List fr_} (h : pf_ M N) : so_ N n k W nd op = so_ M n k W nd op := by
  have e1 : bf_ N n = bf_ M n := bf_pf h
  have e14 : N.1 0 14 = M.1 0 14 := h.1 0 14 (by omega) (by omega) (by omega) (by omega) (by omega) (by omega)
  have e15 : N.1 0 15 = M.1 0 15 := h.1 0 15 (by omega) (by omega) (by omega) (by omega) (by omega) (by omega)
  have e2 : ∀ j, rz_ N n j = rz_ M n j := fun j => by unfold rz_; rw [e1]
  have e3 : ∀ c, vo_ N c = vo_ M c := fun c => by unfold vo_; rw [e14, e15]
  have e4 : rr_ N n k W nd op = rr_ M n k W nd op := by unfold rr_; rw [e1, e14, e2, e3]
  unfold so_ so2_
  rw [e1, e14, e4]
set_option maxRecDepth 100000 in
set_option maxHeartbeats 4000000 in
theorem c12_readExpression (G : gg_) (hG : gd_ G) (d : Nat) (M : mm_) (n k : Nat) (ht : tz_ M n) (h5 : M.1 0 5 = nI k) (hf : M.1 0 3 = 0) (hk : k ≤ n) : cm_ G yX12_readExpression cX12_readExpression 4 none (d + 7) [.ref (G.1 0)] M (rV_ (pz_ M n (ex_ M n k))) := by
  refine cm_of hG (by decide) (Nat.le_of_ble_eq_true rfl) (fun C X => ?_)
  have hn := ht.2
  generalize hR : ex_ M n k = R
  have j119 : ∀ (N : mm_) (S : ss_) (a b c : Option Value), pf_ M N → pr_ N n S.1 S.2.1 S.2.2.1 S.2.2.2.1 S.2.2.2.2 → N.1 0 3 = 0 → S.1 ≤ n → (∃ e, S.2.2.1 = some e) → R = fx_ (.inl S) → wq_ C G (qe_ C G (rV_ (pz_ M n R))) 119 [some (.ref (G.1 0)), a, b, c] [] N := by
    rintro N ⟨q, W, u, nd, op⟩ a b c hpf hN h3 hq ⟨e, he⟩ hr
    simp only at hN hq he
    subst he
    have hle := pr_len hN
    refine w_aload_n X dX12_readExpression_119 rfl rfl ?_
    refine g12_fault X dX12_readExpression_120 ?_
    try simp only [gI_sI, gI_sL, gL_sI, gL_sL, false_and, and_false, and_self, if_false, if_true, reduceIte, Nat.reduceEqDiff, h3]
    refine w_if_ne (tgt := 146) X dX12_readExpression_123 (by decide) (fun h123 => absurd rfl h123) (fun h123 => ?_)
    refine w_aload_n X dX12_readExpression_126 rfl rfl ?_
    refine w_v0rV X dX12_readExpression_127 k12_reduceAll rfl rfl (c12_reduceAll G hG _ N n q nd op W e hN) (Nat.le_of_ble_eq_true rfl) (fun N127 h127 => ?_)
    have h20 := h127.1.2.2.2.1
    have h5q := h127.1.2.1
    have hf3 : N127.1 0 3 = 0 := h127.2.2.1.trans h3
    have hle2 := (pr_len h127.1).2
    refine w_aload_n X dX12_readExpression_130 rfl rfl ?_
    refine g12_waiting X dX12_readExpression_131 ?_
    try simp only [gI_sI, gI_sL, gL_sI, gL_sL, false_and, and_false, and_self, if_false, if_true, reduceIte, Nat.reduceEqDiff, h3]
    rw [h20]
    refine w_if_le (tgt := 146) X dX12_readExpression_134 (by decide) (fun h134 => ?_) (fun h134 => ?_)
    · have e134 : (rt_ 1 W e).1 = [] := by
        rcases hV : (rt_ 1 W e).1 with _ | ⟨f, r⟩
        · rfl
        · rw [hV] at h134 hle2
          simp only [List.length_cons] at h134 hle2
          exact absurd h134 (nI_nle (by omega) (by omega))
      refine w_vrR X dX12_readExpression_146 ?_
      rw [hr]
      simp only [fx_]
      first
        | (rw [if_neg e134]
           refine ⟨pf_fa (pf_tr hpf h127.2.1), ?_, ?_, by decide⟩
           · rw [fa_0 hf3]; simp [sI_]
           · rw [fa_0 hf3]; simp [sI_])
        | (rw [if_pos (by rw [e134]; rfl)]
           refine ⟨pf_tr hpf h127.2.1, hf3, hq, nd, op, ?_⟩
           have hh := h127.1
           rw [e134] at hh
           exact hh)
    · have e134 : ¬ (rt_ 1 W e).1.isEmpty = true := fun z => by
        have : (rt_ 1 W e).1 = [] := by simpa using z
        rw [this] at h134
        exact absurd (by decide) h134
      refine w_aload_n X dX12_readExpression_137 rfl rfl ?_
      refine w_iconst (v := 1) X dX12_readExpression_138 (by decide) ?_
      refine w_aload_n X dX12_readExpression_139 rfl rfl ?_
      refine g12_at X dX12_readExpression_140 ?_
      try simp only [gI_sI, gI_sL, gL_sI, gL_sL, false_and, and_false, and_self, if_false, if_true, reduceIte, Nat.reduceEqDiff, h3]
      rw [h5q]
      refine w_v2fV X dX12_readExpression_143 k12_fail rfl rfl (c12_fail G hG _ _ _ _) (Nat.le_of_ble_eq_true rfl) ?_
      refine w_vrR X dX12_readExpression_146 ?_
      rw [hr]
      simp only [fx_]
      first
        | (rw [if_neg e134]
           refine ⟨pf_fa (pf_tr hpf h127.2.1), ?_, ?_, by decide⟩
           · rw [fa_0 hf3]; simp [sI_]
           · rw [fa_0 hf3]; simp [sI_])
        | (rw [if_pos (by rw [e134]; rfl)]
           refine ⟨pf_tr hpf h127.2.1, hf3, hq, nd, op, ?_⟩
           have hh := h127.1
           rw [e134] at hh
           exact hh)
  have jf : ∀ (N : mm_) (f : Int32) (w : Nat) (a b c : Option Value), px_ M n (.inr (f, w)) N → ¬ f = 0 → R = .inr (f, w) → wq_ C G (qe_ C G (rV_ (pz_ M n R))) 29 [some (.ref (G.1 0)), a, b, c] [] N := by
    intro N f w a b c hN hf0 hr
    have h3 : N.1 0 3 = f := hN.2.1
    refine w_aload_n X dX12_readExpression_29 rfl rfl ?_
    refine g12_fault X dX12_readExpression_30 ?_
    try simp only [gI_sI, gI_sL, gL_sI, gL_sL, false_and, and_false, and_self, if_false, if_true, reduceIte, Nat.reduceEqDiff, h3]
    refine w_if_ne (tgt := 119) X dX12_readExpression_33 (by decide) (fun h33 => ?_) (fun h33 => absurd h33 hf0)
    refine w_aload_n X dX12_readExpression_119 rfl rfl ?_
    refine g12_fault X dX12_readExpression_120 ?_
    try simp only [gI_sI, gI_sL, gL_sI, gL_sL, false_and, and_false, and_self, if_false, if_true, reduceIte, Nat.reduceEqDiff, h3]
    refine w_if_ne (tgt := 146) X dX12_readExpression_123 (by decide) (fun h123 => ?_) (fun h123 => absurd h123 hf0)
    refine w_vrR X dX12_readExpression_146 ?_
    rw [hr]
    exact ⟨hN.1, hN.2.1, hN.2.2, hf0⟩
  have lp : ∀ (t : Nat) (N : mm_) (q : Nat) (W : List fr_) (u : Option Term) (nd op : Nat) (b : Int32) (c : Option Value), pf_ M N → pr_ N n q W u nd op → N.1 0 3 = 0 → q ≤ n → n + 1 - q ≤ t → (u = none → iw_ (bf_ M n) q W) → (b = -1 ∨ ∃ z : Nat, z < q ∧ b = nI z) → R = fx_ (lo_ M n t (q, W, u, nd, op)) → wq_ C G (qe_ C G (rV_ (pz_ M n R))) 29 [some (.ref (G.1 0)), some (.int (match u with | none => 1 | some _ => 0)), some (.int b), c] [] N := by
    intro t
    induction t with
    | zero => intro N q W u nd op b c _ _ _ h1 h2; omega
    | succ t ih =>
      intro N q W u nd op b c hpf hN h3 hq ht1 hiw hb hr
      have hle := pr_len hN
      have hz := hN.1
      have h5q := hN.2.1
      have h20 := hN.2.2.2.1
      have eb : bf_ N n = bf_ M n := bf_pf hpf
      have e14 : N.1 0 14 = M.1 0 14 := hpf.1 0 14 (by omega) (by omega) (by omega) (by omega) (by omega) (by omega)
      have hbq : ¬ b = nI q := fun z => by
        rcases hb with rfl | ⟨y, hy, rfl⟩
        · have : (nI q).toInt = -1 := by rw [← z]; rfl
          rw [nI_toInt (by omega)] at this
          omega
        · have := (nI_eq (by omega) (by omega)).mp z; omega
      cases u with
      | none =>
        have hiw := hiw rfl
        simp only [lo_] at hr
        have hgk := gk_so (M := M) (n := n) (k := q) (nd := nd) (op := op) (W := W)
        have hiq := iq_so (M := M) (n := n) (k := q) (nd := nd) (op := op) (W := W)
        have hnz := nz_so (M := M) (n := n) (k := q) (nd := nd) (op := op) (W := W)
        have j94 : ∀ a c9 : Int32, a = (if fqb_ W = true then 1 else 0) → c9 = nI q → wq_ C G (qe_ C G (rV_ (pz_ M n R))) 94 [some (.ref (G.1 0)), some (.int 1), some (.int c9), some (.int a)] [] N := by
          intro a c9 ha hc9
          refine w_aload_n X dX12_readExpression_94 rfl rfl ?_
          refine w_iload_n X dX12_readExpression_95 rfl rfl ?_
          refine w_v1rI X dX12_readExpression_96 k12_readOperand rfl rfl (c12_readOperand G hG _ N n q nd op W hN h3 (by omega) a ha) (Nat.le_of_ble_eq_true rfl) (fun r96 N96 h96 => ?_)
          rw [so_pf hpf] at h96
          obtain ⟨p1, p2, p3⟩ := h96
          cases hS : so_ M n q W nd op with
          | inr f =>
            obtain ⟨f, w⟩ := f
            rw [hS] at p2 hnz hr
            refine w_if_ne (tgt := 106) X dX12_readExpression_99 (by decide) (fun h99 => ?_) (fun h99 => ?_)
            · refine w_iconst (v := 0) X dX12_readExpression_106 (by decide) ?_
              refine w_istore_n X dX12_readExpression_107 rfl (by decide) ?_
              refine w_goto (tgt := 29) X dX12_readExpression_108 (by decide) ?_
              exact jf N96 f w _ _ _ ⟨pf_tr hpf p2.1, p2.2⟩ hnz hr
            · refine w_iconst (v := 1) X dX12_readExpression_102 (by decide) ?_
              refine w_goto (tgt := 107) X dX12_readExpression_103 (by decide) ?_
              refine w_istore_n X dX12_readExpression_107 rfl (by decide) ?_
              refine w_goto (tgt := 29) X dX12_readExpression_108 (by decide) ?_
              exact jf N96 f w _ _ _ ⟨pf_tr hpf p2.1, p2.2⟩ hnz hr
          | inl S2 =>
            obtain ⟨q2, W2, u2, nd2, op2⟩ := S2
            rw [hS] at p2 p3 hgk hiq hr
            obtain ⟨g1, g2⟩ := hgk
            simp only at g1 g2
            have hb2 : c9 = -1 ∨ ∃ z : Nat, z < q2 ∧ c9 = nI z := Or.inr ⟨q, g1, hc9⟩
            cases u2 with
            | none =>
              have p3 : r96 = 0 := p3
              refine w_if_ne (tgt := 106) X dX12_readExpression_99 (by decide) (fun h99 => absurd p3 h99) (fun h99 => ?_)
              refine w_iconst (v := 1) X dX12_readExpression_102 (by decide) ?_
              refine w_goto (tgt := 107) X dX12_readExpression_103 (by decide) ?_
              refine w_istore_n X dX12_readExpression_107 rfl (by decide) ?_
              refine w_goto (tgt := 29) X dX12_readExpression_108 (by decide) ?_
              exact ih N96 q2 W2 none nd2 op2 c9 _ (pf_tr hpf p2.1) p2.2.1 p2.2.2 g2 (by omega) hiq hb2 hr
            | some e2 =>
              have p3 : r96 = 1 := p3
              refine w_if_ne (tgt := 106) X dX12_readExpression_99 (by decide) (fun h99 => ?_) (fun h99 => absurd h99 (by rw [p3]; decide))
              refine w_iconst (v := 0) X dX12_readExpression_106 (by decide) ?_
              refine w_istore_n X dX12_readExpression_107 rfl (by decide) ?_
              refine w_goto (tgt := 29) X dX12_readExpression_108 (by decide) ?_
              exact ih N96 q2 W2 (some e2) nd2 op2 c9 _ (pf_tr hpf p2.1) p2.2.1 p2.2.2 g2 (by omega) (fun z => by cases z) hb2 hr
        refine w_aload_n X dX12_readExpression_29 rfl rfl ?_
        refine g12_fault X dX12_readExpression_30 ?_
        try simp only [gI_sI, gI_sL, gL_sI, gL_sL, false_and, and_false, and_self, if_false, if_true, reduceIte, Nat.reduceEqDiff, h3, h5q]
        refine w_if_ne (tgt := 119) X dX12_readExpression_33 (by decide) (fun h33 => absurd rfl h33) (fun h33 => ?_)
        refine w_iload_n X dX12_readExpression_36 rfl rfl ?_
        refine w_if_ne (tgt := 47) X dX12_readExpression_37 (by decide) (fun h37 => ?_) (fun h37 => absurd h37 (by decide))
        refine w_iload_n X dX12_readExpression_47 rfl rfl ?_
        refine w_if_eq (tgt := 111) X dX12_readExpression_48 (by decide) (fun h48 => absurd h48 (by decide)) (fun h48 => ?_)
        refine w_aload_n X dX12_readExpression_51 rfl rfl ?_
        refine w_v0fI X dX12_readExpression_52 k12_last rfl rfl (c12_last G hG _ _ _ h20 (by omega)) (Nat.le_of_ble_eq_true rfl) ?_
        rw [la_pr hN]
        refine w_bipush (v := 8) X dX12_readExpression_55 (by decide) ?_
        refine w_icmp_ne (tgt := 87) X dX12_readExpression_57 (by decide) (fun h57 => ?_) (fun h57 => ?_)
        · have ef : fqb_ W = false := by
            rcases hV : W with _ | ⟨f, r⟩
            · rfl
            · simp only [fqb_]
              by_cases h8 : f.1 = 8
              · exact absurd (by rw [hV]; show nI f.1 = 8; rw [h8]; rfl) h57
              · simp [h8]
          refine w_iconst (v := 0) X dX12_readExpression_87 (by decide) ?_
          refine w_istore_n X dX12_readExpression_88 rfl (by decide) ?_
          refine w_aload_n X dX12_readExpression_89 rfl rfl ?_
          refine g12_at X dX12_readExpression_90 ?_
          try simp only [gI_sI, gI_sL, gL_sI, gL_sL, false_and, and_false, and_self, if_false, if_true, reduceIte, Nat.reduceEqDiff, h3, h5q]
          refine w_istore_n X dX12_readExpression_93 rfl (by decide) ?_
          refine j94 _ _ ?_ rfl
          rw [ef]
          rfl
        · obtain ⟨f, r, hV, hf8⟩ := (tp_3 (k := 8) (by omega) (wr_8 hN.2.2.2.2.1)).mp h57
          rw [hV] at hiw
          have hiw := hiw hf8
          refine w_aload_n X dX12_readExpression_60 rfl rfl ?_
          refine w_aload_n X dX12_readExpression_61 rfl rfl ?_
          refine g12_at X dX12_readExpression_62 ?_
          try simp only [gI_sI, gI_sL, gL_sI, gL_sL, false_and, and_false, and_self, if_false, if_true, reduceIte, Nat.reduceEqDiff, h3, h5q]
          refine w_iconst (v := 1) X dX12_readExpression_65 (by decide) ?_
          refine w_isub X dX12_readExpression_66 ?_
          rw [nI_p q (by omega)]
          refine w_v1fI X dX12_readExpression_67 k12_byteAt rfl rfl (c12_byteAt G hG _ _ (nI (q - 1)) (fun z => tz_in hz (by omega) z)) (Nat.le_of_ble_eq_true rfl) ?_
          rw [ba_bf hz (by omega), eb]
          refine w_bipush (v := 40) X dX12_readExpression_70 (by decide) ?_
          refine w_icmp_ne (tgt := 87) X dX12_readExpression_72 (by decide) (fun h72 => ?_) (fun h72 => ?_)
          · have ef : fqb_ W = false := by rw [hV]; simp [fqb_, hf8]; exact fun z => h72 (hiw.2.mp z)
            refine w_iconst (v := 0) X dX12_readExpression_87 (by decide) ?_
            refine w_istore_n X dX12_readExpression_88 rfl (by decide) ?_
            refine w_aload_n X dX12_readExpression_89 rfl rfl ?_
            refine g12_at X dX12_readExpression_90 ?_
            try simp only [gI_sI, gI_sL, gL_sI, gL_sL, false_and, and_false, and_self, if_false, if_true, reduceIte, Nat.reduceEqDiff, h3, h5q]
            refine w_istore_n X dX12_readExpression_93 rfl (by decide) ?_
            refine j94 _ _ ?_ rfl
            rw [ef]
            rfl
          · have ef : fqb_ W = true := by rw [hV]; simp [fqb_, hf8]; exact hiw.2.mpr h72
            refine w_iload_n X dX12_readExpression_75 rfl rfl ?_
            refine w_aload_n X dX12_readExpression_76 rfl rfl ?_
            refine g12_at X dX12_readExpression_77 ?_
            try simp only [gI_sI, gI_sL, gL_sI, gL_sL, false_and, and_false, and_self, if_false, if_true, reduceIte, Nat.reduceEqDiff, h3, h5q]
            refine w_icmp_eq (tgt := 87) X dX12_readExpression_80 (by decide) (fun h80 => absurd h80 hbq) (fun h80 => ?_)
            refine w_iconst (v := 1) X dX12_readExpression_83 (by decide) ?_
            refine w_goto (tgt := 88) X dX12_readExpression_84 (by decide) ?_
            refine w_istore_n X dX12_readExpression_88 rfl (by decide) ?_
            refine w_aload_n X dX12_readExpression_89 rfl rfl ?_
            refine g12_at X dX12_readExpression_90 ?_
            try simp only [gI_sI, gI_sL, gL_sI, gL_sL, false_and, and_false, and_self, if_false, if_true, reduceIte, Nat.reduceEqDiff, h3, h5q]
            refine w_istore_n X dX12_readExpression_93 rfl (by decide) ?_
            refine j94 _ _ ?_ rfl
            rw [ef]
            rfl
      | some e =>
        have hs1 := s1_si (f := bf_ M n) (k := q) (nd := nd) (op := op) (W := W) (e := e)
        simp only [lo_] at hr
        refine w_aload_n X dX12_readExpression_29 rfl rfl ?_
        refine g12_fault X dX12_readExpression_30 ?_
        try simp only [gI_sI, gI_sL, gL_sI, gL_sL, false_and, and_false, and_self, if_false, if_true, reduceIte, Nat.reduceEqDiff, h3, h5q]
        refine w_if_ne (tgt := 119) X dX12_readExpression_33 (by decide) (fun h33 => absurd rfl h33) (fun h33 => ?_)
        refine w_iload_n X dX12_readExpression_36 rfl rfl ?_
        refine w_if_ne (tgt := 47) X dX12_readExpression_37 (by decide) (fun h37 => absurd h37 (by decide)) (fun h37 => ?_)
        refine w_aload_n X dX12_readExpression_40 rfl rfl ?_
        refine w_v0fI X dX12_readExpression_41 k12_ended rfl rfl (c12_ended G hG _ _ n q hz h5q (by omega)) (Nat.le_of_ble_eq_true rfl) ?_
        rw [eb, e14]
        refine w_if_ne (tgt := 119) X dX12_readExpression_44 (by decide) (fun h44 => ?_) (fun h44 => ?_)
        · have e44 : bf_ M n q < 0 ∨ (¬ M.1 0 14 = 0 ∧ bf_ M n q ≤ 32) := Decidable.by_contra (fun z => h44 (if_neg z))
          rw [if_pos e44] at hr
          exact j119 N (q, W, some e, nd, op) _ _ _ hpf hN h3 hq ⟨e, rfl⟩ hr
        · have e44 : ¬ (bf_ M n q < 0 ∨ (¬ M.1 0 14 = 0 ∧ bf_ M n q ≤ 32)) := fun z => by rw [if_pos z] at h44; exact absurd h44 (by decide)
          rw [if_neg e44] at hr
          have hqn : q < n := bf_lt (fun z => e44 (Or.inl z))
          refine w_iload_n X dX12_readExpression_47 rfl rfl ?_
          refine w_if_eq (tgt := 111) X dX12_readExpression_48 (by decide) (fun h48 => ?_) (fun h48 => absurd (rfl) h48)
          refine w_aload_n X dX12_readExpression_111 rfl rfl ?_
          refine w_v0rI X dX12_readExpression_112 k12_readSign rfl rfl (c12_readSign G hG _ N n q nd op W e hN h3 (by omega)) (Nat.le_of_ble_eq_true rfl) (fun r112 N112 h112 => ?_)
          rw [eb] at h112
          obtain ⟨p1, p2, p3⟩ := h112
          cases hS : si_ (bf_ M n q) q W e nd op with
          | inr f =>
            obtain ⟨f, w⟩ := f
            rw [hS] at p2 hs1 hr
            refine w_istore_n X dX12_readExpression_115 rfl (by decide) ?_
            refine w_goto (tgt := 29) X dX12_readExpression_116 (by decide) ?_
            exact jf N112 f w _ _ _ ⟨pf_tr hpf p2.1, p2.2⟩ hs1 hr
          | inl S2 =>
            obtain ⟨q2, W2, u2, nd2, op2⟩ := S2
            rw [hS] at p2 p3 hs1 hr
            obtain ⟨g1, g2⟩ := hs1
            simp only at g1 g2
            have hb2 : b = -1 ∨ ∃ z : Nat, z < q2 ∧ b = nI z := hb.imp id (fun ⟨z, z1, z2⟩ => ⟨z, by omega, z2⟩)
            cases u2 with
            | none =>
              have p3 : r112 = 1 := p3
              subst p3
              refine w_istore_n X dX12_readExpression_115 rfl (by decide) ?_
              refine w_goto (tgt := 29) X dX12_readExpression_116 (by decide) ?_
              exact ih N112 q2 W2 none nd2 op2 b _ (pf_tr hpf p2.1) p2.2.1 p2.2.2 (by omega) (by omega) (fun _ => g2 (Or.inr rfl)) hb2 hr
            | some e2 =>
              have p3 : r112 = 0 := p3
              subst p3
              refine w_istore_n X dX12_readExpression_115 rfl (by decide) ?_
              refine w_goto (tgt := 29) X dX12_readExpression_116 (by decide) ?_
              exact ih N112 q2 W2 (some e2) nd2 op2 b _ (pf_tr hpf p2.1) p2.2.1 p2.2.2 (by omega) (by omega) (fun z => by cases z) hb2 hr
  have hp0 : pr_ (sI_ (sI_ (sI_ (sI_ (sI_ M 0 12 0) 0 13 0) 0 20 0) 0 22 0) 0 23 0) n k [] none 0 0 := by
    refine ⟨tz_sI (tz_sI (tz_sI (tz_sI (tz_sI ht (by omega)) (by omega)) (by omega)) (by omega)) (by omega), by simp [sI_, h5], ⟨by simp [sI_, cs_, cu_]; rfl, fun i x hi => by simp [cs_, cu_] at hi⟩, by simp [sI_]; rfl, trivial, ⟨by simp [sI_, os_, co_]; rfl, fun i x hi => by simp [os_, co_] at hi⟩, by simp [sI_]; rfl, by simp [sI_]; rfl, rfl, by omega, rfl, by omega, trivial⟩
  refine w_aload_n X dX12_readExpression_0 rfl rfl ?_
  refine w_iconst (v := 0) X dX12_readExpression_1 (by decide) ?_
  refine p12_length X dX12_readExpression_2 ?_
  refine w_aload_n X dX12_readExpression_5 rfl rfl ?_
  refine w_iconst (v := 0) X dX12_readExpression_6 (by decide) ?_
  refine p12_nodes X dX12_readExpression_7 ?_
  refine w_aload_n X dX12_readExpression_10 rfl rfl ?_
  refine w_iconst (v := 0) X dX12_readExpression_11 (by decide) ?_
  refine p12_waiting X dX12_readExpression_12 ?_
  refine w_aload_n X dX12_readExpression_15 rfl rfl ?_
  refine w_iconst (v := 0) X dX12_readExpression_16 (by decide) ?_
  refine p12_operandCount X dX12_readExpression_17 ?_
  refine w_aload_n X dX12_readExpression_20 rfl rfl ?_
  refine w_iconst (v := 0) X dX12_readExpression_21 (by decide) ?_
  refine p12_opened X dX12_readExpression_22 ?_
  refine w_iconst (v := 1) X dX12_readExpression_25 (by decide) ?_
  refine w_istore_n X dX12_readExpression_26 rfl (by decide) ?_
  refine w_iconst (v := -1) X dX12_readExpression_27 (by decide) ?_
  refine w_istore_n X dX12_readExpression_28 rfl (by decide) ?_
  exact lp (n + 1 - k) _ k [] none 0 0 (-1) _ (pf_sI (pf_sI (pf_sI (pf_sI (pf_sI (pf_rf M) (by first | omega | exact at5_ (by omega))) (by first | omega | exact at5_ (by omega))) (by first | omega | exact at5_ (by omega))) (by first | omega | exact at5_ (by omega))) (by first | omega | exact at5_ (by omega))) hp0 (by simp [sI_, hf]) hk (Nat.le_refl _) (fun _ => trivial) (Or.inl rfl) hR.symm

end
