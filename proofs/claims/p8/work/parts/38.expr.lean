theorem s1_cz {f : Nat → Int32} {k nd op : Nat} {W : List fr_} {e : Term} (h : f k = 41) : s1_ f k (cz_ k W e nd op) := by
  have h4 : ¬ f k = 40 := by rw [h]; decide
  unfold cz_
  split
  · simp [s1_]
  · split
    · exact ⟨rfl, fun q => by rcases q with q | q; exact absurd q h4; simp at q⟩
    · split
      · exact ⟨rfl, fun q => by rcases q with q | q; exact absurd q h4; simp at q⟩
      · simp [s1_]
theorem s1_si {f : Nat → Int32} {k nd op : Nat} {W : List fr_} {e : Term} : s1_ f k (si_ (f k) k W e nd op) := by
  unfold si_
  split
  · exact s1_ha
  · split
    · exact s1_qu
    · split
      · exact s1_cl
      · split
        · exact s1_bt (by omega)
        · split
          · exact s1_bt (by omega)
          · split
            · exact s1_bt (by omega)
            · split
              · rename_i h; exact s1_cm h
              · split
                · rename_i h; exact s1_cz h
                · simp [s1_]
theorem si_end {k nd op : Nat} {W : List fr_} {e : Term} : si_ (-1) k W e nd op = .inr (1, k) := by
  unfold si_
  rw [if_neg (by decide), if_neg (by decide), if_neg (by decide), if_neg (by decide), if_neg (by decide), if_neg (by decide), if_neg (by decide), if_neg (by decide)]
/-- the parser's loop -/
def lo_ (M : mm_) (n : Nat) : Nat → ss_ → ss_ ⊕ (Int32 × Nat)
  | 0, S => .inl S
  | t + 1, S => match S.2.2.1 with
    | none => match so_ M n S.1 S.2.1 S.2.2.2.1 S.2.2.2.2 with
      | .inl S2 => lo_ M n t S2
      | .inr q => .inr q
    | some e => if bf_ M n S.1 < 0 ∨ (¬ M.1 0 14 = 0 ∧ bf_ M n S.1 ≤ 32) then .inl S else match si_ (bf_ M n S.1) S.1 S.2.1 e S.2.2.2.1 S.2.2.2.2 with
      | .inl S2 => lo_ M n t S2
      | .inr q => .inr q
def fx_ : ss_ ⊕ (Int32 × Nat) → (Term × Nat) ⊕ (Int32 × Nat)
  | .inr q => .inr q
  | .inl S => match S.2.2.1 with
    | none => .inr (1, S.1)
    | some e => if (rt_ 1 S.2.1 e).1.isEmpty = true then .inl ((rt_ 1 S.2.1 e).2, S.1) else .inr (1, S.1)
/-- an expression's tree and the place behind it, or the fault -/
def ex_ (M : mm_) (n k : Nat) : (Term × Nat) ⊕ (Int32 × Nat) := fx_ (lo_ M n (n + 1 - k) (k, [], none, 0, 0))
def pz_ (M : mm_) (n : Nat) : (Term × Nat) ⊕ (Int32 × Nat) → mm_ → Prop
  | .inl (e, k), N => pf_ M N ∧ N.1 0 3 = 0 ∧ k ≤ n ∧ ∃ nd op, pr_ N n k [] (some e) nd op
  | .inr (f, w), N => pf_ M N ∧ N.1 0 3 = f ∧ N.1 0 4 = nI w ∧ ¬ f = 0
theorem bf_pf {M N : mm_} {n : Nat} (h : pf_ M N) : bf_ N n = bf_ M n := by
  funext k
  unfold bf_
  rw [h.1 1 k (by omega) (by omega) (by omega) (by omega) (by omega) (by omega)]
theorem so_pf {M N : mm_} {n k nd op : Nat} {W : List fr_} (h : pf_ M N) : so_ N n k W nd op = so_ M n k W nd op := by
  have e1 : bf_ N n = bf_ M n := bf_pf h
  have e14 : N.1 0 14 = M.1 0 14 := h.1 0 14 (by omega) (by omega) (by omega) (by omega) (by omega) (by omega)
  have e15 : N.1 0 15 = M.1 0 15 := h.1 0 15 (by omega) (by omega) (by omega) (by omega) (by omega) (by omega)
  have e2 : ∀ j, rz_ N n j = rz_ M n j := fun j => by unfold rz_; rw [e1]
  have e3 : ∀ c, vo_ N c = vo_ M c := fun c => by unfold vo_; rw [e14, e15]
  have e4 : rr_ N n k W nd op = rr_ M n k W nd op := by unfold rr_; rw [e1, e14, e2, e3]
  unfold so_ so2_
  rw [e1, e14, e4]
set_option maxRecDepth 100000 in
set_option maxHeartbeats 4000000 in
theorem c12_readExpression (G : gg_) (hG : gd_ G) (d : Nat) (M : mm_) (n k : Nat) (ht : tz_ M n) (h5 : M.1 0 5 = nI k) (hf : M.1 0 3 = 0) (hk : k ≤ n) : cm_ G yX12_readExpression cX12_readExpression 4 none (d + 7) [.ref (G.1 0)] M (rV_ (pz_ M n (ex_ M n k))) := by
  refine cm_of hG (by decide) (Nat.le_of_ble_eq_true rfl) (fun C X => ?_)
  have hn := ht.2
  generalize hR : ex_ M n k = R
  have j119 : ∀ (N : mm_) (S : ss_) (a b c : Option Value), pf_ M N → pr_ N n S.1 S.2.1 S.2.2.1 S.2.2.2.1 S.2.2.2.2 → N.1 0 3 = 0 → S.1 ≤ n → (∃ e, S.2.2.1 = some e) → R = fx_ (.inl S) → wq_ C G (qe_ C G (rV_ (pz_ M n R))) 119 [some (.ref (G.1 0)), a, b, c] [] N := by
    rintro N ⟨q, W, u, nd, op⟩ a b c hpf hN h3 hq ⟨e, he⟩ hr
    simp only at hN hq he
    subst he
    have hle := pr_len hN
    refine w_aload_n X dX12_readExpression_119 rfl rfl ?_
    refine g12_fault X dX12_readExpression_120 ?_
    try simp only [gI_sI, gI_sL, gL_sI, gL_sL, false_and, and_false, and_self, if_false, if_true, reduceIte, Nat.reduceEqDiff, h3]
    refine w_if_ne (tgt := 146) X dX12_readExpression_123 (by decide) (fun h123 => absurd rfl h123) (fun h123 => ?_)
    refine w_aload_n X dX12_readExpression_126 rfl rfl ?_
    refine w_v0rV X dX12_readExpression_127 k12_reduceAll rfl rfl (c12_reduceAll G hG _ N n q nd op W e hN) (Nat.le_of_ble_eq_true rfl) (fun N127 h127 => ?_)
    have h20 := h127.1.2.2.2.1
    have h5q := h127.1.2.1
    have hf3 : N127.1 0 3 = 0 := h127.2.2.1.trans h3
    have hle2 := (pr_len h127.1).2
    refine w_aload_n X dX12_readExpression_130 rfl rfl ?_
    refine g12_waiting X dX12_readExpression_131 ?_
    try simp only [gI_sI, gI_sL, gL_sI, gL_sL, false_and, and_false, and_self, if_false, if_true, reduceIte, Nat.reduceEqDiff, h3]
    rw [h20]
    refine w_if_le (tgt := 146) X dX12_readExpression_134 (by decide) (fun h134 => ?_) (fun h134 => ?_)
    · have e134 : (rt_ 1 W e).1 = [] := by
        rcases hV : (rt_ 1 W e).1 with _ | ⟨f, r⟩
        · rfl
        · rw [hV] at h134 hle2
          simp only [List.length_cons] at h134 hle2
          exact absurd h134 (nI_nle (by omega) (by omega))
      refine w_vrR X dX12_readExpression_146 ?_
      rw [hr]
      simp only [fx_]
      first
        | (rw [if_neg e134]
           refine ⟨pf_fa (pf_tr hpf h127.2.1), ?_, ?_, by decide⟩
           · rw [fa_0 hf3]; simp [sI_]
           · rw [fa_0 hf3]; simp [sI_])
        | (rw [if_pos (by rw [e134]; rfl)]
           refine ⟨pf_tr hpf h127.2.1, hf3, hq, nd, op, ?_⟩
           have hh := h127.1
           rw [e134] at hh
           exact hh)
    · have e134 : ¬ (rt_ 1 W e).1.isEmpty = true := fun z => by
        have : (rt_ 1 W e).1 = [] := by simpa using z
        rw [this] at h134
        exact absurd (by decide) h134
      refine w_aload_n X dX12_readExpression_137 rfl rfl ?_
      refine w_iconst (v := 1) X dX12_readExpression_138 (by decide) ?_
      refine w_aload_n X dX12_readExpression_139 rfl rfl ?_
      refine g12_at X dX12_readExpression_140 ?_
      try simp only [gI_sI, gI_sL, gL_sI, gL_sL, false_and, and_false, and_self, if_false, if_true, reduceIte, Nat.reduceEqDiff, h3]
      rw [h5q]
      refine w_v2fV X dX12_readExpression_143 k12_fail rfl rfl (c12_fail G hG _ _ _ _) (Nat.le_of_ble_eq_true rfl) ?_
      refine w_vrR X dX12_readExpression_146 ?_
      rw [hr]
      simp only [fx_]
      first
        | (rw [if_neg e134]
           refine ⟨pf_fa (pf_tr hpf h127.2.1), ?_, ?_, by decide⟩
           · rw [fa_0 hf3]; simp [sI_]
           · rw [fa_0 hf3]; simp [sI_])
        | (rw [if_pos (by rw [e134]; rfl)]
           refine ⟨pf_tr hpf h127.2.1, hf3, hq, nd, op, ?_⟩
           have hh := h127.1
           rw [e134] at hh
           exact hh)
  have jf : ∀ (N : mm_) (f : Int32) (w : Nat) (a b c : Option Value), px_ M n (.inr (f, w)) N → ¬ f = 0 → R = .inr (f, w) → wq_ C G (qe_ C G (rV_ (pz_ M n R))) 29 [some (.ref (G.1 0)), a, b, c] [] N := by
    intro N f w a b c hN hf0 hr
    have h3 : N.1 0 3 = f := hN.2.1
    refine w_aload_n X dX12_readExpression_29 rfl rfl ?_
    refine g12_fault X dX12_readExpression_30 ?_
    try simp only [gI_sI, gI_sL, gL_sI, gL_sL, false_and, and_false, and_self, if_false, if_true, reduceIte, Nat.reduceEqDiff, h3]
    refine w_if_ne (tgt := 119) X dX12_readExpression_33 (by decide) (fun h33 => ?_) (fun h33 => absurd h33 hf0)
    refine w_aload_n X dX12_readExpression_119 rfl rfl ?_
    refine g12_fault X dX12_readExpression_120 ?_
    try simp only [gI_sI, gI_sL, gL_sI, gL_sL, false_and, and_false, and_self, if_false, if_true, reduceIte, Nat.reduceEqDiff, h3]
    refine w_if_ne (tgt := 146) X dX12_readExpression_123 (by decide) (fun h123 => ?_) (fun h123 => absurd h123 hf0)
    refine w_vrR X dX12_readExpression_146 ?_
    rw [hr]
    exact ⟨hN.1, hN.2.1, hN.2.2, hf0⟩
  have lp : ∀ (t : Nat) (N : mm_) (q : Nat) (W : List fr_) (u : Option Term) (nd op : Nat) (b : Int32) (c : Option Value), pf_ M N → pr_ N n q W u nd op → N.1 0 3 = 0 → q ≤ n → n + 1 - q ≤ t → (u = none → iw_ (bf_ M n) q W) → (b = -1 ∨ ∃ z : Nat, z < q ∧ b = nI z) → R = fx_ (lo_ M n t (q, W, u, nd, op)) → wq_ C G (qe_ C G (rV_ (pz_ M n R))) 29 [some (.ref (G.1 0)), some (.int (match u with | none => 1 | some _ => 0)), some (.int b), c] [] N := by
    intro t
    induction t with
    | zero => intro N q W u nd op b c _ _ _ h1 h2; omega
    | succ t ih =>
      intro N q W u nd op b c hpf hN h3 hq ht1 hiw hb hr
      have hle := pr_len hN
      have hz := hN.1
      have h5q := hN.2.1
      have h20 := hN.2.2.2.1
      have eb : bf_ N n = bf_ M n := bf_pf hpf
      have e14 : N.1 0 14 = M.1 0 14 := hpf.1 0 14 (by omega) (by omega) (by omega) (by omega) (by omega) (by omega)
      have hbq : ¬ b = nI q := fun z => by
        rcases hb with rfl | ⟨y, hy, rfl⟩
        · have : (nI q).toInt = -1 := by rw [← z]; rfl
          rw [nI_toInt (by omega)] at this
          omega
        · have := (nI_eq (by omega) (by omega)).mp z; omega
      cases u with
      | none =>
        have hiw := hiw rfl
        simp only [lo_] at hr
        have hgk := gk_so (M := M) (n := n) (k := q) (nd := nd) (op := op) (W := W)
        have hiq := iq_so (M := M) (n := n) (k := q) (nd := nd) (op := op) (W := W)
        have hnz := nz_so (M := M) (n := n) (k := q) (nd := nd) (op := op) (W := W)
        have j94 : ∀ a c9 : Int32, a = (if fqb_ W = true then 1 else 0) → c9 = nI q → wq_ C G (qe_ C G (rV_ (pz_ M n R))) 94 [some (.ref (G.1 0)), some (.int 1), some (.int c9), some (.int a)] [] N := by
          intro a c9 ha hc9
          refine w_aload_n X dX12_readExpression_94 rfl rfl ?_
          refine w_iload_n X dX12_readExpression_95 rfl rfl ?_
          refine w_v1rI X dX12_readExpression_96 k12_readOperand rfl rfl (c12_readOperand G hG _ N n q nd op W hN h3 (by omega) a ha) (Nat.le_of_ble_eq_true rfl) (fun r96 N96 h96 => ?_)
          rw [so_pf hpf] at h96
          obtain ⟨p1, p2, p3⟩ := h96
          cases hS : so_ M n q W nd op with
          | inr f =>
            obtain ⟨f, w⟩ := f
            rw [hS] at p2 hnz hr
            refine w_if_ne (tgt := 106) X dX12_readExpression_99 (by decide) (fun h99 => ?_) (fun h99 => ?_)
            · refine w_iconst (v := 0) X dX12_readExpression_106 (by decide) ?_
              refine w_istore_n X dX12_readExpression_107 rfl (by decide) ?_
              refine w_goto (tgt := 29) X dX12_readExpression_108 (by decide) ?_
              exact jf N96 f w _ _ _ ⟨pf_tr hpf p2.1, p2.2⟩ hnz hr
            · refine w_iconst (v := 1) X dX12_readExpression_102 (by decide) ?_
              refine w_goto (tgt := 107) X dX12_readExpression_103 (by decide) ?_
              refine w_istore_n X dX12_readExpression_107 rfl (by decide) ?_
              refine w_goto (tgt := 29) X dX12_readExpression_108 (by decide) ?_
              exact jf N96 f w _ _ _ ⟨pf_tr hpf p2.1, p2.2⟩ hnz hr
          | inl S2 =>
            obtain ⟨q2, W2, u2, nd2, op2⟩ := S2
            rw [hS] at p2 p3 hgk hiq hr
            obtain ⟨g1, g2⟩ := hgk
            simp only at g1 g2
            have hb2 : c9 = -1 ∨ ∃ z : Nat, z < q2 ∧ c9 = nI z := Or.inr ⟨q, g1, hc9⟩
            cases u2 with
            | none =>
              have p3 : r96 = 0 := p3
              refine w_if_ne (tgt := 106) X dX12_readExpression_99 (by decide) (fun h99 => absurd p3 h99) (fun h99 => ?_)
              refine w_iconst (v := 1) X dX12_readExpression_102 (by decide) ?_
              refine w_goto (tgt := 107) X dX12_readExpression_103 (by decide) ?_
              refine w_istore_n X dX12_readExpression_107 rfl (by decide) ?_
              refine w_goto (tgt := 29) X dX12_readExpression_108 (by decide) ?_
              exact ih N96 q2 W2 none nd2 op2 c9 _ (pf_tr hpf p2.1) p2.2.1 p2.2.2 g2 (by omega) hiq hb2 hr
            | some e2 =>
              have p3 : r96 = 1 := p3
              refine w_if_ne (tgt := 106) X dX12_readExpression_99 (by decide) (fun h99 => ?_) (fun h99 => absurd h99 (by rw [p3]; decide))
              refine w_iconst (v := 0) X dX12_readExpression_106 (by decide) ?_
              refine w_istore_n X dX12_readExpression_107 rfl (by decide) ?_
              refine w_goto (tgt := 29) X dX12_readExpression_108 (by decide) ?_
              exact ih N96 q2 W2 (some e2) nd2 op2 c9 _ (pf_tr hpf p2.1) p2.2.1 p2.2.2 g2 (by omega) (fun z => by cases z) hb2 hr
        refine w_aload_n X dX12_readExpression_29 rfl rfl ?_
        refine g12_fault X dX12_readExpression_30 ?_
        try simp only [gI_sI, gI_sL, gL_sI, gL_sL, false_and, and_false, and_self, if_false, if_true, reduceIte, Nat.reduceEqDiff, h3, h5q]
        refine w_if_ne (tgt := 119) X dX12_readExpression_33 (by decide) (fun h33 => absurd rfl h33) (fun h33 => ?_)
        refine w_iload_n X dX12_readExpression_36 rfl rfl ?_
        refine w_if_ne (tgt := 47) X dX12_readExpression_37 (by decide) (fun h37 => ?_) (fun h37 => absurd h37 (by decide))
        refine w_iload_n X dX12_readExpression_47 rfl rfl ?_
        refine w_if_eq (tgt := 111) X dX12_readExpression_48 (by decide) (fun h48 => absurd h48 (by decide)) (fun h48 => ?_)
        refine w_aload_n X dX12_readExpression_51 rfl rfl ?_
        refine w_v0fI X dX12_readExpression_52 k12_last rfl rfl (c12_last G hG _ _ _ h20 (by omega)) (Nat.le_of_ble_eq_true rfl) ?_
        rw [la_pr hN]
        refine w_bipush (v := 8) X dX12_readExpression_55 (by decide) ?_
        refine w_icmp_ne (tgt := 87) X dX12_readExpression_57 (by decide) (fun h57 => ?_) (fun h57 => ?_)
        · have ef : fqb_ W = false := by
            rcases hV : W with _ | ⟨f, r⟩
            · rfl
            · simp only [fqb_]
              by_cases h8 : f.1 = 8
              · exact absurd (by rw [hV]; show nI f.1 = 8; rw [h8]; rfl) h57
              · simp [h8]
          refine w_iconst (v := 0) X dX12_readExpression_87 (by decide) ?_
          refine w_istore_n X dX12_readExpression_88 rfl (by decide) ?_
          refine w_aload_n X dX12_readExpression_89 rfl rfl ?_
          refine g12_at X dX12_readExpression_90 ?_
          try simp only [gI_sI, gI_sL, gL_sI, gL_sL, false_and, and_false, and_self, if_false, if_true, reduceIte, Nat.reduceEqDiff, h3, h5q]
          refine w_istore_n X dX12_readExpression_93 rfl (by decide) ?_
          refine j94 _ _ ?_ rfl
          rw [ef]
          rfl
        · obtain ⟨f, r, hV, hf8⟩ := (tp_3 (k := 8) (by omega) (wr_8 hN.2.2.2.2.1)).mp h57
          rw [hV] at hiw
          have hiw := hiw hf8
          refine w_aload_n X dX12_readExpression_60 rfl rfl ?_
          refine w_aload_n X dX12_readExpression_61 rfl rfl ?_
          refine g12_at X dX12_readExpression_62 ?_
          try simp only [gI_sI, gI_sL, gL_sI, gL_sL, false_and, and_false, and_self, if_false, if_true, reduceIte, Nat.reduceEqDiff, h3, h5q]
          refine w_iconst (v := 1) X dX12_readExpression_65 (by decide) ?_
          refine w_isub X dX12_readExpression_66 ?_
          rw [nI_p q (by omega)]
          refine w_v1fI X dX12_readExpression_67 k12_byteAt rfl rfl (c12_byteAt G hG _ _ (nI (q - 1)) (fun z => tz_in hz (by omega) z)) (Nat.le_of_ble_eq_true rfl) ?_
          rw [ba_bf hz (by omega), eb]
          refine w_bipush (v := 40) X dX12_readExpression_70 (by decide) ?_
          refine w_icmp_ne (tgt := 87) X dX12_readExpression_72 (by decide) (fun h72 => ?_) (fun h72 => ?_)
          · have ef : fqb_ W = false := by rw [hV]; simp [fqb_, hf8]; exact fun z => h72 (hiw.2.mp z)
            refine w_iconst (v := 0) X dX12_readExpression_87 (by decide) ?_
            refine w_istore_n X dX12_readExpression_88 rfl (by decide) ?_
            refine w_aload_n X dX12_readExpression_89 rfl rfl ?_
            refine g12_at X dX12_readExpression_90 ?_
            try simp only [gI_sI, gI_sL, gL_sI, gL_sL, false_and, and_false, and_self, if_false, if_true, reduceIte, Nat.reduceEqDiff, h3, h5q]
            refine w_istore_n X dX12_readExpression_93 rfl (by decide) ?_
            refine j94 _ _ ?_ rfl
            rw [ef]
            rfl
          · have ef : fqb_ W = true := by rw [hV]; simp [fqb_, hf8]; exact hiw.2.mpr h72
            refine w_iload_n X dX12_readExpression_75 rfl rfl ?_
            refine w_aload_n X dX12_readExpression_76 rfl rfl ?_
            refine g12_at X dX12_readExpression_77 ?_
            try simp only [gI_sI, gI_sL, gL_sI, gL_sL, false_and, and_false, and_self, if_false, if_true, reduceIte, Nat.reduceEqDiff, h3, h5q]
            refine w_icmp_eq (tgt := 87) X dX12_readExpression_80 (by decide) (fun h80 => absurd h80 hbq) (fun h80 => ?_)
            refine w_iconst (v := 1) X dX12_readExpression_83 (by decide) ?_
            refine w_goto (tgt := 88) X dX12_readExpression_84 (by decide) ?_
            refine w_istore_n X dX12_readExpression_88 rfl (by decide) ?_
            refine w_aload_n X dX12_readExpression_89 rfl rfl ?_
            refine g12_at X dX12_readExpression_90 ?_
            try simp only [gI_sI, gI_sL, gL_sI, gL_sL, false_and, and_false, and_self, if_false, if_true, reduceIte, Nat.reduceEqDiff, h3, h5q]
            refine w_istore_n X dX12_readExpression_93 rfl (by decide) ?_
            refine j94 _ _ ?_ rfl
            rw [ef]
            rfl
      | some e =>
        have hs1 := s1_si (f := bf_ M n) (k := q) (nd := nd) (op := op) (W := W) (e := e)
        simp only [lo_] at hr
        refine w_aload_n X dX12_readExpression_29 rfl rfl ?_
        refine g12_fault X dX12_readExpression_30 ?_
        try simp only [gI_sI, gI_sL, gL_sI, gL_sL, false_and, and_false, and_self, if_false, if_true, reduceIte, Nat.reduceEqDiff, h3, h5q]
        refine w_if_ne (tgt := 119) X dX12_readExpression_33 (by decide) (fun h33 => absurd rfl h33) (fun h33 => ?_)
        refine w_iload_n X dX12_readExpression_36 rfl rfl ?_
        refine w_if_ne (tgt := 47) X dX12_readExpression_37 (by decide) (fun h37 => absurd h37 (by decide)) (fun h37 => ?_)
        refine w_aload_n X dX12_readExpression_40 rfl rfl ?_
        refine w_v0fI X dX12_readExpression_41 k12_ended rfl rfl (c12_ended G hG _ _ n q hz h5q (by omega)) (Nat.le_of_ble_eq_true rfl) ?_
        rw [eb, e14]
        refine w_if_ne (tgt := 119) X dX12_readExpression_44 (by decide) (fun h44 => ?_) (fun h44 => ?_)
        · have e44 : bf_ M n q < 0 ∨ (¬ M.1 0 14 = 0 ∧ bf_ M n q ≤ 32) := Decidable.by_contra (fun z => h44 (if_neg z))
          rw [if_pos e44] at hr
          exact j119 N (q, W, some e, nd, op) _ _ _ hpf hN h3 hq ⟨e, rfl⟩ hr
        · have e44 : ¬ (bf_ M n q < 0 ∨ (¬ M.1 0 14 = 0 ∧ bf_ M n q ≤ 32)) := fun z => by rw [if_pos z] at h44; exact absurd h44 (by decide)
          rw [if_neg e44] at hr
          have hqn : q < n := bf_lt (fun z => e44 (Or.inl z))
          refine w_iload_n X dX12_readExpression_47 rfl rfl ?_
          refine w_if_eq (tgt := 111) X dX12_readExpression_48 (by decide) (fun h48 => ?_) (fun h48 => absurd (rfl) h48)
          refine w_aload_n X dX12_readExpression_111 rfl rfl ?_
          refine w_v0rI X dX12_readExpression_112 k12_readSign rfl rfl (c12_readSign G hG _ N n q nd op W e hN h3 (by omega)) (Nat.le_of_ble_eq_true rfl) (fun r112 N112 h112 => ?_)
          rw [eb] at h112
          obtain ⟨p1, p2, p3⟩ := h112
          cases hS : si_ (bf_ M n q) q W e nd op with
          | inr f =>
            obtain ⟨f, w⟩ := f
            rw [hS] at p2 hs1 hr
            refine w_istore_n X dX12_readExpression_115 rfl (by decide) ?_
            refine w_goto (tgt := 29) X dX12_readExpression_116 (by decide) ?_
            exact jf N112 f w _ _ _ ⟨pf_tr hpf p2.1, p2.2⟩ hs1 hr
          | inl S2 =>
            obtain ⟨q2, W2, u2, nd2, op2⟩ := S2
            rw [hS] at p2 p3 hs1 hr
            obtain ⟨g1, g2⟩ := hs1
            simp only at g1 g2
            have hb2 : b = -1 ∨ ∃ z : Nat, z < q2 ∧ b = nI z := hb.imp id (fun ⟨z, z1, z2⟩ => ⟨z, by omega, z2⟩)
            cases u2 with
            | none =>
              have p3 : r112 = 1 := p3
              subst p3
              refine w_istore_n X dX12_readExpression_115 rfl (by decide) ?_
              refine w_goto (tgt := 29) X dX12_readExpression_116 (by decide) ?_
              exact ih N112 q2 W2 none nd2 op2 b _ (pf_tr hpf p2.1) p2.2.1 p2.2.2 (by omega) (by omega) (fun _ => g2 (Or.inr rfl)) hb2 hr
            | some e2 =>
              have p3 : r112 = 0 := p3
              subst p3
              refine w_istore_n X dX12_readExpression_115 rfl (by decide) ?_
              refine w_goto (tgt := 29) X dX12_readExpression_116 (by decide) ?_
              exact ih N112 q2 W2 (some e2) nd2 op2 b _ (pf_tr hpf p2.1) p2.2.1 p2.2.2 (by omega) (by omega) (fun z => by cases z) hb2 hr
  have hp0 : pr_ (sI_ (sI_ (sI_ (sI_ (sI_ M 0 12 0) 0 13 0) 0 20 0) 0 22 0) 0 23 0) n k [] none 0 0 := by
    refine ⟨tz_sI (tz_sI (tz_sI (tz_sI (tz_sI ht (by omega)) (by omega)) (by omega)) (by omega)) (by omega), by simp [sI_, h5], ⟨by simp [sI_, cs_, cu_]; rfl, fun i x hi => by simp [cs_, cu_] at hi⟩, by simp [sI_]; rfl, trivial, ⟨by simp [sI_, os_, co_]; rfl, fun i x hi => by simp [os_, co_] at hi⟩, by simp [sI_]; rfl, by simp [sI_]; rfl, rfl, by omega, rfl, by omega, trivial⟩
  refine w_aload_n X dX12_readExpression_0 rfl rfl ?_
  refine w_iconst (v := 0) X dX12_readExpression_1 (by decide) ?_
  refine p12_length X dX12_readExpression_2 ?_
  refine w_aload_n X dX12_readExpression_5 rfl rfl ?_
  refine w_iconst (v := 0) X dX12_readExpression_6 (by decide) ?_
  refine p12_nodes X dX12_readExpression_7 ?_
  refine w_aload_n X dX12_readExpression_10 rfl rfl ?_
  refine w_iconst (v := 0) X dX12_readExpression_11 (by decide) ?_
  refine p12_waiting X dX12_readExpression_12 ?_
  refine w_aload_n X dX12_readExpression_15 rfl rfl ?_
  refine w_iconst (v := 0) X dX12_readExpression_16 (by decide) ?_
  refine p12_operandCount X dX12_readExpression_17 ?_
  refine w_aload_n X dX12_readExpression_20 rfl rfl ?_
  refine w_iconst (v := 0) X dX12_readExpression_21 (by decide) ?_
  refine p12_opened X dX12_readExpression_22 ?_
  refine w_iconst (v := 1) X dX12_readExpression_25 (by decide) ?_
  refine w_istore_n X dX12_readExpression_26 rfl (by decide) ?_
  refine w_iconst (v := -1) X dX12_readExpression_27 (by decide) ?_
  refine w_istore_n X dX12_readExpression_28 rfl (by decide) ?_
  exact lp (n + 1 - k) _ k [] none 0 0 (-1) _ (pf_sI (pf_sI (pf_sI (pf_sI (pf_sI (pf_rf M) (by first | omega | exact at5_ (by omega))) (by first | omega | exact at5_ (by omega))) (by first | omega | exact at5_ (by omega))) (by first | omega | exact at5_ (by omega))) (by first | omega | exact at5_ (by omega))) hp0 (by simp [sI_, hf]) hk (Nat.le_refl _) (fun _ => trivial) (Or.inl rfl) hR.symm
