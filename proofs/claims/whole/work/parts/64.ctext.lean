theorem pX_cst {S : CS} {tl : pc_W} {P : PT} {n : Int32} : pX (cst S ++ tl) (.ref 17) n (p_to P) (p_pl P) (p_nx P) (p_nu P) (p_op P) (p_cz P) (p_fa P) (p_co P) = cst (u_tn (u_P S P) n) ++ tl := by
  unfold pX cst
  simp only [List.cons_append, List.set_cons_succ, List.set_cons_zero]
theorem pX_id {S : CS} {tl : pc_W} : cst S ++ tl = pX (cst S ++ tl) (.ref 17) (s_tn S) (p_to (s_P S)) (p_pl (s_P S)) (p_nx (s_P S)) (p_nu (s_P S)) (p_op (s_P S)) (p_cz (s_P S)) (p_fa (s_P S)) (p_co (s_P S)) := by
  rw [pX_cst]
/-! feed: the tape is the parser's -/
set_option maxRecDepth 100000 in
theorem c_X4_take {X : Nat × (Nat → Int32)} {w : pc_W} {b : Nat} {tb co : Nat → Int32} {x to pl nx nu op cz fa : Int32} (hw : 18 < w.length) (hT : w[17]? = some (.inl (0, (160, .inl tb)))) (hb : b ≤ 160) : Mt X 0 0 0 yX4_take cX4_take 2 (some .int) [.ref 16, .int x] (pX w (.ref 17) (nI b) to pl nx nu op cz fa co) (RI (if b < 160 then nI (b + 1) else -4) (if b < 160 then pX (w.set 17 (.inl (0, (160, .inl (upd tb b x))))) (.ref 17) (nI (b + 1)) to pl nx nu op cz fa co else pX w (.ref 17) (nI b) to pl nx nu op cz fa co)) := by
  refine Mt.of (by decide +kernel) (fun _ _ => Nat.le_of_ble_eq_true rfl) ?_
  show Ex X mX4_take _ _ _ _ _ _ _ _
  refine x_aload_n dX4_take_0 rfl ?_
  refine gP_15 hw dX4_take_1 ?_
  refine x_aload_n dX4_take_4 rfl ?_
  refine gP_9 hw dX4_take_5 ?_
  refine x_alenI (t := 0) 160 dX4_take_8 ((pX_o (by decide) (by decide)).trans hT) ?_
  by_cases hb1 : b < 160
  · rw [if_pos hb1, if_pos hb1]
    refine x_icmp_lt 15 dX4_take_9 (fun _ => ?_) (fun hx => absurd (nI_lt (b := 160) hb1 (by decide)) hx)
    refine x_aload_n dX4_take_15 rfl ?_
    refine gP_9 hw dX4_take_16 ?_
    refine x_aload_n dX4_take_19 rfl ?_
    refine gP_15 hw dX4_take_20 ?_
    refine x_iload_n dX4_take_23 rfl ?_
    refine x_iastoreN (f := tb) (n := 160) dX4_take_24 ((pX_o (by decide) (by decide)).trans hT) hb1 (by decide) ?_
    rw [pX_so (by decide) (by decide)]
    have hw2 : 18 < (w.set 17 (.inl (0, (160, .inl (upd tb b x))))).length := by rw [List.length_set]; exact hw
    refine x_aload_n dX4_take_25 rfl ?_
    refine x_dup dX4_take_26 ?_
    refine gP_15 hw2 dX4_take_27 ?_
    refine x_iconst 1 dX4_take_30 ?_
    refine x_iadd dX4_take_31 ?_
    rw [← nI_succ]
    refine pP_15 hw2 dX4_take_32 ?_
    refine x_aload_n dX4_take_35 rfl ?_
    refine gP_15 hw2 dX4_take_36 ?_
    exact Ex.ret (v := some (.int _)) ⟨dX4_take_39, _, rfl, rfl⟩ ⟨rfl, rfl⟩
  · rw [if_neg hb1, if_neg hb1]
    refine x_icmp_lt 15 dX4_take_9 (fun hx => absurd hx (nI_nlt (b := 160) (Nat.not_lt.mp hb1) (by omega))) (fun _ => ?_)
    refine x_bipush (-4) dX4_take_12 ?_
    exact Ex.ret (v := some (.int _)) ⟨dX4_take_14, _, rfl, rfl⟩ ⟨rfl, rfl⟩
set_option maxRecDepth 100000 in
theorem c_X9_feed_w {X : Nat × (Nat → Int32)} {w : pc_W} {b : Nat} {tb co : Nat → Int32} {x to pl nx nu op cz fa : Int32} {fs : List Value} (hw : 18 < w.length) (hT : w[17]? = some (.inl (0, (160, .inl tb)))) (hb : b ≤ 160) (h0 : w[0]? = some (.inr (7, fs))) (h4 : fs[4]? = some (.ref 16)) : Mt X 1 0 0 yX9_feed cX9_feed 2 (some .int) [.ref 0, .int x] (pX w (.ref 17) (nI b) to pl nx nu op cz fa co) (RI (feF b x) (if feC x ∧ b < 160 then pX (w.set 17 (.inl (0, (160, .inl (upd tb b x))))) (.ref 17) (nI (b + 1)) to pl nx nu op cz fa co else pX w (.ref 17) (nI b) to pl nx nu op cz fa co)) := by
  refine Mt.of (by decide +kernel) (fun _ _ => Nat.le_of_ble_eq_true rfl) ?_
  show Ex X mX9_feed _ _ _ _ _ _ _ _
  refine x_iload_n dX9_feed_0 rfl ?_
  refine x_if_lt 11 dX9_feed_1 (fun h_1 => ?_) (fun h_1 => ?_)
  · have hn : ¬ feC x := fun q => absurd q.1 (Int32.not_le.mpr h_1)
    refine x_bipush (-2) dX9_feed_11 ?_
    exact Ex.ret (v := some (.int _)) ⟨dX9_feed_13, _, rfl, rfl⟩ ⟨congrArg (fun z => some (Value.int z)) (show (-2 : Int32) = feF b x from by rw [feF, if_neg hn]), by rw [if_neg (fun q => hn q.1)]⟩
  · refine x_iload_n dX9_feed_4 rfl ?_
    refine x_sipush 255 dX9_feed_5 ?_
    refine x_icmp_le 14 dX9_feed_8 (fun h_8 => ?_) (fun h_8 => ?_)
    · have hc : feC x := ⟨Int32.not_lt.mp h_1, h_8⟩
      refine x_aload_n dX9_feed_14 rfl ?_
      refine gf_X9_29 dX9_feed_15 ((pX_o (by decide) (by decide)).trans h0) h4 ?_
      refine x_iload_n dX9_feed_18 rfl ?_
      refine ii_X9_155 dX9_feed_19 (c_X4_take hw hT hb) (pX_p hw) (by decide) (Nat.le_of_ble_eq_true rfl) ?_
      rcases Nat.lt_or_ge b 160 with hb1 | hb1
      · rw [if_pos hb1, if_pos hb1]
        exact Ex.ret (v := some (.int _)) ⟨dX9_feed_22, _, rfl, rfl⟩ ⟨congrArg (fun z => some (Value.int z)) (show nI (b + 1) = feF b x from by rw [feF, if_pos hc, if_pos hb1]), by rw [if_pos ⟨hc, hb1⟩]⟩
      · have hb2 : ¬ b < 160 := Nat.not_lt.mpr hb1
        rw [if_neg hb2, if_neg hb2]
        exact Ex.ret (v := some (.int _)) ⟨dX9_feed_22, _, rfl, rfl⟩ ⟨congrArg (fun z => some (Value.int z)) (show (-4 : Int32) = feF b x from by rw [feF, if_pos hc, if_neg hb2]), by rw [if_neg (fun q => hb2 q.2)]⟩
    · have hn : ¬ feC x := fun q => h_8 q.2
      refine x_bipush (-2) dX9_feed_11 ?_
      exact Ex.ret (v := some (.int _)) ⟨dX9_feed_13, _, rfl, rfl⟩ ⟨congrArg (fun z => some (Value.int z)) (show (-2 : Int32) = feF b x from by rw [feF, if_neg hn]), by rw [if_neg (fun q => hn q.1)]⟩
set_option maxRecDepth 100000 in
theorem c_X9_feed {X : Nat × (Nat → Int32)} {S : CS} {tl : pc_W} {b : Nat} {x : Int32} (hb0 : s_tn S = nI b) (hb6 : b ≤ 160) : Mt X 1 0 0 yX9_feed cX9_feed 2 (some .int) [.ref 0, .int x] (cst S ++ tl) (RI (feF b x) (cst (feS S b x) ++ tl)) := by
  have hw : 18 < (cst S ++ tl).length := by rw [List.length_append, cst_len]; omega
  have h := c_X9_feed_w (X := X) (w := cst S ++ tl) (b := b) (tb := s_tp S) (x := x) (to := p_to (s_P S)) (pl := p_pl (s_P S)) (nx := p_nx (s_P S)) (nu := p_nu (s_P S)) (op := p_op (s_P S)) (cz := p_cz (s_P S)) (fa := p_fa (s_P S)) (co := p_co (s_P S)) hw rfl hb6 rfl rfl
  have e0 : pX (cst S ++ tl) (.ref 17) (nI b) (p_to (s_P S)) (p_pl (s_P S)) (p_nx (s_P S)) (p_nu (s_P S)) (p_op (s_P S)) (p_cz (s_P S)) (p_fa (s_P S)) (p_co (s_P S)) = cst S ++ tl := by rw [← hb0]; exact pX_id.symm
  have e1 : pX ((cst S ++ tl).set 17 (.inl (0, (160, .inl (upd (s_tp S) b x))))) (.ref 17) (nI (b + 1)) (p_to (s_P S)) (p_pl (s_P S)) (p_nx (s_P S)) (p_nu (s_P S)) (p_op (s_P S)) (p_cz (s_P S)) (p_fa (s_P S)) (p_co (s_P S)) = cst (u_tn (u_tp S (upd (s_tp S) b x)) (nI (b + 1))) ++ tl := by
    have e : (cst S ++ tl).set 17 (.inl (0, (160, .inl (upd (s_tp S) b x)))) = cst (u_tp S (upd (s_tp S) b x)) ++ tl := by
      unfold cst
      simp only [List.cons_append, List.set_cons_succ, List.set_cons_zero]
    rw [e]
    exact pX_cst (S := u_tp S (upd (s_tp S) b x)) (P := s_P S)
  rw [e0, e1] at h
  have e2 : (if feC x ∧ b < 160 then cst (u_tn (u_tp S (upd (s_tp S) b x)) (nI (b + 1))) ++ tl else cst S ++ tl) = cst (feS S b x) ++ tl := by
    by_cases hc : feC x ∧ b < 160
    · rw [if_pos hc, feS, if_pos hc]
    · rw [if_neg hc, feS, if_neg hc]
  rw [e2] at h
  exact h
/-- the parser's fields, out of the reader's state -/
def psP (n : Nat) (s : PS) : PT := (nI n, g_to s, nI (g_pl s), nI (g_nx s), g_nu s, nI (g_op s), nI (g_cz s), g_fa s, g_co s)
def texR (S : CS) (tl : pc_W) (m n pl : Nat) : Option Value → pc_W → Prop := fun v w' => (6 ≤ m ∧ v = some (.int (-4)) ∧ w' = cst S ++ tl) ∨ (m < 6 ∧ ∃ (e : Nat → Int32) (s' : PS), s' = prs (s_tp S) n (s00 (p_to (s_P S)) (p_nu (s_P S)) pl (p_co (s_P S))) ∧ e = enF (g_cz (ps1 (s_tp S) n (s00 (p_to (s_P S)) (p_nu (s_P S)) pl (p_co (s_P S))))) (g_cz (ps2 (s_tp S) n (s00 (p_to (s_P S)) (p_nu (s_P S)) pl (p_co (s_P S))))) (g_cz (ps3 (s_tp S) n (s00 (p_to (s_P S)) (p_nu (s_P S)) pl (p_co (s_P S))))) ∧ ((g_fa s' = -1 ∧ v = some (.int (nI m)) ∧ w' = cst (u_mz (u_mt (u_tn (u_P S (psP n s')) 0) (va_up (s_mt S) m (some ((cst S ++ tl).length + 1)))) (nI (m + 1))) ++ (tl ++ [.inl (0, (4, .inl e)), .inr (6, [.ref ((cst S ++ tl).length + 2), .ref (cst S ++ tl).length]), .inl (0, (g_cz s', .inl (va_cpy (g_co s') (fun _ => 0) 0 0 (g_cz s'))))])) ∨ (¬ g_fa s' = -1 ∧ v = some (.int (-100 - g_fa s')) ∧ w' = cst (u_tn (u_P S (psP n s')) 0) ++ (tl ++ [.inl (0, (4, .inl e))]))))
set_option maxRecDepth 100000 in
theorem c_X9_text {X : Nat × (Nat → Int32)} {S : CS} {tl : pc_W} {m n pl : Nat} (hmz : s_mz S = nI m) (hm6 : m ≤ 6) (htn : s_tn S = nI n) (hn : n ≤ 160) (hpl : p_pl (s_P S) = nI pl) : Mt X 45 3 166 yX9_text cX9_text 2 (some .int) [.ref 0] (cst S ++ tl) (texR S tl m n pl) := by
  refine Mt.of (by decide +kernel) (fun _ _ => Nat.le_of_ble_eq_true rfl) ?_
  show Ex X mX9_text _ _ _ _ _ _ _ _
  refine Ex.more (cb := 0 + 3) (sb := 0 + 166) (by omega) (by omega) ?_
  refine x_aload_n dX9_text_0 rfl ?_
  refine gf_X9_36 dX9_text_1 rfl rfl ?_
  refine gf_X9_158 dX9_text_4 rfl rfl ?_
  refine x_bipush 6 dX9_text_7 ?_
  refine x_icmp_lt 15 dX9_text_9 (fun h => ?_) (fun h => ?_)
  · have hm : m < 6 := Nat.not_le.mp (fun y => nI_nlt (a := m) (b := 6) y (by omega) (by rw [← hmz]; exact h))
    refine x_aload_n dX9_text_15 rfl ?_
    refine gf_X9_29 dX9_text_16 rfl rfl ?_
    refine Ex.eqW (w' := pX (cst S ++ tl) (.ref 17) (nI n) (p_to (s_P S)) (nI pl) (p_nx (s_P S)) (p_nu (s_P S)) (p_op (s_P S)) (p_cz (s_P S)) (p_fa (s_P S)) (p_co (s_P S))) (by rw [← hpl, ← htn]; exact pX_id) ?_
    have hw : 18 < (cst S ++ tl).length := by rw [List.length_append, cst_len]; omega
    refine ia_X9_161 dX9_text_19 (c_X4_parse (rt := 17) (m := 160) (tb := s_tp S) hw rfl (by decide) (by decide) (by decide) hn hn) (pX_p hw) (by decide) (Nat.le_of_ble_eq_true rfl) (fun v w' h _ => ?_)
    obtain ⟨e, he, h⟩ := h
    obtain ⟨s', hs'⟩ : ∃ s', s' = prs (s_tp S) n (s00 (p_to (s_P S)) (p_nu (s_P S)) pl (p_co (s_P S))) := ⟨_, rfl⟩
    rw [← hs'] at h
    have hL : (cst S ++ tl).length = 42 + tl.length := by rw [List.length_append, cst_len]
    rcases h with ⟨h1, rfl, rfl⟩ | ⟨h1, rfl, rfl⟩
    · refine Ex.eqW (w' := cst (u_tn (u_P S (psP n s')) (nI n)) ++ (tl ++ [.inl (0, (4, .inl e)), .inr (6, [.ref ((cst S ++ tl).length + 2), .ref (cst S ++ tl).length]), .inl (0, (g_cz s', .inl (va_cpy (g_co s') (fun _ => 0) 0 0 (g_cz s'))))])) (by rw [List.append_assoc]; exact pX_cst (P := psP n s')) ?_
      refine x_astore_n dX9_text_22 (by decide) ?_
      refine x_aload_n dX9_text_23 rfl ?_
      refine gf_X9_29 dX9_text_24 rfl rfl ?_
      refine x_iconst 0 dX9_text_27 ?_
      refine pf_X9_165 dX9_text_28 rfl (Nat.le_of_ble_eq_true rfl) (fun _ _ => ⟨rfl, rfl⟩) ?_
      refine Ex.eqW (w' := cst (u_tn (u_P S (psP n s')) 0) ++ (tl ++ [.inl (0, (4, .inl e)), .inr (6, [.ref ((cst S ++ tl).length + 2), .ref (cst S ++ tl).length]), .inl (0, (g_cz s', .inl (va_cpy (g_co s') (fun _ => 0) 0 0 (g_cz s'))))])) rfl ?_
      refine x_aload_n dX9_text_31 rfl ?_
      refine x_ifnonnull 48 dX9_text_32 ?_
      refine x_aload_n dX9_text_48 rfl ?_
      refine gf_X9_36 dX9_text_49 rfl rfl ?_
      refine x_aload_n dX9_text_52 rfl ?_
      refine ii_X9_169 dX9_text_53 (c_X2_add (S := (u_tn (u_P S (psP n s')) 0)) (m := m) (vs := [.ref ((cst S ++ tl).length + 2), .ref (cst S ++ tl).length]) hm hmz (by rw [cst_tl (by omega), List.getElem?_append_right (by omega), show (cst S ++ tl).length + 1 - 42 - tl.length = 1 by omega]; rfl)) rfl (by decide) (Nat.le_of_ble_eq_true rfl) ?_
      exact Ex.ret (v := some (.int _)) ⟨dX9_text_56, _, rfl, rfl⟩ (Or.inr ⟨hm, e, s', hs', he, Or.inl ⟨h1, rfl, rfl⟩⟩)
    · refine Ex.eqW (w' := cst (u_tn (u_P S (psP n s')) (nI n)) ++ (tl ++ [.inl (0, (4, .inl e))])) (by rw [List.append_assoc]; exact pX_cst (P := psP n s')) ?_
      refine x_astore_nN dX9_text_22 (by decide) ?_
      refine x_aload_n dX9_text_23 rfl ?_
      refine gf_X9_29 dX9_text_24 rfl rfl ?_
      refine x_iconst 0 dX9_text_27 ?_
      refine pf_X9_165 dX9_text_28 rfl (Nat.le_of_ble_eq_true rfl) (fun _ _ => ⟨rfl, rfl⟩) ?_
      refine Ex.eqW (w' := cst (u_tn (u_P S (psP n s')) 0) ++ (tl ++ [.inl (0, (4, .inl e))])) rfl ?_
      refine x_aload_nN dX9_text_31 rfl ?_
      refine x_ifnonnullN dX9_text_32 ?_
      refine x_bipush (-100) dX9_text_35 ?_
      refine x_aload_n dX9_text_37 rfl ?_
      refine gf_X9_29 dX9_text_38 rfl rfl ?_
      refine gf_X9_166 (v := .int (g_fa s')) dX9_text_41 rfl rfl ?_
      refine x_isub dX9_text_44 ?_
      refine x_goto 56 dX9_text_45 ?_
      exact Ex.ret (v := some (.int _)) ⟨dX9_text_56, _, rfl, rfl⟩ (Or.inr ⟨hm, e, s', hs', he, Or.inr ⟨h1, rfl, rfl⟩⟩)
  · have hm : 6 ≤ m := Nat.not_lt.mp (fun y => h (by rw [hmz]; exact nI_lt (b := 6) y (by decide)))
    refine x_bipush (-4) dX9_text_12 ?_
    exact Ex.ret (v := some (.int _)) ⟨dX9_text_14, _, rfl, rfl⟩ (Or.inl ⟨hm, rfl, rfl⟩)
