theorem pX_cst {S : CS} {tl : pc_W} {P : PT} : pX (cst S ++ tl) (.ref 16) (p_sz P) (p_to P) (p_pl P) (p_nx P) (p_nu P) (p_op P) (p_cz P) (p_fa P) (p_co P) = cst (u_P S P) ++ tl := by
  unfold pX cst
  simp only [List.cons_append, List.set_cons_succ, List.set_cons_zero]
theorem pX_id {S : CS} {tl : pc_W} : cst S ++ tl = pX (cst S ++ tl) (.ref 16) (p_sz (s_P S)) (p_to (s_P S)) (p_pl (s_P S)) (p_nx (s_P S)) (p_nu (s_P S)) (p_op (s_P S)) (p_cz (s_P S)) (p_fa (s_P S)) (p_co (s_P S)) := by
  rw [pX_cst]
/-- the parser's fields, out of the reader's state -/
def psP (n : Nat) (s : PS) : PT := (nI n, g_to s, nI (g_pl s), nI (g_nx s), g_nu s, nI (g_op s), nI (g_cz s), g_fa s, g_co s)
def texR (S : CS) (tl : pc_W) (m n pl : Nat) : Option Value → pc_W → Prop := fun v w' => (6 ≤ m ∧ v = some (.int (-4)) ∧ w' = cst S ++ tl) ∨ (m < 6 ∧ ∃ (e : Nat → Int32) (s' : PS), s' = prs (s_tp S) n (s00 (p_to (s_P S)) (p_nu (s_P S)) pl (p_co (s_P S))) ∧ e = enF (g_cz (ps1 (s_tp S) n (s00 (p_to (s_P S)) (p_nu (s_P S)) pl (p_co (s_P S))))) (g_cz (ps2 (s_tp S) n (s00 (p_to (s_P S)) (p_nu (s_P S)) pl (p_co (s_P S))))) (g_cz (ps3 (s_tp S) n (s00 (p_to (s_P S)) (p_nu (s_P S)) pl (p_co (s_P S))))) ∧ ((g_fa s' = -1 ∧ v = some (.int (nI m)) ∧ w' = cst (u_mz (u_mt (u_tn (u_P S (psP n s')) 0) (va_up (s_mt S) m (some ((cst S ++ tl).length + 1)))) (nI (m + 1))) ++ (tl ++ [.inl (0, (4, .inl e)), .inr (6, [.ref ((cst S ++ tl).length + 2), .ref (cst S ++ tl).length]), .inl (0, (g_cz s', .inl (va_cpy (g_co s') (fun _ => 0) 0 0 (g_cz s'))))])) ∨ (¬ g_fa s' = -1 ∧ v = some (.int (-100 - g_fa s')) ∧ w' = cst (u_tn (u_P S (psP n s')) 0) ++ (tl ++ [.inl (0, (4, .inl e))]))))
set_option maxRecDepth 100000 in
theorem c_X9_text {X : Nat × (Nat → Int32)} {S : CS} {tl : pc_W} {m n pl : Nat} (hmz : s_mz S = nI m) (hm6 : m ≤ 6) (htn : s_tn S = nI n) (hn : n ≤ 160) (hpl : p_pl (s_P S) = nI pl) : Mt X 45 3 166 yX9_text cX9_text 2 (some .int) [.ref 0] (cst S ++ tl) (texR S tl m n pl) := by
  refine Mt.of (by decide +kernel) (fun _ _ => Nat.le_of_ble_eq_true rfl) ?_
  show Ex X mX9_text _ _ _ _ _ _ _ _
  refine Ex.more (cb := 0 + 3) (sb := 0 + 166) (by omega) (by omega) ?_
  refine x_aload_n dX9_text_0 rfl ?_
  refine gf_X9_36 dX9_text_1 rfl rfl ?_
  refine gf_X9_158 dX9_text_4 rfl rfl ?_
  refine x_bipush 6 dX9_text_7 ?_
  refine x_icmp_lt 15 dX9_text_9 (fun h => ?_) (fun h => ?_)
  · have hm : m < 6 := Nat.not_le.mp (fun y => nI_nlt (a := m) (b := 6) y (by omega) (by rw [← hmz]; exact h))
    refine x_aload_n dX9_text_15 rfl ?_
    refine gf_X9_29 dX9_text_16 rfl rfl ?_
    refine x_aload_n dX9_text_19 rfl ?_
    refine gf_X9_26 dX9_text_20 rfl rfl ?_
    refine x_aload_n dX9_text_23 rfl ?_
    refine gf_X9_30 (v := .int (s_tn S)) dX9_text_24 rfl rfl ?_
    rw [htn]
    refine Ex.eqW (w' := pX (cst S ++ tl) (.ref 16) (p_sz (s_P S)) (p_to (s_P S)) (nI pl) (p_nx (s_P S)) (p_nu (s_P S)) (p_op (s_P S)) (p_cz (s_P S)) (p_fa (s_P S)) (p_co (s_P S))) (by rw [← hpl]; exact pX_id) ?_
    have hw : 18 < (cst S ++ tl).length := by rw [List.length_append, cst_len]; omega
    refine ia_X9_161 dX9_text_27 (c_X4_parse (rt := 16) (m := 160) (tb := s_tp S) hw rfl (by decide) (by decide) (by decide) hn hn) (pX_p hw) (by decide) (Nat.le_of_ble_eq_true rfl) (fun v w' h _ => ?_)
    obtain ⟨e, he, h⟩ := h
    obtain ⟨s', hs'⟩ : ∃ s', s' = prs (s_tp S) n (s00 (p_to (s_P S)) (p_nu (s_P S)) pl (p_co (s_P S))) := ⟨_, rfl⟩
    rw [← hs'] at h
    have hL : (cst S ++ tl).length = 42 + tl.length := by rw [List.length_append, cst_len]
    rcases h with ⟨h1, rfl, rfl⟩ | ⟨h1, rfl, rfl⟩
    · refine Ex.eqW (w' := cst (u_P S (psP n s')) ++ (tl ++ [.inl (0, (4, .inl e)), .inr (6, [.ref ((cst S ++ tl).length + 2), .ref (cst S ++ tl).length]), .inl (0, (g_cz s', .inl (va_cpy (g_co s') (fun _ => 0) 0 0 (g_cz s'))))])) (by rw [List.append_assoc]; exact pX_cst (P := psP n s')) ?_
      refine x_astore_n dX9_text_30 (by decide) ?_
      refine x_aload_n dX9_text_31 rfl ?_
      refine x_iconst 0 dX9_text_32 ?_
      refine pf_X9_30 dX9_text_33 rfl (Nat.le_of_ble_eq_true rfl) (fun _ _ => ⟨rfl, rfl⟩) ?_
      refine Ex.eqW (w' := cst (u_tn (u_P S (psP n s')) 0) ++ (tl ++ [.inl (0, (4, .inl e)), .inr (6, [.ref ((cst S ++ tl).length + 2), .ref (cst S ++ tl).length]), .inl (0, (g_cz s', .inl (va_cpy (g_co s') (fun _ => 0) 0 0 (g_cz s'))))])) rfl ?_
      refine x_aload_n dX9_text_36 rfl ?_
      refine x_ifnonnull 53 dX9_text_37 ?_
      refine x_aload_n dX9_text_53 rfl ?_
      refine gf_X9_36 dX9_text_54 rfl rfl ?_
      refine x_aload_n dX9_text_57 rfl ?_
      refine ii_X9_169 dX9_text_58 (c_X2_add (S := (u_tn (u_P S (psP n s')) 0)) (m := m) (vs := [.ref ((cst S ++ tl).length + 2), .ref (cst S ++ tl).length]) hm hmz (by rw [cst_tl (by omega), List.getElem?_append_right (by omega), show (cst S ++ tl).length + 1 - 42 - tl.length = 1 by omega]; rfl)) rfl (by decide) (Nat.le_of_ble_eq_true rfl) ?_
      exact Ex.ret (v := some (.int _)) ⟨dX9_text_61, _, rfl, rfl⟩ (Or.inr ⟨hm, e, s', hs', he, Or.inl ⟨h1, rfl, rfl⟩⟩)
    · refine Ex.eqW (w' := cst (u_P S (psP n s')) ++ (tl ++ [.inl (0, (4, .inl e))])) (by rw [List.append_assoc]; exact pX_cst (P := psP n s')) ?_
      refine x_astore_nN dX9_text_30 (by decide) ?_
      refine x_aload_n dX9_text_31 rfl ?_
      refine x_iconst 0 dX9_text_32 ?_
      refine pf_X9_30 dX9_text_33 rfl (Nat.le_of_ble_eq_true rfl) (fun _ _ => ⟨rfl, rfl⟩) ?_
      refine Ex.eqW (w' := cst (u_tn (u_P S (psP n s')) 0) ++ (tl ++ [.inl (0, (4, .inl e))])) rfl ?_
      refine x_aload_nN dX9_text_36 rfl ?_
      refine x_ifnonnullN dX9_text_37 ?_
      refine x_bipush (-100) dX9_text_40 ?_
      refine x_aload_n dX9_text_42 rfl ?_
      refine gf_X9_29 dX9_text_43 rfl rfl ?_
      refine gf_X9_166 (v := .int (g_fa s')) dX9_text_46 rfl rfl ?_
      refine x_isub dX9_text_49 ?_
      refine x_goto 61 dX9_text_50 ?_
      exact Ex.ret (v := some (.int _)) ⟨dX9_text_61, _, rfl, rfl⟩ (Or.inr ⟨hm, e, s', hs', he, Or.inr ⟨h1, rfl, rfl⟩⟩)
  · have hm : 6 ≤ m := Nat.not_lt.mp (fun y => h (by rw [hmz]; exact nI_lt (b := 6) y (by decide)))
    refine x_bipush (-4) dX9_text_12 ?_
    exact Ex.ret (v := some (.int _)) ⟨dX9_text_14, _, rfl, rfl⟩ (Or.inl ⟨hm, rfl, rfl⟩)
