set_option maxRecDepth 100000 in
theorem parse_end {X : Nat × (Nat → Int32)} {w : pc_W} {rt m n : Nat} {tb e : Nat → Int32} {s' s0 : PS} {x : Option Value} (hw : 18 < w.length) (hs' : s' = prs tb n s0) (hcz : g_cz s' ≤ 160) (he : e = enF (g_cz (ps1 tb n s0)) (g_cz (ps2 tb n s0)) (g_cz (ps3 tb n s0))) : Ex X mX4_parse 44 (parR w rt n tb s0) 2 162 80 [some (.ref 16), some (.ref w.length), x] [] (pS (w ++ [.inl (0, (4, .inl e))]) rt n s') := by
  have hw1 : 18 < (w ++ [(.inl (0, (4, .inl e)) : pc_E)]).length := by rw [List.length_append]; omega
  have hw2 : 18 < (w ++ [(.inl (0, (4, .inl e)) : pc_E), .inr (6, [.null, .null])]).length := by rw [List.length_append]; omega
  refine x_aload_n dX4_parse_80 rfl ?_
  refine gP_42 hw1 dX4_parse_81 ?_
  refine x_iconst (-1) dX4_parse_84 ?_
  refine x_icmp_ne 107 dX4_parse_85 (fun h => ?_) (fun h => ?_)
  · refine x_aconst_null dX4_parse_107 ?_
    exact Ex.ret (v := some .null) ⟨dX4_parse_108, _, rfl, Or.inl ⟨_, rfl⟩⟩ ⟨e, he, Or.inr ⟨by rw [← hs']; exact h, rfl, by rw [← hs']⟩⟩
  · refine Ex.more (cb := 1 + 1) (sb := 160 + 2) (by omega) (by omega) ?_
    refine x_new (ci := 6) (C := RX7) (T := TX7) (N := 2) (ty0 := tyX7) [.null, .null] dX4_parse_88 (gw_lays inX7) tyX7_ok rfl kl_X4_45 kz_X7 ki_X7 (by intro j hj; match j, hj with | 0, _ => rfl | 1, _ => rfl) (by intro v hv ad sa; simp only [List.mem_cons, List.not_mem_nil, or_false] at hv; rcases hv with rfl | rfl <;> rfl) (by intro v hv k; simp only [List.mem_cons, List.not_mem_nil, or_false] at hv; rcases hv with rfl | rfl <;> trivial) ?_
    rw [pX_len, show (w ++ [(.inl (0, (4, .inl e)) : pc_E)]).length = w.length + 1 from by rw [List.length_append]; rfl]
    refine Ex.eqW (w' := pS (w ++ [.inl (0, (4, .inl e)), .inr (6, [.null, .null])]) rt n s') (by rw [pX_app hw1, List.append_assoc]; rfl) ?_
    refine x_dup dX4_parse_91 ?_
    refine x_aload_n dX4_parse_92 rfl ?_
    refine gP_36 hw2 dX4_parse_93 ?_
    refine x_aload_n dX4_parse_96 rfl ?_
    refine gP_39 hw2 dX4_parse_97 ?_
    refine x_aload_n dX4_parse_100 rfl ?_
    refine Ex.more (cb := 0 + 1) (sb := 0 + g_cz s') (by omega) (by omega) ?_
    refine ia_X4_60 dX4_parse_101 (c_X7_init (co := g_co s') ((pX_o (by omega) (by omega)).trans (by rw [List.getElem?_append_right (by omega), show w.length + 1 - w.length = 1 by omega]; rfl)) (pX_c hw2) (by omega) hcz) (by decide) (Nat.le_of_ble_eq_true rfl) (fun v w' h _ => ?_)
    obtain ⟨rfl, rfl⟩ := h
    refine x_goto 108 dX4_parse_104 ?_
    rw [pX_len, show (w ++ [(.inl (0, (4, .inl e)) : pc_E), .inr (6, [.null, .null])]).length = w.length + 2 from by rw [List.length_append]; rfl]
    refine Ex.eqW (w' := pS (w ++ [.inl (0, (4, .inl e)), .inr (6, [.ref (w.length + 2), .ref w.length]), .inl (0, (g_cz s', .inl (va_cpy (g_co s') (fun _ => 0) 0 0 (g_cz s'))))]) rt n s') ?_ ?_
    · rw [pX_so (by omega) (by omega), pX_app (by rw [List.length_set]; exact hw2), List.set_append_right _ _ (by omega), show w.length + 1 - w.length = 1 by omega, List.append_assoc]
      rfl
    · exact Ex.ret (v := some (.ref _)) ⟨dX4_parse_108, _, rfl, Or.inl ⟨_, rfl⟩⟩ ⟨e, he, Or.inl ⟨by rw [← hs']; exact h, rfl, by rw [← hs']⟩⟩
set_option maxRecDepth 100000 in
theorem c_X4_parse {X : Nat × (Nat → Int32)} {w : pc_W} {rt m n pl : Nat} {tb : Nat → Int32} {to nx0 nu op0 cz0 fa0 : Int32} {co : Nat → Int32} (hw : 18 < w.length) (hT : w[rt]? = some (.inl (0, (m, .inl tb)))) (h17 : rt ≠ 16) (h18 : rt ≠ 18) (hm : m < 2 ^ 30) (hn : n ≤ m) (hn160 : n ≤ 160) : Mt X 44 3 166 yX4_parse cX4_parse 3 (some (.object "RememberedAsSunny$Text")) [.ref 16] (pX w (.ref rt) (nI n) to (nI pl) nx0 nu op0 cz0 fa0 co) (parR w rt n tb (s00 to nu pl co)) := by
  refine Mt.of (by decide +kernel) (fun _ _ => Nat.le_of_ble_eq_true rfl) ?_
  show Ex X mX4_parse _ _ _ _ _ _ _ _
  have hrt : rt < w.length := (List.getElem?_eq_some_iff.mp hT).1
  have hw1 : ∀ e : Nat → Int32, 18 < (w ++ [(.inl (0, (4, .inl e)) : pc_E)]).length := fun e => by rw [List.length_append]; omega
  have hT1 : ∀ e : Nat → Int32, (w ++ [(.inl (0, (4, .inl e)) : pc_E)])[rt]? = some (.inl (0, (m, .inl tb))) := fun e => (List.getElem?_append_left hrt).trans hT
  refine x_aload_n dX4_parse_0 rfl ?_
  refine x_iconst 0 dX4_parse_1 ?_
  refine pP_27 hw dX4_parse_2 ?_
  refine x_aload_n dX4_parse_5 rfl ?_
  refine x_iconst 0 dX4_parse_6 ?_
  refine pP_33 hw dX4_parse_7 ?_
  refine x_aload_n dX4_parse_10 rfl ?_
  refine x_iconst 0 dX4_parse_11 ?_
  refine pP_39 hw dX4_parse_12 ?_
  refine x_aload_n dX4_parse_15 rfl ?_
  refine x_iconst (-1) dX4_parse_16 ?_
  refine pP_42 hw dX4_parse_17 ?_
  refine x_iconst 4 dX4_parse_20 ?_
  refine Ex.more (cb := 2 + 1) (sb := 162 + 4) (by omega) (by omega) ?_
  refine x_newI (N := 4) dX4_parse_21 ka_int (by decide) (by decide) (by decide) ?_
  rw [pX_len]
  refine Ex.eqW (w' := pS (w ++ [.inl (0, (4, .inl (fun _ => 0)))]) rt n (s00 to nu pl co)) (pX_app hw) ?_
  refine x_astore_n dX4_parse_23 (by decide) ?_
  refine x_aload_n dX4_parse_24 rfl ?_
  refine ii_X4_47 dX4_parse_25 (c_adv (s := (s00 to nu pl co)) (hw1 _) (hT1 _) h17 h18 hm hn (Nat.zero_le _)) (pX_p (hw1 _)) (by decide) (Nat.le_of_ble_eq_true rfl) ?_
  obtain ⟨q1, -, hk1, hc1, -⟩ := adv_sh (b := tb) (s := (s00 to nu pl co)) hn160 rfl (Nat.zero_le _)
  obtain ⟨a0, ha0⟩ : ∃ a, a = adv tb n (s00 to nu pl co) := ⟨_, rfl⟩
  rw [← ha0] at q1 hk1 hc1 ⊢
  have hc1' : g_cz a0 ≤ g_pl a0 := by rw [hc1]; exact Nat.zero_le _
  have hk1' : g_op a0 = 0 := hk1
  refine x_iconst 0 dX4_parse_28 ?_
  refine x_istore_n dX4_parse_29 (by decide) ?_
  refine Ex.forget (L' := [some (.ref 16), some (.ref w.length), some (.int (nI 0))]) ⟨rfl, rfl, rfl, trivial⟩ ?_
  have b1 := prP_g4 (b := tb) (i := 0) hn160 q1 hc1' hk1' (by decide)
  refine parse_body (i := 0) hw hT h17 h18 hm hn hn160 q1 hc1' hk1' (by decide) ?_
  rw [← b1.2.2.2]
  obtain ⟨a1, ha1⟩ : ∃ a, a = prP tb n (nI (206 + 0)) a0 := ⟨_, rfl⟩
  rw [← ha1] at b1 ⊢
  have g1 := b1.2.2.1
  have hc2 : g_cz a1 ≤ g_pl a1 := by have := g1.cz hc1'; omega
  have hk2 : g_op a1 = 0 := g1.2.1.trans hk1'
  have b2 := prP_g4 (b := tb) (i := 1) hn160 g1.1 hc2 hk2 (by decide)
  refine parse_body (i := 1) hw hT h17 h18 hm hn hn160 g1.1 hc2 hk2 (by decide) ?_
  rw [← b2.2.2.2]
  obtain ⟨a2, ha2⟩ : ∃ a, a = prP tb n (nI (206 + 1)) a1 := ⟨_, rfl⟩
  rw [← ha2] at b2 ⊢
  have g2 := b2.2.2.1
  have hc3 : g_cz a2 ≤ g_pl a2 := by have := g2.cz hc2; omega
  have hk3 : g_op a2 = 0 := g2.2.1.trans hk2
  have b3 := prP_g4 (b := tb) (i := 2) hn160 g2.1 hc3 hk3 (by decide)
  refine parse_body (i := 2) hw hT h17 h18 hm hn hn160 g2.1 hc3 hk3 (by decide) ?_
  rw [← b3.2.2.2]
  obtain ⟨a3, ha3⟩ : ∃ a, a = prP tb n (nI (206 + 2)) a2 := ⟨_, rfl⟩
  rw [← ha3] at b3 ⊢
  have g3 := b3.2.2.1
  have hc4 : g_cz a3 ≤ g_pl a3 := by have := g3.cz hc3; omega
  have hp4 : g_pl a3 ≤ n := g3.1.1
  have e1 : ps1 tb n (s00 to nu pl co) = a1 := by rw [ha1, ha0]; rfl
  have e2 : ps2 tb n (s00 to nu pl co) = a2 := by rw [ha2, ← e1]; rfl
  have e3 : ps3 tb n (s00 to nu pl co) = a3 := by rw [ha3, ← e2]; rfl
  obtain ⟨e, he⟩ : ∃ e, e = enF (g_cz a1) (g_cz a2) (g_cz a3) := ⟨_, rfl⟩
  refine Ex.eqW (w' := pS (w ++ [.inl (0, (4, .inl e))]) rt n a3) (by rw [he]; rfl) ?_
  have hz : ∀ s', s' = fin0 a3 → g_cz s' ≤ 160 → Ex X mX4_parse 44 (parR w rt n tb (s00 to nu pl co)) 2 162 80 [some (.ref 16), some (.ref w.length), some (.int (nI (2 + 1)))] [] (pS (w ++ [.inl (0, (4, .inl e))]) rt n s') := fun s' h1 h2 => parse_end (m := m) hw (by rw [h1, ← e3]; rfl) h2 (by rw [he, e1, e2, e3])
  refine x_iload_n dX4_parse_30 rfl ?_
  refine x_iconst 3 dX4_parse_31 ?_
  refine x_icmp_ge 69 dX4_parse_32 (fun _ => ?_) (fun z => absurd (by decide) z)
  refine x_aload_n dX4_parse_69 rfl ?_
  refine gP_21 (hw1 e) dX4_parse_70 ?_
  refine x_if_eq 80 dX4_parse_73 (fun h => ?_) (fun h => ?_)
  · exact hz a3 (by unfold fin0; rw [if_pos h]) (by omega)
  · refine x_aload_n dX4_parse_76 rfl ?_
    refine ii_X4_57 dX4_parse_77 (c_X4_refuse (s := a3) (hw1 e)) (pX_p (hw1 e)) (by decide) (Nat.le_of_ble_eq_true rfl) ?_
    exact hz (rfu a3) (by unfold fin0; rw [if_neg h]) (by show g_cz a3 ≤ 160; omega)
