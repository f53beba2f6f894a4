def txC (tx tp : Nat → Int32) (m k : Nat) : Nat → Int32 := fun j => if 160 * m ≤ j ∧ j < 160 * m + k then tp (j - 160 * m) else tx j
theorem txC_0 (tx tp : Nat → Int32) (m : Nat) : txC tx tp m 0 = tx := by
  funext j; unfold txC; rw [if_neg (by omega)]
theorem txC_s (tx tp : Nat → Int32) (m k : Nat) : upd (txC tx tp m k) (160 * m + k) (tp k) = txC tx tp m (k + 1) := by
  funext j
  unfold txC upd
  by_cases h : j = 160 * m + k
  · rw [if_pos h, if_pos (by omega), h, Nat.add_sub_cancel_left]
  · rw [if_neg h]
    show (if 160 * m ≤ j ∧ j < 160 * m + k then tp (j - 160 * m) else tx j) = _
    by_cases h2 : 160 * m ≤ j ∧ j < 160 * m + k
    · rw [if_pos h2, if_pos (by omega)]
    · rw [if_neg h2, if_neg (by omega)]
theorem txC_at {tx tp : Nat → Int32} {m n i : Nat} (h : i < n) : txC tx tp m n (160 * m + i) = tp i := by
  unfold txC; rw [if_pos (by omega), Nat.add_sub_cancel_left]
set_option maxRecDepth 100000 in
set_option maxHeartbeats 4000000 in
theorem c_X10_text_full {X : Nat × (Nat → Int32)} {S : CS} {tl : pc_W} {tx : (Nat → Int32)} {ts : (Nat → Int32)} {tp : (Nat → Int32)} {U : MU} {Λ : ML} {C : MC} {K : MK} {H : MH} {n : Nat}     : Mt X 0 0 0 yX10_text cX10_text 2 (some .int) [.ref 42] (cst S ++ (mw (tx, ts, nI 6, tp, nI n) U Λ C K H ++ tl)) (RI (-4) (cst S ++ (mw (tx, ts, nI 6, tp, nI n) U Λ C K H ++ tl))) := by
  refine Mt.of (by decide +kernel) (fun _ _ => Nat.le_of_ble_eq_true rfl) ?_
  show Ex X mX10_text _ _ _ _ _ _ _ _
  refine x_aload_n dX10_text_0 rfl ?_
  refine mg_70 dX10_text_1 ?_
  refine x_bipush 6 dX10_text_4 ?_
  refine x_icmp_ne 12 dX10_text_6 (fun hx => absurd (rfl) hx) (fun _ => ?_)
  refine x_bipush (-4) dX10_text_9 ?_
  exact Ex.ret (v := some (.int _)) ⟨dX10_text_11, _, rfl, by first | rfl | decide⟩ ⟨congrArg (fun z => some (Value.int z)) (by rfl), rfl⟩
set_option maxRecDepth 100000 in
set_option maxHeartbeats 4000000 in
theorem c_X10_text {X : Nat × (Nat → Int32)} {S : CS} {tl : pc_W} {tx : (Nat → Int32)} {ts : (Nat → Int32)} {tp : (Nat → Int32)} {U : MU} {Λ : ML} {C : MC} {K : MK} {H : MH} {m n : Nat} {pl0 : Nat} {to0 nu0 : Int32} {co0 : Nat → Int32} {s0 s4 : PS} (hm6 : m < 6) (hn : n ≤ 160) (hbp : ∀ i, i < n → 0 ≤ tp i) (hs0 : s0 = (pl0, 0, to0, nu0, -1, 0, 0, co0)) (hs4 : s4 = ps3 tp n s0): Mt X 43 0 0 yX10_text cX10_text 2 (some .int) [.ref 42] (cst S ++ (mw (tx, ts, nI m, tp, nI n) U Λ C K H ++ tl)) (fun v w' => ∃ Λ' : ML, v = some (.int (if g_fa (fin0 s4) = -1 then nI m else -100 - g_fa (fin0 s4))) ∧ w' = cst S ++ (mw ((txC tx tp m n), (upd ts m (nI n)), (if g_fa (fin0 s4) = -1 then nI (m + 1) else nI m), tp, 0) U Λ' C K H ++ tl)) := by
  refine Mt.of (by decide +kernel) (fun _ _ => Nat.le_of_ble_eq_true rfl) ?_
  show Ex X mX10_text _ _ _ _ _ _ _ _
  refine x_aload_n dX10_text_0 rfl ?_
  refine mg_70 dX10_text_1 ?_
  refine x_bipush 6 dX10_text_4 ?_
  refine x_icmp_ne 12 dX10_text_6 (fun _ => ?_) (fun hx => absurd hx (fun q => absurd ((nI_eq (b := 6) (by omega) (by decide)).mp q) (by omega)))
  refine x_iconst 0 dX10_text_12 ?_
  refine x_istore_n dX10_text_13 (by decide) ?_
  refine Ex.eqW (w' := (cst S ++ (mw ((txC tx tp m 0), ts, nI m, tp, nI n) U Λ C K H ++ tl))) (by rw [txC_0]) ?_
  refine for_up (P := fun i => Ex X mX10_text 43 (fun v w' => ∃ Λ' : ML, v = some (.int (if g_fa (fin0 s4) = -1 then nI m else -100 - g_fa (fin0 s4))) ∧ w' = cst S ++ (mw ((txC tx tp m n), (upd ts m (nI n)), (if g_fa (fin0 s4) = -1 then nI (m + 1) else nI m), tp, 0) U Λ' C K H ++ tl)) 0 0 14 [some (.ref 42), some (.int (nI i))] [] (cst S ++ (mw ((txC tx tp m i), ts, nI m, tp, nI n) U Λ C K H ++ tl))) (n) ?_ (fun i hi ih => ?_) (0) (Nat.zero_le _)
  · refine x_iload_n dX10_text_14 rfl ?_
    refine x_aload_n dX10_text_15 rfl ?_
    refine mg_153 dX10_text_16 ?_
    refine x_icmp_ge 49 dX10_text_19 (fun _ => ?_) (fun hx => absurd (Int32.le_refl _) hx)
    refine x_aload_n dX10_text_49 rfl ?_
    refine mg_17 dX10_text_50 ?_
    refine x_aload_n dX10_text_53 rfl ?_
    refine mg_70 dX10_text_54 ?_
    refine x_aload_n dX10_text_57 rfl ?_
    refine mg_153 dX10_text_58 ?_
    refine msN_44 dX10_text_61 hm6 ?_
    refine x_aload_n dX10_text_62 rfl ?_
    refine x_iconst 0 dX10_text_63 ?_
    refine mp_153 dX10_text_64 ?_
    refine x_aload_n dX10_text_67 rfl ?_
    refine x_aload_n dX10_text_68 rfl ?_
    refine mg_70 dX10_text_69 ?_
    refine x_iconst (nI 0) dX10_text_72 ?_
    refine iv_X10_356 dX10_text_73 (c_X10_read (wh := 0) (n := n) (b := tp) hm6 hn (fun i hi => txC_at hi) hbp (show upd ts m (nI n) m = nI n from pk_us) (by decide) hs0) mw_o (by decide) (Nat.le_of_ble_eq_true rfl) (fun v_73 w_73 hw_73 => ?_)
    obtain ⟨x1, h1, to1, t1, tw1, ba1, fa1, rfl, rfl, hR0⟩ := hw_73
    refine x_istore_n dX10_text_76 (by decide) ?_
    have hR : RDv (ps1 tp n s0) (ps2 tp n s0) (ps3 tp n s0) Λ.1 0 x1 ba1 fa1 := hR0
    rw [← hs4] at hR
    rcases hR.1 with ⟨f1, rfl⟩ | ⟨f1, rfl, rfl⟩
    · skip
      refine x_aload_n dX10_text_77 rfl ?_
      refine mg_188 dX10_text_78 ?_
      refine x_if_eq 92 dX10_text_81 (fun _ => ?_) (fun hx => absurd (rfl) hx)
      refine x_aload_n dX10_text_92 rfl ?_
      refine x_dup dX10_text_93 ?_
      refine mg_70 dX10_text_94 ?_
      refine x_iconst 1 dX10_text_97 ?_
      refine x_iadd dX10_text_98 ?_
      rw [nI_1]
      refine mp_70 dX10_text_99 ?_
      refine x_aload_n dX10_text_102 rfl ?_
      refine mg_70 dX10_text_103 ?_
      refine x_iconst 1 dX10_text_106 ?_
      refine x_isub dX10_text_107 ?_
      rw [isub1 (by omega), Nat.add_sub_cancel]
      exact Ex.ret (v := some (.int _)) ⟨dX10_text_108, _, rfl, by first | rfl | decide⟩ ⟨_, congrArg (fun z => some (Value.int z)) (by rw [if_pos f1]), by rw [if_pos f1]⟩
    · skip
      refine x_aload_n dX10_text_77 rfl ?_
      refine mg_188 dX10_text_78 ?_
      refine x_if_eq 92 dX10_text_81 (fun hx => absurd hx (by decide)) (fun _ => ?_)
      refine x_bipush (-100) dX10_text_84 ?_
      refine x_aload_n dX10_text_86 rfl ?_
      refine mg_192 dX10_text_87 ?_
      refine x_isub dX10_text_90 ?_
      exact Ex.ret (v := some (.int _)) ⟨dX10_text_91, _, rfl, by first | rfl | decide⟩ ⟨_, congrArg (fun z => some (Value.int z)) (by rw [if_neg f1]), by rw [if_neg f1]⟩
  · refine x_iload_n dX10_text_14 rfl ?_
    refine x_aload_n dX10_text_15 rfl ?_
    refine mg_153 dX10_text_16 ?_
    refine x_icmp_ge 49 dX10_text_19 (fun hx => absurd hx (nI_ge hi (by omega))) (fun _ => ?_)
    refine x_aload_n dX10_text_22 rfl ?_
    refine mg_13 dX10_text_23 ?_
    refine x_sipush 160 dX10_text_26 ?_
    refine x_aload_n dX10_text_29 rfl ?_
    refine mg_70 dX10_text_30 ?_
    refine x_imul dX10_text_33 ?_
    refine x_iload_n dX10_text_34 rfl ?_
    refine x_iadd dX10_text_35 ?_
    refine x_aload_n dX10_text_36 rfl ?_
    refine mg_20 dX10_text_37 ?_
    refine x_iload_n dX10_text_40 rfl ?_
    rw [show (160 : Int32) * nI m + nI i = nI (160 * m + i) from by rw [show (160 : Int32) * nI m = nI (160 * m) from pk_mul 160 m, nI_add]]
    refine maN_45 dX10_text_41 (show i < 160 by omega) ?_
    refine msN_43 dX10_text_42 (show 160 * m + i < 960 by omega) ?_
    refine x_iincN dX10_text_43 rfl (by decide) ?_
    refine x_goto 14 dX10_text_46 ?_
    refine Ex.eqW (w' := (cst S ++ (mw ((txC tx tp m (i + 1)), ts, nI m, tp, nI n) U Λ C K H ++ tl))) (by rw [← txC_s]) ?_
    exact ih
set_option maxRecDepth 100000 in
set_option maxHeartbeats 4000000 in
theorem c_X10_spell {X : Nat × (Nat → Int32)} {S : CS} {tl : pc_W} {tx : (Nat → Int32)} {ts : (Nat → Int32)} {tc : Int32} {tp : (Nat → Int32)} {tn : Int32} {U : MU} {Λ : ML} {C : MC} {K : MK} {H : MH} {a : Nat} {a0 a1 a2 a3 a4 a5 a6 a7 : Int32} (ha : a < 950): Mt X 0 0 0 yX10_spell cX10_spell 10 none [.ref 42, .int (nI a), .int a0, .int a1, .int a2, .int a3, .int a4, .int a5, .int a6, .int a7] (cst S ++ (mw (tx, ts, tc, tp, tn) U Λ C K H ++ tl)) (RV (cst S ++ (mw ((upd (upd (upd (upd (upd (upd (upd (upd tx a a0) (a + 1) a1) (a + 2) a2) (a + 3) a3) (a + 4) a4) (a + 5) a5) (a + 6) a6) (a + 7) a7), ts, tc, tp, tn) U Λ C K H ++ tl))) := by
  refine Mt.of (by decide +kernel) (fun _ _ => Nat.le_of_ble_eq_true rfl) ?_
  show Ex X mX10_spell _ _ _ _ _ _ _ _
  refine x_aload_n dX10_spell_0 rfl ?_
  refine mg_13 dX10_spell_1 ?_
  refine x_iload_n dX10_spell_4 rfl ?_
  refine x_iload_n dX10_spell_5 rfl ?_
  refine msN_43 dX10_spell_6 (show a < 960 by omega) ?_
  refine x_aload_n dX10_spell_7 rfl ?_
  refine mg_13 dX10_spell_8 ?_
  refine x_iload_n dX10_spell_11 rfl ?_
  refine x_iconst 1 dX10_spell_12 ?_
  refine x_iadd dX10_spell_13 ?_
  rw [show nI a + 1 = nI (a + 1) from nI_add a 1]
  refine x_iload_n dX10_spell_14 rfl ?_
  refine msN_43 dX10_spell_15 (show a + 1 < 960 by omega) ?_
  refine x_aload_n dX10_spell_16 rfl ?_
  refine mg_13 dX10_spell_17 ?_
  refine x_iload_n dX10_spell_20 rfl ?_
  refine x_iconst 2 dX10_spell_21 ?_
  refine x_iadd dX10_spell_22 ?_
  rw [show nI a + 2 = nI (a + 2) from nI_add a 2]
  refine x_iload dX10_spell_23 rfl ?_
  refine msN_43 dX10_spell_25 (show a + 2 < 960 by omega) ?_
  refine x_aload_n dX10_spell_26 rfl ?_
  refine mg_13 dX10_spell_27 ?_
  refine x_iload_n dX10_spell_30 rfl ?_
  refine x_iconst 3 dX10_spell_31 ?_
  refine x_iadd dX10_spell_32 ?_
  rw [show nI a + 3 = nI (a + 3) from nI_add a 3]
  refine x_iload dX10_spell_33 rfl ?_
  refine msN_43 dX10_spell_35 (show a + 3 < 960 by omega) ?_
  refine x_aload_n dX10_spell_36 rfl ?_
  refine mg_13 dX10_spell_37 ?_
  refine x_iload_n dX10_spell_40 rfl ?_
  refine x_iconst 4 dX10_spell_41 ?_
  refine x_iadd dX10_spell_42 ?_
  rw [show nI a + 4 = nI (a + 4) from nI_add a 4]
  refine x_iload dX10_spell_43 rfl ?_
  refine msN_43 dX10_spell_45 (show a + 4 < 960 by omega) ?_
  refine x_aload_n dX10_spell_46 rfl ?_
  refine mg_13 dX10_spell_47 ?_
  refine x_iload_n dX10_spell_50 rfl ?_
  refine x_iconst 5 dX10_spell_51 ?_
  refine x_iadd dX10_spell_52 ?_
  rw [show nI a + 5 = nI (a + 5) from nI_add a 5]
  refine x_iload dX10_spell_53 rfl ?_
  refine msN_43 dX10_spell_55 (show a + 5 < 960 by omega) ?_
  refine x_aload_n dX10_spell_56 rfl ?_
  refine mg_13 dX10_spell_57 ?_
  refine x_iload_n dX10_spell_60 rfl ?_
  refine x_bipush 6 dX10_spell_61 ?_
  refine x_iadd dX10_spell_63 ?_
  rw [show nI a + 6 = nI (a + 6) from nI_add a 6]
  refine x_iload dX10_spell_64 rfl ?_
  refine msN_43 dX10_spell_66 (show a + 6 < 960 by omega) ?_
  refine x_aload_n dX10_spell_67 rfl ?_
  refine mg_13 dX10_spell_68 ?_
  refine x_iload_n dX10_spell_71 rfl ?_
  refine x_bipush 7 dX10_spell_72 ?_
  refine x_iadd dX10_spell_74 ?_
  rw [show nI a + 7 = nI (a + 7) from nI_add a 7]
  refine x_iload dX10_spell_75 rfl ?_
  refine msN_43 dX10_spell_77 (show a + 7 < 960 by omega) ?_
  exact Ex.ret (v := none) ⟨rfl, dX10_spell_78⟩ ⟨rfl, rfl⟩
