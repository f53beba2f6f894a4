set_option maxRecDepth 100000 in
set_option maxHeartbeats 4000000 in
theorem c_X10_atom3 {X : Nat × (Nat → Int32)} {S : CS} {tl : pc_W} {tx : (Nat → Int32)} {ts : (Nat → Int32)} {tc : Int32} {tp : (Nat → Int32)} {tn : Int32} {U : MU} {o : (Nat → Int32)} {to : Int32} {tw : Int64} {ba : Int32} {fa : Int32} {C : MC} {K : MK} {H : MH} {r n h t : Nat} {b : Nat → Int32} {s : PS} (hr : r < 6) (hn : n ≤ 160) (hb : ∀ i, i < n → tx (160 * r + i) = b i) (hbp : ∀ i, i < n → 0 ≤ b i) (q : LR b n s h to t tw ba fa) (hc : g_cz s ≤ g_pl s) (hK : g_op s = 3): Mt X 16 0 0 yX10_atom3 cX10_atom3 2 (some .int) [.ref 42] (cst S ++ (mw (tx, ts, tc, tp, tn) U (o, nI (160 * r), nI n, nI h, to, nI t, tw, (nI 3), ba, fa) C K H ++ tl)) (fun v w' => ∃ (x : Int32) (h' : Nat) (to' : Int32) (t' : Nat) (tw' : Int64) (ba' fa' : Int32), v = some (.int x) ∧ w' = cst S ++ (mw (tx, ts, tc, tp, tn) U (o, nI (160 * r), nI n, nI h', to', nI t', tw', (nI 3), ba', fa') C K H ++ tl) ∧ LR b n (lvS b n (lev b n 2) s) h' to' t' tw' ba' fa' ∧ VR o (g_cz s) (lvS b n (lev b n 2) s) x) := by
  refine Mt.of (by decide +kernel) (fun _ _ => Nat.le_of_ble_eq_true rfl) ?_
  show Ex X mX10_atom3 _ _ _ _ _ _ _ _
  refine x_iconst 0 dX10_atom3_0 ?_
  refine x_istore_n dX10_atom3_1 (by decide) ?_
  refine x_aload_n dX10_atom3_2 rfl ?_
  refine x_bipush 45 dX10_atom3_3 ?_
  refine ii_X10_229 dX10_atom3_5 (c_X10_sign q (by decide)) mw_o (by decide) (Nat.le_of_ble_eq_true rfl) ?_
  refine x_if_eq 37 dX10_atom3_8 (fun h_8 => ?_) (fun h_8 => ?_)
  · refine x_aload_n dX10_atom3_37 rfl ?_
    refine x_bipush 40 dX10_atom3_38 ?_
    refine ii_X10_229 dX10_atom3_40 (c_X10_sign q (by decide)) mw_o (by decide) (Nat.le_of_ble_eq_true rfl) ?_
    refine x_if_eq 95 dX10_atom3_43 (fun h_43 => ?_) (fun h_43 => ?_)
    · by_cases hz : g_to s = 1
      · obtain ⟨rfl, ht2⟩ := (LR_num q).1.mpr hz
        refine x_aload_n dX10_atom3_95 rfl ?_
        refine mg_188 dX10_atom3_96 ?_
        refine x_if_ne 123 dX10_atom3_99 (fun hx => absurd (rfl) hx) (fun _ => ?_)
        refine x_aload_n dX10_atom3_102 rfl ?_
        refine mg_171 dX10_atom3_103 ?_
        refine x_iconst 2 dX10_atom3_106 ?_
        refine x_icmp_ne 123 dX10_atom3_107 (fun hx => absurd (ht2) hx) (fun _ => ?_)
        refine x_aload_n dX10_atom3_110 rfl ?_
        refine mg_182 dX10_atom3_111 ?_
        refine x_l2i dX10_atom3_114 ?_
        refine x_istore_n dX10_atom3_115 (by decide) ?_
        refine x_aload_n dX10_atom3_116 rfl ?_
        refine iv_X10_204 dX10_atom3_117 (c_X10_nextR (s := emt (g_nu s) s) hr hn hb hbp (LR_emt q) (by rw [(emt_g _ _).2.2.1, hz]; decide)) mw_o (by decide) (Nat.le_of_ble_eq_true rfl) (fun v_117 w_117 hw_117 => ?_)
        obtain ⟨h3, to3, t3, tw3, rfl, rfl, q3⟩ := hw_117
        refine x_goto 161 dX10_atom3_120 ?_
        refine x_iload_n dX10_atom3_161 rfl ?_
        obtain ⟨en, m, hm, em⟩ := (LR_num q).2 hz
        have zz := fin_id (f := lvS b n (lev b n 2)) (nm := o) (lvS_num hz) (q3) ((by rw [en, em]; exact VR_one hn q.1 hc (by rw [hz]; decide) (by rw [hz]; decide) (fun co e1 e2 => GC.lit hm e2 e1) : VR o (g_cz s) (adv b n (emt (g_nu s) s)) tw.toInt32))
        exact Ex.ret (v := some (.int _)) ⟨dX10_atom3_162, _, rfl, by first | rfl | decide⟩ ⟨_, _, _, _, _, _, _, rfl, rfl, zz⟩
      by_cases hw : ba = 0 ∧ to = 1
      · obtain ⟨rfl, ht1⟩ := hw
        refine x_aload_n dX10_atom3_95 rfl ?_
        refine mg_188 dX10_atom3_96 ?_
        refine x_if_ne 123 dX10_atom3_99 (fun hx => absurd (rfl) hx) (fun _ => ?_)
        refine x_aload_n dX10_atom3_102 rfl ?_
        refine mg_171 dX10_atom3_103 ?_
        refine x_iconst 2 dX10_atom3_106 ?_
        refine x_icmp_ne 123 dX10_atom3_107 (fun _ => ?_) (fun hx => absurd hx (by rw [ht1]; decide))
        refine x_aload_n dX10_atom3_123 rfl ?_
        refine mg_188 dX10_atom3_124 ?_
        refine x_if_ne 157 dX10_atom3_127 (fun hx => absurd (rfl) hx) (fun _ => ?_)
        refine x_aload_n dX10_atom3_130 rfl ?_
        refine mg_171 dX10_atom3_131 ?_
        refine x_iconst 1 dX10_atom3_134 ?_
        refine x_icmp_ne 157 dX10_atom3_135 (fun hx => absurd (ht1) hx) (fun _ => ?_)
        refine x_aload_n dX10_atom3_138 rfl ?_
        refine iv_X10_236 dX10_atom3_139 (c_X10_name hr hn hb q) mw_o (by decide) (Nat.le_of_ble_eq_true rfl) (fun v_139 w_139 hw_139 => ?_)
        obtain ⟨x1, ba1, fa1, rfl, rfl, hnm⟩ := hw_139
        rcases hnm with ⟨n1, n2, rfl, rfl, rfl⟩ | ⟨n1, rfl, q1⟩
        · skip
          refine x_istore_n dX10_atom3_142 (by decide) ?_
          refine x_aload_n dX10_atom3_143 rfl ?_
          refine mg_188 dX10_atom3_144 ?_
          refine x_if_ne 161 dX10_atom3_147 (fun hx => absurd (rfl) hx) (fun _ => ?_)
          refine x_aload_n dX10_atom3_150 rfl ?_
          refine iv_X10_204 dX10_atom3_151 (c_X10_nextR (s := emt (-(g_to s)) s) hr hn hb hbp (LR_emt q) (by rw [(emt_g _ _).2.2.1]; exact fun z => by rw [z] at n1; exact absurd n1 (by decide))) mw_o (by decide) (Nat.le_of_ble_eq_true rfl) (fun v_151 w_151 hw_151 => ?_)
          obtain ⟨h3, to3, t3, tw3, rfl, rfl, q3⟩ := hw_151
          refine x_goto 161 dX10_atom3_154 ?_
          refine x_iload_n dX10_atom3_161 rfl ?_
          have zz := fin_id (f := lvS b n (lev b n 2)) (nm := o) (lvS_name ⟨n1, n2⟩) (q3) (VR_one hn q.1 hc (fun z => by rw [z] at n1; exact absurd n1 (by decide)) (fun z => by rw [z] at n1; exact absurd n1 (by decide)) (fun co e1 e2 => GC.name ⟨n1, n2⟩ e2 e1))
          exact Ex.ret (v := some (.int _)) ⟨dX10_atom3_162, _, rfl, by first | rfl | decide⟩ ⟨_, _, _, _, _, _, _, rfl, rfl, zz⟩
        · skip
          refine x_istore_n dX10_atom3_142 (by decide) ?_
          refine x_aload_n dX10_atom3_143 rfl ?_
          refine mg_188 dX10_atom3_144 ?_
          refine x_if_ne 161 dX10_atom3_147 (fun _ => ?_) (fun hx => absurd hx (by decide))
          refine x_iload_n dX10_atom3_161 rfl ?_
          have zz := fin_id (f := lvS b n (lev b n 2)) (nm := o) (lvS_no hz n1 (bi0.mp h_8) (bi0.mp h_43)) (q1) (VR_rfu (x := x1) hn q.1)
          exact Ex.ret (v := some (.int _)) ⟨dX10_atom3_162, _, rfl, by first | rfl | decide⟩ ⟨_, _, _, _, _, _, _, rfl, rfl, zz⟩
      by_cases hb0 : ba = 0
      · subst hb0
        refine x_aload_n dX10_atom3_95 rfl ?_
        refine mg_188 dX10_atom3_96 ?_
        refine x_if_ne 123 dX10_atom3_99 (fun hx => absurd (rfl) hx) (fun _ => ?_)
        refine x_aload_n dX10_atom3_102 rfl ?_
        refine mg_171 dX10_atom3_103 ?_
        refine x_iconst 2 dX10_atom3_106 ?_
        refine x_icmp_ne 123 dX10_atom3_107 (fun _ => ?_) (fun hx => absurd hx (fun z => hz ((LR_num q).1.mp ⟨rfl, z⟩)))
        refine x_aload_n dX10_atom3_123 rfl ?_
        refine mg_188 dX10_atom3_124 ?_
        refine x_if_ne 157 dX10_atom3_127 (fun hx => absurd (rfl) hx) (fun _ => ?_)
        refine x_aload_n dX10_atom3_130 rfl ?_
        refine mg_171 dX10_atom3_131 ?_
        refine x_iconst 1 dX10_atom3_134 ?_
        refine x_icmp_ne 157 dX10_atom3_135 (fun _ => ?_) (fun hx => absurd hx (fun z => hw ⟨rfl, z⟩))
        refine x_aload_n dX10_atom3_157 rfl ?_
        refine iv_X10_201 dX10_atom3_158 (c_X10_failR hn q) mw_o (by decide) (Nat.le_of_ble_eq_true rfl) (fun v_158 w_158 hw_158 => ?_)
        obtain ⟨fa1, rfl, rfl, q1⟩ := hw_158
        refine x_iload_n dX10_atom3_161 rfl ?_
        have zz := fin_id (f := lvS b n (lev b n 2)) (nm := o) (lvS_no hz (fun z => hw ((LR_isw q).2 ⟨z.1, Int32.le_trans z.2 (by decide)⟩)) (bi0.mp h_8) (bi0.mp h_43)) (q1) (VR_rfu (x := 0) hn q.1)
        exact Ex.ret (v := some (.int _)) ⟨dX10_atom3_162, _, rfl, by first | rfl | decide⟩ ⟨_, _, _, _, _, _, _, rfl, rfl, zz⟩
      · skip
        refine x_aload_n dX10_atom3_95 rfl ?_
        refine mg_188 dX10_atom3_96 ?_
        refine x_if_ne 123 dX10_atom3_99 (fun _ => ?_) (fun hx => absurd hx (hb0))
        refine x_aload_n dX10_atom3_123 rfl ?_
        refine mg_188 dX10_atom3_124 ?_
        refine x_if_ne 157 dX10_atom3_127 (fun _ => ?_) (fun hx => absurd hx (hb0))
        refine x_aload_n dX10_atom3_157 rfl ?_
        refine iv_X10_201 dX10_atom3_158 (c_X10_failR hn q) mw_o (by decide) (Nat.le_of_ble_eq_true rfl) (fun v_158 w_158 hw_158 => ?_)
        obtain ⟨fa1, rfl, rfl, q1⟩ := hw_158
        refine x_iload_n dX10_atom3_161 rfl ?_
        have zz := fin_id (f := lvS b n (lev b n 2)) (nm := o) (lvS_no hz (fun z => hw ((LR_isw q).2 ⟨z.1, Int32.le_trans z.2 (by decide)⟩)) (bi0.mp h_8) (bi0.mp h_43)) (q1) (VR_rfu (x := 0) hn q.1)
        exact Ex.ret (v := some (.int _)) ⟨dX10_atom3_162, _, rfl, by first | rfl | decide⟩ ⟨_, _, _, _, _, _, _, rfl, rfl, zz⟩
    have hz := bi1.mp h_43
    refine x_aload_n dX10_atom3_46 rfl ?_
    refine iv_X10_232 dX10_atom3_47 (c_X10_opens_y hr hn hb hbp q (by rw [hz]; decide) (by decide)) mw_o (by decide) (Nat.le_of_ble_eq_true rfl) (fun v_47 w_47 hw_47 => ?_)
    obtain ⟨h1, to1, t1, tw1, rfl, rfl, q1⟩ := hw_47
    obtain ⟨c1, k1, e1⟩ := in_pre (b := b) hn q.1 hc hK (by rw [hz]; decide) (by rw [hz]; decide)
    refine x_if_eq 161 dX10_atom3_50 (fun hx => absurd hx (by decide)) (fun _ => ?_)
    refine x_aload_n dX10_atom3_53 rfl ?_
    refine iv_X10_277 dX10_atom3_54 (c_X10_either4 hr hn hb hbp q1 c1 k1) mw_o (by decide) (Nat.le_of_ble_eq_true rfl) (fun v_54 w_54 hw_54 => ?_)
    obtain ⟨x2, h2, to2, t2, tw2, ba2, fa2, rfl, rfl, q2, v2⟩ := hw_54
    refine x_istore_n dX10_atom3_57 (by decide) ?_
    refine x_aload_n dX10_atom3_58 rfl ?_
    refine x_bipush 41 dX10_atom3_59 ?_
    refine ii_X10_229 dX10_atom3_61 (c_X10_sign q2 (by decide)) mw_o (by decide) (Nat.le_of_ble_eq_true rfl) ?_
    refine x_if_ne 71 dX10_atom3_64 (fun h_64 => ?_) (fun h_64 => ?_)
    · have hz2 := bi1.mp h_64
      obtain ⟨-, rfl, -, -⟩ := LR_ok q2 (by rw [hz2]; decide)
      refine x_aload_n dX10_atom3_71 rfl ?_
      refine x_dup dX10_atom3_72 ?_
      refine mg_198 dX10_atom3_73 ?_
      refine x_iconst 1 dX10_atom3_76 ?_
      refine x_isub dX10_atom3_77 ?_
      rw [show nI 4 - 1 = nI 3 from nI_pred 3]
      refine mp_198 dX10_atom3_78 ?_
      refine x_aload_n dX10_atom3_81 rfl ?_
      refine mg_188 dX10_atom3_82 ?_
      refine x_if_ne 161 dX10_atom3_85 (fun hx => absurd (rfl) hx) (fun _ => ?_)
      refine x_aload_n dX10_atom3_88 rfl ?_
      refine iv_X10_204 dX10_atom3_89 (c_X10_nextR hr hn hb hbp (LR_dec q2) (by rw [to_dec, hz2]; decide)) mw_o (by decide) (Nat.le_of_ble_eq_true rfl) (fun v_89 w_89 hw_89 => ?_)
      obtain ⟨h3, to3, t3, tw3, rfl, rfl, q3⟩ := hw_89
      refine x_goto 161 dX10_atom3_92 ?_
      refine x_iload_n dX10_atom3_161 rfl ?_
      have zz := fin_py (k := 1) hn q.1 hc hK rfl hz hz2 q3 v2
      exact Ex.ret (v := some (.int _)) ⟨dX10_atom3_162, _, rfl, by first | rfl | decide⟩ ⟨_, _, _, _, _, _, _, rfl, rfl, zz⟩
    · have hz2 := bi0.mp h_64
      refine x_aload_n dX10_atom3_67 rfl ?_
      refine iv_X10_201 dX10_atom3_68 (c_X10_failR hn q2) mw_o (by decide) (Nat.le_of_ble_eq_true rfl) (fun v_68 w_68 hw_68 => ?_)
      obtain ⟨fa3, rfl, rfl, q3⟩ := hw_68
      refine x_aload_n dX10_atom3_71 rfl ?_
      refine x_dup dX10_atom3_72 ?_
      refine mg_198 dX10_atom3_73 ?_
      refine x_iconst 1 dX10_atom3_76 ?_
      refine x_isub dX10_atom3_77 ?_
      rw [show nI 4 - 1 = nI 3 from nI_pred 3]
      refine mp_198 dX10_atom3_78 ?_
      refine x_aload_n dX10_atom3_81 rfl ?_
      refine mg_188 dX10_atom3_82 ?_
      refine x_if_ne 161 dX10_atom3_85 (fun _ => ?_) (fun hx => absurd hx (by decide))
      refine x_iload_n dX10_atom3_161 rfl ?_
      have zz := fin_pn (k := 1) hn q.1 hc hK rfl hz hz2 q3 v2
      exact Ex.ret (v := some (.int _)) ⟨dX10_atom3_162, _, rfl, by first | rfl | decide⟩ ⟨_, _, _, _, _, _, _, rfl, rfl, zz⟩
  have hz := bi1.mp h_8
  refine x_aload_n dX10_atom3_11 rfl ?_
  refine iv_X10_232 dX10_atom3_12 (c_X10_opens_y hr hn hb hbp q (by rw [hz]; decide) (by decide)) mw_o (by decide) (Nat.le_of_ble_eq_true rfl) (fun v_12 w_12 hw_12 => ?_)
  obtain ⟨h1, to1, t1, tw1, rfl, rfl, q1⟩ := hw_12
  obtain ⟨c1, k1, e1⟩ := in_pre (b := b) hn q.1 hc hK (by rw [hz]; decide) (by rw [hz]; decide)
  refine x_if_eq 161 dX10_atom3_15 (fun hx => absurd hx (by decide)) (fun _ => ?_)
  refine x_aload_n dX10_atom3_18 rfl ?_
  refine iv_X10_262 dX10_atom3_19 (c_X10_atom4 hr hn hb hbp q1 c1 k1) mw_o (by decide) (Nat.le_of_ble_eq_true rfl) (fun v_19 w_19 hw_19 => ?_)
  obtain ⟨x2, h2, to2, t2, tw2, ba2, fa2, rfl, rfl, q2, v2⟩ := hw_19
  refine x_ineg dX10_atom3_22 ?_
  refine x_istore_n dX10_atom3_23 (by decide) ?_
  refine x_aload_n dX10_atom3_24 rfl ?_
  refine x_dup dX10_atom3_25 ?_
  refine mg_198 dX10_atom3_26 ?_
  refine x_iconst 1 dX10_atom3_29 ?_
  refine x_isub dX10_atom3_30 ?_
  rw [show nI 4 - 1 = nI 3 from nI_pred 3]
  refine mp_198 dX10_atom3_31 ?_
  refine x_goto 161 dX10_atom3_34 ?_
  refine x_iload_n dX10_atom3_161 rfl ?_
  have zz := fin_neg (k := 1) hn q.1 hc hK rfl hz q2 v2
  exact Ex.ret (v := some (.int _)) ⟨dX10_atom3_162, _, rfl, by first | rfl | decide⟩ ⟨_, _, _, _, _, _, _, rfl, rfl, zz⟩
set_option maxRecDepth 100000 in
set_option maxHeartbeats 4000000 in
theorem c_X10_term3 {X : Nat × (Nat → Int32)} {S : CS} {tl : pc_W} {tx : (Nat → Int32)} {ts : (Nat → Int32)} {tc : Int32} {tp : (Nat → Int32)} {tn : Int32} {U : MU} {o : (Nat → Int32)} {to : Int32} {tw : Int64} {ba : Int32} {fa : Int32} {C : MC} {K : MK} {H : MH} {r n h t : Nat} {b : Nat → Int32} {s : PS} (hr : r < 6) (hn : n ≤ 160) (hb : ∀ i, i < n → tx (160 * r + i) = b i) (hbp : ∀ i, i < n → 0 ≤ b i) (q : LR b n s h to t tw ba fa) (hc : g_cz s ≤ g_pl s) (hK : g_op s = 3): Mt X 17 0 0 yX10_term3 cX10_term3 2 (some .int) [.ref 42] (cst S ++ (mw (tx, ts, tc, tp, tn) U (o, nI (160 * r), nI n, nI h, to, nI t, tw, (nI 3), ba, fa) C K H ++ tl)) (fun v w' => ∃ (x : Int32) (h' : Nat) (to' : Int32) (t' : Nat) (tw' : Int64) (ba' fa' : Int32), v = some (.int x) ∧ w' = cst S ++ (mw (tx, ts, tc, tp, tn) U (o, nI (160 * r), nI n, nI h', to', nI t', tw', (nI 3), ba', fa') C K H ++ tl) ∧ LR b n (lvT b n (lev b n 2) s) h' to' t' tw' ba' fa' ∧ VR o (g_cz s) (lvT b n (lev b n 2) s) x) := by
  refine Mt.of (by decide +kernel) (fun _ _ => Nat.le_of_ble_eq_true rfl) ?_
  show Ex X mX10_term3 _ _ _ _ _ _ _ _
  refine x_aload_n dX10_term3_0 rfl ?_
  refine iv_X10_280 dX10_term3_1 (c_X10_atom3 hr hn hb hbp q hc hK) mw_o (by decide) (Nat.le_of_ble_eq_true rfl) (fun v_1 w_1 hw_1 => ?_)
  obtain ⟨x1, h1, to1, t1, tw1, ba1, fa1, rfl, rfl, q1, v1⟩ := hw_1
  refine x_istore_n dX10_term3_4 (by decide) ?_
  have hg := (lv_gf (b := b) hn 2 3 rfl).1
  have hc1 := (hg s q.1 hc hK).1.cz hc
  refine Ex.forget (L' := [some (.ref 42), some (.int x1)]) ⟨rfl, rfl, trivial⟩ ?_
  suffices hL : ∀ (f : Nat) (s' : PS) (x : Int32) (h : Nat) (to : Int32) (t : Nat) (tw : Int64) (ba fa : Int32), LR b n s' h to t tw ba fa → g_cz s' ≤ g_pl s' → g_op s' = 3 → n ≤ f + g_pl s' → VR o (g_cz s) s' x → lpG b n qMu (lvS b n (lev b n 2)) f s' = lvT b n (lev b n 2) s → Ex X mX10_term3 17 (fun v w' => ∃ (x : Int32) (h' : Nat) (to' : Int32) (t' : Nat) (tw' : Int64) (ba' fa' : Int32), v = some (.int x) ∧ w' = cst S ++ (mw (tx, ts, tc, tp, tn) U (o, nI (160 * r), nI n, nI h', to', nI t', tw', (nI 3), ba', fa') C K H ++ tl) ∧ LR b n (lvT b n (lev b n 2) s) h' to' t' tw' ba' fa' ∧ VR o (g_cz s) (lvT b n (lev b n 2) s) x) 0 0 5 [some (.ref 42), some (.int x)] [] (cst S ++ (mw (tx, ts, tc, tp, tn) U (o, nI (160 * r), nI n, nI h, to, nI t, tw, (nI 3), ba, fa) C K H ++ tl)) from hL 160 _ _ _ _ _ _ _ _ q1 hc1 ((hg s q.1 hc hK).1.2.1.trans hK) (by omega) v1 rfl
  intro f
  induction f with
  | zero =>
    intro s' x h to t tw ba fa q hc hK hf hv he
    have hq := lp_0 (q := qMu) rfl rfl q.1 hf
    have he : s' = _ := he
    refine x_aload_n dX10_term3_5 rfl ?_
    refine x_bipush 42 dX10_term3_6 ?_
    refine ii_X10_229 dX10_term3_8 (c_X10_sign q (by decide)) mw_o (by decide) (Nat.le_of_ble_eq_true rfl) ?_
    refine x_if_eq 28 dX10_term3_11 (fun _ => ?_) (fun hx => absurd (bi0.mpr (fun z => hq (qMu_iff.mpr z))) hx)
    refine x_iload_n dX10_term3_28 rfl ?_
    exact Ex.ret (v := some (.int _)) ⟨dX10_term3_29, _, rfl, by first | rfl | decide⟩ ⟨_, _, _, _, _, _, _, rfl, rfl, by rw [← he]; exact q, by rw [← he]; exact hv⟩
  | succ f ih =>
    intro s' x h to t tw ba fa q hc hK hf hv he
    by_cases hq : qMu (g_to s') = true
    · obtain ⟨⟨n2, n0⟩, ⟨c1, k1⟩, ⟨w3, c3, k3, f3⟩, e3⟩ := lp_go hn hg rfl rfl q.1 hc hK hf hq
      have hz := qMu_iff.mp hq
      refine x_aload_n dX10_term3_5 rfl ?_
      refine x_bipush 42 dX10_term3_6 ?_
      refine ii_X10_229 dX10_term3_8 (c_X10_sign q (by decide)) mw_o (by decide) (Nat.le_of_ble_eq_true rfl) ?_
      refine x_if_eq 28 dX10_term3_11 (fun hx => absurd hx (bi1.mpr hz)) (fun _ => ?_)
      refine x_aload_n dX10_term3_14 rfl ?_
      refine iv_X10_204 dX10_term3_15 (c_X10_nextR hr hn hb hbp q n2) mw_o (by decide) (Nat.le_of_ble_eq_true rfl) (fun v_15 w_15 hw_15 => ?_)
      obtain ⟨h1, to1, t1, tw1, rfl, rfl, q1⟩ := hw_15
      refine x_iload_n dX10_term3_18 rfl ?_
      refine x_aload_n dX10_term3_19 rfl ?_
      refine iv_X10_280 dX10_term3_20 (c_X10_atom3 hr hn hb hbp q1 c1 k1) mw_o (by decide) (Nat.le_of_ble_eq_true rfl) (fun v_20 w_20 hw_20 => ?_)
      obtain ⟨x2, h2, to2, t2, tw2, ba2, fa2, rfl, rfl, q2, v2⟩ := hw_20
      refine x_imul dX10_term3_23 ?_
      refine x_istore_n dX10_term3_24 (by decide) ?_
      refine x_goto 5 dX10_term3_25 ?_
      refine Ex.forget (L' := [some (.ref 42), some (.int (x * x2))]) ⟨rfl, rfl, trivial⟩ ?_
      exact ih _ _ _ _ _ _ _ _ (LR_emt q2) c3 k3 f3 (lp_v hn hg q.1 hc hK n2 n0 hz (by decide) hv v2 (jn_mu x x2).symm) (e3.symm.trans he)
    · rw [lp_no hq] at he
      refine x_aload_n dX10_term3_5 rfl ?_
      refine x_bipush 42 dX10_term3_6 ?_
      refine ii_X10_229 dX10_term3_8 (c_X10_sign q (by decide)) mw_o (by decide) (Nat.le_of_ble_eq_true rfl) ?_
      refine x_if_eq 28 dX10_term3_11 (fun _ => ?_) (fun hx => absurd (bi0.mpr (fun z => hq (qMu_iff.mpr z))) hx)
      refine x_iload_n dX10_term3_28 rfl ?_
      exact Ex.ret (v := some (.int _)) ⟨dX10_term3_29, _, rfl, by first | rfl | decide⟩ ⟨_, _, _, _, _, _, _, rfl, rfl, by rw [← he]; exact q, by rw [← he]; exact hv⟩
set_option maxRecDepth 100000 in
set_option maxHeartbeats 4000000 in
theorem c_X10_added3 {X : Nat × (Nat → Int32)} {S : CS} {tl : pc_W} {tx : (Nat → Int32)} {ts : (Nat → Int32)} {tc : Int32} {tp : (Nat → Int32)} {tn : Int32} {U : MU} {o : (Nat → Int32)} {to : Int32} {tw : Int64} {ba : Int32} {fa : Int32} {C : MC} {K : MK} {H : MH} {r n h t : Nat} {b : Nat → Int32} {s : PS} (hr : r < 6) (hn : n ≤ 160) (hb : ∀ i, i < n → tx (160 * r + i) = b i) (hbp : ∀ i, i < n → 0 ≤ b i) (q : LR b n s h to t tw ba fa) (hc : g_cz s ≤ g_pl s) (hK : g_op s = 3): Mt X 18 0 0 yX10_added3 cX10_added3 4 (some .int) [.ref 42] (cst S ++ (mw (tx, ts, tc, tp, tn) U (o, nI (160 * r), nI n, nI h, to, nI t, tw, (nI 3), ba, fa) C K H ++ tl)) (fun v w' => ∃ (x : Int32) (h' : Nat) (to' : Int32) (t' : Nat) (tw' : Int64) (ba' fa' : Int32), v = some (.int x) ∧ w' = cst S ++ (mw (tx, ts, tc, tp, tn) U (o, nI (160 * r), nI n, nI h', to', nI t', tw', (nI 3), ba', fa') C K H ++ tl) ∧ LR b n (lvM b n (lev b n 2) s) h' to' t' tw' ba' fa' ∧ VR o (g_cz s) (lvM b n (lev b n 2) s) x) := by
  refine Mt.of (by decide +kernel) (fun _ _ => Nat.le_of_ble_eq_true rfl) ?_
  show Ex X mX10_added3 _ _ _ _ _ _ _ _
  refine x_aload_n dX10_added3_0 rfl ?_
  refine iv_X10_283 dX10_added3_1 (c_X10_term3 hr hn hb hbp q hc hK) mw_o (by decide) (Nat.le_of_ble_eq_true rfl) (fun v_1 w_1 hw_1 => ?_)
  obtain ⟨x1, h1, to1, t1, tw1, ba1, fa1, rfl, rfl, q1, v1⟩ := hw_1
  refine x_istore_n dX10_added3_4 (by decide) ?_
  have hg := (lv_gf (b := b) hn 2 3 rfl).2.1
  have hc1 := (hg s q.1 hc hK).1.cz hc
  refine Ex.forget (L' := [some (.ref 42), some (.int x1), none, none]) ⟨rfl, rfl, trivial⟩ ?_
  suffices hL : ∀ (f : Nat) (s' : PS) (x : Int32) (h : Nat) (to : Int32) (t : Nat) (tw : Int64) (ba fa : Int32), LR b n s' h to t tw ba fa → g_cz s' ≤ g_pl s' → g_op s' = 3 → n ≤ f + g_pl s' → VR o (g_cz s) s' x → lpG b n qPl (lvT b n (lev b n 2)) f s' = lvM b n (lev b n 2) s → Ex X mX10_added3 18 (fun v w' => ∃ (x : Int32) (h' : Nat) (to' : Int32) (t' : Nat) (tw' : Int64) (ba' fa' : Int32), v = some (.int x) ∧ w' = cst S ++ (mw (tx, ts, tc, tp, tn) U (o, nI (160 * r), nI n, nI h', to', nI t', tw', (nI 3), ba', fa') C K H ++ tl) ∧ LR b n (lvM b n (lev b n 2) s) h' to' t' tw' ba' fa' ∧ VR o (g_cz s) (lvM b n (lev b n 2) s) x) 0 0 5 [some (.ref 42), some (.int x), none, none] [] (cst S ++ (mw (tx, ts, tc, tp, tn) U (o, nI (160 * r), nI n, nI h, to, nI t, tw, (nI 3), ba, fa) C K H ++ tl)) from hL 160 _ _ _ _ _ _ _ _ q1 hc1 ((hg s q.1 hc hK).1.2.1.trans hK) (by omega) v1 rfl
  intro f
  induction f with
  | zero =>
    intro s' x h to t tw ba fa q hc hK hf hv he
    have hq := lp_0 (q := qPl) rfl rfl q.1 hf
    have he : s' = _ := he
    refine x_aload_n dX10_added3_5 rfl ?_
    refine x_bipush 43 dX10_added3_6 ?_
    refine ii_X10_229 dX10_added3_8 (c_X10_sign q (by decide)) mw_o (by decide) (Nat.le_of_ble_eq_true rfl) ?_
    refine x_if_ne 23 dX10_added3_11 (fun hx => absurd (bi0.mpr (fun z => hq (qPl_iff.mpr (Or.inl z)))) hx) (fun _ => ?_)
    refine x_aload_n dX10_added3_14 rfl ?_
    refine x_bipush 45 dX10_added3_15 ?_
    refine ii_X10_229 dX10_added3_17 (c_X10_sign q (by decide)) mw_o (by decide) (Nat.le_of_ble_eq_true rfl) ?_
    refine x_if_eq 66 dX10_added3_20 (fun _ => ?_) (fun hx => absurd (bi0.mpr (fun z => hq (qPl_iff.mpr (Or.inr z)))) hx)
    refine x_iload_n dX10_added3_66 rfl ?_
    exact Ex.ret (v := some (.int _)) ⟨dX10_added3_67, _, rfl, by first | rfl | decide⟩ ⟨_, _, _, _, _, _, _, rfl, rfl, by rw [← he]; exact q, by rw [← he]; exact hv⟩
  | succ f ih =>
    intro s' x h to t tw ba fa q hc hK hf hv he
    by_cases hq : qPl (g_to s') = true
    · obtain ⟨⟨n2, n0⟩, ⟨c1, k1⟩, ⟨w3, c3, k3, f3⟩, e3⟩ := lp_go hn hg rfl rfl q.1 hc hK hf hq
      rcases qPl_iff.mp hq with hz | hz
      · skip
        refine x_aload_n dX10_added3_5 rfl ?_
        refine x_bipush 43 dX10_added3_6 ?_
        refine ii_X10_229 dX10_added3_8 (c_X10_sign q (by decide)) mw_o (by decide) (Nat.le_of_ble_eq_true rfl) ?_
        refine x_if_ne 23 dX10_added3_11 (fun _ => ?_) (fun hx => absurd hx (bi1.mpr hz))
        refine x_aload_n dX10_added3_23 rfl ?_
        refine mg_182 dX10_added3_24 ?_
        refine x_ldc2_w dX10_added3_27 kk_X10_246 ?_
        refine x_lcmp dX10_added3_30 ?_
        refine x_if_ne 38 dX10_added3_31 (fun hx => absurd ((lg_cmp_eq _ _).mpr ((LR_tw q (by rw [hz]; decide)).trans (by rw [hz]; decide))) hx) (fun _ => ?_)
        refine x_iconst 1 dX10_added3_34 ?_
        refine x_goto 39 dX10_added3_35 ?_
        refine x_istore_n dX10_added3_39 (by decide) ?_
        refine x_aload_n dX10_added3_40 rfl ?_
        refine iv_X10_204 dX10_added3_41 (c_X10_nextR hr hn hb hbp q n2) mw_o (by decide) (Nat.le_of_ble_eq_true rfl) (fun v_41 w_41 hw_41 => ?_)
        obtain ⟨h1, to1, t1, tw1, rfl, rfl, q1⟩ := hw_41
        refine x_aload_n dX10_added3_44 rfl ?_
        refine iv_X10_283 dX10_added3_45 (c_X10_term3 hr hn hb hbp q1 c1 k1) mw_o (by decide) (Nat.le_of_ble_eq_true rfl) (fun v_45 w_45 hw_45 => ?_)
        obtain ⟨x2, h2, to2, t2, tw2, ba2, fa2, rfl, rfl, q2, v2⟩ := hw_45
        refine x_istore_n dX10_added3_48 (by decide) ?_
        refine x_iload_n dX10_added3_49 rfl ?_
        refine x_if_eq 59 dX10_added3_50 (fun hx => absurd hx (by decide)) (fun _ => ?_)
        refine x_iload_n dX10_added3_53 rfl ?_
        refine x_iload_n dX10_added3_54 rfl ?_
        refine x_iadd dX10_added3_55 ?_
        refine x_goto 62 dX10_added3_56 ?_
        refine x_istore_n dX10_added3_62 (by decide) ?_
        refine x_goto 5 dX10_added3_63 ?_
        refine Ex.forget (L' := [some (.ref 42), some (.int (x + x2)), none, none]) ⟨rfl, rfl, trivial⟩ ?_
        exact ih _ _ _ _ _ _ _ _ (LR_emt q2) c3 k3 f3 (lp_v hn hg q.1 hc hK n2 n0 hz (by decide) hv v2 (jn_ad x x2).symm) (e3.symm.trans he)
      · skip
        refine x_aload_n dX10_added3_5 rfl ?_
        refine x_bipush 43 dX10_added3_6 ?_
        refine ii_X10_229 dX10_added3_8 (c_X10_sign q (by decide)) mw_o (by decide) (Nat.le_of_ble_eq_true rfl) ?_
        refine x_if_ne 23 dX10_added3_11 (fun hx => absurd (bi0.mpr (fun z => absurd (hz.symm.trans z) (by decide))) hx) (fun _ => ?_)
        refine x_aload_n dX10_added3_14 rfl ?_
        refine x_bipush 45 dX10_added3_15 ?_
        refine ii_X10_229 dX10_added3_17 (c_X10_sign q (by decide)) mw_o (by decide) (Nat.le_of_ble_eq_true rfl) ?_
        refine x_if_eq 66 dX10_added3_20 (fun hx => absurd hx (bi1.mpr hz)) (fun _ => ?_)
        refine x_aload_n dX10_added3_23 rfl ?_
        refine mg_182 dX10_added3_24 ?_
        refine x_ldc2_w dX10_added3_27 kk_X10_246 ?_
        refine x_lcmp dX10_added3_30 ?_
        refine x_if_ne 38 dX10_added3_31 (fun _ => ?_) (fun hx => absurd hx (fun z => absurd (((lg_cmp_eq _ _).mp z).symm.trans ((LR_tw q (by rw [hz]; decide)).trans (by rw [hz]))) (by decide)))
        refine x_iconst 0 dX10_added3_38 ?_
        refine x_istore_n dX10_added3_39 (by decide) ?_
        refine x_aload_n dX10_added3_40 rfl ?_
        refine iv_X10_204 dX10_added3_41 (c_X10_nextR hr hn hb hbp q n2) mw_o (by decide) (Nat.le_of_ble_eq_true rfl) (fun v_41 w_41 hw_41 => ?_)
        obtain ⟨h1, to1, t1, tw1, rfl, rfl, q1⟩ := hw_41
        refine x_aload_n dX10_added3_44 rfl ?_
        refine iv_X10_283 dX10_added3_45 (c_X10_term3 hr hn hb hbp q1 c1 k1) mw_o (by decide) (Nat.le_of_ble_eq_true rfl) (fun v_45 w_45 hw_45 => ?_)
        obtain ⟨x2, h2, to2, t2, tw2, ba2, fa2, rfl, rfl, q2, v2⟩ := hw_45
        refine x_istore_n dX10_added3_48 (by decide) ?_
        refine x_iload_n dX10_added3_49 rfl ?_
        refine x_if_eq 59 dX10_added3_50 (fun _ => ?_) (fun hx => absurd (rfl) hx)
        refine x_iload_n dX10_added3_59 rfl ?_
        refine x_iload_n dX10_added3_60 rfl ?_
        refine x_isub dX10_added3_61 ?_
        refine x_istore_n dX10_added3_62 (by decide) ?_
        refine x_goto 5 dX10_added3_63 ?_
        refine Ex.forget (L' := [some (.ref 42), some (.int (x - x2)), none, none]) ⟨rfl, rfl, trivial⟩ ?_
        exact ih _ _ _ _ _ _ _ _ (LR_emt q2) c3 k3 f3 (lp_v hn hg q.1 hc hK n2 n0 hz (by decide) hv v2 (jn_sb x x2).symm) (e3.symm.trans he)
    · rw [lp_no hq] at he
      refine x_aload_n dX10_added3_5 rfl ?_
      refine x_bipush 43 dX10_added3_6 ?_
      refine ii_X10_229 dX10_added3_8 (c_X10_sign q (by decide)) mw_o (by decide) (Nat.le_of_ble_eq_true rfl) ?_
      refine x_if_ne 23 dX10_added3_11 (fun hx => absurd (bi0.mpr (fun z => hq (qPl_iff.mpr (Or.inl z)))) hx) (fun _ => ?_)
      refine x_aload_n dX10_added3_14 rfl ?_
      refine x_bipush 45 dX10_added3_15 ?_
      refine ii_X10_229 dX10_added3_17 (c_X10_sign q (by decide)) mw_o (by decide) (Nat.le_of_ble_eq_true rfl) ?_
      refine x_if_eq 66 dX10_added3_20 (fun _ => ?_) (fun hx => absurd (bi0.mpr (fun z => hq (qPl_iff.mpr (Or.inr z)))) hx)
      refine x_iload_n dX10_added3_66 rfl ?_
      exact Ex.ret (v := some (.int _)) ⟨dX10_added3_67, _, rfl, by first | rfl | decide⟩ ⟨_, _, _, _, _, _, _, rfl, rfl, by rw [← he]; exact q, by rw [← he]; exact hv⟩
set_option maxRecDepth 100000 in
set_option maxHeartbeats 4000000 in
theorem c_X10_not3 {X : Nat × (Nat → Int32)} {S : CS} {tl : pc_W} {tx : (Nat → Int32)} {ts : (Nat → Int32)} {tc : Int32} {tp : (Nat → Int32)} {tn : Int32} {U : MU} {o : (Nat → Int32)} {to : Int32} {tw : Int64} {ba : Int32} {fa : Int32} {C : MC} {K : MK} {H : MH} {r n h t : Nat} {b : Nat → Int32} {s : PS} (hr : r < 6) (hn : n ≤ 160) (hb : ∀ i, i < n → tx (160 * r + i) = b i) (hbp : ∀ i, i < n → 0 ≤ b i) (q : LR b n s h to t tw ba fa) (hc : g_cz s ≤ g_pl s) (hK : g_op s = 3): Mt X 19 0 0 yX10_not3 cX10_not3 4 (some .int) [.ref 42] (cst S ++ (mw (tx, ts, tc, tp, tn) U (o, nI (160 * r), nI n, nI h, to, nI t, tw, (nI 3), ba, fa) C K H ++ tl)) (fun v w' => ∃ (x : Int32) (h' : Nat) (to' : Int32) (t' : Nat) (tw' : Int64) (ba' fa' : Int32), v = some (.int x) ∧ w' = cst S ++ (mw (tx, ts, tc, tp, tn) U (o, nI (160 * r), nI n, nI h', to', nI t', tw', (nI 3), ba', fa') C K H ++ tl) ∧ LR b n (lvN b n (lev b n 2) s) h' to' t' tw' ba' fa' ∧ VR o (g_cz s) (lvN b n (lev b n 2) s) x) := by
  refine Mt.of (by decide +kernel) (fun _ _ => Nat.le_of_ble_eq_true rfl) ?_
  show Ex X mX10_not3 _ _ _ _ _ _ _ _
  refine x_aload_n dX10_not3_0 rfl ?_
  refine x_bipush 110 dX10_not3_1 ?_
  refine x_bipush 111 dX10_not3_3 ?_
  refine x_bipush 116 dX10_not3_5 ?_
  refine x_iconst 0 dX10_not3_7 ?_
  refine x_iconst 0 dX10_not3_8 ?_
  refine x_iconst 0 dX10_not3_9 ?_
  refine x_iconst 0 dX10_not3_10 ?_
  refine x_iconst 0 dX10_not3_11 ?_
  refine ii_X10_207 dX10_not3_12 (c_X10_word (w := 211) hr hn hb q (by decide) (by decide) wl_211) mw_o (by decide) (Nat.le_of_ble_eq_true rfl) ?_
  refine x_if_eq 52 dX10_not3_15 (fun h_15 => ?_) (fun h_15 => ?_)
  · have hz : ¬ g_to s = 211 := bi0.mp h_15
    refine x_aload_n dX10_not3_52 rfl ?_
    refine iv_X10_286 dX10_not3_53 (c_X10_added3 hr hn hb hbp q hc hK) mw_o (by decide) (Nat.le_of_ble_eq_true rfl) (fun v_53 w_53 hw_53 => ?_)
    obtain ⟨x1, h1, to1, t1, tw1, ba1, fa1, rfl, rfl, q1, v1⟩ := hw_53
    refine x_istore_n dX10_not3_56 (by decide) ?_
    refine x_aload_n dX10_not3_57 rfl ?_
    refine x_bipush 60 dX10_not3_58 ?_
    refine ii_X10_229 dX10_not3_60 (c_X10_sign q1 (by decide)) mw_o (by decide) (Nat.le_of_ble_eq_true rfl) ?_
    have hg := (lv_gf (b := b) hn 2 3 rfl).2.2.1
    have hs1 := (hg s q.1 hc hK).1
    by_cases hzlt : g_to (lvM b n (lev b n 2) s) = 60
    · have n2 : ¬ g_to (lvM b n (lev b n 2) s) = 2 := by rw [hzlt]; decide
      have n0 : ¬ g_to (lvM b n (lev b n 2) s) = 0 := by rw [hzlt]; decide
      have ha := hs1.tr (adv_gd (b := b) hn hs1.1 n2 n0)
      have c2 := ha.cz hc
      have k2 := ha.2.1.trans hK
      refine x_if_ne 77 dX10_not3_63 (fun _ => ?_) (fun hx => absurd hx (bi1.mpr hzlt))
      refine x_aload_n dX10_not3_77 rfl ?_
      refine mg_182 dX10_not3_78 ?_
      refine x_ldc2_w dX10_not3_81 kk_X10_251 ?_
      refine x_lcmp dX10_not3_84 ?_
      refine x_if_ne 92 dX10_not3_85 (fun hx => absurd ((lg_cmp_eq _ _).mpr ((LR_tw q1 (by rw [hzlt]; decide)).trans (by rw [hzlt]; decide))) hx) (fun _ => ?_)
      refine x_iconst 1 dX10_not3_88 ?_
      refine x_goto 93 dX10_not3_89 ?_
      refine x_istore_n dX10_not3_93 (by decide) ?_
      refine x_aload_n dX10_not3_94 rfl ?_
      refine iv_X10_204 dX10_not3_95 (c_X10_nextR hr hn hb hbp q1 n2) mw_o (by decide) (Nat.le_of_ble_eq_true rfl) (fun v_95 w_95 hw_95 => ?_)
      obtain ⟨h2, to2, t2, tw2, rfl, rfl, q2⟩ := hw_95
      refine x_aload_n dX10_not3_98 rfl ?_
      refine iv_X10_286 dX10_not3_99 (c_X10_added3 hr hn hb hbp q2 (by omega) k2) mw_o (by decide) (Nat.le_of_ble_eq_true rfl) (fun v_99 w_99 hw_99 => ?_)
      obtain ⟨x3, h3, to3, t3, tw3, ba3, fa3, rfl, rfl, q3, v3⟩ := hw_99
      refine x_istore_n dX10_not3_102 (by decide) ?_
      refine x_iload_n dX10_not3_103 rfl ?_
      refine x_if_eq 115 dX10_not3_104 (fun hx => absurd hx (by decide)) (fun _ => ?_)
      refine x_iload_n dX10_not3_107 rfl ?_
      refine x_iload_n dX10_not3_108 rfl ?_
      refine x_icmp_ge 124 dX10_not3_109 (fun h_109 => ?_) (fun h_109 => ?_)
      · refine x_iconst 0 dX10_not3_124 ?_
        have zz := fin_cmp (v := 0) (k := 2) hn q.1 hc hK rfl hz (Or.inl hzlt) q3 v1 v3 (by rw [hzlt]; exact (bi_f (Int32.not_lt.mpr h_109)).symm)
        exact Ex.ret (v := some (.int _)) ⟨dX10_not3_125, _, rfl, by first | rfl | decide⟩ ⟨_, _, _, _, _, _, _, rfl, rfl, zz⟩
      · refine x_goto 120 dX10_not3_112 ?_
        refine x_iconst 1 dX10_not3_120 ?_
        refine x_goto 125 dX10_not3_121 ?_
        have zz := fin_cmp (v := 1) (k := 2) hn q.1 hc hK rfl hz (Or.inl hzlt) q3 v1 v3 (by rw [hzlt]; exact (bi_t (Int32.not_le.mp h_109)).symm)
        exact Ex.ret (v := some (.int _)) ⟨dX10_not3_125, _, rfl, by first | rfl | decide⟩ ⟨_, _, _, _, _, _, _, rfl, rfl, zz⟩
    by_cases hzeq : g_to (lvM b n (lev b n 2) s) = 61
    · have n2 : ¬ g_to (lvM b n (lev b n 2) s) = 2 := by rw [hzeq]; decide
      have n0 : ¬ g_to (lvM b n (lev b n 2) s) = 0 := by rw [hzeq]; decide
      have ha := hs1.tr (adv_gd (b := b) hn hs1.1 n2 n0)
      have c2 := ha.cz hc
      have k2 := ha.2.1.trans hK
      refine x_if_ne 77 dX10_not3_63 (fun hx => absurd (bi0.mpr hzlt) hx) (fun _ => ?_)
      refine x_aload_n dX10_not3_66 rfl ?_
      refine x_bipush 61 dX10_not3_67 ?_
      refine ii_X10_229 dX10_not3_69 (c_X10_sign q1 (by decide)) mw_o (by decide) (Nat.le_of_ble_eq_true rfl) ?_
      refine x_if_ne 77 dX10_not3_72 (fun _ => ?_) (fun hx => absurd hx (bi1.mpr hzeq))
      refine x_aload_n dX10_not3_77 rfl ?_
      refine mg_182 dX10_not3_78 ?_
      refine x_ldc2_w dX10_not3_81 kk_X10_251 ?_
      refine x_lcmp dX10_not3_84 ?_
      refine x_if_ne 92 dX10_not3_85 (fun _ => ?_) (fun hx => absurd hx (fun z => absurd (((lg_cmp_eq _ _).mp z).symm.trans ((LR_tw q1 (by rw [hzeq]; decide)).trans (by rw [hzeq]))) (by decide)))
      refine x_iconst 0 dX10_not3_92 ?_
      refine x_istore_n dX10_not3_93 (by decide) ?_
      refine x_aload_n dX10_not3_94 rfl ?_
      refine iv_X10_204 dX10_not3_95 (c_X10_nextR hr hn hb hbp q1 n2) mw_o (by decide) (Nat.le_of_ble_eq_true rfl) (fun v_95 w_95 hw_95 => ?_)
      obtain ⟨h2, to2, t2, tw2, rfl, rfl, q2⟩ := hw_95
      refine x_aload_n dX10_not3_98 rfl ?_
      refine iv_X10_286 dX10_not3_99 (c_X10_added3 hr hn hb hbp q2 (by omega) k2) mw_o (by decide) (Nat.le_of_ble_eq_true rfl) (fun v_99 w_99 hw_99 => ?_)
      obtain ⟨x3, h3, to3, t3, tw3, ba3, fa3, rfl, rfl, q3, v3⟩ := hw_99
      refine x_istore_n dX10_not3_102 (by decide) ?_
      refine x_iload_n dX10_not3_103 rfl ?_
      refine x_if_eq 115 dX10_not3_104 (fun _ => ?_) (fun hx => absurd (rfl) hx)
      refine x_iload_n dX10_not3_115 rfl ?_
      refine x_iload_n dX10_not3_116 rfl ?_
      refine x_icmp_ne 124 dX10_not3_117 (fun h_117 => ?_) (fun h_117 => ?_)
      · refine x_iconst 0 dX10_not3_124 ?_
        have zz := fin_cmp (v := 0) (k := 2) hn q.1 hc hK rfl hz (Or.inr hzeq) q3 v1 v3 (by rw [hzeq]; exact (bi_f h_117).symm)
        exact Ex.ret (v := some (.int _)) ⟨dX10_not3_125, _, rfl, by first | rfl | decide⟩ ⟨_, _, _, _, _, _, _, rfl, rfl, zz⟩
      · refine x_iconst 1 dX10_not3_120 ?_
        refine x_goto 125 dX10_not3_121 ?_
        have zz := fin_cmp (v := 1) (k := 2) hn q.1 hc hK rfl hz (Or.inr hzeq) q3 v1 v3 (by rw [hzeq]; exact (bi_t h_117).symm)
        exact Ex.ret (v := some (.int _)) ⟨dX10_not3_125, _, rfl, by first | rfl | decide⟩ ⟨_, _, _, _, _, _, _, rfl, rfl, zz⟩
    refine x_if_ne 77 dX10_not3_63 (fun hx => absurd (bi0.mpr hzlt) hx) (fun _ => ?_)
    refine x_aload_n dX10_not3_66 rfl ?_
    refine x_bipush 61 dX10_not3_67 ?_
    refine ii_X10_229 dX10_not3_69 (c_X10_sign q1 (by decide)) mw_o (by decide) (Nat.le_of_ble_eq_true rfl) ?_
    refine x_if_ne 77 dX10_not3_72 (fun hx => absurd (bi0.mpr hzeq) hx) (fun _ => ?_)
    refine x_iload_n dX10_not3_75 rfl ?_
    have zz := fin_sum (k := 2) hz hzlt hzeq q1 v1
    exact Ex.ret (v := some (.int _)) ⟨dX10_not3_76, _, rfl, by first | rfl | decide⟩ ⟨_, _, _, _, _, _, _, rfl, rfl, zz⟩
  have hz : g_to s = 211 := bi1.mp h_15
  refine x_aload_n dX10_not3_18 rfl ?_
  refine iv_X10_232 dX10_not3_19 (c_X10_opens_y hr hn hb hbp q (by rw [hz]; decide) (by decide)) mw_o (by decide) (Nat.le_of_ble_eq_true rfl) (fun v_19 w_19 hw_19 => ?_)
  obtain ⟨h1, to1, t1, tw1, rfl, rfl, q1⟩ := hw_19
  obtain ⟨c1, k1, e1⟩ := in_pre (b := b) hn q.1 hc hK (by rw [hz]; decide) (by rw [hz]; decide)
  refine x_if_ne 27 dX10_not3_22 (fun _ => ?_) (fun hx => absurd hx (by decide))
  refine x_aload_n dX10_not3_27 rfl ?_
  refine iv_X10_271 dX10_not3_28 (c_X10_not4 hr hn hb hbp q1 c1 k1) mw_o (by decide) (Nat.le_of_ble_eq_true rfl) (fun v_28 w_28 hw_28 => ?_)
  obtain ⟨x2, h2, to2, t2, tw2, ba2, fa2, rfl, rfl, q2, v2⟩ := hw_28
  refine x_istore_n dX10_not3_31 (by decide) ?_
  refine x_aload_n dX10_not3_32 rfl ?_
  refine x_dup dX10_not3_33 ?_
  refine mg_198 dX10_not3_34 ?_
  refine x_iconst 1 dX10_not3_37 ?_
  refine x_isub dX10_not3_38 ?_
  rw [show nI 4 - 1 = nI 3 from nI_pred 3]
  refine mp_198 dX10_not3_39 ?_
  refine x_iload_n dX10_not3_42 rfl ?_
  refine x_if_ne 50 dX10_not3_43 (fun h_43 => ?_) (fun h_43 => ?_)
  · refine x_iconst 0 dX10_not3_50 ?_
    have zz := fin_not (y := 0) (k := 1) hn q.1 hc hK rfl hz q2 v2 (bi_f h_43).symm
    exact Ex.ret (v := some (.int _)) ⟨dX10_not3_51, _, rfl, by first | rfl | decide⟩ ⟨_, _, _, _, _, _, _, rfl, rfl, zz⟩
  · refine x_iconst 1 dX10_not3_46 ?_
    refine x_goto 51 dX10_not3_47 ?_
    have zz := fin_not (y := 1) (k := 1) hn q.1 hc hK rfl hz q2 v2 (bi_t h_43).symm
    exact Ex.ret (v := some (.int _)) ⟨dX10_not3_51, _, rfl, by first | rfl | decide⟩ ⟨_, _, _, _, _, _, _, rfl, rfl, zz⟩
set_option maxRecDepth 100000 in
set_option maxHeartbeats 4000000 in
theorem c_X10_both3 {X : Nat × (Nat → Int32)} {S : CS} {tl : pc_W} {tx : (Nat → Int32)} {ts : (Nat → Int32)} {tc : Int32} {tp : (Nat → Int32)} {tn : Int32} {U : MU} {o : (Nat → Int32)} {to : Int32} {tw : Int64} {ba : Int32} {fa : Int32} {C : MC} {K : MK} {H : MH} {r n h t : Nat} {b : Nat → Int32} {s : PS} (hr : r < 6) (hn : n ≤ 160) (hb : ∀ i, i < n → tx (160 * r + i) = b i) (hbp : ∀ i, i < n → 0 ≤ b i) (q : LR b n s h to t tw ba fa) (hc : g_cz s ≤ g_pl s) (hK : g_op s = 3): Mt X 20 0 0 yX10_both3 cX10_both3 3 (some .int) [.ref 42] (cst S ++ (mw (tx, ts, tc, tp, tn) U (o, nI (160 * r), nI n, nI h, to, nI t, tw, (nI 3), ba, fa) C K H ++ tl)) (fun v w' => ∃ (x : Int32) (h' : Nat) (to' : Int32) (t' : Nat) (tw' : Int64) (ba' fa' : Int32), v = some (.int x) ∧ w' = cst S ++ (mw (tx, ts, tc, tp, tn) U (o, nI (160 * r), nI n, nI h', to', nI t', tw', (nI 3), ba', fa') C K H ++ tl) ∧ LR b n (lvJ b n (lev b n 2) s) h' to' t' tw' ba' fa' ∧ VR o (g_cz s) (lvJ b n (lev b n 2) s) x) := by
  refine Mt.of (by decide +kernel) (fun _ _ => Nat.le_of_ble_eq_true rfl) ?_
  show Ex X mX10_both3 _ _ _ _ _ _ _ _
  refine x_aload_n dX10_both3_0 rfl ?_
  refine iv_X10_289 dX10_both3_1 (c_X10_not3 hr hn hb hbp q hc hK) mw_o (by decide) (Nat.le_of_ble_eq_true rfl) (fun v_1 w_1 hw_1 => ?_)
  obtain ⟨x1, h1, to1, t1, tw1, ba1, fa1, rfl, rfl, q1, v1⟩ := hw_1
  refine x_istore_n dX10_both3_4 (by decide) ?_
  have hg := (lv_gf (b := b) hn 2 3 rfl).2.2.2.1
  have hc1 := (hg s q.1 hc hK).1.cz hc
  refine Ex.forget (L' := [some (.ref 42), some (.int x1), none]) ⟨rfl, rfl, trivial⟩ ?_
  suffices hL : ∀ (f : Nat) (s' : PS) (x : Int32) (h : Nat) (to : Int32) (t : Nat) (tw : Int64) (ba fa : Int32), LR b n s' h to t tw ba fa → g_cz s' ≤ g_pl s' → g_op s' = 3 → n ≤ f + g_pl s' → VR o (g_cz s) s' x → lpG b n qAn (lvN b n (lev b n 2)) f s' = lvJ b n (lev b n 2) s → Ex X mX10_both3 20 (fun v w' => ∃ (x : Int32) (h' : Nat) (to' : Int32) (t' : Nat) (tw' : Int64) (ba' fa' : Int32), v = some (.int x) ∧ w' = cst S ++ (mw (tx, ts, tc, tp, tn) U (o, nI (160 * r), nI n, nI h', to', nI t', tw', (nI 3), ba', fa') C K H ++ tl) ∧ LR b n (lvJ b n (lev b n 2) s) h' to' t' tw' ba' fa' ∧ VR o (g_cz s) (lvJ b n (lev b n 2) s) x) 0 0 5 [some (.ref 42), some (.int x), none] [] (cst S ++ (mw (tx, ts, tc, tp, tn) U (o, nI (160 * r), nI n, nI h, to, nI t, tw, (nI 3), ba, fa) C K H ++ tl)) from hL 160 _ _ _ _ _ _ _ _ q1 hc1 ((hg s q.1 hc hK).1.2.1.trans hK) (by omega) v1 rfl
  intro f
  induction f with
  | zero =>
    intro s' x h to t tw ba fa q hc hK hf hv he
    have hq := lp_0 (q := qAn) rfl rfl q.1 hf
    have he : s' = _ := he
    refine x_aload_n dX10_both3_5 rfl ?_
    refine x_bipush 97 dX10_both3_6 ?_
    refine x_bipush 110 dX10_both3_8 ?_
    refine x_bipush 100 dX10_both3_10 ?_
    refine x_iconst 0 dX10_both3_12 ?_
    refine x_iconst 0 dX10_both3_13 ?_
    refine x_iconst 0 dX10_both3_14 ?_
    refine x_iconst 0 dX10_both3_15 ?_
    refine x_iconst 0 dX10_both3_16 ?_
    refine ii_X10_207 dX10_both3_17 (c_X10_word (w := 210) hr hn hb q (by decide) (by decide) wl_210) mw_o (by decide) (Nat.le_of_ble_eq_true rfl) ?_
    refine x_if_eq 49 dX10_both3_20 (fun _ => ?_) (fun hx => absurd (bi0.mpr (fun z => hq (qAn_iff.mpr z))) hx)
    refine x_iload_n dX10_both3_49 rfl ?_
    exact Ex.ret (v := some (.int _)) ⟨dX10_both3_50, _, rfl, by first | rfl | decide⟩ ⟨_, _, _, _, _, _, _, rfl, rfl, by rw [← he]; exact q, by rw [← he]; exact hv⟩
  | succ f ih =>
    intro s' x h to t tw ba fa q hc hK hf hv he
    by_cases hq : qAn (g_to s') = true
    · obtain ⟨⟨n2, n0⟩, ⟨c1, k1⟩, ⟨w3, c3, k3, f3⟩, e3⟩ := lp_go hn hg rfl rfl q.1 hc hK hf hq
      have hz := qAn_iff.mp hq
      refine x_aload_n dX10_both3_5 rfl ?_
      refine x_bipush 97 dX10_both3_6 ?_
      refine x_bipush 110 dX10_both3_8 ?_
      refine x_bipush 100 dX10_both3_10 ?_
      refine x_iconst 0 dX10_both3_12 ?_
      refine x_iconst 0 dX10_both3_13 ?_
      refine x_iconst 0 dX10_both3_14 ?_
      refine x_iconst 0 dX10_both3_15 ?_
      refine x_iconst 0 dX10_both3_16 ?_
      refine ii_X10_207 dX10_both3_17 (c_X10_word (w := 210) hr hn hb q (by decide) (by decide) wl_210) mw_o (by decide) (Nat.le_of_ble_eq_true rfl) ?_
      refine x_if_eq 49 dX10_both3_20 (fun hx => absurd hx (bi1.mpr hz)) (fun _ => ?_)
      refine x_aload_n dX10_both3_23 rfl ?_
      refine iv_X10_204 dX10_both3_24 (c_X10_nextR hr hn hb hbp q n2) mw_o (by decide) (Nat.le_of_ble_eq_true rfl) (fun v_24 w_24 hw_24 => ?_)
      obtain ⟨h1, to1, t1, tw1, rfl, rfl, q1⟩ := hw_24
      refine x_aload_n dX10_both3_27 rfl ?_
      refine iv_X10_289 dX10_both3_28 (c_X10_not3 hr hn hb hbp q1 c1 k1) mw_o (by decide) (Nat.le_of_ble_eq_true rfl) (fun v_28 w_28 hw_28 => ?_)
      obtain ⟨x2, h2, to2, t2, tw2, ba2, fa2, rfl, rfl, q2, v2⟩ := hw_28
      refine x_istore_n dX10_both3_31 (by decide) ?_
      refine x_iload_n dX10_both3_32 rfl ?_
      refine x_if_eq 44 dX10_both3_33 (fun h_33 => ?_) (fun h_33 => ?_)
      · refine x_iconst 0 dX10_both3_44 ?_
        refine x_istore_n dX10_both3_45 (by decide) ?_
        refine x_goto 5 dX10_both3_46 ?_
        refine Ex.forget (L' := [some (.ref 42), some (.int 0), none]) ⟨rfl, rfl, trivial⟩ ?_
        exact ih _ _ _ _ _ _ _ _ (LR_emt q2) c3 k3 f3 (lp_v hn hg q.1 hc hK n2 n0 hz (by decide) hv v2 (show (0 : Int32) = jn 210 x x2 from (bi_f (fun z => z.1 h_33)).symm)) (e3.symm.trans he)
      · refine x_iload_n dX10_both3_36 rfl ?_
        refine x_if_eq 44 dX10_both3_37 (fun h_37 => ?_) (fun h_37 => ?_)
        · refine x_iconst 0 dX10_both3_44 ?_
          refine x_istore_n dX10_both3_45 (by decide) ?_
          refine x_goto 5 dX10_both3_46 ?_
          refine Ex.forget (L' := [some (.ref 42), some (.int 0), none]) ⟨rfl, rfl, trivial⟩ ?_
          exact ih _ _ _ _ _ _ _ _ (LR_emt q2) c3 k3 f3 (lp_v hn hg q.1 hc hK n2 n0 hz (by decide) hv v2 (show (0 : Int32) = jn 210 x x2 from (bi_f (fun z => z.2 h_37)).symm)) (e3.symm.trans he)
        · refine x_iconst 1 dX10_both3_40 ?_
          refine x_goto 45 dX10_both3_41 ?_
          refine x_istore_n dX10_both3_45 (by decide) ?_
          refine x_goto 5 dX10_both3_46 ?_
          refine Ex.forget (L' := [some (.ref 42), some (.int 1), none]) ⟨rfl, rfl, trivial⟩ ?_
          exact ih _ _ _ _ _ _ _ _ (LR_emt q2) c3 k3 f3 (lp_v hn hg q.1 hc hK n2 n0 hz (by decide) hv v2 (show (1 : Int32) = jn 210 x x2 from (bi_t ⟨h_33, h_37⟩).symm)) (e3.symm.trans he)
    · rw [lp_no hq] at he
      refine x_aload_n dX10_both3_5 rfl ?_
      refine x_bipush 97 dX10_both3_6 ?_
      refine x_bipush 110 dX10_both3_8 ?_
      refine x_bipush 100 dX10_both3_10 ?_
      refine x_iconst 0 dX10_both3_12 ?_
      refine x_iconst 0 dX10_both3_13 ?_
      refine x_iconst 0 dX10_both3_14 ?_
      refine x_iconst 0 dX10_both3_15 ?_
      refine x_iconst 0 dX10_both3_16 ?_
      refine ii_X10_207 dX10_both3_17 (c_X10_word (w := 210) hr hn hb q (by decide) (by decide) wl_210) mw_o (by decide) (Nat.le_of_ble_eq_true rfl) ?_
      refine x_if_eq 49 dX10_both3_20 (fun _ => ?_) (fun hx => absurd (bi0.mpr (fun z => hq (qAn_iff.mpr z))) hx)
      refine x_iload_n dX10_both3_49 rfl ?_
      exact Ex.ret (v := some (.int _)) ⟨dX10_both3_50, _, rfl, by first | rfl | decide⟩ ⟨_, _, _, _, _, _, _, rfl, rfl, by rw [← he]; exact q, by rw [← he]; exact hv⟩
set_option maxRecDepth 100000 in
set_option maxHeartbeats 4000000 in
theorem c_X10_either3 {X : Nat × (Nat → Int32)} {S : CS} {tl : pc_W} {tx : (Nat → Int32)} {ts : (Nat → Int32)} {tc : Int32} {tp : (Nat → Int32)} {tn : Int32} {U : MU} {o : (Nat → Int32)} {to : Int32} {tw : Int64} {ba : Int32} {fa : Int32} {C : MC} {K : MK} {H : MH} {r n h t : Nat} {b : Nat → Int32} {s : PS} (hr : r < 6) (hn : n ≤ 160) (hb : ∀ i, i < n → tx (160 * r + i) = b i) (hbp : ∀ i, i < n → 0 ≤ b i) (q : LR b n s h to t tw ba fa) (hc : g_cz s ≤ g_pl s) (hK : g_op s = 3): Mt X 21 0 0 yX10_either3 cX10_either3 3 (some .int) [.ref 42] (cst S ++ (mw (tx, ts, tc, tp, tn) U (o, nI (160 * r), nI n, nI h, to, nI t, tw, (nI 3), ba, fa) C K H ++ tl)) (fun v w' => ∃ (x : Int32) (h' : Nat) (to' : Int32) (t' : Nat) (tw' : Int64) (ba' fa' : Int32), v = some (.int x) ∧ w' = cst S ++ (mw (tx, ts, tc, tp, tn) U (o, nI (160 * r), nI n, nI h', to', nI t', tw', (nI 3), ba', fa') C K H ++ tl) ∧ LR b n (lvE b n (lev b n 2) s) h' to' t' tw' ba' fa' ∧ VR o (g_cz s) (lvE b n (lev b n 2) s) x) := by
  refine Mt.of (by decide +kernel) (fun _ _ => Nat.le_of_ble_eq_true rfl) ?_
  show Ex X mX10_either3 _ _ _ _ _ _ _ _
  refine x_aload_n dX10_either3_0 rfl ?_
  refine iv_X10_292 dX10_either3_1 (c_X10_both3 hr hn hb hbp q hc hK) mw_o (by decide) (Nat.le_of_ble_eq_true rfl) (fun v_1 w_1 hw_1 => ?_)
  obtain ⟨x1, h1, to1, t1, tw1, ba1, fa1, rfl, rfl, q1, v1⟩ := hw_1
  refine x_istore_n dX10_either3_4 (by decide) ?_
  have hg := (lv_gf (b := b) hn 2 3 rfl).2.2.2.2.1
  have hc1 := (hg s q.1 hc hK).1.cz hc
  refine Ex.forget (L' := [some (.ref 42), some (.int x1), none]) ⟨rfl, rfl, trivial⟩ ?_
  suffices hL : ∀ (f : Nat) (s' : PS) (x : Int32) (h : Nat) (to : Int32) (t : Nat) (tw : Int64) (ba fa : Int32), LR b n s' h to t tw ba fa → g_cz s' ≤ g_pl s' → g_op s' = 3 → n ≤ f + g_pl s' → VR o (g_cz s) s' x → lpG b n qOr (lvJ b n (lev b n 2)) f s' = lvE b n (lev b n 2) s → Ex X mX10_either3 21 (fun v w' => ∃ (x : Int32) (h' : Nat) (to' : Int32) (t' : Nat) (tw' : Int64) (ba' fa' : Int32), v = some (.int x) ∧ w' = cst S ++ (mw (tx, ts, tc, tp, tn) U (o, nI (160 * r), nI n, nI h', to', nI t', tw', (nI 3), ba', fa') C K H ++ tl) ∧ LR b n (lvE b n (lev b n 2) s) h' to' t' tw' ba' fa' ∧ VR o (g_cz s) (lvE b n (lev b n 2) s) x) 0 0 5 [some (.ref 42), some (.int x), none] [] (cst S ++ (mw (tx, ts, tc, tp, tn) U (o, nI (160 * r), nI n, nI h, to, nI t, tw, (nI 3), ba, fa) C K H ++ tl)) from hL 160 _ _ _ _ _ _ _ _ q1 hc1 ((hg s q.1 hc hK).1.2.1.trans hK) (by omega) v1 rfl
  intro f
  induction f with
  | zero =>
    intro s' x h to t tw ba fa q hc hK hf hv he
    have hq := lp_0 (q := qOr) rfl rfl q.1 hf
    have he : s' = _ := he
    refine x_aload_n dX10_either3_5 rfl ?_
    refine x_bipush 111 dX10_either3_6 ?_
    refine x_bipush 114 dX10_either3_8 ?_
    refine x_iconst 0 dX10_either3_10 ?_
    refine x_iconst 0 dX10_either3_11 ?_
    refine x_iconst 0 dX10_either3_12 ?_
    refine x_iconst 0 dX10_either3_13 ?_
    refine x_iconst 0 dX10_either3_14 ?_
    refine x_iconst 0 dX10_either3_15 ?_
    refine ii_X10_207 dX10_either3_16 (c_X10_word (w := 209) hr hn hb q (by decide) (by decide) wl_209) mw_o (by decide) (Nat.le_of_ble_eq_true rfl) ?_
    refine x_if_eq 48 dX10_either3_19 (fun _ => ?_) (fun hx => absurd (bi0.mpr (fun z => hq (qOr_iff.mpr z))) hx)
    refine x_iload_n dX10_either3_48 rfl ?_
    exact Ex.ret (v := some (.int _)) ⟨dX10_either3_49, _, rfl, by first | rfl | decide⟩ ⟨_, _, _, _, _, _, _, rfl, rfl, by rw [← he]; exact q, by rw [← he]; exact hv⟩
  | succ f ih =>
    intro s' x h to t tw ba fa q hc hK hf hv he
    by_cases hq : qOr (g_to s') = true
    · obtain ⟨⟨n2, n0⟩, ⟨c1, k1⟩, ⟨w3, c3, k3, f3⟩, e3⟩ := lp_go hn hg rfl rfl q.1 hc hK hf hq
      have hz := qOr_iff.mp hq
      refine x_aload_n dX10_either3_5 rfl ?_
      refine x_bipush 111 dX10_either3_6 ?_
      refine x_bipush 114 dX10_either3_8 ?_
      refine x_iconst 0 dX10_either3_10 ?_
      refine x_iconst 0 dX10_either3_11 ?_
      refine x_iconst 0 dX10_either3_12 ?_
      refine x_iconst 0 dX10_either3_13 ?_
      refine x_iconst 0 dX10_either3_14 ?_
      refine x_iconst 0 dX10_either3_15 ?_
      refine ii_X10_207 dX10_either3_16 (c_X10_word (w := 209) hr hn hb q (by decide) (by decide) wl_209) mw_o (by decide) (Nat.le_of_ble_eq_true rfl) ?_
      refine x_if_eq 48 dX10_either3_19 (fun hx => absurd hx (bi1.mpr hz)) (fun _ => ?_)
      refine x_aload_n dX10_either3_22 rfl ?_
      refine iv_X10_204 dX10_either3_23 (c_X10_nextR hr hn hb hbp q n2) mw_o (by decide) (Nat.le_of_ble_eq_true rfl) (fun v_23 w_23 hw_23 => ?_)
      obtain ⟨h1, to1, t1, tw1, rfl, rfl, q1⟩ := hw_23
      refine x_aload_n dX10_either3_26 rfl ?_
      refine iv_X10_292 dX10_either3_27 (c_X10_both3 hr hn hb hbp q1 c1 k1) mw_o (by decide) (Nat.le_of_ble_eq_true rfl) (fun v_27 w_27 hw_27 => ?_)
      obtain ⟨x2, h2, to2, t2, tw2, ba2, fa2, rfl, rfl, q2, v2⟩ := hw_27
      refine x_istore_n dX10_either3_30 (by decide) ?_
      refine x_iload_n dX10_either3_31 rfl ?_
      refine x_if_ne 39 dX10_either3_32 (fun h_32 => ?_) (fun h_32 => ?_)
      · refine x_iconst 1 dX10_either3_39 ?_
        refine x_goto 44 dX10_either3_40 ?_
        refine x_istore_n dX10_either3_44 (by decide) ?_
        refine x_goto 5 dX10_either3_45 ?_
        refine Ex.forget (L' := [some (.ref 42), some (.int 1), none]) ⟨rfl, rfl, trivial⟩ ?_
        exact ih _ _ _ _ _ _ _ _ (LR_emt q2) c3 k3 f3 (lp_v hn hg q.1 hc hK n2 n0 hz (by decide) hv v2 (show (1 : Int32) = jn 209 x x2 from (bi_t (Or.inl h_32)).symm)) (e3.symm.trans he)
      · refine x_iload_n dX10_either3_35 rfl ?_
        refine x_if_eq 43 dX10_either3_36 (fun h_36 => ?_) (fun h_36 => ?_)
        · refine x_iconst 0 dX10_either3_43 ?_
          refine x_istore_n dX10_either3_44 (by decide) ?_
          refine x_goto 5 dX10_either3_45 ?_
          refine Ex.forget (L' := [some (.ref 42), some (.int 0), none]) ⟨rfl, rfl, trivial⟩ ?_
          exact ih _ _ _ _ _ _ _ _ (LR_emt q2) c3 k3 f3 (lp_v hn hg q.1 hc hK n2 n0 hz (by decide) hv v2 (show (0 : Int32) = jn 209 x x2 from (bi_f (fun z => z.elim (fun y => y h_32) (fun y => y h_36))).symm)) (e3.symm.trans he)
        · refine x_iconst 1 dX10_either3_39 ?_
          refine x_goto 44 dX10_either3_40 ?_
          refine x_istore_n dX10_either3_44 (by decide) ?_
          refine x_goto 5 dX10_either3_45 ?_
          refine Ex.forget (L' := [some (.ref 42), some (.int 1), none]) ⟨rfl, rfl, trivial⟩ ?_
          exact ih _ _ _ _ _ _ _ _ (LR_emt q2) c3 k3 f3 (lp_v hn hg q.1 hc hK n2 n0 hz (by decide) hv v2 (show (1 : Int32) = jn 209 x x2 from (bi_t (Or.inr h_36)).symm)) (e3.symm.trans he)
    · rw [lp_no hq] at he
      refine x_aload_n dX10_either3_5 rfl ?_
      refine x_bipush 111 dX10_either3_6 ?_
      refine x_bipush 114 dX10_either3_8 ?_
      refine x_iconst 0 dX10_either3_10 ?_
      refine x_iconst 0 dX10_either3_11 ?_
      refine x_iconst 0 dX10_either3_12 ?_
      refine x_iconst 0 dX10_either3_13 ?_
      refine x_iconst 0 dX10_either3_14 ?_
      refine x_iconst 0 dX10_either3_15 ?_
      refine ii_X10_207 dX10_either3_16 (c_X10_word (w := 209) hr hn hb q (by decide) (by decide) wl_209) mw_o (by decide) (Nat.le_of_ble_eq_true rfl) ?_
      refine x_if_eq 48 dX10_either3_19 (fun _ => ?_) (fun hx => absurd (bi0.mpr (fun z => hq (qOr_iff.mpr z))) hx)
      refine x_iload_n dX10_either3_48 rfl ?_
      exact Ex.ret (v := some (.int _)) ⟨dX10_either3_49, _, rfl, by first | rfl | decide⟩ ⟨_, _, _, _, _, _, _, rfl, rfl, by rw [← he]; exact q, by rw [← he]; exact hv⟩
set_option maxRecDepth 100000 in
set_option maxHeartbeats 4000000 in
theorem c_X10_atom2 {X : Nat × (Nat → Int32)} {S : CS} {tl : pc_W} {tx : (Nat → Int32)} {ts : (Nat → Int32)} {tc : Int32} {tp : (Nat → Int32)} {tn : Int32} {U : MU} {o : (Nat → Int32)} {to : Int32} {tw : Int64} {ba : Int32} {fa : Int32} {C : MC} {K : MK} {H : MH} {r n h t : Nat} {b : Nat → Int32} {s : PS} (hr : r < 6) (hn : n ≤ 160) (hb : ∀ i, i < n → tx (160 * r + i) = b i) (hbp : ∀ i, i < n → 0 ≤ b i) (q : LR b n s h to t tw ba fa) (hc : g_cz s ≤ g_pl s) (hK : g_op s = 2): Mt X 22 0 0 yX10_atom2 cX10_atom2 2 (some .int) [.ref 42] (cst S ++ (mw (tx, ts, tc, tp, tn) U (o, nI (160 * r), nI n, nI h, to, nI t, tw, (nI 2), ba, fa) C K H ++ tl)) (fun v w' => ∃ (x : Int32) (h' : Nat) (to' : Int32) (t' : Nat) (tw' : Int64) (ba' fa' : Int32), v = some (.int x) ∧ w' = cst S ++ (mw (tx, ts, tc, tp, tn) U (o, nI (160 * r), nI n, nI h', to', nI t', tw', (nI 2), ba', fa') C K H ++ tl) ∧ LR b n (lvS b n (lev b n 3) s) h' to' t' tw' ba' fa' ∧ VR o (g_cz s) (lvS b n (lev b n 3) s) x) := by
  refine Mt.of (by decide +kernel) (fun _ _ => Nat.le_of_ble_eq_true rfl) ?_
  show Ex X mX10_atom2 _ _ _ _ _ _ _ _
  refine x_iconst 0 dX10_atom2_0 ?_
  refine x_istore_n dX10_atom2_1 (by decide) ?_
  refine x_aload_n dX10_atom2_2 rfl ?_
  refine x_bipush 45 dX10_atom2_3 ?_
  refine ii_X10_229 dX10_atom2_5 (c_X10_sign q (by decide)) mw_o (by decide) (Nat.le_of_ble_eq_true rfl) ?_
  refine x_if_eq 37 dX10_atom2_8 (fun h_8 => ?_) (fun h_8 => ?_)
  · refine x_aload_n dX10_atom2_37 rfl ?_
    refine x_bipush 40 dX10_atom2_38 ?_
    refine ii_X10_229 dX10_atom2_40 (c_X10_sign q (by decide)) mw_o (by decide) (Nat.le_of_ble_eq_true rfl) ?_
    refine x_if_eq 95 dX10_atom2_43 (fun h_43 => ?_) (fun h_43 => ?_)
    · by_cases hz : g_to s = 1
      · obtain ⟨rfl, ht2⟩ := (LR_num q).1.mpr hz
        refine x_aload_n dX10_atom2_95 rfl ?_
        refine mg_188 dX10_atom2_96 ?_
        refine x_if_ne 123 dX10_atom2_99 (fun hx => absurd (rfl) hx) (fun _ => ?_)
        refine x_aload_n dX10_atom2_102 rfl ?_
        refine mg_171 dX10_atom2_103 ?_
        refine x_iconst 2 dX10_atom2_106 ?_
        refine x_icmp_ne 123 dX10_atom2_107 (fun hx => absurd (ht2) hx) (fun _ => ?_)
        refine x_aload_n dX10_atom2_110 rfl ?_
        refine mg_182 dX10_atom2_111 ?_
        refine x_l2i dX10_atom2_114 ?_
        refine x_istore_n dX10_atom2_115 (by decide) ?_
        refine x_aload_n dX10_atom2_116 rfl ?_
        refine iv_X10_204 dX10_atom2_117 (c_X10_nextR (s := emt (g_nu s) s) hr hn hb hbp (LR_emt q) (by rw [(emt_g _ _).2.2.1, hz]; decide)) mw_o (by decide) (Nat.le_of_ble_eq_true rfl) (fun v_117 w_117 hw_117 => ?_)
        obtain ⟨h3, to3, t3, tw3, rfl, rfl, q3⟩ := hw_117
        refine x_goto 161 dX10_atom2_120 ?_
        refine x_iload_n dX10_atom2_161 rfl ?_
        obtain ⟨en, m, hm, em⟩ := (LR_num q).2 hz
        have zz := fin_id (f := lvS b n (lev b n 3)) (nm := o) (lvS_num hz) (q3) ((by rw [en, em]; exact VR_one hn q.1 hc (by rw [hz]; decide) (by rw [hz]; decide) (fun co e1 e2 => GC.lit hm e2 e1) : VR o (g_cz s) (adv b n (emt (g_nu s) s)) tw.toInt32))
        exact Ex.ret (v := some (.int _)) ⟨dX10_atom2_162, _, rfl, by first | rfl | decide⟩ ⟨_, _, _, _, _, _, _, rfl, rfl, zz⟩
      by_cases hw : ba = 0 ∧ to = 1
      · obtain ⟨rfl, ht1⟩ := hw
        refine x_aload_n dX10_atom2_95 rfl ?_
        refine mg_188 dX10_atom2_96 ?_
        refine x_if_ne 123 dX10_atom2_99 (fun hx => absurd (rfl) hx) (fun _ => ?_)
        refine x_aload_n dX10_atom2_102 rfl ?_
        refine mg_171 dX10_atom2_103 ?_
        refine x_iconst 2 dX10_atom2_106 ?_
        refine x_icmp_ne 123 dX10_atom2_107 (fun _ => ?_) (fun hx => absurd hx (by rw [ht1]; decide))
        refine x_aload_n dX10_atom2_123 rfl ?_
        refine mg_188 dX10_atom2_124 ?_
        refine x_if_ne 157 dX10_atom2_127 (fun hx => absurd (rfl) hx) (fun _ => ?_)
        refine x_aload_n dX10_atom2_130 rfl ?_
        refine mg_171 dX10_atom2_131 ?_
        refine x_iconst 1 dX10_atom2_134 ?_
        refine x_icmp_ne 157 dX10_atom2_135 (fun hx => absurd (ht1) hx) (fun _ => ?_)
        refine x_aload_n dX10_atom2_138 rfl ?_
        refine iv_X10_236 dX10_atom2_139 (c_X10_name hr hn hb q) mw_o (by decide) (Nat.le_of_ble_eq_true rfl) (fun v_139 w_139 hw_139 => ?_)
        obtain ⟨x1, ba1, fa1, rfl, rfl, hnm⟩ := hw_139
        rcases hnm with ⟨n1, n2, rfl, rfl, rfl⟩ | ⟨n1, rfl, q1⟩
        · skip
          refine x_istore_n dX10_atom2_142 (by decide) ?_
          refine x_aload_n dX10_atom2_143 rfl ?_
          refine mg_188 dX10_atom2_144 ?_
          refine x_if_ne 161 dX10_atom2_147 (fun hx => absurd (rfl) hx) (fun _ => ?_)
          refine x_aload_n dX10_atom2_150 rfl ?_
          refine iv_X10_204 dX10_atom2_151 (c_X10_nextR (s := emt (-(g_to s)) s) hr hn hb hbp (LR_emt q) (by rw [(emt_g _ _).2.2.1]; exact fun z => by rw [z] at n1; exact absurd n1 (by decide))) mw_o (by decide) (Nat.le_of_ble_eq_true rfl) (fun v_151 w_151 hw_151 => ?_)
          obtain ⟨h3, to3, t3, tw3, rfl, rfl, q3⟩ := hw_151
          refine x_goto 161 dX10_atom2_154 ?_
          refine x_iload_n dX10_atom2_161 rfl ?_
          have zz := fin_id (f := lvS b n (lev b n 3)) (nm := o) (lvS_name ⟨n1, n2⟩) (q3) (VR_one hn q.1 hc (fun z => by rw [z] at n1; exact absurd n1 (by decide)) (fun z => by rw [z] at n1; exact absurd n1 (by decide)) (fun co e1 e2 => GC.name ⟨n1, n2⟩ e2 e1))
          exact Ex.ret (v := some (.int _)) ⟨dX10_atom2_162, _, rfl, by first | rfl | decide⟩ ⟨_, _, _, _, _, _, _, rfl, rfl, zz⟩
        · skip
          refine x_istore_n dX10_atom2_142 (by decide) ?_
          refine x_aload_n dX10_atom2_143 rfl ?_
          refine mg_188 dX10_atom2_144 ?_
          refine x_if_ne 161 dX10_atom2_147 (fun _ => ?_) (fun hx => absurd hx (by decide))
          refine x_iload_n dX10_atom2_161 rfl ?_
          have zz := fin_id (f := lvS b n (lev b n 3)) (nm := o) (lvS_no hz n1 (bi0.mp h_8) (bi0.mp h_43)) (q1) (VR_rfu (x := x1) hn q.1)
          exact Ex.ret (v := some (.int _)) ⟨dX10_atom2_162, _, rfl, by first | rfl | decide⟩ ⟨_, _, _, _, _, _, _, rfl, rfl, zz⟩
      by_cases hb0 : ba = 0
      · subst hb0
        refine x_aload_n dX10_atom2_95 rfl ?_
        refine mg_188 dX10_atom2_96 ?_
        refine x_if_ne 123 dX10_atom2_99 (fun hx => absurd (rfl) hx) (fun _ => ?_)
        refine x_aload_n dX10_atom2_102 rfl ?_
        refine mg_171 dX10_atom2_103 ?_
        refine x_iconst 2 dX10_atom2_106 ?_
        refine x_icmp_ne 123 dX10_atom2_107 (fun _ => ?_) (fun hx => absurd hx (fun z => hz ((LR_num q).1.mp ⟨rfl, z⟩)))
        refine x_aload_n dX10_atom2_123 rfl ?_
        refine mg_188 dX10_atom2_124 ?_
        refine x_if_ne 157 dX10_atom2_127 (fun hx => absurd (rfl) hx) (fun _ => ?_)
        refine x_aload_n dX10_atom2_130 rfl ?_
        refine mg_171 dX10_atom2_131 ?_
        refine x_iconst 1 dX10_atom2_134 ?_
        refine x_icmp_ne 157 dX10_atom2_135 (fun _ => ?_) (fun hx => absurd hx (fun z => hw ⟨rfl, z⟩))
        refine x_aload_n dX10_atom2_157 rfl ?_
        refine iv_X10_201 dX10_atom2_158 (c_X10_failR hn q) mw_o (by decide) (Nat.le_of_ble_eq_true rfl) (fun v_158 w_158 hw_158 => ?_)
        obtain ⟨fa1, rfl, rfl, q1⟩ := hw_158
        refine x_iload_n dX10_atom2_161 rfl ?_
        have zz := fin_id (f := lvS b n (lev b n 3)) (nm := o) (lvS_no hz (fun z => hw ((LR_isw q).2 ⟨z.1, Int32.le_trans z.2 (by decide)⟩)) (bi0.mp h_8) (bi0.mp h_43)) (q1) (VR_rfu (x := 0) hn q.1)
        exact Ex.ret (v := some (.int _)) ⟨dX10_atom2_162, _, rfl, by first | rfl | decide⟩ ⟨_, _, _, _, _, _, _, rfl, rfl, zz⟩
      · skip
        refine x_aload_n dX10_atom2_95 rfl ?_
        refine mg_188 dX10_atom2_96 ?_
        refine x_if_ne 123 dX10_atom2_99 (fun _ => ?_) (fun hx => absurd hx (hb0))
        refine x_aload_n dX10_atom2_123 rfl ?_
        refine mg_188 dX10_atom2_124 ?_
        refine x_if_ne 157 dX10_atom2_127 (fun _ => ?_) (fun hx => absurd hx (hb0))
        refine x_aload_n dX10_atom2_157 rfl ?_
        refine iv_X10_201 dX10_atom2_158 (c_X10_failR hn q) mw_o (by decide) (Nat.le_of_ble_eq_true rfl) (fun v_158 w_158 hw_158 => ?_)
        obtain ⟨fa1, rfl, rfl, q1⟩ := hw_158
        refine x_iload_n dX10_atom2_161 rfl ?_
        have zz := fin_id (f := lvS b n (lev b n 3)) (nm := o) (lvS_no hz (fun z => hw ((LR_isw q).2 ⟨z.1, Int32.le_trans z.2 (by decide)⟩)) (bi0.mp h_8) (bi0.mp h_43)) (q1) (VR_rfu (x := 0) hn q.1)
        exact Ex.ret (v := some (.int _)) ⟨dX10_atom2_162, _, rfl, by first | rfl | decide⟩ ⟨_, _, _, _, _, _, _, rfl, rfl, zz⟩
    have hz := bi1.mp h_43
    refine x_aload_n dX10_atom2_46 rfl ?_
    refine iv_X10_232 dX10_atom2_47 (c_X10_opens_y hr hn hb hbp q (by rw [hz]; decide) (by decide)) mw_o (by decide) (Nat.le_of_ble_eq_true rfl) (fun v_47 w_47 hw_47 => ?_)
    obtain ⟨h1, to1, t1, tw1, rfl, rfl, q1⟩ := hw_47
    obtain ⟨c1, k1, e1⟩ := in_pre (b := b) hn q.1 hc hK (by rw [hz]; decide) (by rw [hz]; decide)
    refine x_if_eq 161 dX10_atom2_50 (fun hx => absurd hx (by decide)) (fun _ => ?_)
    refine x_aload_n dX10_atom2_53 rfl ?_
    refine iv_X10_295 dX10_atom2_54 (c_X10_either3 hr hn hb hbp q1 c1 k1) mw_o (by decide) (Nat.le_of_ble_eq_true rfl) (fun v_54 w_54 hw_54 => ?_)
    obtain ⟨x2, h2, to2, t2, tw2, ba2, fa2, rfl, rfl, q2, v2⟩ := hw_54
    refine x_istore_n dX10_atom2_57 (by decide) ?_
    refine x_aload_n dX10_atom2_58 rfl ?_
    refine x_bipush 41 dX10_atom2_59 ?_
    refine ii_X10_229 dX10_atom2_61 (c_X10_sign q2 (by decide)) mw_o (by decide) (Nat.le_of_ble_eq_true rfl) ?_
    refine x_if_ne 71 dX10_atom2_64 (fun h_64 => ?_) (fun h_64 => ?_)
    · have hz2 := bi1.mp h_64
      obtain ⟨-, rfl, -, -⟩ := LR_ok q2 (by rw [hz2]; decide)
      refine x_aload_n dX10_atom2_71 rfl ?_
      refine x_dup dX10_atom2_72 ?_
      refine mg_198 dX10_atom2_73 ?_
      refine x_iconst 1 dX10_atom2_76 ?_
      refine x_isub dX10_atom2_77 ?_
      rw [show nI 3 - 1 = nI 2 from nI_pred 2]
      refine mp_198 dX10_atom2_78 ?_
      refine x_aload_n dX10_atom2_81 rfl ?_
      refine mg_188 dX10_atom2_82 ?_
      refine x_if_ne 161 dX10_atom2_85 (fun hx => absurd (rfl) hx) (fun _ => ?_)
      refine x_aload_n dX10_atom2_88 rfl ?_
      refine iv_X10_204 dX10_atom2_89 (c_X10_nextR hr hn hb hbp (LR_dec q2) (by rw [to_dec, hz2]; decide)) mw_o (by decide) (Nat.le_of_ble_eq_true rfl) (fun v_89 w_89 hw_89 => ?_)
      obtain ⟨h3, to3, t3, tw3, rfl, rfl, q3⟩ := hw_89
      refine x_goto 161 dX10_atom2_92 ?_
      refine x_iload_n dX10_atom2_161 rfl ?_
      have zz := fin_py (k := 2) hn q.1 hc hK rfl hz hz2 q3 v2
      exact Ex.ret (v := some (.int _)) ⟨dX10_atom2_162, _, rfl, by first | rfl | decide⟩ ⟨_, _, _, _, _, _, _, rfl, rfl, zz⟩
    · have hz2 := bi0.mp h_64
      refine x_aload_n dX10_atom2_67 rfl ?_
      refine iv_X10_201 dX10_atom2_68 (c_X10_failR hn q2) mw_o (by decide) (Nat.le_of_ble_eq_true rfl) (fun v_68 w_68 hw_68 => ?_)
      obtain ⟨fa3, rfl, rfl, q3⟩ := hw_68
      refine x_aload_n dX10_atom2_71 rfl ?_
      refine x_dup dX10_atom2_72 ?_
      refine mg_198 dX10_atom2_73 ?_
      refine x_iconst 1 dX10_atom2_76 ?_
      refine x_isub dX10_atom2_77 ?_
      rw [show nI 3 - 1 = nI 2 from nI_pred 2]
      refine mp_198 dX10_atom2_78 ?_
      refine x_aload_n dX10_atom2_81 rfl ?_
      refine mg_188 dX10_atom2_82 ?_
      refine x_if_ne 161 dX10_atom2_85 (fun _ => ?_) (fun hx => absurd hx (by decide))
      refine x_iload_n dX10_atom2_161 rfl ?_
      have zz := fin_pn (k := 2) hn q.1 hc hK rfl hz hz2 q3 v2
      exact Ex.ret (v := some (.int _)) ⟨dX10_atom2_162, _, rfl, by first | rfl | decide⟩ ⟨_, _, _, _, _, _, _, rfl, rfl, zz⟩
  have hz := bi1.mp h_8
  refine x_aload_n dX10_atom2_11 rfl ?_
  refine iv_X10_232 dX10_atom2_12 (c_X10_opens_y hr hn hb hbp q (by rw [hz]; decide) (by decide)) mw_o (by decide) (Nat.le_of_ble_eq_true rfl) (fun v_12 w_12 hw_12 => ?_)
  obtain ⟨h1, to1, t1, tw1, rfl, rfl, q1⟩ := hw_12
  obtain ⟨c1, k1, e1⟩ := in_pre (b := b) hn q.1 hc hK (by rw [hz]; decide) (by rw [hz]; decide)
  refine x_if_eq 161 dX10_atom2_15 (fun hx => absurd hx (by decide)) (fun _ => ?_)
  refine x_aload_n dX10_atom2_18 rfl ?_
  refine iv_X10_280 dX10_atom2_19 (c_X10_atom3 hr hn hb hbp q1 c1 k1) mw_o (by decide) (Nat.le_of_ble_eq_true rfl) (fun v_19 w_19 hw_19 => ?_)
  obtain ⟨x2, h2, to2, t2, tw2, ba2, fa2, rfl, rfl, q2, v2⟩ := hw_19
  refine x_ineg dX10_atom2_22 ?_
  refine x_istore_n dX10_atom2_23 (by decide) ?_
  refine x_aload_n dX10_atom2_24 rfl ?_
  refine x_dup dX10_atom2_25 ?_
  refine mg_198 dX10_atom2_26 ?_
  refine x_iconst 1 dX10_atom2_29 ?_
  refine x_isub dX10_atom2_30 ?_
  rw [show nI 3 - 1 = nI 2 from nI_pred 2]
  refine mp_198 dX10_atom2_31 ?_
  refine x_goto 161 dX10_atom2_34 ?_
  refine x_iload_n dX10_atom2_161 rfl ?_
  have zz := fin_neg (k := 2) hn q.1 hc hK rfl hz q2 v2
  exact Ex.ret (v := some (.int _)) ⟨dX10_atom2_162, _, rfl, by first | rfl | decide⟩ ⟨_, _, _, _, _, _, _, rfl, rfl, zz⟩
set_option maxRecDepth 100000 in
set_option maxHeartbeats 4000000 in
theorem c_X10_term2 {X : Nat × (Nat → Int32)} {S : CS} {tl : pc_W} {tx : (Nat → Int32)} {ts : (Nat → Int32)} {tc : Int32} {tp : (Nat → Int32)} {tn : Int32} {U : MU} {o : (Nat → Int32)} {to : Int32} {tw : Int64} {ba : Int32} {fa : Int32} {C : MC} {K : MK} {H : MH} {r n h t : Nat} {b : Nat → Int32} {s : PS} (hr : r < 6) (hn : n ≤ 160) (hb : ∀ i, i < n → tx (160 * r + i) = b i) (hbp : ∀ i, i < n → 0 ≤ b i) (q : LR b n s h to t tw ba fa) (hc : g_cz s ≤ g_pl s) (hK : g_op s = 2): Mt X 23 0 0 yX10_term2 cX10_term2 2 (some .int) [.ref 42] (cst S ++ (mw (tx, ts, tc, tp, tn) U (o, nI (160 * r), nI n, nI h, to, nI t, tw, (nI 2), ba, fa) C K H ++ tl)) (fun v w' => ∃ (x : Int32) (h' : Nat) (to' : Int32) (t' : Nat) (tw' : Int64) (ba' fa' : Int32), v = some (.int x) ∧ w' = cst S ++ (mw (tx, ts, tc, tp, tn) U (o, nI (160 * r), nI n, nI h', to', nI t', tw', (nI 2), ba', fa') C K H ++ tl) ∧ LR b n (lvT b n (lev b n 3) s) h' to' t' tw' ba' fa' ∧ VR o (g_cz s) (lvT b n (lev b n 3) s) x) := by
  refine Mt.of (by decide +kernel) (fun _ _ => Nat.le_of_ble_eq_true rfl) ?_
  show Ex X mX10_term2 _ _ _ _ _ _ _ _
  refine x_aload_n dX10_term2_0 rfl ?_
  refine iv_X10_298 dX10_term2_1 (c_X10_atom2 hr hn hb hbp q hc hK) mw_o (by decide) (Nat.le_of_ble_eq_true rfl) (fun v_1 w_1 hw_1 => ?_)
  obtain ⟨x1, h1, to1, t1, tw1, ba1, fa1, rfl, rfl, q1, v1⟩ := hw_1
  refine x_istore_n dX10_term2_4 (by decide) ?_
  have hg := (lv_gf (b := b) hn 3 2 rfl).1
  have hc1 := (hg s q.1 hc hK).1.cz hc
  refine Ex.forget (L' := [some (.ref 42), some (.int x1)]) ⟨rfl, rfl, trivial⟩ ?_
  suffices hL : ∀ (f : Nat) (s' : PS) (x : Int32) (h : Nat) (to : Int32) (t : Nat) (tw : Int64) (ba fa : Int32), LR b n s' h to t tw ba fa → g_cz s' ≤ g_pl s' → g_op s' = 2 → n ≤ f + g_pl s' → VR o (g_cz s) s' x → lpG b n qMu (lvS b n (lev b n 3)) f s' = lvT b n (lev b n 3) s → Ex X mX10_term2 23 (fun v w' => ∃ (x : Int32) (h' : Nat) (to' : Int32) (t' : Nat) (tw' : Int64) (ba' fa' : Int32), v = some (.int x) ∧ w' = cst S ++ (mw (tx, ts, tc, tp, tn) U (o, nI (160 * r), nI n, nI h', to', nI t', tw', (nI 2), ba', fa') C K H ++ tl) ∧ LR b n (lvT b n (lev b n 3) s) h' to' t' tw' ba' fa' ∧ VR o (g_cz s) (lvT b n (lev b n 3) s) x) 0 0 5 [some (.ref 42), some (.int x)] [] (cst S ++ (mw (tx, ts, tc, tp, tn) U (o, nI (160 * r), nI n, nI h, to, nI t, tw, (nI 2), ba, fa) C K H ++ tl)) from hL 160 _ _ _ _ _ _ _ _ q1 hc1 ((hg s q.1 hc hK).1.2.1.trans hK) (by omega) v1 rfl
  intro f
  induction f with
  | zero =>
    intro s' x h to t tw ba fa q hc hK hf hv he
    have hq := lp_0 (q := qMu) rfl rfl q.1 hf
    have he : s' = _ := he
    refine x_aload_n dX10_term2_5 rfl ?_
    refine x_bipush 42 dX10_term2_6 ?_
    refine ii_X10_229 dX10_term2_8 (c_X10_sign q (by decide)) mw_o (by decide) (Nat.le_of_ble_eq_true rfl) ?_
    refine x_if_eq 28 dX10_term2_11 (fun _ => ?_) (fun hx => absurd (bi0.mpr (fun z => hq (qMu_iff.mpr z))) hx)
    refine x_iload_n dX10_term2_28 rfl ?_
    exact Ex.ret (v := some (.int _)) ⟨dX10_term2_29, _, rfl, by first | rfl | decide⟩ ⟨_, _, _, _, _, _, _, rfl, rfl, by rw [← he]; exact q, by rw [← he]; exact hv⟩
  | succ f ih =>
    intro s' x h to t tw ba fa q hc hK hf hv he
    by_cases hq : qMu (g_to s') = true
    · obtain ⟨⟨n2, n0⟩, ⟨c1, k1⟩, ⟨w3, c3, k3, f3⟩, e3⟩ := lp_go hn hg rfl rfl q.1 hc hK hf hq
      have hz := qMu_iff.mp hq
      refine x_aload_n dX10_term2_5 rfl ?_
      refine x_bipush 42 dX10_term2_6 ?_
      refine ii_X10_229 dX10_term2_8 (c_X10_sign q (by decide)) mw_o (by decide) (Nat.le_of_ble_eq_true rfl) ?_
      refine x_if_eq 28 dX10_term2_11 (fun hx => absurd hx (bi1.mpr hz)) (fun _ => ?_)
      refine x_aload_n dX10_term2_14 rfl ?_
      refine iv_X10_204 dX10_term2_15 (c_X10_nextR hr hn hb hbp q n2) mw_o (by decide) (Nat.le_of_ble_eq_true rfl) (fun v_15 w_15 hw_15 => ?_)
      obtain ⟨h1, to1, t1, tw1, rfl, rfl, q1⟩ := hw_15
      refine x_iload_n dX10_term2_18 rfl ?_
      refine x_aload_n dX10_term2_19 rfl ?_
      refine iv_X10_298 dX10_term2_20 (c_X10_atom2 hr hn hb hbp q1 c1 k1) mw_o (by decide) (Nat.le_of_ble_eq_true rfl) (fun v_20 w_20 hw_20 => ?_)
      obtain ⟨x2, h2, to2, t2, tw2, ba2, fa2, rfl, rfl, q2, v2⟩ := hw_20
      refine x_imul dX10_term2_23 ?_
      refine x_istore_n dX10_term2_24 (by decide) ?_
      refine x_goto 5 dX10_term2_25 ?_
      refine Ex.forget (L' := [some (.ref 42), some (.int (x * x2))]) ⟨rfl, rfl, trivial⟩ ?_
      exact ih _ _ _ _ _ _ _ _ (LR_emt q2) c3 k3 f3 (lp_v hn hg q.1 hc hK n2 n0 hz (by decide) hv v2 (jn_mu x x2).symm) (e3.symm.trans he)
    · rw [lp_no hq] at he
      refine x_aload_n dX10_term2_5 rfl ?_
      refine x_bipush 42 dX10_term2_6 ?_
      refine ii_X10_229 dX10_term2_8 (c_X10_sign q (by decide)) mw_o (by decide) (Nat.le_of_ble_eq_true rfl) ?_
      refine x_if_eq 28 dX10_term2_11 (fun _ => ?_) (fun hx => absurd (bi0.mpr (fun z => hq (qMu_iff.mpr z))) hx)
      refine x_iload_n dX10_term2_28 rfl ?_
      exact Ex.ret (v := some (.int _)) ⟨dX10_term2_29, _, rfl, by first | rfl | decide⟩ ⟨_, _, _, _, _, _, _, rfl, rfl, by rw [← he]; exact q, by rw [← he]; exact hv⟩
set_option maxRecDepth 100000 in
set_option maxHeartbeats 4000000 in
theorem c_X10_added2 {X : Nat × (Nat → Int32)} {S : CS} {tl : pc_W} {tx : (Nat → Int32)} {ts : (Nat → Int32)} {tc : Int32} {tp : (Nat → Int32)} {tn : Int32} {U : MU} {o : (Nat → Int32)} {to : Int32} {tw : Int64} {ba : Int32} {fa : Int32} {C : MC} {K : MK} {H : MH} {r n h t : Nat} {b : Nat → Int32} {s : PS} (hr : r < 6) (hn : n ≤ 160) (hb : ∀ i, i < n → tx (160 * r + i) = b i) (hbp : ∀ i, i < n → 0 ≤ b i) (q : LR b n s h to t tw ba fa) (hc : g_cz s ≤ g_pl s) (hK : g_op s = 2): Mt X 24 0 0 yX10_added2 cX10_added2 4 (some .int) [.ref 42] (cst S ++ (mw (tx, ts, tc, tp, tn) U (o, nI (160 * r), nI n, nI h, to, nI t, tw, (nI 2), ba, fa) C K H ++ tl)) (fun v w' => ∃ (x : Int32) (h' : Nat) (to' : Int32) (t' : Nat) (tw' : Int64) (ba' fa' : Int32), v = some (.int x) ∧ w' = cst S ++ (mw (tx, ts, tc, tp, tn) U (o, nI (160 * r), nI n, nI h', to', nI t', tw', (nI 2), ba', fa') C K H ++ tl) ∧ LR b n (lvM b n (lev b n 3) s) h' to' t' tw' ba' fa' ∧ VR o (g_cz s) (lvM b n (lev b n 3) s) x) := by
  refine Mt.of (by decide +kernel) (fun _ _ => Nat.le_of_ble_eq_true rfl) ?_
  show Ex X mX10_added2 _ _ _ _ _ _ _ _
  refine x_aload_n dX10_added2_0 rfl ?_
  refine iv_X10_301 dX10_added2_1 (c_X10_term2 hr hn hb hbp q hc hK) mw_o (by decide) (Nat.le_of_ble_eq_true rfl) (fun v_1 w_1 hw_1 => ?_)
  obtain ⟨x1, h1, to1, t1, tw1, ba1, fa1, rfl, rfl, q1, v1⟩ := hw_1
  refine x_istore_n dX10_added2_4 (by decide) ?_
  have hg := (lv_gf (b := b) hn 3 2 rfl).2.1
  have hc1 := (hg s q.1 hc hK).1.cz hc
  refine Ex.forget (L' := [some (.ref 42), some (.int x1), none, none]) ⟨rfl, rfl, trivial⟩ ?_
  suffices hL : ∀ (f : Nat) (s' : PS) (x : Int32) (h : Nat) (to : Int32) (t : Nat) (tw : Int64) (ba fa : Int32), LR b n s' h to t tw ba fa → g_cz s' ≤ g_pl s' → g_op s' = 2 → n ≤ f + g_pl s' → VR o (g_cz s) s' x → lpG b n qPl (lvT b n (lev b n 3)) f s' = lvM b n (lev b n 3) s → Ex X mX10_added2 24 (fun v w' => ∃ (x : Int32) (h' : Nat) (to' : Int32) (t' : Nat) (tw' : Int64) (ba' fa' : Int32), v = some (.int x) ∧ w' = cst S ++ (mw (tx, ts, tc, tp, tn) U (o, nI (160 * r), nI n, nI h', to', nI t', tw', (nI 2), ba', fa') C K H ++ tl) ∧ LR b n (lvM b n (lev b n 3) s) h' to' t' tw' ba' fa' ∧ VR o (g_cz s) (lvM b n (lev b n 3) s) x) 0 0 5 [some (.ref 42), some (.int x), none, none] [] (cst S ++ (mw (tx, ts, tc, tp, tn) U (o, nI (160 * r), nI n, nI h, to, nI t, tw, (nI 2), ba, fa) C K H ++ tl)) from hL 160 _ _ _ _ _ _ _ _ q1 hc1 ((hg s q.1 hc hK).1.2.1.trans hK) (by omega) v1 rfl
  intro f
  induction f with
  | zero =>
    intro s' x h to t tw ba fa q hc hK hf hv he
    have hq := lp_0 (q := qPl) rfl rfl q.1 hf
    have he : s' = _ := he
    refine x_aload_n dX10_added2_5 rfl ?_
    refine x_bipush 43 dX10_added2_6 ?_
    refine ii_X10_229 dX10_added2_8 (c_X10_sign q (by decide)) mw_o (by decide) (Nat.le_of_ble_eq_true rfl) ?_
    refine x_if_ne 23 dX10_added2_11 (fun hx => absurd (bi0.mpr (fun z => hq (qPl_iff.mpr (Or.inl z)))) hx) (fun _ => ?_)
    refine x_aload_n dX10_added2_14 rfl ?_
    refine x_bipush 45 dX10_added2_15 ?_
    refine ii_X10_229 dX10_added2_17 (c_X10_sign q (by decide)) mw_o (by decide) (Nat.le_of_ble_eq_true rfl) ?_
    refine x_if_eq 66 dX10_added2_20 (fun _ => ?_) (fun hx => absurd (bi0.mpr (fun z => hq (qPl_iff.mpr (Or.inr z)))) hx)
    refine x_iload_n dX10_added2_66 rfl ?_
    exact Ex.ret (v := some (.int _)) ⟨dX10_added2_67, _, rfl, by first | rfl | decide⟩ ⟨_, _, _, _, _, _, _, rfl, rfl, by rw [← he]; exact q, by rw [← he]; exact hv⟩
  | succ f ih =>
    intro s' x h to t tw ba fa q hc hK hf hv he
    by_cases hq : qPl (g_to s') = true
    · obtain ⟨⟨n2, n0⟩, ⟨c1, k1⟩, ⟨w3, c3, k3, f3⟩, e3⟩ := lp_go hn hg rfl rfl q.1 hc hK hf hq
      rcases qPl_iff.mp hq with hz | hz
      · skip
        refine x_aload_n dX10_added2_5 rfl ?_
        refine x_bipush 43 dX10_added2_6 ?_
        refine ii_X10_229 dX10_added2_8 (c_X10_sign q (by decide)) mw_o (by decide) (Nat.le_of_ble_eq_true rfl) ?_
        refine x_if_ne 23 dX10_added2_11 (fun _ => ?_) (fun hx => absurd hx (bi1.mpr hz))
        refine x_aload_n dX10_added2_23 rfl ?_
        refine mg_182 dX10_added2_24 ?_
        refine x_ldc2_w dX10_added2_27 kk_X10_246 ?_
        refine x_lcmp dX10_added2_30 ?_
        refine x_if_ne 38 dX10_added2_31 (fun hx => absurd ((lg_cmp_eq _ _).mpr ((LR_tw q (by rw [hz]; decide)).trans (by rw [hz]; decide))) hx) (fun _ => ?_)
        refine x_iconst 1 dX10_added2_34 ?_
        refine x_goto 39 dX10_added2_35 ?_
        refine x_istore_n dX10_added2_39 (by decide) ?_
        refine x_aload_n dX10_added2_40 rfl ?_
        refine iv_X10_204 dX10_added2_41 (c_X10_nextR hr hn hb hbp q n2) mw_o (by decide) (Nat.le_of_ble_eq_true rfl) (fun v_41 w_41 hw_41 => ?_)
        obtain ⟨h1, to1, t1, tw1, rfl, rfl, q1⟩ := hw_41
        refine x_aload_n dX10_added2_44 rfl ?_
        refine iv_X10_301 dX10_added2_45 (c_X10_term2 hr hn hb hbp q1 c1 k1) mw_o (by decide) (Nat.le_of_ble_eq_true rfl) (fun v_45 w_45 hw_45 => ?_)
        obtain ⟨x2, h2, to2, t2, tw2, ba2, fa2, rfl, rfl, q2, v2⟩ := hw_45
        refine x_istore_n dX10_added2_48 (by decide) ?_
        refine x_iload_n dX10_added2_49 rfl ?_
        refine x_if_eq 59 dX10_added2_50 (fun hx => absurd hx (by decide)) (fun _ => ?_)
        refine x_iload_n dX10_added2_53 rfl ?_
        refine x_iload_n dX10_added2_54 rfl ?_
        refine x_iadd dX10_added2_55 ?_
        refine x_goto 62 dX10_added2_56 ?_
        refine x_istore_n dX10_added2_62 (by decide) ?_
        refine x_goto 5 dX10_added2_63 ?_
        refine Ex.forget (L' := [some (.ref 42), some (.int (x + x2)), none, none]) ⟨rfl, rfl, trivial⟩ ?_
        exact ih _ _ _ _ _ _ _ _ (LR_emt q2) c3 k3 f3 (lp_v hn hg q.1 hc hK n2 n0 hz (by decide) hv v2 (jn_ad x x2).symm) (e3.symm.trans he)
      · skip
        refine x_aload_n dX10_added2_5 rfl ?_
        refine x_bipush 43 dX10_added2_6 ?_
        refine ii_X10_229 dX10_added2_8 (c_X10_sign q (by decide)) mw_o (by decide) (Nat.le_of_ble_eq_true rfl) ?_
        refine x_if_ne 23 dX10_added2_11 (fun hx => absurd (bi0.mpr (fun z => absurd (hz.symm.trans z) (by decide))) hx) (fun _ => ?_)
        refine x_aload_n dX10_added2_14 rfl ?_
        refine x_bipush 45 dX10_added2_15 ?_
        refine ii_X10_229 dX10_added2_17 (c_X10_sign q (by decide)) mw_o (by decide) (Nat.le_of_ble_eq_true rfl) ?_
        refine x_if_eq 66 dX10_added2_20 (fun hx => absurd hx (bi1.mpr hz)) (fun _ => ?_)
        refine x_aload_n dX10_added2_23 rfl ?_
        refine mg_182 dX10_added2_24 ?_
        refine x_ldc2_w dX10_added2_27 kk_X10_246 ?_
        refine x_lcmp dX10_added2_30 ?_
        refine x_if_ne 38 dX10_added2_31 (fun _ => ?_) (fun hx => absurd hx (fun z => absurd (((lg_cmp_eq _ _).mp z).symm.trans ((LR_tw q (by rw [hz]; decide)).trans (by rw [hz]))) (by decide)))
        refine x_iconst 0 dX10_added2_38 ?_
        refine x_istore_n dX10_added2_39 (by decide) ?_
        refine x_aload_n dX10_added2_40 rfl ?_
        refine iv_X10_204 dX10_added2_41 (c_X10_nextR hr hn hb hbp q n2) mw_o (by decide) (Nat.le_of_ble_eq_true rfl) (fun v_41 w_41 hw_41 => ?_)
        obtain ⟨h1, to1, t1, tw1, rfl, rfl, q1⟩ := hw_41
        refine x_aload_n dX10_added2_44 rfl ?_
        refine iv_X10_301 dX10_added2_45 (c_X10_term2 hr hn hb hbp q1 c1 k1) mw_o (by decide) (Nat.le_of_ble_eq_true rfl) (fun v_45 w_45 hw_45 => ?_)
        obtain ⟨x2, h2, to2, t2, tw2, ba2, fa2, rfl, rfl, q2, v2⟩ := hw_45
        refine x_istore_n dX10_added2_48 (by decide) ?_
        refine x_iload_n dX10_added2_49 rfl ?_
        refine x_if_eq 59 dX10_added2_50 (fun _ => ?_) (fun hx => absurd (rfl) hx)
        refine x_iload_n dX10_added2_59 rfl ?_
        refine x_iload_n dX10_added2_60 rfl ?_
        refine x_isub dX10_added2_61 ?_
        refine x_istore_n dX10_added2_62 (by decide) ?_
        refine x_goto 5 dX10_added2_63 ?_
        refine Ex.forget (L' := [some (.ref 42), some (.int (x - x2)), none, none]) ⟨rfl, rfl, trivial⟩ ?_
        exact ih _ _ _ _ _ _ _ _ (LR_emt q2) c3 k3 f3 (lp_v hn hg q.1 hc hK n2 n0 hz (by decide) hv v2 (jn_sb x x2).symm) (e3.symm.trans he)
    · rw [lp_no hq] at he
      refine x_aload_n dX10_added2_5 rfl ?_
      refine x_bipush 43 dX10_added2_6 ?_
      refine ii_X10_229 dX10_added2_8 (c_X10_sign q (by decide)) mw_o (by decide) (Nat.le_of_ble_eq_true rfl) ?_
      refine x_if_ne 23 dX10_added2_11 (fun hx => absurd (bi0.mpr (fun z => hq (qPl_iff.mpr (Or.inl z)))) hx) (fun _ => ?_)
      refine x_aload_n dX10_added2_14 rfl ?_
      refine x_bipush 45 dX10_added2_15 ?_
      refine ii_X10_229 dX10_added2_17 (c_X10_sign q (by decide)) mw_o (by decide) (Nat.le_of_ble_eq_true rfl) ?_
      refine x_if_eq 66 dX10_added2_20 (fun _ => ?_) (fun hx => absurd (bi0.mpr (fun z => hq (qPl_iff.mpr (Or.inr z)))) hx)
      refine x_iload_n dX10_added2_66 rfl ?_
      exact Ex.ret (v := some (.int _)) ⟨dX10_added2_67, _, rfl, by first | rfl | decide⟩ ⟨_, _, _, _, _, _, _, rfl, rfl, by rw [← he]; exact q, by rw [← he]; exact hv⟩
set_option maxRecDepth 100000 in
set_option maxHeartbeats 4000000 in
theorem c_X10_not2 {X : Nat × (Nat → Int32)} {S : CS} {tl : pc_W} {tx : (Nat → Int32)} {ts : (Nat → Int32)} {tc : Int32} {tp : (Nat → Int32)} {tn : Int32} {U : MU} {o : (Nat → Int32)} {to : Int32} {tw : Int64} {ba : Int32} {fa : Int32} {C : MC} {K : MK} {H : MH} {r n h t : Nat} {b : Nat → Int32} {s : PS} (hr : r < 6) (hn : n ≤ 160) (hb : ∀ i, i < n → tx (160 * r + i) = b i) (hbp : ∀ i, i < n → 0 ≤ b i) (q : LR b n s h to t tw ba fa) (hc : g_cz s ≤ g_pl s) (hK : g_op s = 2): Mt X 25 0 0 yX10_not2 cX10_not2 4 (some .int) [.ref 42] (cst S ++ (mw (tx, ts, tc, tp, tn) U (o, nI (160 * r), nI n, nI h, to, nI t, tw, (nI 2), ba, fa) C K H ++ tl)) (fun v w' => ∃ (x : Int32) (h' : Nat) (to' : Int32) (t' : Nat) (tw' : Int64) (ba' fa' : Int32), v = some (.int x) ∧ w' = cst S ++ (mw (tx, ts, tc, tp, tn) U (o, nI (160 * r), nI n, nI h', to', nI t', tw', (nI 2), ba', fa') C K H ++ tl) ∧ LR b n (lvN b n (lev b n 3) s) h' to' t' tw' ba' fa' ∧ VR o (g_cz s) (lvN b n (lev b n 3) s) x) := by
  refine Mt.of (by decide +kernel) (fun _ _ => Nat.le_of_ble_eq_true rfl) ?_
  show Ex X mX10_not2 _ _ _ _ _ _ _ _
  refine x_aload_n dX10_not2_0 rfl ?_
  refine x_bipush 110 dX10_not2_1 ?_
  refine x_bipush 111 dX10_not2_3 ?_
  refine x_bipush 116 dX10_not2_5 ?_
  refine x_iconst 0 dX10_not2_7 ?_
  refine x_iconst 0 dX10_not2_8 ?_
  refine x_iconst 0 dX10_not2_9 ?_
  refine x_iconst 0 dX10_not2_10 ?_
  refine x_iconst 0 dX10_not2_11 ?_
  refine ii_X10_207 dX10_not2_12 (c_X10_word (w := 211) hr hn hb q (by decide) (by decide) wl_211) mw_o (by decide) (Nat.le_of_ble_eq_true rfl) ?_
  refine x_if_eq 52 dX10_not2_15 (fun h_15 => ?_) (fun h_15 => ?_)
  · have hz : ¬ g_to s = 211 := bi0.mp h_15
    refine x_aload_n dX10_not2_52 rfl ?_
    refine iv_X10_304 dX10_not2_53 (c_X10_added2 hr hn hb hbp q hc hK) mw_o (by decide) (Nat.le_of_ble_eq_true rfl) (fun v_53 w_53 hw_53 => ?_)
    obtain ⟨x1, h1, to1, t1, tw1, ba1, fa1, rfl, rfl, q1, v1⟩ := hw_53
    refine x_istore_n dX10_not2_56 (by decide) ?_
    refine x_aload_n dX10_not2_57 rfl ?_
    refine x_bipush 60 dX10_not2_58 ?_
    refine ii_X10_229 dX10_not2_60 (c_X10_sign q1 (by decide)) mw_o (by decide) (Nat.le_of_ble_eq_true rfl) ?_
    have hg := (lv_gf (b := b) hn 3 2 rfl).2.2.1
    have hs1 := (hg s q.1 hc hK).1
    by_cases hzlt : g_to (lvM b n (lev b n 3) s) = 60
    · have n2 : ¬ g_to (lvM b n (lev b n 3) s) = 2 := by rw [hzlt]; decide
      have n0 : ¬ g_to (lvM b n (lev b n 3) s) = 0 := by rw [hzlt]; decide
      have ha := hs1.tr (adv_gd (b := b) hn hs1.1 n2 n0)
      have c2 := ha.cz hc
      have k2 := ha.2.1.trans hK
      refine x_if_ne 77 dX10_not2_63 (fun _ => ?_) (fun hx => absurd hx (bi1.mpr hzlt))
      refine x_aload_n dX10_not2_77 rfl ?_
      refine mg_182 dX10_not2_78 ?_
      refine x_ldc2_w dX10_not2_81 kk_X10_251 ?_
      refine x_lcmp dX10_not2_84 ?_
      refine x_if_ne 92 dX10_not2_85 (fun hx => absurd ((lg_cmp_eq _ _).mpr ((LR_tw q1 (by rw [hzlt]; decide)).trans (by rw [hzlt]; decide))) hx) (fun _ => ?_)
      refine x_iconst 1 dX10_not2_88 ?_
      refine x_goto 93 dX10_not2_89 ?_
      refine x_istore_n dX10_not2_93 (by decide) ?_
      refine x_aload_n dX10_not2_94 rfl ?_
      refine iv_X10_204 dX10_not2_95 (c_X10_nextR hr hn hb hbp q1 n2) mw_o (by decide) (Nat.le_of_ble_eq_true rfl) (fun v_95 w_95 hw_95 => ?_)
      obtain ⟨h2, to2, t2, tw2, rfl, rfl, q2⟩ := hw_95
      refine x_aload_n dX10_not2_98 rfl ?_
      refine iv_X10_304 dX10_not2_99 (c_X10_added2 hr hn hb hbp q2 (by omega) k2) mw_o (by decide) (Nat.le_of_ble_eq_true rfl) (fun v_99 w_99 hw_99 => ?_)
      obtain ⟨x3, h3, to3, t3, tw3, ba3, fa3, rfl, rfl, q3, v3⟩ := hw_99
      refine x_istore_n dX10_not2_102 (by decide) ?_
      refine x_iload_n dX10_not2_103 rfl ?_
      refine x_if_eq 115 dX10_not2_104 (fun hx => absurd hx (by decide)) (fun _ => ?_)
      refine x_iload_n dX10_not2_107 rfl ?_
      refine x_iload_n dX10_not2_108 rfl ?_
      refine x_icmp_ge 124 dX10_not2_109 (fun h_109 => ?_) (fun h_109 => ?_)
      · refine x_iconst 0 dX10_not2_124 ?_
        have zz := fin_cmp (v := 0) (k := 3) hn q.1 hc hK rfl hz (Or.inl hzlt) q3 v1 v3 (by rw [hzlt]; exact (bi_f (Int32.not_lt.mpr h_109)).symm)
        exact Ex.ret (v := some (.int _)) ⟨dX10_not2_125, _, rfl, by first | rfl | decide⟩ ⟨_, _, _, _, _, _, _, rfl, rfl, zz⟩
      · refine x_goto 120 dX10_not2_112 ?_
        refine x_iconst 1 dX10_not2_120 ?_
        refine x_goto 125 dX10_not2_121 ?_
        have zz := fin_cmp (v := 1) (k := 3) hn q.1 hc hK rfl hz (Or.inl hzlt) q3 v1 v3 (by rw [hzlt]; exact (bi_t (Int32.not_le.mp h_109)).symm)
        exact Ex.ret (v := some (.int _)) ⟨dX10_not2_125, _, rfl, by first | rfl | decide⟩ ⟨_, _, _, _, _, _, _, rfl, rfl, zz⟩
    by_cases hzeq : g_to (lvM b n (lev b n 3) s) = 61
    · have n2 : ¬ g_to (lvM b n (lev b n 3) s) = 2 := by rw [hzeq]; decide
      have n0 : ¬ g_to (lvM b n (lev b n 3) s) = 0 := by rw [hzeq]; decide
      have ha := hs1.tr (adv_gd (b := b) hn hs1.1 n2 n0)
      have c2 := ha.cz hc
      have k2 := ha.2.1.trans hK
      refine x_if_ne 77 dX10_not2_63 (fun hx => absurd (bi0.mpr hzlt) hx) (fun _ => ?_)
      refine x_aload_n dX10_not2_66 rfl ?_
      refine x_bipush 61 dX10_not2_67 ?_
      refine ii_X10_229 dX10_not2_69 (c_X10_sign q1 (by decide)) mw_o (by decide) (Nat.le_of_ble_eq_true rfl) ?_
      refine x_if_ne 77 dX10_not2_72 (fun _ => ?_) (fun hx => absurd hx (bi1.mpr hzeq))
      refine x_aload_n dX10_not2_77 rfl ?_
      refine mg_182 dX10_not2_78 ?_
      refine x_ldc2_w dX10_not2_81 kk_X10_251 ?_
      refine x_lcmp dX10_not2_84 ?_
      refine x_if_ne 92 dX10_not2_85 (fun _ => ?_) (fun hx => absurd hx (fun z => absurd (((lg_cmp_eq _ _).mp z).symm.trans ((LR_tw q1 (by rw [hzeq]; decide)).trans (by rw [hzeq]))) (by decide)))
      refine x_iconst 0 dX10_not2_92 ?_
      refine x_istore_n dX10_not2_93 (by decide) ?_
      refine x_aload_n dX10_not2_94 rfl ?_
      refine iv_X10_204 dX10_not2_95 (c_X10_nextR hr hn hb hbp q1 n2) mw_o (by decide) (Nat.le_of_ble_eq_true rfl) (fun v_95 w_95 hw_95 => ?_)
      obtain ⟨h2, to2, t2, tw2, rfl, rfl, q2⟩ := hw_95
      refine x_aload_n dX10_not2_98 rfl ?_
      refine iv_X10_304 dX10_not2_99 (c_X10_added2 hr hn hb hbp q2 (by omega) k2) mw_o (by decide) (Nat.le_of_ble_eq_true rfl) (fun v_99 w_99 hw_99 => ?_)
      obtain ⟨x3, h3, to3, t3, tw3, ba3, fa3, rfl, rfl, q3, v3⟩ := hw_99
      refine x_istore_n dX10_not2_102 (by decide) ?_
      refine x_iload_n dX10_not2_103 rfl ?_
      refine x_if_eq 115 dX10_not2_104 (fun _ => ?_) (fun hx => absurd (rfl) hx)
      refine x_iload_n dX10_not2_115 rfl ?_
      refine x_iload_n dX10_not2_116 rfl ?_
      refine x_icmp_ne 124 dX10_not2_117 (fun h_117 => ?_) (fun h_117 => ?_)
      · refine x_iconst 0 dX10_not2_124 ?_
        have zz := fin_cmp (v := 0) (k := 3) hn q.1 hc hK rfl hz (Or.inr hzeq) q3 v1 v3 (by rw [hzeq]; exact (bi_f h_117).symm)
        exact Ex.ret (v := some (.int _)) ⟨dX10_not2_125, _, rfl, by first | rfl | decide⟩ ⟨_, _, _, _, _, _, _, rfl, rfl, zz⟩
      · refine x_iconst 1 dX10_not2_120 ?_
        refine x_goto 125 dX10_not2_121 ?_
        have zz := fin_cmp (v := 1) (k := 3) hn q.1 hc hK rfl hz (Or.inr hzeq) q3 v1 v3 (by rw [hzeq]; exact (bi_t h_117).symm)
        exact Ex.ret (v := some (.int _)) ⟨dX10_not2_125, _, rfl, by first | rfl | decide⟩ ⟨_, _, _, _, _, _, _, rfl, rfl, zz⟩
    refine x_if_ne 77 dX10_not2_63 (fun hx => absurd (bi0.mpr hzlt) hx) (fun _ => ?_)
    refine x_aload_n dX10_not2_66 rfl ?_
    refine x_bipush 61 dX10_not2_67 ?_
    refine ii_X10_229 dX10_not2_69 (c_X10_sign q1 (by decide)) mw_o (by decide) (Nat.le_of_ble_eq_true rfl) ?_
    refine x_if_ne 77 dX10_not2_72 (fun hx => absurd (bi0.mpr hzeq) hx) (fun _ => ?_)
    refine x_iload_n dX10_not2_75 rfl ?_
    have zz := fin_sum (k := 3) hz hzlt hzeq q1 v1
    exact Ex.ret (v := some (.int _)) ⟨dX10_not2_76, _, rfl, by first | rfl | decide⟩ ⟨_, _, _, _, _, _, _, rfl, rfl, zz⟩
  have hz : g_to s = 211 := bi1.mp h_15
  refine x_aload_n dX10_not2_18 rfl ?_
  refine iv_X10_232 dX10_not2_19 (c_X10_opens_y hr hn hb hbp q (by rw [hz]; decide) (by decide)) mw_o (by decide) (Nat.le_of_ble_eq_true rfl) (fun v_19 w_19 hw_19 => ?_)
  obtain ⟨h1, to1, t1, tw1, rfl, rfl, q1⟩ := hw_19
  obtain ⟨c1, k1, e1⟩ := in_pre (b := b) hn q.1 hc hK (by rw [hz]; decide) (by rw [hz]; decide)
  refine x_if_ne 27 dX10_not2_22 (fun _ => ?_) (fun hx => absurd hx (by decide))
  refine x_aload_n dX10_not2_27 rfl ?_
  refine iv_X10_289 dX10_not2_28 (c_X10_not3 hr hn hb hbp q1 c1 k1) mw_o (by decide) (Nat.le_of_ble_eq_true rfl) (fun v_28 w_28 hw_28 => ?_)
  obtain ⟨x2, h2, to2, t2, tw2, ba2, fa2, rfl, rfl, q2, v2⟩ := hw_28
  refine x_istore_n dX10_not2_31 (by decide) ?_
  refine x_aload_n dX10_not2_32 rfl ?_
  refine x_dup dX10_not2_33 ?_
  refine mg_198 dX10_not2_34 ?_
  refine x_iconst 1 dX10_not2_37 ?_
  refine x_isub dX10_not2_38 ?_
  rw [show nI 3 - 1 = nI 2 from nI_pred 2]
  refine mp_198 dX10_not2_39 ?_
  refine x_iload_n dX10_not2_42 rfl ?_
  refine x_if_ne 50 dX10_not2_43 (fun h_43 => ?_) (fun h_43 => ?_)
  · refine x_iconst 0 dX10_not2_50 ?_
    have zz := fin_not (y := 0) (k := 2) hn q.1 hc hK rfl hz q2 v2 (bi_f h_43).symm
    exact Ex.ret (v := some (.int _)) ⟨dX10_not2_51, _, rfl, by first | rfl | decide⟩ ⟨_, _, _, _, _, _, _, rfl, rfl, zz⟩
  · refine x_iconst 1 dX10_not2_46 ?_
    refine x_goto 51 dX10_not2_47 ?_
    have zz := fin_not (y := 1) (k := 2) hn q.1 hc hK rfl hz q2 v2 (bi_t h_43).symm
    exact Ex.ret (v := some (.int _)) ⟨dX10_not2_51, _, rfl, by first | rfl | decide⟩ ⟨_, _, _, _, _, _, _, rfl, rfl, zz⟩
set_option maxRecDepth 100000 in
set_option maxHeartbeats 4000000 in
theorem c_X10_both2 {X : Nat × (Nat → Int32)} {S : CS} {tl : pc_W} {tx : (Nat → Int32)} {ts : (Nat → Int32)} {tc : Int32} {tp : (Nat → Int32)} {tn : Int32} {U : MU} {o : (Nat → Int32)} {to : Int32} {tw : Int64} {ba : Int32} {fa : Int32} {C : MC} {K : MK} {H : MH} {r n h t : Nat} {b : Nat → Int32} {s : PS} (hr : r < 6) (hn : n ≤ 160) (hb : ∀ i, i < n → tx (160 * r + i) = b i) (hbp : ∀ i, i < n → 0 ≤ b i) (q : LR b n s h to t tw ba fa) (hc : g_cz s ≤ g_pl s) (hK : g_op s = 2): Mt X 26 0 0 yX10_both2 cX10_both2 3 (some .int) [.ref 42] (cst S ++ (mw (tx, ts, tc, tp, tn) U (o, nI (160 * r), nI n, nI h, to, nI t, tw, (nI 2), ba, fa) C K H ++ tl)) (fun v w' => ∃ (x : Int32) (h' : Nat) (to' : Int32) (t' : Nat) (tw' : Int64) (ba' fa' : Int32), v = some (.int x) ∧ w' = cst S ++ (mw (tx, ts, tc, tp, tn) U (o, nI (160 * r), nI n, nI h', to', nI t', tw', (nI 2), ba', fa') C K H ++ tl) ∧ LR b n (lvJ b n (lev b n 3) s) h' to' t' tw' ba' fa' ∧ VR o (g_cz s) (lvJ b n (lev b n 3) s) x) := by
  refine Mt.of (by decide +kernel) (fun _ _ => Nat.le_of_ble_eq_true rfl) ?_
  show Ex X mX10_both2 _ _ _ _ _ _ _ _
  refine x_aload_n dX10_both2_0 rfl ?_
  refine iv_X10_307 dX10_both2_1 (c_X10_not2 hr hn hb hbp q hc hK) mw_o (by decide) (Nat.le_of_ble_eq_true rfl) (fun v_1 w_1 hw_1 => ?_)
  obtain ⟨x1, h1, to1, t1, tw1, ba1, fa1, rfl, rfl, q1, v1⟩ := hw_1
  refine x_istore_n dX10_both2_4 (by decide) ?_
  have hg := (lv_gf (b := b) hn 3 2 rfl).2.2.2.1
  have hc1 := (hg s q.1 hc hK).1.cz hc
  refine Ex.forget (L' := [some (.ref 42), some (.int x1), none]) ⟨rfl, rfl, trivial⟩ ?_
  suffices hL : ∀ (f : Nat) (s' : PS) (x : Int32) (h : Nat) (to : Int32) (t : Nat) (tw : Int64) (ba fa : Int32), LR b n s' h to t tw ba fa → g_cz s' ≤ g_pl s' → g_op s' = 2 → n ≤ f + g_pl s' → VR o (g_cz s) s' x → lpG b n qAn (lvN b n (lev b n 3)) f s' = lvJ b n (lev b n 3) s → Ex X mX10_both2 26 (fun v w' => ∃ (x : Int32) (h' : Nat) (to' : Int32) (t' : Nat) (tw' : Int64) (ba' fa' : Int32), v = some (.int x) ∧ w' = cst S ++ (mw (tx, ts, tc, tp, tn) U (o, nI (160 * r), nI n, nI h', to', nI t', tw', (nI 2), ba', fa') C K H ++ tl) ∧ LR b n (lvJ b n (lev b n 3) s) h' to' t' tw' ba' fa' ∧ VR o (g_cz s) (lvJ b n (lev b n 3) s) x) 0 0 5 [some (.ref 42), some (.int x), none] [] (cst S ++ (mw (tx, ts, tc, tp, tn) U (o, nI (160 * r), nI n, nI h, to, nI t, tw, (nI 2), ba, fa) C K H ++ tl)) from hL 160 _ _ _ _ _ _ _ _ q1 hc1 ((hg s q.1 hc hK).1.2.1.trans hK) (by omega) v1 rfl
  intro f
  induction f with
  | zero =>
    intro s' x h to t tw ba fa q hc hK hf hv he
    have hq := lp_0 (q := qAn) rfl rfl q.1 hf
    have he : s' = _ := he
    refine x_aload_n dX10_both2_5 rfl ?_
    refine x_bipush 97 dX10_both2_6 ?_
    refine x_bipush 110 dX10_both2_8 ?_
    refine x_bipush 100 dX10_both2_10 ?_
    refine x_iconst 0 dX10_both2_12 ?_
    refine x_iconst 0 dX10_both2_13 ?_
    refine x_iconst 0 dX10_both2_14 ?_
    refine x_iconst 0 dX10_both2_15 ?_
    refine x_iconst 0 dX10_both2_16 ?_
    refine ii_X10_207 dX10_both2_17 (c_X10_word (w := 210) hr hn hb q (by decide) (by decide) wl_210) mw_o (by decide) (Nat.le_of_ble_eq_true rfl) ?_
    refine x_if_eq 49 dX10_both2_20 (fun _ => ?_) (fun hx => absurd (bi0.mpr (fun z => hq (qAn_iff.mpr z))) hx)
    refine x_iload_n dX10_both2_49 rfl ?_
    exact Ex.ret (v := some (.int _)) ⟨dX10_both2_50, _, rfl, by first | rfl | decide⟩ ⟨_, _, _, _, _, _, _, rfl, rfl, by rw [← he]; exact q, by rw [← he]; exact hv⟩
  | succ f ih =>
    intro s' x h to t tw ba fa q hc hK hf hv he
    by_cases hq : qAn (g_to s') = true
    · obtain ⟨⟨n2, n0⟩, ⟨c1, k1⟩, ⟨w3, c3, k3, f3⟩, e3⟩ := lp_go hn hg rfl rfl q.1 hc hK hf hq
      have hz := qAn_iff.mp hq
      refine x_aload_n dX10_both2_5 rfl ?_
      refine x_bipush 97 dX10_both2_6 ?_
      refine x_bipush 110 dX10_both2_8 ?_
      refine x_bipush 100 dX10_both2_10 ?_
      refine x_iconst 0 dX10_both2_12 ?_
      refine x_iconst 0 dX10_both2_13 ?_
      refine x_iconst 0 dX10_both2_14 ?_
      refine x_iconst 0 dX10_both2_15 ?_
      refine x_iconst 0 dX10_both2_16 ?_
      refine ii_X10_207 dX10_both2_17 (c_X10_word (w := 210) hr hn hb q (by decide) (by decide) wl_210) mw_o (by decide) (Nat.le_of_ble_eq_true rfl) ?_
      refine x_if_eq 49 dX10_both2_20 (fun hx => absurd hx (bi1.mpr hz)) (fun _ => ?_)
      refine x_aload_n dX10_both2_23 rfl ?_
      refine iv_X10_204 dX10_both2_24 (c_X10_nextR hr hn hb hbp q n2) mw_o (by decide) (Nat.le_of_ble_eq_true rfl) (fun v_24 w_24 hw_24 => ?_)
      obtain ⟨h1, to1, t1, tw1, rfl, rfl, q1⟩ := hw_24
      refine x_aload_n dX10_both2_27 rfl ?_
      refine iv_X10_307 dX10_both2_28 (c_X10_not2 hr hn hb hbp q1 c1 k1) mw_o (by decide) (Nat.le_of_ble_eq_true rfl) (fun v_28 w_28 hw_28 => ?_)
      obtain ⟨x2, h2, to2, t2, tw2, ba2, fa2, rfl, rfl, q2, v2⟩ := hw_28
      refine x_istore_n dX10_both2_31 (by decide) ?_
      refine x_iload_n dX10_both2_32 rfl ?_
      refine x_if_eq 44 dX10_both2_33 (fun h_33 => ?_) (fun h_33 => ?_)
      · refine x_iconst 0 dX10_both2_44 ?_
        refine x_istore_n dX10_both2_45 (by decide) ?_
        refine x_goto 5 dX10_both2_46 ?_
        refine Ex.forget (L' := [some (.ref 42), some (.int 0), none]) ⟨rfl, rfl, trivial⟩ ?_
        exact ih _ _ _ _ _ _ _ _ (LR_emt q2) c3 k3 f3 (lp_v hn hg q.1 hc hK n2 n0 hz (by decide) hv v2 (show (0 : Int32) = jn 210 x x2 from (bi_f (fun z => z.1 h_33)).symm)) (e3.symm.trans he)
      · refine x_iload_n dX10_both2_36 rfl ?_
        refine x_if_eq 44 dX10_both2_37 (fun h_37 => ?_) (fun h_37 => ?_)
        · refine x_iconst 0 dX10_both2_44 ?_
          refine x_istore_n dX10_both2_45 (by decide) ?_
          refine x_goto 5 dX10_both2_46 ?_
          refine Ex.forget (L' := [some (.ref 42), some (.int 0), none]) ⟨rfl, rfl, trivial⟩ ?_
          exact ih _ _ _ _ _ _ _ _ (LR_emt q2) c3 k3 f3 (lp_v hn hg q.1 hc hK n2 n0 hz (by decide) hv v2 (show (0 : Int32) = jn 210 x x2 from (bi_f (fun z => z.2 h_37)).symm)) (e3.symm.trans he)
        · refine x_iconst 1 dX10_both2_40 ?_
          refine x_goto 45 dX10_both2_41 ?_
          refine x_istore_n dX10_both2_45 (by decide) ?_
          refine x_goto 5 dX10_both2_46 ?_
          refine Ex.forget (L' := [some (.ref 42), some (.int 1), none]) ⟨rfl, rfl, trivial⟩ ?_
          exact ih _ _ _ _ _ _ _ _ (LR_emt q2) c3 k3 f3 (lp_v hn hg q.1 hc hK n2 n0 hz (by decide) hv v2 (show (1 : Int32) = jn 210 x x2 from (bi_t ⟨h_33, h_37⟩).symm)) (e3.symm.trans he)
    · rw [lp_no hq] at he
      refine x_aload_n dX10_both2_5 rfl ?_
      refine x_bipush 97 dX10_both2_6 ?_
      refine x_bipush 110 dX10_both2_8 ?_
      refine x_bipush 100 dX10_both2_10 ?_
      refine x_iconst 0 dX10_both2_12 ?_
      refine x_iconst 0 dX10_both2_13 ?_
      refine x_iconst 0 dX10_both2_14 ?_
      refine x_iconst 0 dX10_both2_15 ?_
      refine x_iconst 0 dX10_both2_16 ?_
      refine ii_X10_207 dX10_both2_17 (c_X10_word (w := 210) hr hn hb q (by decide) (by decide) wl_210) mw_o (by decide) (Nat.le_of_ble_eq_true rfl) ?_
      refine x_if_eq 49 dX10_both2_20 (fun _ => ?_) (fun hx => absurd (bi0.mpr (fun z => hq (qAn_iff.mpr z))) hx)
      refine x_iload_n dX10_both2_49 rfl ?_
      exact Ex.ret (v := some (.int _)) ⟨dX10_both2_50, _, rfl, by first | rfl | decide⟩ ⟨_, _, _, _, _, _, _, rfl, rfl, by rw [← he]; exact q, by rw [← he]; exact hv⟩
set_option maxRecDepth 100000 in
set_option maxHeartbeats 4000000 in
theorem c_X10_either2 {X : Nat × (Nat → Int32)} {S : CS} {tl : pc_W} {tx : (Nat → Int32)} {ts : (Nat → Int32)} {tc : Int32} {tp : (Nat → Int32)} {tn : Int32} {U : MU} {o : (Nat → Int32)} {to : Int32} {tw : Int64} {ba : Int32} {fa : Int32} {C : MC} {K : MK} {H : MH} {r n h t : Nat} {b : Nat → Int32} {s : PS} (hr : r < 6) (hn : n ≤ 160) (hb : ∀ i, i < n → tx (160 * r + i) = b i) (hbp : ∀ i, i < n → 0 ≤ b i) (q : LR b n s h to t tw ba fa) (hc : g_cz s ≤ g_pl s) (hK : g_op s = 2): Mt X 27 0 0 yX10_either2 cX10_either2 3 (some .int) [.ref 42] (cst S ++ (mw (tx, ts, tc, tp, tn) U (o, nI (160 * r), nI n, nI h, to, nI t, tw, (nI 2), ba, fa) C K H ++ tl)) (fun v w' => ∃ (x : Int32) (h' : Nat) (to' : Int32) (t' : Nat) (tw' : Int64) (ba' fa' : Int32), v = some (.int x) ∧ w' = cst S ++ (mw (tx, ts, tc, tp, tn) U (o, nI (160 * r), nI n, nI h', to', nI t', tw', (nI 2), ba', fa') C K H ++ tl) ∧ LR b n (lvE b n (lev b n 3) s) h' to' t' tw' ba' fa' ∧ VR o (g_cz s) (lvE b n (lev b n 3) s) x) := by
  refine Mt.of (by decide +kernel) (fun _ _ => Nat.le_of_ble_eq_true rfl) ?_
  show Ex X mX10_either2 _ _ _ _ _ _ _ _
  refine x_aload_n dX10_either2_0 rfl ?_
  refine iv_X10_310 dX10_either2_1 (c_X10_both2 hr hn hb hbp q hc hK) mw_o (by decide) (Nat.le_of_ble_eq_true rfl) (fun v_1 w_1 hw_1 => ?_)
  obtain ⟨x1, h1, to1, t1, tw1, ba1, fa1, rfl, rfl, q1, v1⟩ := hw_1
  refine x_istore_n dX10_either2_4 (by decide) ?_
  have hg := (lv_gf (b := b) hn 3 2 rfl).2.2.2.2.1
  have hc1 := (hg s q.1 hc hK).1.cz hc
  refine Ex.forget (L' := [some (.ref 42), some (.int x1), none]) ⟨rfl, rfl, trivial⟩ ?_
  suffices hL : ∀ (f : Nat) (s' : PS) (x : Int32) (h : Nat) (to : Int32) (t : Nat) (tw : Int64) (ba fa : Int32), LR b n s' h to t tw ba fa → g_cz s' ≤ g_pl s' → g_op s' = 2 → n ≤ f + g_pl s' → VR o (g_cz s) s' x → lpG b n qOr (lvJ b n (lev b n 3)) f s' = lvE b n (lev b n 3) s → Ex X mX10_either2 27 (fun v w' => ∃ (x : Int32) (h' : Nat) (to' : Int32) (t' : Nat) (tw' : Int64) (ba' fa' : Int32), v = some (.int x) ∧ w' = cst S ++ (mw (tx, ts, tc, tp, tn) U (o, nI (160 * r), nI n, nI h', to', nI t', tw', (nI 2), ba', fa') C K H ++ tl) ∧ LR b n (lvE b n (lev b n 3) s) h' to' t' tw' ba' fa' ∧ VR o (g_cz s) (lvE b n (lev b n 3) s) x) 0 0 5 [some (.ref 42), some (.int x), none] [] (cst S ++ (mw (tx, ts, tc, tp, tn) U (o, nI (160 * r), nI n, nI h, to, nI t, tw, (nI 2), ba, fa) C K H ++ tl)) from hL 160 _ _ _ _ _ _ _ _ q1 hc1 ((hg s q.1 hc hK).1.2.1.trans hK) (by omega) v1 rfl
  intro f
  induction f with
  | zero =>
    intro s' x h to t tw ba fa q hc hK hf hv he
    have hq := lp_0 (q := qOr) rfl rfl q.1 hf
    have he : s' = _ := he
    refine x_aload_n dX10_either2_5 rfl ?_
    refine x_bipush 111 dX10_either2_6 ?_
    refine x_bipush 114 dX10_either2_8 ?_
    refine x_iconst 0 dX10_either2_10 ?_
    refine x_iconst 0 dX10_either2_11 ?_
    refine x_iconst 0 dX10_either2_12 ?_
    refine x_iconst 0 dX10_either2_13 ?_
    refine x_iconst 0 dX10_either2_14 ?_
    refine x_iconst 0 dX10_either2_15 ?_
    refine ii_X10_207 dX10_either2_16 (c_X10_word (w := 209) hr hn hb q (by decide) (by decide) wl_209) mw_o (by decide) (Nat.le_of_ble_eq_true rfl) ?_
    refine x_if_eq 48 dX10_either2_19 (fun _ => ?_) (fun hx => absurd (bi0.mpr (fun z => hq (qOr_iff.mpr z))) hx)
    refine x_iload_n dX10_either2_48 rfl ?_
    exact Ex.ret (v := some (.int _)) ⟨dX10_either2_49, _, rfl, by first | rfl | decide⟩ ⟨_, _, _, _, _, _, _, rfl, rfl, by rw [← he]; exact q, by rw [← he]; exact hv⟩
  | succ f ih =>
    intro s' x h to t tw ba fa q hc hK hf hv he
    by_cases hq : qOr (g_to s') = true
    · obtain ⟨⟨n2, n0⟩, ⟨c1, k1⟩, ⟨w3, c3, k3, f3⟩, e3⟩ := lp_go hn hg rfl rfl q.1 hc hK hf hq
      have hz := qOr_iff.mp hq
      refine x_aload_n dX10_either2_5 rfl ?_
      refine x_bipush 111 dX10_either2_6 ?_
      refine x_bipush 114 dX10_either2_8 ?_
      refine x_iconst 0 dX10_either2_10 ?_
      refine x_iconst 0 dX10_either2_11 ?_
      refine x_iconst 0 dX10_either2_12 ?_
      refine x_iconst 0 dX10_either2_13 ?_
      refine x_iconst 0 dX10_either2_14 ?_
      refine x_iconst 0 dX10_either2_15 ?_
      refine ii_X10_207 dX10_either2_16 (c_X10_word (w := 209) hr hn hb q (by decide) (by decide) wl_209) mw_o (by decide) (Nat.le_of_ble_eq_true rfl) ?_
      refine x_if_eq 48 dX10_either2_19 (fun hx => absurd hx (bi1.mpr hz)) (fun _ => ?_)
      refine x_aload_n dX10_either2_22 rfl ?_
      refine iv_X10_204 dX10_either2_23 (c_X10_nextR hr hn hb hbp q n2) mw_o (by decide) (Nat.le_of_ble_eq_true rfl) (fun v_23 w_23 hw_23 => ?_)
      obtain ⟨h1, to1, t1, tw1, rfl, rfl, q1⟩ := hw_23
      refine x_aload_n dX10_either2_26 rfl ?_
      refine iv_X10_310 dX10_either2_27 (c_X10_both2 hr hn hb hbp q1 c1 k1) mw_o (by decide) (Nat.le_of_ble_eq_true rfl) (fun v_27 w_27 hw_27 => ?_)
      obtain ⟨x2, h2, to2, t2, tw2, ba2, fa2, rfl, rfl, q2, v2⟩ := hw_27
      refine x_istore_n dX10_either2_30 (by decide) ?_
      refine x_iload_n dX10_either2_31 rfl ?_
      refine x_if_ne 39 dX10_either2_32 (fun h_32 => ?_) (fun h_32 => ?_)
      · refine x_iconst 1 dX10_either2_39 ?_
        refine x_goto 44 dX10_either2_40 ?_
        refine x_istore_n dX10_either2_44 (by decide) ?_
        refine x_goto 5 dX10_either2_45 ?_
        refine Ex.forget (L' := [some (.ref 42), some (.int 1), none]) ⟨rfl, rfl, trivial⟩ ?_
        exact ih _ _ _ _ _ _ _ _ (LR_emt q2) c3 k3 f3 (lp_v hn hg q.1 hc hK n2 n0 hz (by decide) hv v2 (show (1 : Int32) = jn 209 x x2 from (bi_t (Or.inl h_32)).symm)) (e3.symm.trans he)
      · refine x_iload_n dX10_either2_35 rfl ?_
        refine x_if_eq 43 dX10_either2_36 (fun h_36 => ?_) (fun h_36 => ?_)
        · refine x_iconst 0 dX10_either2_43 ?_
          refine x_istore_n dX10_either2_44 (by decide) ?_
          refine x_goto 5 dX10_either2_45 ?_
          refine Ex.forget (L' := [some (.ref 42), some (.int 0), none]) ⟨rfl, rfl, trivial⟩ ?_
          exact ih _ _ _ _ _ _ _ _ (LR_emt q2) c3 k3 f3 (lp_v hn hg q.1 hc hK n2 n0 hz (by decide) hv v2 (show (0 : Int32) = jn 209 x x2 from (bi_f (fun z => z.elim (fun y => y h_32) (fun y => y h_36))).symm)) (e3.symm.trans he)
        · refine x_iconst 1 dX10_either2_39 ?_
          refine x_goto 44 dX10_either2_40 ?_
          refine x_istore_n dX10_either2_44 (by decide) ?_
          refine x_goto 5 dX10_either2_45 ?_
          refine Ex.forget (L' := [some (.ref 42), some (.int 1), none]) ⟨rfl, rfl, trivial⟩ ?_
          exact ih _ _ _ _ _ _ _ _ (LR_emt q2) c3 k3 f3 (lp_v hn hg q.1 hc hK n2 n0 hz (by decide) hv v2 (show (1 : Int32) = jn 209 x x2 from (bi_t (Or.inr h_36)).symm)) (e3.symm.trans he)
    · rw [lp_no hq] at he
      refine x_aload_n dX10_either2_5 rfl ?_
      refine x_bipush 111 dX10_either2_6 ?_
      refine x_bipush 114 dX10_either2_8 ?_
      refine x_iconst 0 dX10_either2_10 ?_
      refine x_iconst 0 dX10_either2_11 ?_
      refine x_iconst 0 dX10_either2_12 ?_
      refine x_iconst 0 dX10_either2_13 ?_
      refine x_iconst 0 dX10_either2_14 ?_
      refine x_iconst 0 dX10_either2_15 ?_
      refine ii_X10_207 dX10_either2_16 (c_X10_word (w := 209) hr hn hb q (by decide) (by decide) wl_209) mw_o (by decide) (Nat.le_of_ble_eq_true rfl) ?_
      refine x_if_eq 48 dX10_either2_19 (fun _ => ?_) (fun hx => absurd (bi0.mpr (fun z => hq (qOr_iff.mpr z))) hx)
      refine x_iload_n dX10_either2_48 rfl ?_
      exact Ex.ret (v := some (.int _)) ⟨dX10_either2_49, _, rfl, by first | rfl | decide⟩ ⟨_, _, _, _, _, _, _, rfl, rfl, by rw [← he]; exact q, by rw [← he]; exact hv⟩
set_option maxRecDepth 100000 in
set_option maxHeartbeats 4000000 in
theorem c_X10_atom1 {X : Nat × (Nat → Int32)} {S : CS} {tl : pc_W} {tx : (Nat → Int32)} {ts : (Nat → Int32)} {tc : Int32} {tp : (Nat → Int32)} {tn : Int32} {U : MU} {o : (Nat → Int32)} {to : Int32} {tw : Int64} {ba : Int32} {fa : Int32} {C : MC} {K : MK} {H : MH} {r n h t : Nat} {b : Nat → Int32} {s : PS} (hr : r < 6) (hn : n ≤ 160) (hb : ∀ i, i < n → tx (160 * r + i) = b i) (hbp : ∀ i, i < n → 0 ≤ b i) (q : LR b n s h to t tw ba fa) (hc : g_cz s ≤ g_pl s) (hK : g_op s = 1): Mt X 28 0 0 yX10_atom1 cX10_atom1 2 (some .int) [.ref 42] (cst S ++ (mw (tx, ts, tc, tp, tn) U (o, nI (160 * r), nI n, nI h, to, nI t, tw, (nI 1), ba, fa) C K H ++ tl)) (fun v w' => ∃ (x : Int32) (h' : Nat) (to' : Int32) (t' : Nat) (tw' : Int64) (ba' fa' : Int32), v = some (.int x) ∧ w' = cst S ++ (mw (tx, ts, tc, tp, tn) U (o, nI (160 * r), nI n, nI h', to', nI t', tw', (nI 1), ba', fa') C K H ++ tl) ∧ LR b n (lvS b n (lev b n 4) s) h' to' t' tw' ba' fa' ∧ VR o (g_cz s) (lvS b n (lev b n 4) s) x) := by
  refine Mt.of (by decide +kernel) (fun _ _ => Nat.le_of_ble_eq_true rfl) ?_
  show Ex X mX10_atom1 _ _ _ _ _ _ _ _
  refine x_iconst 0 dX10_atom1_0 ?_
  refine x_istore_n dX10_atom1_1 (by decide) ?_
  refine x_aload_n dX10_atom1_2 rfl ?_
  refine x_bipush 45 dX10_atom1_3 ?_
  refine ii_X10_229 dX10_atom1_5 (c_X10_sign q (by decide)) mw_o (by decide) (Nat.le_of_ble_eq_true rfl) ?_
  refine x_if_eq 37 dX10_atom1_8 (fun h_8 => ?_) (fun h_8 => ?_)
  · refine x_aload_n dX10_atom1_37 rfl ?_
    refine x_bipush 40 dX10_atom1_38 ?_
    refine ii_X10_229 dX10_atom1_40 (c_X10_sign q (by decide)) mw_o (by decide) (Nat.le_of_ble_eq_true rfl) ?_
    refine x_if_eq 95 dX10_atom1_43 (fun h_43 => ?_) (fun h_43 => ?_)
    · by_cases hz : g_to s = 1
      · obtain ⟨rfl, ht2⟩ := (LR_num q).1.mpr hz
        refine x_aload_n dX10_atom1_95 rfl ?_
        refine mg_188 dX10_atom1_96 ?_
        refine x_if_ne 123 dX10_atom1_99 (fun hx => absurd (rfl) hx) (fun _ => ?_)
        refine x_aload_n dX10_atom1_102 rfl ?_
        refine mg_171 dX10_atom1_103 ?_
        refine x_iconst 2 dX10_atom1_106 ?_
        refine x_icmp_ne 123 dX10_atom1_107 (fun hx => absurd (ht2) hx) (fun _ => ?_)
        refine x_aload_n dX10_atom1_110 rfl ?_
        refine mg_182 dX10_atom1_111 ?_
        refine x_l2i dX10_atom1_114 ?_
        refine x_istore_n dX10_atom1_115 (by decide) ?_
        refine x_aload_n dX10_atom1_116 rfl ?_
        refine iv_X10_204 dX10_atom1_117 (c_X10_nextR (s := emt (g_nu s) s) hr hn hb hbp (LR_emt q) (by rw [(emt_g _ _).2.2.1, hz]; decide)) mw_o (by decide) (Nat.le_of_ble_eq_true rfl) (fun v_117 w_117 hw_117 => ?_)
        obtain ⟨h3, to3, t3, tw3, rfl, rfl, q3⟩ := hw_117
        refine x_goto 161 dX10_atom1_120 ?_
        refine x_iload_n dX10_atom1_161 rfl ?_
        obtain ⟨en, m, hm, em⟩ := (LR_num q).2 hz
        have zz := fin_id (f := lvS b n (lev b n 4)) (nm := o) (lvS_num hz) (q3) ((by rw [en, em]; exact VR_one hn q.1 hc (by rw [hz]; decide) (by rw [hz]; decide) (fun co e1 e2 => GC.lit hm e2 e1) : VR o (g_cz s) (adv b n (emt (g_nu s) s)) tw.toInt32))
        exact Ex.ret (v := some (.int _)) ⟨dX10_atom1_162, _, rfl, by first | rfl | decide⟩ ⟨_, _, _, _, _, _, _, rfl, rfl, zz⟩
      by_cases hw : ba = 0 ∧ to = 1
      · obtain ⟨rfl, ht1⟩ := hw
        refine x_aload_n dX10_atom1_95 rfl ?_
        refine mg_188 dX10_atom1_96 ?_
        refine x_if_ne 123 dX10_atom1_99 (fun hx => absurd (rfl) hx) (fun _ => ?_)
        refine x_aload_n dX10_atom1_102 rfl ?_
        refine mg_171 dX10_atom1_103 ?_
        refine x_iconst 2 dX10_atom1_106 ?_
        refine x_icmp_ne 123 dX10_atom1_107 (fun _ => ?_) (fun hx => absurd hx (by rw [ht1]; decide))
        refine x_aload_n dX10_atom1_123 rfl ?_
        refine mg_188 dX10_atom1_124 ?_
        refine x_if_ne 157 dX10_atom1_127 (fun hx => absurd (rfl) hx) (fun _ => ?_)
        refine x_aload_n dX10_atom1_130 rfl ?_
        refine mg_171 dX10_atom1_131 ?_
        refine x_iconst 1 dX10_atom1_134 ?_
        refine x_icmp_ne 157 dX10_atom1_135 (fun hx => absurd (ht1) hx) (fun _ => ?_)
        refine x_aload_n dX10_atom1_138 rfl ?_
        refine iv_X10_236 dX10_atom1_139 (c_X10_name hr hn hb q) mw_o (by decide) (Nat.le_of_ble_eq_true rfl) (fun v_139 w_139 hw_139 => ?_)
        obtain ⟨x1, ba1, fa1, rfl, rfl, hnm⟩ := hw_139
        rcases hnm with ⟨n1, n2, rfl, rfl, rfl⟩ | ⟨n1, rfl, q1⟩
        · skip
          refine x_istore_n dX10_atom1_142 (by decide) ?_
          refine x_aload_n dX10_atom1_143 rfl ?_
          refine mg_188 dX10_atom1_144 ?_
          refine x_if_ne 161 dX10_atom1_147 (fun hx => absurd (rfl) hx) (fun _ => ?_)
          refine x_aload_n dX10_atom1_150 rfl ?_
          refine iv_X10_204 dX10_atom1_151 (c_X10_nextR (s := emt (-(g_to s)) s) hr hn hb hbp (LR_emt q) (by rw [(emt_g _ _).2.2.1]; exact fun z => by rw [z] at n1; exact absurd n1 (by decide))) mw_o (by decide) (Nat.le_of_ble_eq_true rfl) (fun v_151 w_151 hw_151 => ?_)
          obtain ⟨h3, to3, t3, tw3, rfl, rfl, q3⟩ := hw_151
          refine x_goto 161 dX10_atom1_154 ?_
          refine x_iload_n dX10_atom1_161 rfl ?_
          have zz := fin_id (f := lvS b n (lev b n 4)) (nm := o) (lvS_name ⟨n1, n2⟩) (q3) (VR_one hn q.1 hc (fun z => by rw [z] at n1; exact absurd n1 (by decide)) (fun z => by rw [z] at n1; exact absurd n1 (by decide)) (fun co e1 e2 => GC.name ⟨n1, n2⟩ e2 e1))
          exact Ex.ret (v := some (.int _)) ⟨dX10_atom1_162, _, rfl, by first | rfl | decide⟩ ⟨_, _, _, _, _, _, _, rfl, rfl, zz⟩
        · skip
          refine x_istore_n dX10_atom1_142 (by decide) ?_
          refine x_aload_n dX10_atom1_143 rfl ?_
          refine mg_188 dX10_atom1_144 ?_
          refine x_if_ne 161 dX10_atom1_147 (fun _ => ?_) (fun hx => absurd hx (by decide))
          refine x_iload_n dX10_atom1_161 rfl ?_
          have zz := fin_id (f := lvS b n (lev b n 4)) (nm := o) (lvS_no hz n1 (bi0.mp h_8) (bi0.mp h_43)) (q1) (VR_rfu (x := x1) hn q.1)
          exact Ex.ret (v := some (.int _)) ⟨dX10_atom1_162, _, rfl, by first | rfl | decide⟩ ⟨_, _, _, _, _, _, _, rfl, rfl, zz⟩
      by_cases hb0 : ba = 0
      · subst hb0
        refine x_aload_n dX10_atom1_95 rfl ?_
        refine mg_188 dX10_atom1_96 ?_
        refine x_if_ne 123 dX10_atom1_99 (fun hx => absurd (rfl) hx) (fun _ => ?_)
        refine x_aload_n dX10_atom1_102 rfl ?_
        refine mg_171 dX10_atom1_103 ?_
        refine x_iconst 2 dX10_atom1_106 ?_
        refine x_icmp_ne 123 dX10_atom1_107 (fun _ => ?_) (fun hx => absurd hx (fun z => hz ((LR_num q).1.mp ⟨rfl, z⟩)))
        refine x_aload_n dX10_atom1_123 rfl ?_
        refine mg_188 dX10_atom1_124 ?_
        refine x_if_ne 157 dX10_atom1_127 (fun hx => absurd (rfl) hx) (fun _ => ?_)
        refine x_aload_n dX10_atom1_130 rfl ?_
        refine mg_171 dX10_atom1_131 ?_
        refine x_iconst 1 dX10_atom1_134 ?_
        refine x_icmp_ne 157 dX10_atom1_135 (fun _ => ?_) (fun hx => absurd hx (fun z => hw ⟨rfl, z⟩))
        refine x_aload_n dX10_atom1_157 rfl ?_
        refine iv_X10_201 dX10_atom1_158 (c_X10_failR hn q) mw_o (by decide) (Nat.le_of_ble_eq_true rfl) (fun v_158 w_158 hw_158 => ?_)
        obtain ⟨fa1, rfl, rfl, q1⟩ := hw_158
        refine x_iload_n dX10_atom1_161 rfl ?_
        have zz := fin_id (f := lvS b n (lev b n 4)) (nm := o) (lvS_no hz (fun z => hw ((LR_isw q).2 ⟨z.1, Int32.le_trans z.2 (by decide)⟩)) (bi0.mp h_8) (bi0.mp h_43)) (q1) (VR_rfu (x := 0) hn q.1)
        exact Ex.ret (v := some (.int _)) ⟨dX10_atom1_162, _, rfl, by first | rfl | decide⟩ ⟨_, _, _, _, _, _, _, rfl, rfl, zz⟩
      · skip
        refine x_aload_n dX10_atom1_95 rfl ?_
        refine mg_188 dX10_atom1_96 ?_
        refine x_if_ne 123 dX10_atom1_99 (fun _ => ?_) (fun hx => absurd hx (hb0))
        refine x_aload_n dX10_atom1_123 rfl ?_
        refine mg_188 dX10_atom1_124 ?_
        refine x_if_ne 157 dX10_atom1_127 (fun _ => ?_) (fun hx => absurd hx (hb0))
        refine x_aload_n dX10_atom1_157 rfl ?_
        refine iv_X10_201 dX10_atom1_158 (c_X10_failR hn q) mw_o (by decide) (Nat.le_of_ble_eq_true rfl) (fun v_158 w_158 hw_158 => ?_)
        obtain ⟨fa1, rfl, rfl, q1⟩ := hw_158
        refine x_iload_n dX10_atom1_161 rfl ?_
        have zz := fin_id (f := lvS b n (lev b n 4)) (nm := o) (lvS_no hz (fun z => hw ((LR_isw q).2 ⟨z.1, Int32.le_trans z.2 (by decide)⟩)) (bi0.mp h_8) (bi0.mp h_43)) (q1) (VR_rfu (x := 0) hn q.1)
        exact Ex.ret (v := some (.int _)) ⟨dX10_atom1_162, _, rfl, by first | rfl | decide⟩ ⟨_, _, _, _, _, _, _, rfl, rfl, zz⟩
    have hz := bi1.mp h_43
    refine x_aload_n dX10_atom1_46 rfl ?_
    refine iv_X10_232 dX10_atom1_47 (c_X10_opens_y hr hn hb hbp q (by rw [hz]; decide) (by decide)) mw_o (by decide) (Nat.le_of_ble_eq_true rfl) (fun v_47 w_47 hw_47 => ?_)
    obtain ⟨h1, to1, t1, tw1, rfl, rfl, q1⟩ := hw_47
    obtain ⟨c1, k1, e1⟩ := in_pre (b := b) hn q.1 hc hK (by rw [hz]; decide) (by rw [hz]; decide)
    refine x_if_eq 161 dX10_atom1_50 (fun hx => absurd hx (by decide)) (fun _ => ?_)
    refine x_aload_n dX10_atom1_53 rfl ?_
    refine iv_X10_313 dX10_atom1_54 (c_X10_either2 hr hn hb hbp q1 c1 k1) mw_o (by decide) (Nat.le_of_ble_eq_true rfl) (fun v_54 w_54 hw_54 => ?_)
    obtain ⟨x2, h2, to2, t2, tw2, ba2, fa2, rfl, rfl, q2, v2⟩ := hw_54
    refine x_istore_n dX10_atom1_57 (by decide) ?_
    refine x_aload_n dX10_atom1_58 rfl ?_
    refine x_bipush 41 dX10_atom1_59 ?_
    refine ii_X10_229 dX10_atom1_61 (c_X10_sign q2 (by decide)) mw_o (by decide) (Nat.le_of_ble_eq_true rfl) ?_
    refine x_if_ne 71 dX10_atom1_64 (fun h_64 => ?_) (fun h_64 => ?_)
    · have hz2 := bi1.mp h_64
      obtain ⟨-, rfl, -, -⟩ := LR_ok q2 (by rw [hz2]; decide)
      refine x_aload_n dX10_atom1_71 rfl ?_
      refine x_dup dX10_atom1_72 ?_
      refine mg_198 dX10_atom1_73 ?_
      refine x_iconst 1 dX10_atom1_76 ?_
      refine x_isub dX10_atom1_77 ?_
      rw [show nI 2 - 1 = nI 1 from nI_pred 1]
      refine mp_198 dX10_atom1_78 ?_
      refine x_aload_n dX10_atom1_81 rfl ?_
      refine mg_188 dX10_atom1_82 ?_
      refine x_if_ne 161 dX10_atom1_85 (fun hx => absurd (rfl) hx) (fun _ => ?_)
      refine x_aload_n dX10_atom1_88 rfl ?_
      refine iv_X10_204 dX10_atom1_89 (c_X10_nextR hr hn hb hbp (LR_dec q2) (by rw [to_dec, hz2]; decide)) mw_o (by decide) (Nat.le_of_ble_eq_true rfl) (fun v_89 w_89 hw_89 => ?_)
      obtain ⟨h3, to3, t3, tw3, rfl, rfl, q3⟩ := hw_89
      refine x_goto 161 dX10_atom1_92 ?_
      refine x_iload_n dX10_atom1_161 rfl ?_
      have zz := fin_py (k := 3) hn q.1 hc hK rfl hz hz2 q3 v2
      exact Ex.ret (v := some (.int _)) ⟨dX10_atom1_162, _, rfl, by first | rfl | decide⟩ ⟨_, _, _, _, _, _, _, rfl, rfl, zz⟩
    · have hz2 := bi0.mp h_64
      refine x_aload_n dX10_atom1_67 rfl ?_
      refine iv_X10_201 dX10_atom1_68 (c_X10_failR hn q2) mw_o (by decide) (Nat.le_of_ble_eq_true rfl) (fun v_68 w_68 hw_68 => ?_)
      obtain ⟨fa3, rfl, rfl, q3⟩ := hw_68
      refine x_aload_n dX10_atom1_71 rfl ?_
      refine x_dup dX10_atom1_72 ?_
      refine mg_198 dX10_atom1_73 ?_
      refine x_iconst 1 dX10_atom1_76 ?_
      refine x_isub dX10_atom1_77 ?_
      rw [show nI 2 - 1 = nI 1 from nI_pred 1]
      refine mp_198 dX10_atom1_78 ?_
      refine x_aload_n dX10_atom1_81 rfl ?_
      refine mg_188 dX10_atom1_82 ?_
      refine x_if_ne 161 dX10_atom1_85 (fun _ => ?_) (fun hx => absurd hx (by decide))
      refine x_iload_n dX10_atom1_161 rfl ?_
      have zz := fin_pn (k := 3) hn q.1 hc hK rfl hz hz2 q3 v2
      exact Ex.ret (v := some (.int _)) ⟨dX10_atom1_162, _, rfl, by first | rfl | decide⟩ ⟨_, _, _, _, _, _, _, rfl, rfl, zz⟩
  have hz := bi1.mp h_8
  refine x_aload_n dX10_atom1_11 rfl ?_
  refine iv_X10_232 dX10_atom1_12 (c_X10_opens_y hr hn hb hbp q (by rw [hz]; decide) (by decide)) mw_o (by decide) (Nat.le_of_ble_eq_true rfl) (fun v_12 w_12 hw_12 => ?_)
  obtain ⟨h1, to1, t1, tw1, rfl, rfl, q1⟩ := hw_12
  obtain ⟨c1, k1, e1⟩ := in_pre (b := b) hn q.1 hc hK (by rw [hz]; decide) (by rw [hz]; decide)
  refine x_if_eq 161 dX10_atom1_15 (fun hx => absurd hx (by decide)) (fun _ => ?_)
  refine x_aload_n dX10_atom1_18 rfl ?_
  refine iv_X10_298 dX10_atom1_19 (c_X10_atom2 hr hn hb hbp q1 c1 k1) mw_o (by decide) (Nat.le_of_ble_eq_true rfl) (fun v_19 w_19 hw_19 => ?_)
  obtain ⟨x2, h2, to2, t2, tw2, ba2, fa2, rfl, rfl, q2, v2⟩ := hw_19
  refine x_ineg dX10_atom1_22 ?_
  refine x_istore_n dX10_atom1_23 (by decide) ?_
  refine x_aload_n dX10_atom1_24 rfl ?_
  refine x_dup dX10_atom1_25 ?_
  refine mg_198 dX10_atom1_26 ?_
  refine x_iconst 1 dX10_atom1_29 ?_
  refine x_isub dX10_atom1_30 ?_
  rw [show nI 2 - 1 = nI 1 from nI_pred 1]
  refine mp_198 dX10_atom1_31 ?_
  refine x_goto 161 dX10_atom1_34 ?_
  refine x_iload_n dX10_atom1_161 rfl ?_
  have zz := fin_neg (k := 3) hn q.1 hc hK rfl hz q2 v2
  exact Ex.ret (v := some (.int _)) ⟨dX10_atom1_162, _, rfl, by first | rfl | decide⟩ ⟨_, _, _, _, _, _, _, rfl, rfl, zz⟩
set_option maxRecDepth 100000 in
set_option maxHeartbeats 4000000 in
theorem c_X10_term1 {X : Nat × (Nat → Int32)} {S : CS} {tl : pc_W} {tx : (Nat → Int32)} {ts : (Nat → Int32)} {tc : Int32} {tp : (Nat → Int32)} {tn : Int32} {U : MU} {o : (Nat → Int32)} {to : Int32} {tw : Int64} {ba : Int32} {fa : Int32} {C : MC} {K : MK} {H : MH} {r n h t : Nat} {b : Nat → Int32} {s : PS} (hr : r < 6) (hn : n ≤ 160) (hb : ∀ i, i < n → tx (160 * r + i) = b i) (hbp : ∀ i, i < n → 0 ≤ b i) (q : LR b n s h to t tw ba fa) (hc : g_cz s ≤ g_pl s) (hK : g_op s = 1): Mt X 29 0 0 yX10_term1 cX10_term1 2 (some .int) [.ref 42] (cst S ++ (mw (tx, ts, tc, tp, tn) U (o, nI (160 * r), nI n, nI h, to, nI t, tw, (nI 1), ba, fa) C K H ++ tl)) (fun v w' => ∃ (x : Int32) (h' : Nat) (to' : Int32) (t' : Nat) (tw' : Int64) (ba' fa' : Int32), v = some (.int x) ∧ w' = cst S ++ (mw (tx, ts, tc, tp, tn) U (o, nI (160 * r), nI n, nI h', to', nI t', tw', (nI 1), ba', fa') C K H ++ tl) ∧ LR b n (lvT b n (lev b n 4) s) h' to' t' tw' ba' fa' ∧ VR o (g_cz s) (lvT b n (lev b n 4) s) x) := by
  refine Mt.of (by decide +kernel) (fun _ _ => Nat.le_of_ble_eq_true rfl) ?_
  show Ex X mX10_term1 _ _ _ _ _ _ _ _
  refine x_aload_n dX10_term1_0 rfl ?_
  refine iv_X10_316 dX10_term1_1 (c_X10_atom1 hr hn hb hbp q hc hK) mw_o (by decide) (Nat.le_of_ble_eq_true rfl) (fun v_1 w_1 hw_1 => ?_)
  obtain ⟨x1, h1, to1, t1, tw1, ba1, fa1, rfl, rfl, q1, v1⟩ := hw_1
  refine x_istore_n dX10_term1_4 (by decide) ?_
  have hg := (lv_gf (b := b) hn 4 1 rfl).1
  have hc1 := (hg s q.1 hc hK).1.cz hc
  refine Ex.forget (L' := [some (.ref 42), some (.int x1)]) ⟨rfl, rfl, trivial⟩ ?_
  suffices hL : ∀ (f : Nat) (s' : PS) (x : Int32) (h : Nat) (to : Int32) (t : Nat) (tw : Int64) (ba fa : Int32), LR b n s' h to t tw ba fa → g_cz s' ≤ g_pl s' → g_op s' = 1 → n ≤ f + g_pl s' → VR o (g_cz s) s' x → lpG b n qMu (lvS b n (lev b n 4)) f s' = lvT b n (lev b n 4) s → Ex X mX10_term1 29 (fun v w' => ∃ (x : Int32) (h' : Nat) (to' : Int32) (t' : Nat) (tw' : Int64) (ba' fa' : Int32), v = some (.int x) ∧ w' = cst S ++ (mw (tx, ts, tc, tp, tn) U (o, nI (160 * r), nI n, nI h', to', nI t', tw', (nI 1), ba', fa') C K H ++ tl) ∧ LR b n (lvT b n (lev b n 4) s) h' to' t' tw' ba' fa' ∧ VR o (g_cz s) (lvT b n (lev b n 4) s) x) 0 0 5 [some (.ref 42), some (.int x)] [] (cst S ++ (mw (tx, ts, tc, tp, tn) U (o, nI (160 * r), nI n, nI h, to, nI t, tw, (nI 1), ba, fa) C K H ++ tl)) from hL 160 _ _ _ _ _ _ _ _ q1 hc1 ((hg s q.1 hc hK).1.2.1.trans hK) (by omega) v1 rfl
  intro f
  induction f with
  | zero =>
    intro s' x h to t tw ba fa q hc hK hf hv he
    have hq := lp_0 (q := qMu) rfl rfl q.1 hf
    have he : s' = _ := he
    refine x_aload_n dX10_term1_5 rfl ?_
    refine x_bipush 42 dX10_term1_6 ?_
    refine ii_X10_229 dX10_term1_8 (c_X10_sign q (by decide)) mw_o (by decide) (Nat.le_of_ble_eq_true rfl) ?_
    refine x_if_eq 28 dX10_term1_11 (fun _ => ?_) (fun hx => absurd (bi0.mpr (fun z => hq (qMu_iff.mpr z))) hx)
    refine x_iload_n dX10_term1_28 rfl ?_
    exact Ex.ret (v := some (.int _)) ⟨dX10_term1_29, _, rfl, by first | rfl | decide⟩ ⟨_, _, _, _, _, _, _, rfl, rfl, by rw [← he]; exact q, by rw [← he]; exact hv⟩
  | succ f ih =>
    intro s' x h to t tw ba fa q hc hK hf hv he
    by_cases hq : qMu (g_to s') = true
    · obtain ⟨⟨n2, n0⟩, ⟨c1, k1⟩, ⟨w3, c3, k3, f3⟩, e3⟩ := lp_go hn hg rfl rfl q.1 hc hK hf hq
      have hz := qMu_iff.mp hq
      refine x_aload_n dX10_term1_5 rfl ?_
      refine x_bipush 42 dX10_term1_6 ?_
      refine ii_X10_229 dX10_term1_8 (c_X10_sign q (by decide)) mw_o (by decide) (Nat.le_of_ble_eq_true rfl) ?_
      refine x_if_eq 28 dX10_term1_11 (fun hx => absurd hx (bi1.mpr hz)) (fun _ => ?_)
      refine x_aload_n dX10_term1_14 rfl ?_
      refine iv_X10_204 dX10_term1_15 (c_X10_nextR hr hn hb hbp q n2) mw_o (by decide) (Nat.le_of_ble_eq_true rfl) (fun v_15 w_15 hw_15 => ?_)
      obtain ⟨h1, to1, t1, tw1, rfl, rfl, q1⟩ := hw_15
      refine x_iload_n dX10_term1_18 rfl ?_
      refine x_aload_n dX10_term1_19 rfl ?_
      refine iv_X10_316 dX10_term1_20 (c_X10_atom1 hr hn hb hbp q1 c1 k1) mw_o (by decide) (Nat.le_of_ble_eq_true rfl) (fun v_20 w_20 hw_20 => ?_)
      obtain ⟨x2, h2, to2, t2, tw2, ba2, fa2, rfl, rfl, q2, v2⟩ := hw_20
      refine x_imul dX10_term1_23 ?_
      refine x_istore_n dX10_term1_24 (by decide) ?_
      refine x_goto 5 dX10_term1_25 ?_
      refine Ex.forget (L' := [some (.ref 42), some (.int (x * x2))]) ⟨rfl, rfl, trivial⟩ ?_
      exact ih _ _ _ _ _ _ _ _ (LR_emt q2) c3 k3 f3 (lp_v hn hg q.1 hc hK n2 n0 hz (by decide) hv v2 (jn_mu x x2).symm) (e3.symm.trans he)
    · rw [lp_no hq] at he
      refine x_aload_n dX10_term1_5 rfl ?_
      refine x_bipush 42 dX10_term1_6 ?_
      refine ii_X10_229 dX10_term1_8 (c_X10_sign q (by decide)) mw_o (by decide) (Nat.le_of_ble_eq_true rfl) ?_
      refine x_if_eq 28 dX10_term1_11 (fun _ => ?_) (fun hx => absurd (bi0.mpr (fun z => hq (qMu_iff.mpr z))) hx)
      refine x_iload_n dX10_term1_28 rfl ?_
      exact Ex.ret (v := some (.int _)) ⟨dX10_term1_29, _, rfl, by first | rfl | decide⟩ ⟨_, _, _, _, _, _, _, rfl, rfl, by rw [← he]; exact q, by rw [← he]; exact hv⟩
set_option maxRecDepth 100000 in
set_option maxHeartbeats 4000000 in
theorem c_X10_added1 {X : Nat × (Nat → Int32)} {S : CS} {tl : pc_W} {tx : (Nat → Int32)} {ts : (Nat → Int32)} {tc : Int32} {tp : (Nat → Int32)} {tn : Int32} {U : MU} {o : (Nat → Int32)} {to : Int32} {tw : Int64} {ba : Int32} {fa : Int32} {C : MC} {K : MK} {H : MH} {r n h t : Nat} {b : Nat → Int32} {s : PS} (hr : r < 6) (hn : n ≤ 160) (hb : ∀ i, i < n → tx (160 * r + i) = b i) (hbp : ∀ i, i < n → 0 ≤ b i) (q : LR b n s h to t tw ba fa) (hc : g_cz s ≤ g_pl s) (hK : g_op s = 1): Mt X 30 0 0 yX10_added1 cX10_added1 4 (some .int) [.ref 42] (cst S ++ (mw (tx, ts, tc, tp, tn) U (o, nI (160 * r), nI n, nI h, to, nI t, tw, (nI 1), ba, fa) C K H ++ tl)) (fun v w' => ∃ (x : Int32) (h' : Nat) (to' : Int32) (t' : Nat) (tw' : Int64) (ba' fa' : Int32), v = some (.int x) ∧ w' = cst S ++ (mw (tx, ts, tc, tp, tn) U (o, nI (160 * r), nI n, nI h', to', nI t', tw', (nI 1), ba', fa') C K H ++ tl) ∧ LR b n (lvM b n (lev b n 4) s) h' to' t' tw' ba' fa' ∧ VR o (g_cz s) (lvM b n (lev b n 4) s) x) := by
  refine Mt.of (by decide +kernel) (fun _ _ => Nat.le_of_ble_eq_true rfl) ?_
  show Ex X mX10_added1 _ _ _ _ _ _ _ _
  refine x_aload_n dX10_added1_0 rfl ?_
  refine iv_X10_319 dX10_added1_1 (c_X10_term1 hr hn hb hbp q hc hK) mw_o (by decide) (Nat.le_of_ble_eq_true rfl) (fun v_1 w_1 hw_1 => ?_)
  obtain ⟨x1, h1, to1, t1, tw1, ba1, fa1, rfl, rfl, q1, v1⟩ := hw_1
  refine x_istore_n dX10_added1_4 (by decide) ?_
  have hg := (lv_gf (b := b) hn 4 1 rfl).2.1
  have hc1 := (hg s q.1 hc hK).1.cz hc
  refine Ex.forget (L' := [some (.ref 42), some (.int x1), none, none]) ⟨rfl, rfl, trivial⟩ ?_
  suffices hL : ∀ (f : Nat) (s' : PS) (x : Int32) (h : Nat) (to : Int32) (t : Nat) (tw : Int64) (ba fa : Int32), LR b n s' h to t tw ba fa → g_cz s' ≤ g_pl s' → g_op s' = 1 → n ≤ f + g_pl s' → VR o (g_cz s) s' x → lpG b n qPl (lvT b n (lev b n 4)) f s' = lvM b n (lev b n 4) s → Ex X mX10_added1 30 (fun v w' => ∃ (x : Int32) (h' : Nat) (to' : Int32) (t' : Nat) (tw' : Int64) (ba' fa' : Int32), v = some (.int x) ∧ w' = cst S ++ (mw (tx, ts, tc, tp, tn) U (o, nI (160 * r), nI n, nI h', to', nI t', tw', (nI 1), ba', fa') C K H ++ tl) ∧ LR b n (lvM b n (lev b n 4) s) h' to' t' tw' ba' fa' ∧ VR o (g_cz s) (lvM b n (lev b n 4) s) x) 0 0 5 [some (.ref 42), some (.int x), none, none] [] (cst S ++ (mw (tx, ts, tc, tp, tn) U (o, nI (160 * r), nI n, nI h, to, nI t, tw, (nI 1), ba, fa) C K H ++ tl)) from hL 160 _ _ _ _ _ _ _ _ q1 hc1 ((hg s q.1 hc hK).1.2.1.trans hK) (by omega) v1 rfl
  intro f
  induction f with
  | zero =>
    intro s' x h to t tw ba fa q hc hK hf hv he
    have hq := lp_0 (q := qPl) rfl rfl q.1 hf
    have he : s' = _ := he
    refine x_aload_n dX10_added1_5 rfl ?_
    refine x_bipush 43 dX10_added1_6 ?_
    refine ii_X10_229 dX10_added1_8 (c_X10_sign q (by decide)) mw_o (by decide) (Nat.le_of_ble_eq_true rfl) ?_
    refine x_if_ne 23 dX10_added1_11 (fun hx => absurd (bi0.mpr (fun z => hq (qPl_iff.mpr (Or.inl z)))) hx) (fun _ => ?_)
    refine x_aload_n dX10_added1_14 rfl ?_
    refine x_bipush 45 dX10_added1_15 ?_
    refine ii_X10_229 dX10_added1_17 (c_X10_sign q (by decide)) mw_o (by decide) (Nat.le_of_ble_eq_true rfl) ?_
    refine x_if_eq 66 dX10_added1_20 (fun _ => ?_) (fun hx => absurd (bi0.mpr (fun z => hq (qPl_iff.mpr (Or.inr z)))) hx)
    refine x_iload_n dX10_added1_66 rfl ?_
    exact Ex.ret (v := some (.int _)) ⟨dX10_added1_67, _, rfl, by first | rfl | decide⟩ ⟨_, _, _, _, _, _, _, rfl, rfl, by rw [← he]; exact q, by rw [← he]; exact hv⟩
  | succ f ih =>
    intro s' x h to t tw ba fa q hc hK hf hv he
    by_cases hq : qPl (g_to s') = true
    · obtain ⟨⟨n2, n0⟩, ⟨c1, k1⟩, ⟨w3, c3, k3, f3⟩, e3⟩ := lp_go hn hg rfl rfl q.1 hc hK hf hq
      rcases qPl_iff.mp hq with hz | hz
      · skip
        refine x_aload_n dX10_added1_5 rfl ?_
        refine x_bipush 43 dX10_added1_6 ?_
        refine ii_X10_229 dX10_added1_8 (c_X10_sign q (by decide)) mw_o (by decide) (Nat.le_of_ble_eq_true rfl) ?_
        refine x_if_ne 23 dX10_added1_11 (fun _ => ?_) (fun hx => absurd hx (bi1.mpr hz))
        refine x_aload_n dX10_added1_23 rfl ?_
        refine mg_182 dX10_added1_24 ?_
        refine x_ldc2_w dX10_added1_27 kk_X10_246 ?_
        refine x_lcmp dX10_added1_30 ?_
        refine x_if_ne 38 dX10_added1_31 (fun hx => absurd ((lg_cmp_eq _ _).mpr ((LR_tw q (by rw [hz]; decide)).trans (by rw [hz]; decide))) hx) (fun _ => ?_)
        refine x_iconst 1 dX10_added1_34 ?_
        refine x_goto 39 dX10_added1_35 ?_
        refine x_istore_n dX10_added1_39 (by decide) ?_
        refine x_aload_n dX10_added1_40 rfl ?_
        refine iv_X10_204 dX10_added1_41 (c_X10_nextR hr hn hb hbp q n2) mw_o (by decide) (Nat.le_of_ble_eq_true rfl) (fun v_41 w_41 hw_41 => ?_)
        obtain ⟨h1, to1, t1, tw1, rfl, rfl, q1⟩ := hw_41
        refine x_aload_n dX10_added1_44 rfl ?_
        refine iv_X10_319 dX10_added1_45 (c_X10_term1 hr hn hb hbp q1 c1 k1) mw_o (by decide) (Nat.le_of_ble_eq_true rfl) (fun v_45 w_45 hw_45 => ?_)
        obtain ⟨x2, h2, to2, t2, tw2, ba2, fa2, rfl, rfl, q2, v2⟩ := hw_45
        refine x_istore_n dX10_added1_48 (by decide) ?_
        refine x_iload_n dX10_added1_49 rfl ?_
        refine x_if_eq 59 dX10_added1_50 (fun hx => absurd hx (by decide)) (fun _ => ?_)
        refine x_iload_n dX10_added1_53 rfl ?_
        refine x_iload_n dX10_added1_54 rfl ?_
        refine x_iadd dX10_added1_55 ?_
        refine x_goto 62 dX10_added1_56 ?_
        refine x_istore_n dX10_added1_62 (by decide) ?_
        refine x_goto 5 dX10_added1_63 ?_
        refine Ex.forget (L' := [some (.ref 42), some (.int (x + x2)), none, none]) ⟨rfl, rfl, trivial⟩ ?_
        exact ih _ _ _ _ _ _ _ _ (LR_emt q2) c3 k3 f3 (lp_v hn hg q.1 hc hK n2 n0 hz (by decide) hv v2 (jn_ad x x2).symm) (e3.symm.trans he)
      · skip
        refine x_aload_n dX10_added1_5 rfl ?_
        refine x_bipush 43 dX10_added1_6 ?_
        refine ii_X10_229 dX10_added1_8 (c_X10_sign q (by decide)) mw_o (by decide) (Nat.le_of_ble_eq_true rfl) ?_
        refine x_if_ne 23 dX10_added1_11 (fun hx => absurd (bi0.mpr (fun z => absurd (hz.symm.trans z) (by decide))) hx) (fun _ => ?_)
        refine x_aload_n dX10_added1_14 rfl ?_
        refine x_bipush 45 dX10_added1_15 ?_
        refine ii_X10_229 dX10_added1_17 (c_X10_sign q (by decide)) mw_o (by decide) (Nat.le_of_ble_eq_true rfl) ?_
        refine x_if_eq 66 dX10_added1_20 (fun hx => absurd hx (bi1.mpr hz)) (fun _ => ?_)
        refine x_aload_n dX10_added1_23 rfl ?_
        refine mg_182 dX10_added1_24 ?_
        refine x_ldc2_w dX10_added1_27 kk_X10_246 ?_
        refine x_lcmp dX10_added1_30 ?_
        refine x_if_ne 38 dX10_added1_31 (fun _ => ?_) (fun hx => absurd hx (fun z => absurd (((lg_cmp_eq _ _).mp z).symm.trans ((LR_tw q (by rw [hz]; decide)).trans (by rw [hz]))) (by decide)))
        refine x_iconst 0 dX10_added1_38 ?_
        refine x_istore_n dX10_added1_39 (by decide) ?_
        refine x_aload_n dX10_added1_40 rfl ?_
        refine iv_X10_204 dX10_added1_41 (c_X10_nextR hr hn hb hbp q n2) mw_o (by decide) (Nat.le_of_ble_eq_true rfl) (fun v_41 w_41 hw_41 => ?_)
        obtain ⟨h1, to1, t1, tw1, rfl, rfl, q1⟩ := hw_41
        refine x_aload_n dX10_added1_44 rfl ?_
        refine iv_X10_319 dX10_added1_45 (c_X10_term1 hr hn hb hbp q1 c1 k1) mw_o (by decide) (Nat.le_of_ble_eq_true rfl) (fun v_45 w_45 hw_45 => ?_)
        obtain ⟨x2, h2, to2, t2, tw2, ba2, fa2, rfl, rfl, q2, v2⟩ := hw_45
        refine x_istore_n dX10_added1_48 (by decide) ?_
        refine x_iload_n dX10_added1_49 rfl ?_
        refine x_if_eq 59 dX10_added1_50 (fun _ => ?_) (fun hx => absurd (rfl) hx)
        refine x_iload_n dX10_added1_59 rfl ?_
        refine x_iload_n dX10_added1_60 rfl ?_
        refine x_isub dX10_added1_61 ?_
        refine x_istore_n dX10_added1_62 (by decide) ?_
        refine x_goto 5 dX10_added1_63 ?_
        refine Ex.forget (L' := [some (.ref 42), some (.int (x - x2)), none, none]) ⟨rfl, rfl, trivial⟩ ?_
        exact ih _ _ _ _ _ _ _ _ (LR_emt q2) c3 k3 f3 (lp_v hn hg q.1 hc hK n2 n0 hz (by decide) hv v2 (jn_sb x x2).symm) (e3.symm.trans he)
    · rw [lp_no hq] at he
      refine x_aload_n dX10_added1_5 rfl ?_
      refine x_bipush 43 dX10_added1_6 ?_
      refine ii_X10_229 dX10_added1_8 (c_X10_sign q (by decide)) mw_o (by decide) (Nat.le_of_ble_eq_true rfl) ?_
      refine x_if_ne 23 dX10_added1_11 (fun hx => absurd (bi0.mpr (fun z => hq (qPl_iff.mpr (Or.inl z)))) hx) (fun _ => ?_)
      refine x_aload_n dX10_added1_14 rfl ?_
      refine x_bipush 45 dX10_added1_15 ?_
      refine ii_X10_229 dX10_added1_17 (c_X10_sign q (by decide)) mw_o (by decide) (Nat.le_of_ble_eq_true rfl) ?_
      refine x_if_eq 66 dX10_added1_20 (fun _ => ?_) (fun hx => absurd (bi0.mpr (fun z => hq (qPl_iff.mpr (Or.inr z)))) hx)
      refine x_iload_n dX10_added1_66 rfl ?_
      exact Ex.ret (v := some (.int _)) ⟨dX10_added1_67, _, rfl, by first | rfl | decide⟩ ⟨_, _, _, _, _, _, _, rfl, rfl, by rw [← he]; exact q, by rw [← he]; exact hv⟩
set_option maxRecDepth 100000 in
set_option maxHeartbeats 4000000 in
theorem c_X10_not1 {X : Nat × (Nat → Int32)} {S : CS} {tl : pc_W} {tx : (Nat → Int32)} {ts : (Nat → Int32)} {tc : Int32} {tp : (Nat → Int32)} {tn : Int32} {U : MU} {o : (Nat → Int32)} {to : Int32} {tw : Int64} {ba : Int32} {fa : Int32} {C : MC} {K : MK} {H : MH} {r n h t : Nat} {b : Nat → Int32} {s : PS} (hr : r < 6) (hn : n ≤ 160) (hb : ∀ i, i < n → tx (160 * r + i) = b i) (hbp : ∀ i, i < n → 0 ≤ b i) (q : LR b n s h to t tw ba fa) (hc : g_cz s ≤ g_pl s) (hK : g_op s = 1): Mt X 31 0 0 yX10_not1 cX10_not1 4 (some .int) [.ref 42] (cst S ++ (mw (tx, ts, tc, tp, tn) U (o, nI (160 * r), nI n, nI h, to, nI t, tw, (nI 1), ba, fa) C K H ++ tl)) (fun v w' => ∃ (x : Int32) (h' : Nat) (to' : Int32) (t' : Nat) (tw' : Int64) (ba' fa' : Int32), v = some (.int x) ∧ w' = cst S ++ (mw (tx, ts, tc, tp, tn) U (o, nI (160 * r), nI n, nI h', to', nI t', tw', (nI 1), ba', fa') C K H ++ tl) ∧ LR b n (lvN b n (lev b n 4) s) h' to' t' tw' ba' fa' ∧ VR o (g_cz s) (lvN b n (lev b n 4) s) x) := by
  refine Mt.of (by decide +kernel) (fun _ _ => Nat.le_of_ble_eq_true rfl) ?_
  show Ex X mX10_not1 _ _ _ _ _ _ _ _
  refine x_aload_n dX10_not1_0 rfl ?_
  refine x_bipush 110 dX10_not1_1 ?_
  refine x_bipush 111 dX10_not1_3 ?_
  refine x_bipush 116 dX10_not1_5 ?_
  refine x_iconst 0 dX10_not1_7 ?_
  refine x_iconst 0 dX10_not1_8 ?_
  refine x_iconst 0 dX10_not1_9 ?_
  refine x_iconst 0 dX10_not1_10 ?_
  refine x_iconst 0 dX10_not1_11 ?_
  refine ii_X10_207 dX10_not1_12 (c_X10_word (w := 211) hr hn hb q (by decide) (by decide) wl_211) mw_o (by decide) (Nat.le_of_ble_eq_true rfl) ?_
  refine x_if_eq 52 dX10_not1_15 (fun h_15 => ?_) (fun h_15 => ?_)
  · have hz : ¬ g_to s = 211 := bi0.mp h_15
    refine x_aload_n dX10_not1_52 rfl ?_
    refine iv_X10_322 dX10_not1_53 (c_X10_added1 hr hn hb hbp q hc hK) mw_o (by decide) (Nat.le_of_ble_eq_true rfl) (fun v_53 w_53 hw_53 => ?_)
    obtain ⟨x1, h1, to1, t1, tw1, ba1, fa1, rfl, rfl, q1, v1⟩ := hw_53
    refine x_istore_n dX10_not1_56 (by decide) ?_
    refine x_aload_n dX10_not1_57 rfl ?_
    refine x_bipush 60 dX10_not1_58 ?_
    refine ii_X10_229 dX10_not1_60 (c_X10_sign q1 (by decide)) mw_o (by decide) (Nat.le_of_ble_eq_true rfl) ?_
    have hg := (lv_gf (b := b) hn 4 1 rfl).2.2.1
    have hs1 := (hg s q.1 hc hK).1
    by_cases hzlt : g_to (lvM b n (lev b n 4) s) = 60
    · have n2 : ¬ g_to (lvM b n (lev b n 4) s) = 2 := by rw [hzlt]; decide
      have n0 : ¬ g_to (lvM b n (lev b n 4) s) = 0 := by rw [hzlt]; decide
      have ha := hs1.tr (adv_gd (b := b) hn hs1.1 n2 n0)
      have c2 := ha.cz hc
      have k2 := ha.2.1.trans hK
      refine x_if_ne 77 dX10_not1_63 (fun _ => ?_) (fun hx => absurd hx (bi1.mpr hzlt))
      refine x_aload_n dX10_not1_77 rfl ?_
      refine mg_182 dX10_not1_78 ?_
      refine x_ldc2_w dX10_not1_81 kk_X10_251 ?_
      refine x_lcmp dX10_not1_84 ?_
      refine x_if_ne 92 dX10_not1_85 (fun hx => absurd ((lg_cmp_eq _ _).mpr ((LR_tw q1 (by rw [hzlt]; decide)).trans (by rw [hzlt]; decide))) hx) (fun _ => ?_)
      refine x_iconst 1 dX10_not1_88 ?_
      refine x_goto 93 dX10_not1_89 ?_
      refine x_istore_n dX10_not1_93 (by decide) ?_
      refine x_aload_n dX10_not1_94 rfl ?_
      refine iv_X10_204 dX10_not1_95 (c_X10_nextR hr hn hb hbp q1 n2) mw_o (by decide) (Nat.le_of_ble_eq_true rfl) (fun v_95 w_95 hw_95 => ?_)
      obtain ⟨h2, to2, t2, tw2, rfl, rfl, q2⟩ := hw_95
      refine x_aload_n dX10_not1_98 rfl ?_
      refine iv_X10_322 dX10_not1_99 (c_X10_added1 hr hn hb hbp q2 (by omega) k2) mw_o (by decide) (Nat.le_of_ble_eq_true rfl) (fun v_99 w_99 hw_99 => ?_)
      obtain ⟨x3, h3, to3, t3, tw3, ba3, fa3, rfl, rfl, q3, v3⟩ := hw_99
      refine x_istore_n dX10_not1_102 (by decide) ?_
      refine x_iload_n dX10_not1_103 rfl ?_
      refine x_if_eq 115 dX10_not1_104 (fun hx => absurd hx (by decide)) (fun _ => ?_)
      refine x_iload_n dX10_not1_107 rfl ?_
      refine x_iload_n dX10_not1_108 rfl ?_
      refine x_icmp_ge 124 dX10_not1_109 (fun h_109 => ?_) (fun h_109 => ?_)
      · refine x_iconst 0 dX10_not1_124 ?_
        have zz := fin_cmp (v := 0) (k := 4) hn q.1 hc hK rfl hz (Or.inl hzlt) q3 v1 v3 (by rw [hzlt]; exact (bi_f (Int32.not_lt.mpr h_109)).symm)
        exact Ex.ret (v := some (.int _)) ⟨dX10_not1_125, _, rfl, by first | rfl | decide⟩ ⟨_, _, _, _, _, _, _, rfl, rfl, zz⟩
      · refine x_goto 120 dX10_not1_112 ?_
        refine x_iconst 1 dX10_not1_120 ?_
        refine x_goto 125 dX10_not1_121 ?_
        have zz := fin_cmp (v := 1) (k := 4) hn q.1 hc hK rfl hz (Or.inl hzlt) q3 v1 v3 (by rw [hzlt]; exact (bi_t (Int32.not_le.mp h_109)).symm)
        exact Ex.ret (v := some (.int _)) ⟨dX10_not1_125, _, rfl, by first | rfl | decide⟩ ⟨_, _, _, _, _, _, _, rfl, rfl, zz⟩
    by_cases hzeq : g_to (lvM b n (lev b n 4) s) = 61
    · have n2 : ¬ g_to (lvM b n (lev b n 4) s) = 2 := by rw [hzeq]; decide
      have n0 : ¬ g_to (lvM b n (lev b n 4) s) = 0 := by rw [hzeq]; decide
      have ha := hs1.tr (adv_gd (b := b) hn hs1.1 n2 n0)
      have c2 := ha.cz hc
      have k2 := ha.2.1.trans hK
      refine x_if_ne 77 dX10_not1_63 (fun hx => absurd (bi0.mpr hzlt) hx) (fun _ => ?_)
      refine x_aload_n dX10_not1_66 rfl ?_
      refine x_bipush 61 dX10_not1_67 ?_
      refine ii_X10_229 dX10_not1_69 (c_X10_sign q1 (by decide)) mw_o (by decide) (Nat.le_of_ble_eq_true rfl) ?_
      refine x_if_ne 77 dX10_not1_72 (fun _ => ?_) (fun hx => absurd hx (bi1.mpr hzeq))
      refine x_aload_n dX10_not1_77 rfl ?_
      refine mg_182 dX10_not1_78 ?_
      refine x_ldc2_w dX10_not1_81 kk_X10_251 ?_
      refine x_lcmp dX10_not1_84 ?_
      refine x_if_ne 92 dX10_not1_85 (fun _ => ?_) (fun hx => absurd hx (fun z => absurd (((lg_cmp_eq _ _).mp z).symm.trans ((LR_tw q1 (by rw [hzeq]; decide)).trans (by rw [hzeq]))) (by decide)))
      refine x_iconst 0 dX10_not1_92 ?_
      refine x_istore_n dX10_not1_93 (by decide) ?_
      refine x_aload_n dX10_not1_94 rfl ?_
      refine iv_X10_204 dX10_not1_95 (c_X10_nextR hr hn hb hbp q1 n2) mw_o (by decide) (Nat.le_of_ble_eq_true rfl) (fun v_95 w_95 hw_95 => ?_)
      obtain ⟨h2, to2, t2, tw2, rfl, rfl, q2⟩ := hw_95
      refine x_aload_n dX10_not1_98 rfl ?_
      refine iv_X10_322 dX10_not1_99 (c_X10_added1 hr hn hb hbp q2 (by omega) k2) mw_o (by decide) (Nat.le_of_ble_eq_true rfl) (fun v_99 w_99 hw_99 => ?_)
      obtain ⟨x3, h3, to3, t3, tw3, ba3, fa3, rfl, rfl, q3, v3⟩ := hw_99
      refine x_istore_n dX10_not1_102 (by decide) ?_
      refine x_iload_n dX10_not1_103 rfl ?_
      refine x_if_eq 115 dX10_not1_104 (fun _ => ?_) (fun hx => absurd (rfl) hx)
      refine x_iload_n dX10_not1_115 rfl ?_
      refine x_iload_n dX10_not1_116 rfl ?_
      refine x_icmp_ne 124 dX10_not1_117 (fun h_117 => ?_) (fun h_117 => ?_)
      · refine x_iconst 0 dX10_not1_124 ?_
        have zz := fin_cmp (v := 0) (k := 4) hn q.1 hc hK rfl hz (Or.inr hzeq) q3 v1 v3 (by rw [hzeq]; exact (bi_f h_117).symm)
        exact Ex.ret (v := some (.int _)) ⟨dX10_not1_125, _, rfl, by first | rfl | decide⟩ ⟨_, _, _, _, _, _, _, rfl, rfl, zz⟩
      · refine x_iconst 1 dX10_not1_120 ?_
        refine x_goto 125 dX10_not1_121 ?_
        have zz := fin_cmp (v := 1) (k := 4) hn q.1 hc hK rfl hz (Or.inr hzeq) q3 v1 v3 (by rw [hzeq]; exact (bi_t h_117).symm)
        exact Ex.ret (v := some (.int _)) ⟨dX10_not1_125, _, rfl, by first | rfl | decide⟩ ⟨_, _, _, _, _, _, _, rfl, rfl, zz⟩
    refine x_if_ne 77 dX10_not1_63 (fun hx => absurd (bi0.mpr hzlt) hx) (fun _ => ?_)
    refine x_aload_n dX10_not1_66 rfl ?_
    refine x_bipush 61 dX10_not1_67 ?_
    refine ii_X10_229 dX10_not1_69 (c_X10_sign q1 (by decide)) mw_o (by decide) (Nat.le_of_ble_eq_true rfl) ?_
    refine x_if_ne 77 dX10_not1_72 (fun hx => absurd (bi0.mpr hzeq) hx) (fun _ => ?_)
    refine x_iload_n dX10_not1_75 rfl ?_
    have zz := fin_sum (k := 4) hz hzlt hzeq q1 v1
    exact Ex.ret (v := some (.int _)) ⟨dX10_not1_76, _, rfl, by first | rfl | decide⟩ ⟨_, _, _, _, _, _, _, rfl, rfl, zz⟩
  have hz : g_to s = 211 := bi1.mp h_15
  refine x_aload_n dX10_not1_18 rfl ?_
  refine iv_X10_232 dX10_not1_19 (c_X10_opens_y hr hn hb hbp q (by rw [hz]; decide) (by decide)) mw_o (by decide) (Nat.le_of_ble_eq_true rfl) (fun v_19 w_19 hw_19 => ?_)
  obtain ⟨h1, to1, t1, tw1, rfl, rfl, q1⟩ := hw_19
  obtain ⟨c1, k1, e1⟩ := in_pre (b := b) hn q.1 hc hK (by rw [hz]; decide) (by rw [hz]; decide)
  refine x_if_ne 27 dX10_not1_22 (fun _ => ?_) (fun hx => absurd hx (by decide))
  refine x_aload_n dX10_not1_27 rfl ?_
  refine iv_X10_307 dX10_not1_28 (c_X10_not2 hr hn hb hbp q1 c1 k1) mw_o (by decide) (Nat.le_of_ble_eq_true rfl) (fun v_28 w_28 hw_28 => ?_)
  obtain ⟨x2, h2, to2, t2, tw2, ba2, fa2, rfl, rfl, q2, v2⟩ := hw_28
  refine x_istore_n dX10_not1_31 (by decide) ?_
  refine x_aload_n dX10_not1_32 rfl ?_
  refine x_dup dX10_not1_33 ?_
  refine mg_198 dX10_not1_34 ?_
  refine x_iconst 1 dX10_not1_37 ?_
  refine x_isub dX10_not1_38 ?_
  rw [show nI 2 - 1 = nI 1 from nI_pred 1]
  refine mp_198 dX10_not1_39 ?_
  refine x_iload_n dX10_not1_42 rfl ?_
  refine x_if_ne 50 dX10_not1_43 (fun h_43 => ?_) (fun h_43 => ?_)
  · refine x_iconst 0 dX10_not1_50 ?_
    have zz := fin_not (y := 0) (k := 3) hn q.1 hc hK rfl hz q2 v2 (bi_f h_43).symm
    exact Ex.ret (v := some (.int _)) ⟨dX10_not1_51, _, rfl, by first | rfl | decide⟩ ⟨_, _, _, _, _, _, _, rfl, rfl, zz⟩
  · refine x_iconst 1 dX10_not1_46 ?_
    refine x_goto 51 dX10_not1_47 ?_
    have zz := fin_not (y := 1) (k := 3) hn q.1 hc hK rfl hz q2 v2 (bi_t h_43).symm
    exact Ex.ret (v := some (.int _)) ⟨dX10_not1_51, _, rfl, by first | rfl | decide⟩ ⟨_, _, _, _, _, _, _, rfl, rfl, zz⟩
set_option maxRecDepth 100000 in
set_option maxHeartbeats 4000000 in
theorem c_X10_both1 {X : Nat × (Nat → Int32)} {S : CS} {tl : pc_W} {tx : (Nat → Int32)} {ts : (Nat → Int32)} {tc : Int32} {tp : (Nat → Int32)} {tn : Int32} {U : MU} {o : (Nat → Int32)} {to : Int32} {tw : Int64} {ba : Int32} {fa : Int32} {C : MC} {K : MK} {H : MH} {r n h t : Nat} {b : Nat → Int32} {s : PS} (hr : r < 6) (hn : n ≤ 160) (hb : ∀ i, i < n → tx (160 * r + i) = b i) (hbp : ∀ i, i < n → 0 ≤ b i) (q : LR b n s h to t tw ba fa) (hc : g_cz s ≤ g_pl s) (hK : g_op s = 1): Mt X 32 0 0 yX10_both1 cX10_both1 3 (some .int) [.ref 42] (cst S ++ (mw (tx, ts, tc, tp, tn) U (o, nI (160 * r), nI n, nI h, to, nI t, tw, (nI 1), ba, fa) C K H ++ tl)) (fun v w' => ∃ (x : Int32) (h' : Nat) (to' : Int32) (t' : Nat) (tw' : Int64) (ba' fa' : Int32), v = some (.int x) ∧ w' = cst S ++ (mw (tx, ts, tc, tp, tn) U (o, nI (160 * r), nI n, nI h', to', nI t', tw', (nI 1), ba', fa') C K H ++ tl) ∧ LR b n (lvJ b n (lev b n 4) s) h' to' t' tw' ba' fa' ∧ VR o (g_cz s) (lvJ b n (lev b n 4) s) x) := by
  refine Mt.of (by decide +kernel) (fun _ _ => Nat.le_of_ble_eq_true rfl) ?_
  show Ex X mX10_both1 _ _ _ _ _ _ _ _
  refine x_aload_n dX10_both1_0 rfl ?_
  refine iv_X10_325 dX10_both1_1 (c_X10_not1 hr hn hb hbp q hc hK) mw_o (by decide) (Nat.le_of_ble_eq_true rfl) (fun v_1 w_1 hw_1 => ?_)
  obtain ⟨x1, h1, to1, t1, tw1, ba1, fa1, rfl, rfl, q1, v1⟩ := hw_1
  refine x_istore_n dX10_both1_4 (by decide) ?_
  have hg := (lv_gf (b := b) hn 4 1 rfl).2.2.2.1
  have hc1 := (hg s q.1 hc hK).1.cz hc
  refine Ex.forget (L' := [some (.ref 42), some (.int x1), none]) ⟨rfl, rfl, trivial⟩ ?_
  suffices hL : ∀ (f : Nat) (s' : PS) (x : Int32) (h : Nat) (to : Int32) (t : Nat) (tw : Int64) (ba fa : Int32), LR b n s' h to t tw ba fa → g_cz s' ≤ g_pl s' → g_op s' = 1 → n ≤ f + g_pl s' → VR o (g_cz s) s' x → lpG b n qAn (lvN b n (lev b n 4)) f s' = lvJ b n (lev b n 4) s → Ex X mX10_both1 32 (fun v w' => ∃ (x : Int32) (h' : Nat) (to' : Int32) (t' : Nat) (tw' : Int64) (ba' fa' : Int32), v = some (.int x) ∧ w' = cst S ++ (mw (tx, ts, tc, tp, tn) U (o, nI (160 * r), nI n, nI h', to', nI t', tw', (nI 1), ba', fa') C K H ++ tl) ∧ LR b n (lvJ b n (lev b n 4) s) h' to' t' tw' ba' fa' ∧ VR o (g_cz s) (lvJ b n (lev b n 4) s) x) 0 0 5 [some (.ref 42), some (.int x), none] [] (cst S ++ (mw (tx, ts, tc, tp, tn) U (o, nI (160 * r), nI n, nI h, to, nI t, tw, (nI 1), ba, fa) C K H ++ tl)) from hL 160 _ _ _ _ _ _ _ _ q1 hc1 ((hg s q.1 hc hK).1.2.1.trans hK) (by omega) v1 rfl
  intro f
  induction f with
  | zero =>
    intro s' x h to t tw ba fa q hc hK hf hv he
    have hq := lp_0 (q := qAn) rfl rfl q.1 hf
    have he : s' = _ := he
    refine x_aload_n dX10_both1_5 rfl ?_
    refine x_bipush 97 dX10_both1_6 ?_
    refine x_bipush 110 dX10_both1_8 ?_
    refine x_bipush 100 dX10_both1_10 ?_
    refine x_iconst 0 dX10_both1_12 ?_
    refine x_iconst 0 dX10_both1_13 ?_
    refine x_iconst 0 dX10_both1_14 ?_
    refine x_iconst 0 dX10_both1_15 ?_
    refine x_iconst 0 dX10_both1_16 ?_
    refine ii_X10_207 dX10_both1_17 (c_X10_word (w := 210) hr hn hb q (by decide) (by decide) wl_210) mw_o (by decide) (Nat.le_of_ble_eq_true rfl) ?_
    refine x_if_eq 49 dX10_both1_20 (fun _ => ?_) (fun hx => absurd (bi0.mpr (fun z => hq (qAn_iff.mpr z))) hx)
    refine x_iload_n dX10_both1_49 rfl ?_
    exact Ex.ret (v := some (.int _)) ⟨dX10_both1_50, _, rfl, by first | rfl | decide⟩ ⟨_, _, _, _, _, _, _, rfl, rfl, by rw [← he]; exact q, by rw [← he]; exact hv⟩
  | succ f ih =>
    intro s' x h to t tw ba fa q hc hK hf hv he
    by_cases hq : qAn (g_to s') = true
    · obtain ⟨⟨n2, n0⟩, ⟨c1, k1⟩, ⟨w3, c3, k3, f3⟩, e3⟩ := lp_go hn hg rfl rfl q.1 hc hK hf hq
      have hz := qAn_iff.mp hq
      refine x_aload_n dX10_both1_5 rfl ?_
      refine x_bipush 97 dX10_both1_6 ?_
      refine x_bipush 110 dX10_both1_8 ?_
      refine x_bipush 100 dX10_both1_10 ?_
      refine x_iconst 0 dX10_both1_12 ?_
      refine x_iconst 0 dX10_both1_13 ?_
      refine x_iconst 0 dX10_both1_14 ?_
      refine x_iconst 0 dX10_both1_15 ?_
      refine x_iconst 0 dX10_both1_16 ?_
      refine ii_X10_207 dX10_both1_17 (c_X10_word (w := 210) hr hn hb q (by decide) (by decide) wl_210) mw_o (by decide) (Nat.le_of_ble_eq_true rfl) ?_
      refine x_if_eq 49 dX10_both1_20 (fun hx => absurd hx (bi1.mpr hz)) (fun _ => ?_)
      refine x_aload_n dX10_both1_23 rfl ?_
      refine iv_X10_204 dX10_both1_24 (c_X10_nextR hr hn hb hbp q n2) mw_o (by decide) (Nat.le_of_ble_eq_true rfl) (fun v_24 w_24 hw_24 => ?_)
      obtain ⟨h1, to1, t1, tw1, rfl, rfl, q1⟩ := hw_24
      refine x_aload_n dX10_both1_27 rfl ?_
      refine iv_X10_325 dX10_both1_28 (c_X10_not1 hr hn hb hbp q1 c1 k1) mw_o (by decide) (Nat.le_of_ble_eq_true rfl) (fun v_28 w_28 hw_28 => ?_)
      obtain ⟨x2, h2, to2, t2, tw2, ba2, fa2, rfl, rfl, q2, v2⟩ := hw_28
      refine x_istore_n dX10_both1_31 (by decide) ?_
      refine x_iload_n dX10_both1_32 rfl ?_
      refine x_if_eq 44 dX10_both1_33 (fun h_33 => ?_) (fun h_33 => ?_)
      · refine x_iconst 0 dX10_both1_44 ?_
        refine x_istore_n dX10_both1_45 (by decide) ?_
        refine x_goto 5 dX10_both1_46 ?_
        refine Ex.forget (L' := [some (.ref 42), some (.int 0), none]) ⟨rfl, rfl, trivial⟩ ?_
        exact ih _ _ _ _ _ _ _ _ (LR_emt q2) c3 k3 f3 (lp_v hn hg q.1 hc hK n2 n0 hz (by decide) hv v2 (show (0 : Int32) = jn 210 x x2 from (bi_f (fun z => z.1 h_33)).symm)) (e3.symm.trans he)
      · refine x_iload_n dX10_both1_36 rfl ?_
        refine x_if_eq 44 dX10_both1_37 (fun h_37 => ?_) (fun h_37 => ?_)
        · refine x_iconst 0 dX10_both1_44 ?_
          refine x_istore_n dX10_both1_45 (by decide) ?_
          refine x_goto 5 dX10_both1_46 ?_
          refine Ex.forget (L' := [some (.ref 42), some (.int 0), none]) ⟨rfl, rfl, trivial⟩ ?_
          exact ih _ _ _ _ _ _ _ _ (LR_emt q2) c3 k3 f3 (lp_v hn hg q.1 hc hK n2 n0 hz (by decide) hv v2 (show (0 : Int32) = jn 210 x x2 from (bi_f (fun z => z.2 h_37)).symm)) (e3.symm.trans he)
        · refine x_iconst 1 dX10_both1_40 ?_
          refine x_goto 45 dX10_both1_41 ?_
          refine x_istore_n dX10_both1_45 (by decide) ?_
          refine x_goto 5 dX10_both1_46 ?_
          refine Ex.forget (L' := [some (.ref 42), some (.int 1), none]) ⟨rfl, rfl, trivial⟩ ?_
          exact ih _ _ _ _ _ _ _ _ (LR_emt q2) c3 k3 f3 (lp_v hn hg q.1 hc hK n2 n0 hz (by decide) hv v2 (show (1 : Int32) = jn 210 x x2 from (bi_t ⟨h_33, h_37⟩).symm)) (e3.symm.trans he)
    · rw [lp_no hq] at he
      refine x_aload_n dX10_both1_5 rfl ?_
      refine x_bipush 97 dX10_both1_6 ?_
      refine x_bipush 110 dX10_both1_8 ?_
      refine x_bipush 100 dX10_both1_10 ?_
      refine x_iconst 0 dX10_both1_12 ?_
      refine x_iconst 0 dX10_both1_13 ?_
      refine x_iconst 0 dX10_both1_14 ?_
      refine x_iconst 0 dX10_both1_15 ?_
      refine x_iconst 0 dX10_both1_16 ?_
      refine ii_X10_207 dX10_both1_17 (c_X10_word (w := 210) hr hn hb q (by decide) (by decide) wl_210) mw_o (by decide) (Nat.le_of_ble_eq_true rfl) ?_
      refine x_if_eq 49 dX10_both1_20 (fun _ => ?_) (fun hx => absurd (bi0.mpr (fun z => hq (qAn_iff.mpr z))) hx)
      refine x_iload_n dX10_both1_49 rfl ?_
      exact Ex.ret (v := some (.int _)) ⟨dX10_both1_50, _, rfl, by first | rfl | decide⟩ ⟨_, _, _, _, _, _, _, rfl, rfl, by rw [← he]; exact q, by rw [← he]; exact hv⟩
set_option maxRecDepth 100000 in
set_option maxHeartbeats 4000000 in
theorem c_X10_either1 {X : Nat × (Nat → Int32)} {S : CS} {tl : pc_W} {tx : (Nat → Int32)} {ts : (Nat → Int32)} {tc : Int32} {tp : (Nat → Int32)} {tn : Int32} {U : MU} {o : (Nat → Int32)} {to : Int32} {tw : Int64} {ba : Int32} {fa : Int32} {C : MC} {K : MK} {H : MH} {r n h t : Nat} {b : Nat → Int32} {s : PS} (hr : r < 6) (hn : n ≤ 160) (hb : ∀ i, i < n → tx (160 * r + i) = b i) (hbp : ∀ i, i < n → 0 ≤ b i) (q : LR b n s h to t tw ba fa) (hc : g_cz s ≤ g_pl s) (hK : g_op s = 1): Mt X 33 0 0 yX10_either1 cX10_either1 3 (some .int) [.ref 42] (cst S ++ (mw (tx, ts, tc, tp, tn) U (o, nI (160 * r), nI n, nI h, to, nI t, tw, (nI 1), ba, fa) C K H ++ tl)) (fun v w' => ∃ (x : Int32) (h' : Nat) (to' : Int32) (t' : Nat) (tw' : Int64) (ba' fa' : Int32), v = some (.int x) ∧ w' = cst S ++ (mw (tx, ts, tc, tp, tn) U (o, nI (160 * r), nI n, nI h', to', nI t', tw', (nI 1), ba', fa') C K H ++ tl) ∧ LR b n (lvE b n (lev b n 4) s) h' to' t' tw' ba' fa' ∧ VR o (g_cz s) (lvE b n (lev b n 4) s) x) := by
  refine Mt.of (by decide +kernel) (fun _ _ => Nat.le_of_ble_eq_true rfl) ?_
  show Ex X mX10_either1 _ _ _ _ _ _ _ _
  refine x_aload_n dX10_either1_0 rfl ?_
  refine iv_X10_328 dX10_either1_1 (c_X10_both1 hr hn hb hbp q hc hK) mw_o (by decide) (Nat.le_of_ble_eq_true rfl) (fun v_1 w_1 hw_1 => ?_)
  obtain ⟨x1, h1, to1, t1, tw1, ba1, fa1, rfl, rfl, q1, v1⟩ := hw_1
  refine x_istore_n dX10_either1_4 (by decide) ?_
  have hg := (lv_gf (b := b) hn 4 1 rfl).2.2.2.2.1
  have hc1 := (hg s q.1 hc hK).1.cz hc
  refine Ex.forget (L' := [some (.ref 42), some (.int x1), none]) ⟨rfl, rfl, trivial⟩ ?_
  suffices hL : ∀ (f : Nat) (s' : PS) (x : Int32) (h : Nat) (to : Int32) (t : Nat) (tw : Int64) (ba fa : Int32), LR b n s' h to t tw ba fa → g_cz s' ≤ g_pl s' → g_op s' = 1 → n ≤ f + g_pl s' → VR o (g_cz s) s' x → lpG b n qOr (lvJ b n (lev b n 4)) f s' = lvE b n (lev b n 4) s → Ex X mX10_either1 33 (fun v w' => ∃ (x : Int32) (h' : Nat) (to' : Int32) (t' : Nat) (tw' : Int64) (ba' fa' : Int32), v = some (.int x) ∧ w' = cst S ++ (mw (tx, ts, tc, tp, tn) U (o, nI (160 * r), nI n, nI h', to', nI t', tw', (nI 1), ba', fa') C K H ++ tl) ∧ LR b n (lvE b n (lev b n 4) s) h' to' t' tw' ba' fa' ∧ VR o (g_cz s) (lvE b n (lev b n 4) s) x) 0 0 5 [some (.ref 42), some (.int x), none] [] (cst S ++ (mw (tx, ts, tc, tp, tn) U (o, nI (160 * r), nI n, nI h, to, nI t, tw, (nI 1), ba, fa) C K H ++ tl)) from hL 160 _ _ _ _ _ _ _ _ q1 hc1 ((hg s q.1 hc hK).1.2.1.trans hK) (by omega) v1 rfl
  intro f
  induction f with
  | zero =>
    intro s' x h to t tw ba fa q hc hK hf hv he
    have hq := lp_0 (q := qOr) rfl rfl q.1 hf
    have he : s' = _ := he
    refine x_aload_n dX10_either1_5 rfl ?_
    refine x_bipush 111 dX10_either1_6 ?_
    refine x_bipush 114 dX10_either1_8 ?_
    refine x_iconst 0 dX10_either1_10 ?_
    refine x_iconst 0 dX10_either1_11 ?_
    refine x_iconst 0 dX10_either1_12 ?_
    refine x_iconst 0 dX10_either1_13 ?_
    refine x_iconst 0 dX10_either1_14 ?_
    refine x_iconst 0 dX10_either1_15 ?_
    refine ii_X10_207 dX10_either1_16 (c_X10_word (w := 209) hr hn hb q (by decide) (by decide) wl_209) mw_o (by decide) (Nat.le_of_ble_eq_true rfl) ?_
    refine x_if_eq 48 dX10_either1_19 (fun _ => ?_) (fun hx => absurd (bi0.mpr (fun z => hq (qOr_iff.mpr z))) hx)
    refine x_iload_n dX10_either1_48 rfl ?_
    exact Ex.ret (v := some (.int _)) ⟨dX10_either1_49, _, rfl, by first | rfl | decide⟩ ⟨_, _, _, _, _, _, _, rfl, rfl, by rw [← he]; exact q, by rw [← he]; exact hv⟩
  | succ f ih =>
    intro s' x h to t tw ba fa q hc hK hf hv he
    by_cases hq : qOr (g_to s') = true
    · obtain ⟨⟨n2, n0⟩, ⟨c1, k1⟩, ⟨w3, c3, k3, f3⟩, e3⟩ := lp_go hn hg rfl rfl q.1 hc hK hf hq
      have hz := qOr_iff.mp hq
      refine x_aload_n dX10_either1_5 rfl ?_
      refine x_bipush 111 dX10_either1_6 ?_
      refine x_bipush 114 dX10_either1_8 ?_
      refine x_iconst 0 dX10_either1_10 ?_
      refine x_iconst 0 dX10_either1_11 ?_
      refine x_iconst 0 dX10_either1_12 ?_
      refine x_iconst 0 dX10_either1_13 ?_
      refine x_iconst 0 dX10_either1_14 ?_
      refine x_iconst 0 dX10_either1_15 ?_
      refine ii_X10_207 dX10_either1_16 (c_X10_word (w := 209) hr hn hb q (by decide) (by decide) wl_209) mw_o (by decide) (Nat.le_of_ble_eq_true rfl) ?_
      refine x_if_eq 48 dX10_either1_19 (fun hx => absurd hx (bi1.mpr hz)) (fun _ => ?_)
      refine x_aload_n dX10_either1_22 rfl ?_
      refine iv_X10_204 dX10_either1_23 (c_X10_nextR hr hn hb hbp q n2) mw_o (by decide) (Nat.le_of_ble_eq_true rfl) (fun v_23 w_23 hw_23 => ?_)
      obtain ⟨h1, to1, t1, tw1, rfl, rfl, q1⟩ := hw_23
      refine x_aload_n dX10_either1_26 rfl ?_
      refine iv_X10_328 dX10_either1_27 (c_X10_both1 hr hn hb hbp q1 c1 k1) mw_o (by decide) (Nat.le_of_ble_eq_true rfl) (fun v_27 w_27 hw_27 => ?_)
      obtain ⟨x2, h2, to2, t2, tw2, ba2, fa2, rfl, rfl, q2, v2⟩ := hw_27
      refine x_istore_n dX10_either1_30 (by decide) ?_
      refine x_iload_n dX10_either1_31 rfl ?_
      refine x_if_ne 39 dX10_either1_32 (fun h_32 => ?_) (fun h_32 => ?_)
      · refine x_iconst 1 dX10_either1_39 ?_
        refine x_goto 44 dX10_either1_40 ?_
        refine x_istore_n dX10_either1_44 (by decide) ?_
        refine x_goto 5 dX10_either1_45 ?_
        refine Ex.forget (L' := [some (.ref 42), some (.int 1), none]) ⟨rfl, rfl, trivial⟩ ?_
        exact ih _ _ _ _ _ _ _ _ (LR_emt q2) c3 k3 f3 (lp_v hn hg q.1 hc hK n2 n0 hz (by decide) hv v2 (show (1 : Int32) = jn 209 x x2 from (bi_t (Or.inl h_32)).symm)) (e3.symm.trans he)
      · refine x_iload_n dX10_either1_35 rfl ?_
        refine x_if_eq 43 dX10_either1_36 (fun h_36 => ?_) (fun h_36 => ?_)
        · refine x_iconst 0 dX10_either1_43 ?_
          refine x_istore_n dX10_either1_44 (by decide) ?_
          refine x_goto 5 dX10_either1_45 ?_
          refine Ex.forget (L' := [some (.ref 42), some (.int 0), none]) ⟨rfl, rfl, trivial⟩ ?_
          exact ih _ _ _ _ _ _ _ _ (LR_emt q2) c3 k3 f3 (lp_v hn hg q.1 hc hK n2 n0 hz (by decide) hv v2 (show (0 : Int32) = jn 209 x x2 from (bi_f (fun z => z.elim (fun y => y h_32) (fun y => y h_36))).symm)) (e3.symm.trans he)
        · refine x_iconst 1 dX10_either1_39 ?_
          refine x_goto 44 dX10_either1_40 ?_
          refine x_istore_n dX10_either1_44 (by decide) ?_
          refine x_goto 5 dX10_either1_45 ?_
          refine Ex.forget (L' := [some (.ref 42), some (.int 1), none]) ⟨rfl, rfl, trivial⟩ ?_
          exact ih _ _ _ _ _ _ _ _ (LR_emt q2) c3 k3 f3 (lp_v hn hg q.1 hc hK n2 n0 hz (by decide) hv v2 (show (1 : Int32) = jn 209 x x2 from (bi_t (Or.inr h_36)).symm)) (e3.symm.trans he)
    · rw [lp_no hq] at he
      refine x_aload_n dX10_either1_5 rfl ?_
      refine x_bipush 111 dX10_either1_6 ?_
      refine x_bipush 114 dX10_either1_8 ?_
      refine x_iconst 0 dX10_either1_10 ?_
      refine x_iconst 0 dX10_either1_11 ?_
      refine x_iconst 0 dX10_either1_12 ?_
      refine x_iconst 0 dX10_either1_13 ?_
      refine x_iconst 0 dX10_either1_14 ?_
      refine x_iconst 0 dX10_either1_15 ?_
      refine ii_X10_207 dX10_either1_16 (c_X10_word (w := 209) hr hn hb q (by decide) (by decide) wl_209) mw_o (by decide) (Nat.le_of_ble_eq_true rfl) ?_
      refine x_if_eq 48 dX10_either1_19 (fun _ => ?_) (fun hx => absurd (bi0.mpr (fun z => hq (qOr_iff.mpr z))) hx)
      refine x_iload_n dX10_either1_48 rfl ?_
      exact Ex.ret (v := some (.int _)) ⟨dX10_either1_49, _, rfl, by first | rfl | decide⟩ ⟨_, _, _, _, _, _, _, rfl, rfl, by rw [← he]; exact q, by rw [← he]; exact hv⟩
set_option maxRecDepth 100000 in
set_option maxHeartbeats 4000000 in
theorem c_X10_atom0 {X : Nat × (Nat → Int32)} {S : CS} {tl : pc_W} {tx : (Nat → Int32)} {ts : (Nat → Int32)} {tc : Int32} {tp : (Nat → Int32)} {tn : Int32} {U : MU} {o : (Nat → Int32)} {to : Int32} {tw : Int64} {ba : Int32} {fa : Int32} {C : MC} {K : MK} {H : MH} {r n h t : Nat} {b : Nat → Int32} {s : PS} (hr : r < 6) (hn : n ≤ 160) (hb : ∀ i, i < n → tx (160 * r + i) = b i) (hbp : ∀ i, i < n → 0 ≤ b i) (q : LR b n s h to t tw ba fa) (hc : g_cz s ≤ g_pl s) (hK : g_op s = 0): Mt X 34 0 0 yX10_atom0 cX10_atom0 2 (some .int) [.ref 42] (cst S ++ (mw (tx, ts, tc, tp, tn) U (o, nI (160 * r), nI n, nI h, to, nI t, tw, (nI 0), ba, fa) C K H ++ tl)) (fun v w' => ∃ (x : Int32) (h' : Nat) (to' : Int32) (t' : Nat) (tw' : Int64) (ba' fa' : Int32), v = some (.int x) ∧ w' = cst S ++ (mw (tx, ts, tc, tp, tn) U (o, nI (160 * r), nI n, nI h', to', nI t', tw', (nI 0), ba', fa') C K H ++ tl) ∧ LR b n (lvS b n (lev b n 5) s) h' to' t' tw' ba' fa' ∧ VR o (g_cz s) (lvS b n (lev b n 5) s) x) := by
  refine Mt.of (by decide +kernel) (fun _ _ => Nat.le_of_ble_eq_true rfl) ?_
  show Ex X mX10_atom0 _ _ _ _ _ _ _ _
  refine x_iconst 0 dX10_atom0_0 ?_
  refine x_istore_n dX10_atom0_1 (by decide) ?_
  refine x_aload_n dX10_atom0_2 rfl ?_
  refine x_bipush 45 dX10_atom0_3 ?_
  refine ii_X10_229 dX10_atom0_5 (c_X10_sign q (by decide)) mw_o (by decide) (Nat.le_of_ble_eq_true rfl) ?_
  refine x_if_eq 37 dX10_atom0_8 (fun h_8 => ?_) (fun h_8 => ?_)
  · refine x_aload_n dX10_atom0_37 rfl ?_
    refine x_bipush 40 dX10_atom0_38 ?_
    refine ii_X10_229 dX10_atom0_40 (c_X10_sign q (by decide)) mw_o (by decide) (Nat.le_of_ble_eq_true rfl) ?_
    refine x_if_eq 95 dX10_atom0_43 (fun h_43 => ?_) (fun h_43 => ?_)
    · by_cases hz : g_to s = 1
      · obtain ⟨rfl, ht2⟩ := (LR_num q).1.mpr hz
        refine x_aload_n dX10_atom0_95 rfl ?_
        refine mg_188 dX10_atom0_96 ?_
        refine x_if_ne 123 dX10_atom0_99 (fun hx => absurd (rfl) hx) (fun _ => ?_)
        refine x_aload_n dX10_atom0_102 rfl ?_
        refine mg_171 dX10_atom0_103 ?_
        refine x_iconst 2 dX10_atom0_106 ?_
        refine x_icmp_ne 123 dX10_atom0_107 (fun hx => absurd (ht2) hx) (fun _ => ?_)
        refine x_aload_n dX10_atom0_110 rfl ?_
        refine mg_182 dX10_atom0_111 ?_
        refine x_l2i dX10_atom0_114 ?_
        refine x_istore_n dX10_atom0_115 (by decide) ?_
        refine x_aload_n dX10_atom0_116 rfl ?_
        refine iv_X10_204 dX10_atom0_117 (c_X10_nextR (s := emt (g_nu s) s) hr hn hb hbp (LR_emt q) (by rw [(emt_g _ _).2.2.1, hz]; decide)) mw_o (by decide) (Nat.le_of_ble_eq_true rfl) (fun v_117 w_117 hw_117 => ?_)
        obtain ⟨h3, to3, t3, tw3, rfl, rfl, q3⟩ := hw_117
        refine x_goto 161 dX10_atom0_120 ?_
        refine x_iload_n dX10_atom0_161 rfl ?_
        obtain ⟨en, m, hm, em⟩ := (LR_num q).2 hz
        have zz := fin_id (f := lvS b n (lev b n 5)) (nm := o) (lvS_num hz) (q3) ((by rw [en, em]; exact VR_one hn q.1 hc (by rw [hz]; decide) (by rw [hz]; decide) (fun co e1 e2 => GC.lit hm e2 e1) : VR o (g_cz s) (adv b n (emt (g_nu s) s)) tw.toInt32))
        exact Ex.ret (v := some (.int _)) ⟨dX10_atom0_162, _, rfl, by first | rfl | decide⟩ ⟨_, _, _, _, _, _, _, rfl, rfl, zz⟩
      by_cases hw : ba = 0 ∧ to = 1
      · obtain ⟨rfl, ht1⟩ := hw
        refine x_aload_n dX10_atom0_95 rfl ?_
        refine mg_188 dX10_atom0_96 ?_
        refine x_if_ne 123 dX10_atom0_99 (fun hx => absurd (rfl) hx) (fun _ => ?_)
        refine x_aload_n dX10_atom0_102 rfl ?_
        refine mg_171 dX10_atom0_103 ?_
        refine x_iconst 2 dX10_atom0_106 ?_
        refine x_icmp_ne 123 dX10_atom0_107 (fun _ => ?_) (fun hx => absurd hx (by rw [ht1]; decide))
        refine x_aload_n dX10_atom0_123 rfl ?_
        refine mg_188 dX10_atom0_124 ?_
        refine x_if_ne 157 dX10_atom0_127 (fun hx => absurd (rfl) hx) (fun _ => ?_)
        refine x_aload_n dX10_atom0_130 rfl ?_
        refine mg_171 dX10_atom0_131 ?_
        refine x_iconst 1 dX10_atom0_134 ?_
        refine x_icmp_ne 157 dX10_atom0_135 (fun hx => absurd (ht1) hx) (fun _ => ?_)
        refine x_aload_n dX10_atom0_138 rfl ?_
        refine iv_X10_236 dX10_atom0_139 (c_X10_name hr hn hb q) mw_o (by decide) (Nat.le_of_ble_eq_true rfl) (fun v_139 w_139 hw_139 => ?_)
        obtain ⟨x1, ba1, fa1, rfl, rfl, hnm⟩ := hw_139
        rcases hnm with ⟨n1, n2, rfl, rfl, rfl⟩ | ⟨n1, rfl, q1⟩
        · skip
          refine x_istore_n dX10_atom0_142 (by decide) ?_
          refine x_aload_n dX10_atom0_143 rfl ?_
          refine mg_188 dX10_atom0_144 ?_
          refine x_if_ne 161 dX10_atom0_147 (fun hx => absurd (rfl) hx) (fun _ => ?_)
          refine x_aload_n dX10_atom0_150 rfl ?_
          refine iv_X10_204 dX10_atom0_151 (c_X10_nextR (s := emt (-(g_to s)) s) hr hn hb hbp (LR_emt q) (by rw [(emt_g _ _).2.2.1]; exact fun z => by rw [z] at n1; exact absurd n1 (by decide))) mw_o (by decide) (Nat.le_of_ble_eq_true rfl) (fun v_151 w_151 hw_151 => ?_)
          obtain ⟨h3, to3, t3, tw3, rfl, rfl, q3⟩ := hw_151
          refine x_goto 161 dX10_atom0_154 ?_
          refine x_iload_n dX10_atom0_161 rfl ?_
          have zz := fin_id (f := lvS b n (lev b n 5)) (nm := o) (lvS_name ⟨n1, n2⟩) (q3) (VR_one hn q.1 hc (fun z => by rw [z] at n1; exact absurd n1 (by decide)) (fun z => by rw [z] at n1; exact absurd n1 (by decide)) (fun co e1 e2 => GC.name ⟨n1, n2⟩ e2 e1))
          exact Ex.ret (v := some (.int _)) ⟨dX10_atom0_162, _, rfl, by first | rfl | decide⟩ ⟨_, _, _, _, _, _, _, rfl, rfl, zz⟩
        · skip
          refine x_istore_n dX10_atom0_142 (by decide) ?_
          refine x_aload_n dX10_atom0_143 rfl ?_
          refine mg_188 dX10_atom0_144 ?_
          refine x_if_ne 161 dX10_atom0_147 (fun _ => ?_) (fun hx => absurd hx (by decide))
          refine x_iload_n dX10_atom0_161 rfl ?_
          have zz := fin_id (f := lvS b n (lev b n 5)) (nm := o) (lvS_no hz n1 (bi0.mp h_8) (bi0.mp h_43)) (q1) (VR_rfu (x := x1) hn q.1)
          exact Ex.ret (v := some (.int _)) ⟨dX10_atom0_162, _, rfl, by first | rfl | decide⟩ ⟨_, _, _, _, _, _, _, rfl, rfl, zz⟩
      by_cases hb0 : ba = 0
      · subst hb0
        refine x_aload_n dX10_atom0_95 rfl ?_
        refine mg_188 dX10_atom0_96 ?_
        refine x_if_ne 123 dX10_atom0_99 (fun hx => absurd (rfl) hx) (fun _ => ?_)
        refine x_aload_n dX10_atom0_102 rfl ?_
        refine mg_171 dX10_atom0_103 ?_
        refine x_iconst 2 dX10_atom0_106 ?_
        refine x_icmp_ne 123 dX10_atom0_107 (fun _ => ?_) (fun hx => absurd hx (fun z => hz ((LR_num q).1.mp ⟨rfl, z⟩)))
        refine x_aload_n dX10_atom0_123 rfl ?_
        refine mg_188 dX10_atom0_124 ?_
        refine x_if_ne 157 dX10_atom0_127 (fun hx => absurd (rfl) hx) (fun _ => ?_)
        refine x_aload_n dX10_atom0_130 rfl ?_
        refine mg_171 dX10_atom0_131 ?_
        refine x_iconst 1 dX10_atom0_134 ?_
        refine x_icmp_ne 157 dX10_atom0_135 (fun _ => ?_) (fun hx => absurd hx (fun z => hw ⟨rfl, z⟩))
        refine x_aload_n dX10_atom0_157 rfl ?_
        refine iv_X10_201 dX10_atom0_158 (c_X10_failR hn q) mw_o (by decide) (Nat.le_of_ble_eq_true rfl) (fun v_158 w_158 hw_158 => ?_)
        obtain ⟨fa1, rfl, rfl, q1⟩ := hw_158
        refine x_iload_n dX10_atom0_161 rfl ?_
        have zz := fin_id (f := lvS b n (lev b n 5)) (nm := o) (lvS_no hz (fun z => hw ((LR_isw q).2 ⟨z.1, Int32.le_trans z.2 (by decide)⟩)) (bi0.mp h_8) (bi0.mp h_43)) (q1) (VR_rfu (x := 0) hn q.1)
        exact Ex.ret (v := some (.int _)) ⟨dX10_atom0_162, _, rfl, by first | rfl | decide⟩ ⟨_, _, _, _, _, _, _, rfl, rfl, zz⟩
      · skip
        refine x_aload_n dX10_atom0_95 rfl ?_
        refine mg_188 dX10_atom0_96 ?_
        refine x_if_ne 123 dX10_atom0_99 (fun _ => ?_) (fun hx => absurd hx (hb0))
        refine x_aload_n dX10_atom0_123 rfl ?_
        refine mg_188 dX10_atom0_124 ?_
        refine x_if_ne 157 dX10_atom0_127 (fun _ => ?_) (fun hx => absurd hx (hb0))
        refine x_aload_n dX10_atom0_157 rfl ?_
        refine iv_X10_201 dX10_atom0_158 (c_X10_failR hn q) mw_o (by decide) (Nat.le_of_ble_eq_true rfl) (fun v_158 w_158 hw_158 => ?_)
        obtain ⟨fa1, rfl, rfl, q1⟩ := hw_158
        refine x_iload_n dX10_atom0_161 rfl ?_
        have zz := fin_id (f := lvS b n (lev b n 5)) (nm := o) (lvS_no hz (fun z => hw ((LR_isw q).2 ⟨z.1, Int32.le_trans z.2 (by decide)⟩)) (bi0.mp h_8) (bi0.mp h_43)) (q1) (VR_rfu (x := 0) hn q.1)
        exact Ex.ret (v := some (.int _)) ⟨dX10_atom0_162, _, rfl, by first | rfl | decide⟩ ⟨_, _, _, _, _, _, _, rfl, rfl, zz⟩
    have hz := bi1.mp h_43
    refine x_aload_n dX10_atom0_46 rfl ?_
    refine iv_X10_232 dX10_atom0_47 (c_X10_opens_y hr hn hb hbp q (by rw [hz]; decide) (by decide)) mw_o (by decide) (Nat.le_of_ble_eq_true rfl) (fun v_47 w_47 hw_47 => ?_)
    obtain ⟨h1, to1, t1, tw1, rfl, rfl, q1⟩ := hw_47
    obtain ⟨c1, k1, e1⟩ := in_pre (b := b) hn q.1 hc hK (by rw [hz]; decide) (by rw [hz]; decide)
    refine x_if_eq 161 dX10_atom0_50 (fun hx => absurd hx (by decide)) (fun _ => ?_)
    refine x_aload_n dX10_atom0_53 rfl ?_
    refine iv_X10_331 dX10_atom0_54 (c_X10_either1 hr hn hb hbp q1 c1 k1) mw_o (by decide) (Nat.le_of_ble_eq_true rfl) (fun v_54 w_54 hw_54 => ?_)
    obtain ⟨x2, h2, to2, t2, tw2, ba2, fa2, rfl, rfl, q2, v2⟩ := hw_54
    refine x_istore_n dX10_atom0_57 (by decide) ?_
    refine x_aload_n dX10_atom0_58 rfl ?_
    refine x_bipush 41 dX10_atom0_59 ?_
    refine ii_X10_229 dX10_atom0_61 (c_X10_sign q2 (by decide)) mw_o (by decide) (Nat.le_of_ble_eq_true rfl) ?_
    refine x_if_ne 71 dX10_atom0_64 (fun h_64 => ?_) (fun h_64 => ?_)
    · have hz2 := bi1.mp h_64
      obtain ⟨-, rfl, -, -⟩ := LR_ok q2 (by rw [hz2]; decide)
      refine x_aload_n dX10_atom0_71 rfl ?_
      refine x_dup dX10_atom0_72 ?_
      refine mg_198 dX10_atom0_73 ?_
      refine x_iconst 1 dX10_atom0_76 ?_
      refine x_isub dX10_atom0_77 ?_
      rw [show nI 1 - 1 = nI 0 from nI_pred 0]
      refine mp_198 dX10_atom0_78 ?_
      refine x_aload_n dX10_atom0_81 rfl ?_
      refine mg_188 dX10_atom0_82 ?_
      refine x_if_ne 161 dX10_atom0_85 (fun hx => absurd (rfl) hx) (fun _ => ?_)
      refine x_aload_n dX10_atom0_88 rfl ?_
      refine iv_X10_204 dX10_atom0_89 (c_X10_nextR hr hn hb hbp (LR_dec q2) (by rw [to_dec, hz2]; decide)) mw_o (by decide) (Nat.le_of_ble_eq_true rfl) (fun v_89 w_89 hw_89 => ?_)
      obtain ⟨h3, to3, t3, tw3, rfl, rfl, q3⟩ := hw_89
      refine x_goto 161 dX10_atom0_92 ?_
      refine x_iload_n dX10_atom0_161 rfl ?_
      have zz := fin_py (k := 4) hn q.1 hc hK rfl hz hz2 q3 v2
      exact Ex.ret (v := some (.int _)) ⟨dX10_atom0_162, _, rfl, by first | rfl | decide⟩ ⟨_, _, _, _, _, _, _, rfl, rfl, zz⟩
    · have hz2 := bi0.mp h_64
      refine x_aload_n dX10_atom0_67 rfl ?_
      refine iv_X10_201 dX10_atom0_68 (c_X10_failR hn q2) mw_o (by decide) (Nat.le_of_ble_eq_true rfl) (fun v_68 w_68 hw_68 => ?_)
      obtain ⟨fa3, rfl, rfl, q3⟩ := hw_68
      refine x_aload_n dX10_atom0_71 rfl ?_
      refine x_dup dX10_atom0_72 ?_
      refine mg_198 dX10_atom0_73 ?_
      refine x_iconst 1 dX10_atom0_76 ?_
      refine x_isub dX10_atom0_77 ?_
      rw [show nI 1 - 1 = nI 0 from nI_pred 0]
      refine mp_198 dX10_atom0_78 ?_
      refine x_aload_n dX10_atom0_81 rfl ?_
      refine mg_188 dX10_atom0_82 ?_
      refine x_if_ne 161 dX10_atom0_85 (fun _ => ?_) (fun hx => absurd hx (by decide))
      refine x_iload_n dX10_atom0_161 rfl ?_
      have zz := fin_pn (k := 4) hn q.1 hc hK rfl hz hz2 q3 v2
      exact Ex.ret (v := some (.int _)) ⟨dX10_atom0_162, _, rfl, by first | rfl | decide⟩ ⟨_, _, _, _, _, _, _, rfl, rfl, zz⟩
  have hz := bi1.mp h_8
  refine x_aload_n dX10_atom0_11 rfl ?_
  refine iv_X10_232 dX10_atom0_12 (c_X10_opens_y hr hn hb hbp q (by rw [hz]; decide) (by decide)) mw_o (by decide) (Nat.le_of_ble_eq_true rfl) (fun v_12 w_12 hw_12 => ?_)
  obtain ⟨h1, to1, t1, tw1, rfl, rfl, q1⟩ := hw_12
  obtain ⟨c1, k1, e1⟩ := in_pre (b := b) hn q.1 hc hK (by rw [hz]; decide) (by rw [hz]; decide)
  refine x_if_eq 161 dX10_atom0_15 (fun hx => absurd hx (by decide)) (fun _ => ?_)
  refine x_aload_n dX10_atom0_18 rfl ?_
  refine iv_X10_316 dX10_atom0_19 (c_X10_atom1 hr hn hb hbp q1 c1 k1) mw_o (by decide) (Nat.le_of_ble_eq_true rfl) (fun v_19 w_19 hw_19 => ?_)
  obtain ⟨x2, h2, to2, t2, tw2, ba2, fa2, rfl, rfl, q2, v2⟩ := hw_19
  refine x_ineg dX10_atom0_22 ?_
  refine x_istore_n dX10_atom0_23 (by decide) ?_
  refine x_aload_n dX10_atom0_24 rfl ?_
  refine x_dup dX10_atom0_25 ?_
  refine mg_198 dX10_atom0_26 ?_
  refine x_iconst 1 dX10_atom0_29 ?_
  refine x_isub dX10_atom0_30 ?_
  rw [show nI 1 - 1 = nI 0 from nI_pred 0]
  refine mp_198 dX10_atom0_31 ?_
  refine x_goto 161 dX10_atom0_34 ?_
  refine x_iload_n dX10_atom0_161 rfl ?_
  have zz := fin_neg (k := 4) hn q.1 hc hK rfl hz q2 v2
  exact Ex.ret (v := some (.int _)) ⟨dX10_atom0_162, _, rfl, by first | rfl | decide⟩ ⟨_, _, _, _, _, _, _, rfl, rfl, zz⟩
set_option maxRecDepth 100000 in
set_option maxHeartbeats 4000000 in
theorem c_X10_term0 {X : Nat × (Nat → Int32)} {S : CS} {tl : pc_W} {tx : (Nat → Int32)} {ts : (Nat → Int32)} {tc : Int32} {tp : (Nat → Int32)} {tn : Int32} {U : MU} {o : (Nat → Int32)} {to : Int32} {tw : Int64} {ba : Int32} {fa : Int32} {C : MC} {K : MK} {H : MH} {r n h t : Nat} {b : Nat → Int32} {s : PS} (hr : r < 6) (hn : n ≤ 160) (hb : ∀ i, i < n → tx (160 * r + i) = b i) (hbp : ∀ i, i < n → 0 ≤ b i) (q : LR b n s h to t tw ba fa) (hc : g_cz s ≤ g_pl s) (hK : g_op s = 0): Mt X 35 0 0 yX10_term0 cX10_term0 2 (some .int) [.ref 42] (cst S ++ (mw (tx, ts, tc, tp, tn) U (o, nI (160 * r), nI n, nI h, to, nI t, tw, (nI 0), ba, fa) C K H ++ tl)) (fun v w' => ∃ (x : Int32) (h' : Nat) (to' : Int32) (t' : Nat) (tw' : Int64) (ba' fa' : Int32), v = some (.int x) ∧ w' = cst S ++ (mw (tx, ts, tc, tp, tn) U (o, nI (160 * r), nI n, nI h', to', nI t', tw', (nI 0), ba', fa') C K H ++ tl) ∧ LR b n (lvT b n (lev b n 5) s) h' to' t' tw' ba' fa' ∧ VR o (g_cz s) (lvT b n (lev b n 5) s) x) := by
  refine Mt.of (by decide +kernel) (fun _ _ => Nat.le_of_ble_eq_true rfl) ?_
  show Ex X mX10_term0 _ _ _ _ _ _ _ _
  refine x_aload_n dX10_term0_0 rfl ?_
  refine iv_X10_334 dX10_term0_1 (c_X10_atom0 hr hn hb hbp q hc hK) mw_o (by decide) (Nat.le_of_ble_eq_true rfl) (fun v_1 w_1 hw_1 => ?_)
  obtain ⟨x1, h1, to1, t1, tw1, ba1, fa1, rfl, rfl, q1, v1⟩ := hw_1
  refine x_istore_n dX10_term0_4 (by decide) ?_
  have hg := (lv_gf (b := b) hn 5 0 rfl).1
  have hc1 := (hg s q.1 hc hK).1.cz hc
  refine Ex.forget (L' := [some (.ref 42), some (.int x1)]) ⟨rfl, rfl, trivial⟩ ?_
  suffices hL : ∀ (f : Nat) (s' : PS) (x : Int32) (h : Nat) (to : Int32) (t : Nat) (tw : Int64) (ba fa : Int32), LR b n s' h to t tw ba fa → g_cz s' ≤ g_pl s' → g_op s' = 0 → n ≤ f + g_pl s' → VR o (g_cz s) s' x → lpG b n qMu (lvS b n (lev b n 5)) f s' = lvT b n (lev b n 5) s → Ex X mX10_term0 35 (fun v w' => ∃ (x : Int32) (h' : Nat) (to' : Int32) (t' : Nat) (tw' : Int64) (ba' fa' : Int32), v = some (.int x) ∧ w' = cst S ++ (mw (tx, ts, tc, tp, tn) U (o, nI (160 * r), nI n, nI h', to', nI t', tw', (nI 0), ba', fa') C K H ++ tl) ∧ LR b n (lvT b n (lev b n 5) s) h' to' t' tw' ba' fa' ∧ VR o (g_cz s) (lvT b n (lev b n 5) s) x) 0 0 5 [some (.ref 42), some (.int x)] [] (cst S ++ (mw (tx, ts, tc, tp, tn) U (o, nI (160 * r), nI n, nI h, to, nI t, tw, (nI 0), ba, fa) C K H ++ tl)) from hL 160 _ _ _ _ _ _ _ _ q1 hc1 ((hg s q.1 hc hK).1.2.1.trans hK) (by omega) v1 rfl
  intro f
  induction f with
  | zero =>
    intro s' x h to t tw ba fa q hc hK hf hv he
    have hq := lp_0 (q := qMu) rfl rfl q.1 hf
    have he : s' = _ := he
    refine x_aload_n dX10_term0_5 rfl ?_
    refine x_bipush 42 dX10_term0_6 ?_
    refine ii_X10_229 dX10_term0_8 (c_X10_sign q (by decide)) mw_o (by decide) (Nat.le_of_ble_eq_true rfl) ?_
    refine x_if_eq 28 dX10_term0_11 (fun _ => ?_) (fun hx => absurd (bi0.mpr (fun z => hq (qMu_iff.mpr z))) hx)
    refine x_iload_n dX10_term0_28 rfl ?_
    exact Ex.ret (v := some (.int _)) ⟨dX10_term0_29, _, rfl, by first | rfl | decide⟩ ⟨_, _, _, _, _, _, _, rfl, rfl, by rw [← he]; exact q, by rw [← he]; exact hv⟩
  | succ f ih =>
    intro s' x h to t tw ba fa q hc hK hf hv he
    by_cases hq : qMu (g_to s') = true
    · obtain ⟨⟨n2, n0⟩, ⟨c1, k1⟩, ⟨w3, c3, k3, f3⟩, e3⟩ := lp_go hn hg rfl rfl q.1 hc hK hf hq
      have hz := qMu_iff.mp hq
      refine x_aload_n dX10_term0_5 rfl ?_
      refine x_bipush 42 dX10_term0_6 ?_
      refine ii_X10_229 dX10_term0_8 (c_X10_sign q (by decide)) mw_o (by decide) (Nat.le_of_ble_eq_true rfl) ?_
      refine x_if_eq 28 dX10_term0_11 (fun hx => absurd hx (bi1.mpr hz)) (fun _ => ?_)
      refine x_aload_n dX10_term0_14 rfl ?_
      refine iv_X10_204 dX10_term0_15 (c_X10_nextR hr hn hb hbp q n2) mw_o (by decide) (Nat.le_of_ble_eq_true rfl) (fun v_15 w_15 hw_15 => ?_)
      obtain ⟨h1, to1, t1, tw1, rfl, rfl, q1⟩ := hw_15
      refine x_iload_n dX10_term0_18 rfl ?_
      refine x_aload_n dX10_term0_19 rfl ?_
      refine iv_X10_334 dX10_term0_20 (c_X10_atom0 hr hn hb hbp q1 c1 k1) mw_o (by decide) (Nat.le_of_ble_eq_true rfl) (fun v_20 w_20 hw_20 => ?_)
      obtain ⟨x2, h2, to2, t2, tw2, ba2, fa2, rfl, rfl, q2, v2⟩ := hw_20
      refine x_imul dX10_term0_23 ?_
      refine x_istore_n dX10_term0_24 (by decide) ?_
      refine x_goto 5 dX10_term0_25 ?_
      refine Ex.forget (L' := [some (.ref 42), some (.int (x * x2))]) ⟨rfl, rfl, trivial⟩ ?_
      exact ih _ _ _ _ _ _ _ _ (LR_emt q2) c3 k3 f3 (lp_v hn hg q.1 hc hK n2 n0 hz (by decide) hv v2 (jn_mu x x2).symm) (e3.symm.trans he)
    · rw [lp_no hq] at he
      refine x_aload_n dX10_term0_5 rfl ?_
      refine x_bipush 42 dX10_term0_6 ?_
      refine ii_X10_229 dX10_term0_8 (c_X10_sign q (by decide)) mw_o (by decide) (Nat.le_of_ble_eq_true rfl) ?_
      refine x_if_eq 28 dX10_term0_11 (fun _ => ?_) (fun hx => absurd (bi0.mpr (fun z => hq (qMu_iff.mpr z))) hx)
      refine x_iload_n dX10_term0_28 rfl ?_
      exact Ex.ret (v := some (.int _)) ⟨dX10_term0_29, _, rfl, by first | rfl | decide⟩ ⟨_, _, _, _, _, _, _, rfl, rfl, by rw [← he]; exact q, by rw [← he]; exact hv⟩
set_option maxRecDepth 100000 in
set_option maxHeartbeats 4000000 in
theorem c_X10_added0 {X : Nat × (Nat → Int32)} {S : CS} {tl : pc_W} {tx : (Nat → Int32)} {ts : (Nat → Int32)} {tc : Int32} {tp : (Nat → Int32)} {tn : Int32} {U : MU} {o : (Nat → Int32)} {to : Int32} {tw : Int64} {ba : Int32} {fa : Int32} {C : MC} {K : MK} {H : MH} {r n h t : Nat} {b : Nat → Int32} {s : PS} (hr : r < 6) (hn : n ≤ 160) (hb : ∀ i, i < n → tx (160 * r + i) = b i) (hbp : ∀ i, i < n → 0 ≤ b i) (q : LR b n s h to t tw ba fa) (hc : g_cz s ≤ g_pl s) (hK : g_op s = 0): Mt X 36 0 0 yX10_added0 cX10_added0 4 (some .int) [.ref 42] (cst S ++ (mw (tx, ts, tc, tp, tn) U (o, nI (160 * r), nI n, nI h, to, nI t, tw, (nI 0), ba, fa) C K H ++ tl)) (fun v w' => ∃ (x : Int32) (h' : Nat) (to' : Int32) (t' : Nat) (tw' : Int64) (ba' fa' : Int32), v = some (.int x) ∧ w' = cst S ++ (mw (tx, ts, tc, tp, tn) U (o, nI (160 * r), nI n, nI h', to', nI t', tw', (nI 0), ba', fa') C K H ++ tl) ∧ LR b n (lvM b n (lev b n 5) s) h' to' t' tw' ba' fa' ∧ VR o (g_cz s) (lvM b n (lev b n 5) s) x) := by
  refine Mt.of (by decide +kernel) (fun _ _ => Nat.le_of_ble_eq_true rfl) ?_
  show Ex X mX10_added0 _ _ _ _ _ _ _ _
  refine x_aload_n dX10_added0_0 rfl ?_
  refine iv_X10_337 dX10_added0_1 (c_X10_term0 hr hn hb hbp q hc hK) mw_o (by decide) (Nat.le_of_ble_eq_true rfl) (fun v_1 w_1 hw_1 => ?_)
  obtain ⟨x1, h1, to1, t1, tw1, ba1, fa1, rfl, rfl, q1, v1⟩ := hw_1
  refine x_istore_n dX10_added0_4 (by decide) ?_
  have hg := (lv_gf (b := b) hn 5 0 rfl).2.1
  have hc1 := (hg s q.1 hc hK).1.cz hc
  refine Ex.forget (L' := [some (.ref 42), some (.int x1), none, none]) ⟨rfl, rfl, trivial⟩ ?_
  suffices hL : ∀ (f : Nat) (s' : PS) (x : Int32) (h : Nat) (to : Int32) (t : Nat) (tw : Int64) (ba fa : Int32), LR b n s' h to t tw ba fa → g_cz s' ≤ g_pl s' → g_op s' = 0 → n ≤ f + g_pl s' → VR o (g_cz s) s' x → lpG b n qPl (lvT b n (lev b n 5)) f s' = lvM b n (lev b n 5) s → Ex X mX10_added0 36 (fun v w' => ∃ (x : Int32) (h' : Nat) (to' : Int32) (t' : Nat) (tw' : Int64) (ba' fa' : Int32), v = some (.int x) ∧ w' = cst S ++ (mw (tx, ts, tc, tp, tn) U (o, nI (160 * r), nI n, nI h', to', nI t', tw', (nI 0), ba', fa') C K H ++ tl) ∧ LR b n (lvM b n (lev b n 5) s) h' to' t' tw' ba' fa' ∧ VR o (g_cz s) (lvM b n (lev b n 5) s) x) 0 0 5 [some (.ref 42), some (.int x), none, none] [] (cst S ++ (mw (tx, ts, tc, tp, tn) U (o, nI (160 * r), nI n, nI h, to, nI t, tw, (nI 0), ba, fa) C K H ++ tl)) from hL 160 _ _ _ _ _ _ _ _ q1 hc1 ((hg s q.1 hc hK).1.2.1.trans hK) (by omega) v1 rfl
  intro f
  induction f with
  | zero =>
    intro s' x h to t tw ba fa q hc hK hf hv he
    have hq := lp_0 (q := qPl) rfl rfl q.1 hf
    have he : s' = _ := he
    refine x_aload_n dX10_added0_5 rfl ?_
    refine x_bipush 43 dX10_added0_6 ?_
    refine ii_X10_229 dX10_added0_8 (c_X10_sign q (by decide)) mw_o (by decide) (Nat.le_of_ble_eq_true rfl) ?_
    refine x_if_ne 23 dX10_added0_11 (fun hx => absurd (bi0.mpr (fun z => hq (qPl_iff.mpr (Or.inl z)))) hx) (fun _ => ?_)
    refine x_aload_n dX10_added0_14 rfl ?_
    refine x_bipush 45 dX10_added0_15 ?_
    refine ii_X10_229 dX10_added0_17 (c_X10_sign q (by decide)) mw_o (by decide) (Nat.le_of_ble_eq_true rfl) ?_
    refine x_if_eq 66 dX10_added0_20 (fun _ => ?_) (fun hx => absurd (bi0.mpr (fun z => hq (qPl_iff.mpr (Or.inr z)))) hx)
    refine x_iload_n dX10_added0_66 rfl ?_
    exact Ex.ret (v := some (.int _)) ⟨dX10_added0_67, _, rfl, by first | rfl | decide⟩ ⟨_, _, _, _, _, _, _, rfl, rfl, by rw [← he]; exact q, by rw [← he]; exact hv⟩
  | succ f ih =>
    intro s' x h to t tw ba fa q hc hK hf hv he
    by_cases hq : qPl (g_to s') = true
    · obtain ⟨⟨n2, n0⟩, ⟨c1, k1⟩, ⟨w3, c3, k3, f3⟩, e3⟩ := lp_go hn hg rfl rfl q.1 hc hK hf hq
      rcases qPl_iff.mp hq with hz | hz
      · skip
        refine x_aload_n dX10_added0_5 rfl ?_
        refine x_bipush 43 dX10_added0_6 ?_
        refine ii_X10_229 dX10_added0_8 (c_X10_sign q (by decide)) mw_o (by decide) (Nat.le_of_ble_eq_true rfl) ?_
        refine x_if_ne 23 dX10_added0_11 (fun _ => ?_) (fun hx => absurd hx (bi1.mpr hz))
        refine x_aload_n dX10_added0_23 rfl ?_
        refine mg_182 dX10_added0_24 ?_
        refine x_ldc2_w dX10_added0_27 kk_X10_246 ?_
        refine x_lcmp dX10_added0_30 ?_
        refine x_if_ne 38 dX10_added0_31 (fun hx => absurd ((lg_cmp_eq _ _).mpr ((LR_tw q (by rw [hz]; decide)).trans (by rw [hz]; decide))) hx) (fun _ => ?_)
        refine x_iconst 1 dX10_added0_34 ?_
        refine x_goto 39 dX10_added0_35 ?_
        refine x_istore_n dX10_added0_39 (by decide) ?_
        refine x_aload_n dX10_added0_40 rfl ?_
        refine iv_X10_204 dX10_added0_41 (c_X10_nextR hr hn hb hbp q n2) mw_o (by decide) (Nat.le_of_ble_eq_true rfl) (fun v_41 w_41 hw_41 => ?_)
        obtain ⟨h1, to1, t1, tw1, rfl, rfl, q1⟩ := hw_41
        refine x_aload_n dX10_added0_44 rfl ?_
        refine iv_X10_337 dX10_added0_45 (c_X10_term0 hr hn hb hbp q1 c1 k1) mw_o (by decide) (Nat.le_of_ble_eq_true rfl) (fun v_45 w_45 hw_45 => ?_)
        obtain ⟨x2, h2, to2, t2, tw2, ba2, fa2, rfl, rfl, q2, v2⟩ := hw_45
        refine x_istore_n dX10_added0_48 (by decide) ?_
        refine x_iload_n dX10_added0_49 rfl ?_
        refine x_if_eq 59 dX10_added0_50 (fun hx => absurd hx (by decide)) (fun _ => ?_)
        refine x_iload_n dX10_added0_53 rfl ?_
        refine x_iload_n dX10_added0_54 rfl ?_
        refine x_iadd dX10_added0_55 ?_
        refine x_goto 62 dX10_added0_56 ?_
        refine x_istore_n dX10_added0_62 (by decide) ?_
        refine x_goto 5 dX10_added0_63 ?_
        refine Ex.forget (L' := [some (.ref 42), some (.int (x + x2)), none, none]) ⟨rfl, rfl, trivial⟩ ?_
        exact ih _ _ _ _ _ _ _ _ (LR_emt q2) c3 k3 f3 (lp_v hn hg q.1 hc hK n2 n0 hz (by decide) hv v2 (jn_ad x x2).symm) (e3.symm.trans he)
      · skip
        refine x_aload_n dX10_added0_5 rfl ?_
        refine x_bipush 43 dX10_added0_6 ?_
        refine ii_X10_229 dX10_added0_8 (c_X10_sign q (by decide)) mw_o (by decide) (Nat.le_of_ble_eq_true rfl) ?_
        refine x_if_ne 23 dX10_added0_11 (fun hx => absurd (bi0.mpr (fun z => absurd (hz.symm.trans z) (by decide))) hx) (fun _ => ?_)
        refine x_aload_n dX10_added0_14 rfl ?_
        refine x_bipush 45 dX10_added0_15 ?_
        refine ii_X10_229 dX10_added0_17 (c_X10_sign q (by decide)) mw_o (by decide) (Nat.le_of_ble_eq_true rfl) ?_
        refine x_if_eq 66 dX10_added0_20 (fun hx => absurd hx (bi1.mpr hz)) (fun _ => ?_)
        refine x_aload_n dX10_added0_23 rfl ?_
        refine mg_182 dX10_added0_24 ?_
        refine x_ldc2_w dX10_added0_27 kk_X10_246 ?_
        refine x_lcmp dX10_added0_30 ?_
        refine x_if_ne 38 dX10_added0_31 (fun _ => ?_) (fun hx => absurd hx (fun z => absurd (((lg_cmp_eq _ _).mp z).symm.trans ((LR_tw q (by rw [hz]; decide)).trans (by rw [hz]))) (by decide)))
        refine x_iconst 0 dX10_added0_38 ?_
        refine x_istore_n dX10_added0_39 (by decide) ?_
        refine x_aload_n dX10_added0_40 rfl ?_
        refine iv_X10_204 dX10_added0_41 (c_X10_nextR hr hn hb hbp q n2) mw_o (by decide) (Nat.le_of_ble_eq_true rfl) (fun v_41 w_41 hw_41 => ?_)
        obtain ⟨h1, to1, t1, tw1, rfl, rfl, q1⟩ := hw_41
        refine x_aload_n dX10_added0_44 rfl ?_
        refine iv_X10_337 dX10_added0_45 (c_X10_term0 hr hn hb hbp q1 c1 k1) mw_o (by decide) (Nat.le_of_ble_eq_true rfl) (fun v_45 w_45 hw_45 => ?_)
        obtain ⟨x2, h2, to2, t2, tw2, ba2, fa2, rfl, rfl, q2, v2⟩ := hw_45
        refine x_istore_n dX10_added0_48 (by decide) ?_
        refine x_iload_n dX10_added0_49 rfl ?_
        refine x_if_eq 59 dX10_added0_50 (fun _ => ?_) (fun hx => absurd (rfl) hx)
        refine x_iload_n dX10_added0_59 rfl ?_
        refine x_iload_n dX10_added0_60 rfl ?_
        refine x_isub dX10_added0_61 ?_
        refine x_istore_n dX10_added0_62 (by decide) ?_
        refine x_goto 5 dX10_added0_63 ?_
        refine Ex.forget (L' := [some (.ref 42), some (.int (x - x2)), none, none]) ⟨rfl, rfl, trivial⟩ ?_
        exact ih _ _ _ _ _ _ _ _ (LR_emt q2) c3 k3 f3 (lp_v hn hg q.1 hc hK n2 n0 hz (by decide) hv v2 (jn_sb x x2).symm) (e3.symm.trans he)
    · rw [lp_no hq] at he
      refine x_aload_n dX10_added0_5 rfl ?_
      refine x_bipush 43 dX10_added0_6 ?_
      refine ii_X10_229 dX10_added0_8 (c_X10_sign q (by decide)) mw_o (by decide) (Nat.le_of_ble_eq_true rfl) ?_
      refine x_if_ne 23 dX10_added0_11 (fun hx => absurd (bi0.mpr (fun z => hq (qPl_iff.mpr (Or.inl z)))) hx) (fun _ => ?_)
      refine x_aload_n dX10_added0_14 rfl ?_
      refine x_bipush 45 dX10_added0_15 ?_
      refine ii_X10_229 dX10_added0_17 (c_X10_sign q (by decide)) mw_o (by decide) (Nat.le_of_ble_eq_true rfl) ?_
      refine x_if_eq 66 dX10_added0_20 (fun _ => ?_) (fun hx => absurd (bi0.mpr (fun z => hq (qPl_iff.mpr (Or.inr z)))) hx)
      refine x_iload_n dX10_added0_66 rfl ?_
      exact Ex.ret (v := some (.int _)) ⟨dX10_added0_67, _, rfl, by first | rfl | decide⟩ ⟨_, _, _, _, _, _, _, rfl, rfl, by rw [← he]; exact q, by rw [← he]; exact hv⟩
set_option maxRecDepth 100000 in
set_option maxHeartbeats 4000000 in
theorem c_X10_not0 {X : Nat × (Nat → Int32)} {S : CS} {tl : pc_W} {tx : (Nat → Int32)} {ts : (Nat → Int32)} {tc : Int32} {tp : (Nat → Int32)} {tn : Int32} {U : MU} {o : (Nat → Int32)} {to : Int32} {tw : Int64} {ba : Int32} {fa : Int32} {C : MC} {K : MK} {H : MH} {r n h t : Nat} {b : Nat → Int32} {s : PS} (hr : r < 6) (hn : n ≤ 160) (hb : ∀ i, i < n → tx (160 * r + i) = b i) (hbp : ∀ i, i < n → 0 ≤ b i) (q : LR b n s h to t tw ba fa) (hc : g_cz s ≤ g_pl s) (hK : g_op s = 0): Mt X 37 0 0 yX10_not0 cX10_not0 4 (some .int) [.ref 42] (cst S ++ (mw (tx, ts, tc, tp, tn) U (o, nI (160 * r), nI n, nI h, to, nI t, tw, (nI 0), ba, fa) C K H ++ tl)) (fun v w' => ∃ (x : Int32) (h' : Nat) (to' : Int32) (t' : Nat) (tw' : Int64) (ba' fa' : Int32), v = some (.int x) ∧ w' = cst S ++ (mw (tx, ts, tc, tp, tn) U (o, nI (160 * r), nI n, nI h', to', nI t', tw', (nI 0), ba', fa') C K H ++ tl) ∧ LR b n (lvN b n (lev b n 5) s) h' to' t' tw' ba' fa' ∧ VR o (g_cz s) (lvN b n (lev b n 5) s) x) := by
  refine Mt.of (by decide +kernel) (fun _ _ => Nat.le_of_ble_eq_true rfl) ?_
  show Ex X mX10_not0 _ _ _ _ _ _ _ _
  refine x_aload_n dX10_not0_0 rfl ?_
  refine x_bipush 110 dX10_not0_1 ?_
  refine x_bipush 111 dX10_not0_3 ?_
  refine x_bipush 116 dX10_not0_5 ?_
  refine x_iconst 0 dX10_not0_7 ?_
  refine x_iconst 0 dX10_not0_8 ?_
  refine x_iconst 0 dX10_not0_9 ?_
  refine x_iconst 0 dX10_not0_10 ?_
  refine x_iconst 0 dX10_not0_11 ?_
  refine ii_X10_207 dX10_not0_12 (c_X10_word (w := 211) hr hn hb q (by decide) (by decide) wl_211) mw_o (by decide) (Nat.le_of_ble_eq_true rfl) ?_
  refine x_if_eq 52 dX10_not0_15 (fun h_15 => ?_) (fun h_15 => ?_)
  · have hz : ¬ g_to s = 211 := bi0.mp h_15
    refine x_aload_n dX10_not0_52 rfl ?_
    refine iv_X10_340 dX10_not0_53 (c_X10_added0 hr hn hb hbp q hc hK) mw_o (by decide) (Nat.le_of_ble_eq_true rfl) (fun v_53 w_53 hw_53 => ?_)
    obtain ⟨x1, h1, to1, t1, tw1, ba1, fa1, rfl, rfl, q1, v1⟩ := hw_53
    refine x_istore_n dX10_not0_56 (by decide) ?_
    refine x_aload_n dX10_not0_57 rfl ?_
    refine x_bipush 60 dX10_not0_58 ?_
    refine ii_X10_229 dX10_not0_60 (c_X10_sign q1 (by decide)) mw_o (by decide) (Nat.le_of_ble_eq_true rfl) ?_
    have hg := (lv_gf (b := b) hn 5 0 rfl).2.2.1
    have hs1 := (hg s q.1 hc hK).1
    by_cases hzlt : g_to (lvM b n (lev b n 5) s) = 60
    · have n2 : ¬ g_to (lvM b n (lev b n 5) s) = 2 := by rw [hzlt]; decide
      have n0 : ¬ g_to (lvM b n (lev b n 5) s) = 0 := by rw [hzlt]; decide
      have ha := hs1.tr (adv_gd (b := b) hn hs1.1 n2 n0)
      have c2 := ha.cz hc
      have k2 := ha.2.1.trans hK
      refine x_if_ne 77 dX10_not0_63 (fun _ => ?_) (fun hx => absurd hx (bi1.mpr hzlt))
      refine x_aload_n dX10_not0_77 rfl ?_
      refine mg_182 dX10_not0_78 ?_
      refine x_ldc2_w dX10_not0_81 kk_X10_251 ?_
      refine x_lcmp dX10_not0_84 ?_
      refine x_if_ne 92 dX10_not0_85 (fun hx => absurd ((lg_cmp_eq _ _).mpr ((LR_tw q1 (by rw [hzlt]; decide)).trans (by rw [hzlt]; decide))) hx) (fun _ => ?_)
      refine x_iconst 1 dX10_not0_88 ?_
      refine x_goto 93 dX10_not0_89 ?_
      refine x_istore_n dX10_not0_93 (by decide) ?_
      refine x_aload_n dX10_not0_94 rfl ?_
      refine iv_X10_204 dX10_not0_95 (c_X10_nextR hr hn hb hbp q1 n2) mw_o (by decide) (Nat.le_of_ble_eq_true rfl) (fun v_95 w_95 hw_95 => ?_)
      obtain ⟨h2, to2, t2, tw2, rfl, rfl, q2⟩ := hw_95
      refine x_aload_n dX10_not0_98 rfl ?_
      refine iv_X10_340 dX10_not0_99 (c_X10_added0 hr hn hb hbp q2 (by omega) k2) mw_o (by decide) (Nat.le_of_ble_eq_true rfl) (fun v_99 w_99 hw_99 => ?_)
      obtain ⟨x3, h3, to3, t3, tw3, ba3, fa3, rfl, rfl, q3, v3⟩ := hw_99
      refine x_istore_n dX10_not0_102 (by decide) ?_
      refine x_iload_n dX10_not0_103 rfl ?_
      refine x_if_eq 115 dX10_not0_104 (fun hx => absurd hx (by decide)) (fun _ => ?_)
      refine x_iload_n dX10_not0_107 rfl ?_
      refine x_iload_n dX10_not0_108 rfl ?_
      refine x_icmp_ge 124 dX10_not0_109 (fun h_109 => ?_) (fun h_109 => ?_)
      · refine x_iconst 0 dX10_not0_124 ?_
        have zz := fin_cmp (v := 0) (k := 5) hn q.1 hc hK rfl hz (Or.inl hzlt) q3 v1 v3 (by rw [hzlt]; exact (bi_f (Int32.not_lt.mpr h_109)).symm)
        exact Ex.ret (v := some (.int _)) ⟨dX10_not0_125, _, rfl, by first | rfl | decide⟩ ⟨_, _, _, _, _, _, _, rfl, rfl, zz⟩
      · refine x_goto 120 dX10_not0_112 ?_
        refine x_iconst 1 dX10_not0_120 ?_
        refine x_goto 125 dX10_not0_121 ?_
        have zz := fin_cmp (v := 1) (k := 5) hn q.1 hc hK rfl hz (Or.inl hzlt) q3 v1 v3 (by rw [hzlt]; exact (bi_t (Int32.not_le.mp h_109)).symm)
        exact Ex.ret (v := some (.int _)) ⟨dX10_not0_125, _, rfl, by first | rfl | decide⟩ ⟨_, _, _, _, _, _, _, rfl, rfl, zz⟩
    by_cases hzeq : g_to (lvM b n (lev b n 5) s) = 61
    · have n2 : ¬ g_to (lvM b n (lev b n 5) s) = 2 := by rw [hzeq]; decide
      have n0 : ¬ g_to (lvM b n (lev b n 5) s) = 0 := by rw [hzeq]; decide
      have ha := hs1.tr (adv_gd (b := b) hn hs1.1 n2 n0)
      have c2 := ha.cz hc
      have k2 := ha.2.1.trans hK
      refine x_if_ne 77 dX10_not0_63 (fun hx => absurd (bi0.mpr hzlt) hx) (fun _ => ?_)
      refine x_aload_n dX10_not0_66 rfl ?_
      refine x_bipush 61 dX10_not0_67 ?_
      refine ii_X10_229 dX10_not0_69 (c_X10_sign q1 (by decide)) mw_o (by decide) (Nat.le_of_ble_eq_true rfl) ?_
      refine x_if_ne 77 dX10_not0_72 (fun _ => ?_) (fun hx => absurd hx (bi1.mpr hzeq))
      refine x_aload_n dX10_not0_77 rfl ?_
      refine mg_182 dX10_not0_78 ?_
      refine x_ldc2_w dX10_not0_81 kk_X10_251 ?_
      refine x_lcmp dX10_not0_84 ?_
      refine x_if_ne 92 dX10_not0_85 (fun _ => ?_) (fun hx => absurd hx (fun z => absurd (((lg_cmp_eq _ _).mp z).symm.trans ((LR_tw q1 (by rw [hzeq]; decide)).trans (by rw [hzeq]))) (by decide)))
      refine x_iconst 0 dX10_not0_92 ?_
      refine x_istore_n dX10_not0_93 (by decide) ?_
      refine x_aload_n dX10_not0_94 rfl ?_
      refine iv_X10_204 dX10_not0_95 (c_X10_nextR hr hn hb hbp q1 n2) mw_o (by decide) (Nat.le_of_ble_eq_true rfl) (fun v_95 w_95 hw_95 => ?_)
      obtain ⟨h2, to2, t2, tw2, rfl, rfl, q2⟩ := hw_95
      refine x_aload_n dX10_not0_98 rfl ?_
      refine iv_X10_340 dX10_not0_99 (c_X10_added0 hr hn hb hbp q2 (by omega) k2) mw_o (by decide) (Nat.le_of_ble_eq_true rfl) (fun v_99 w_99 hw_99 => ?_)
      obtain ⟨x3, h3, to3, t3, tw3, ba3, fa3, rfl, rfl, q3, v3⟩ := hw_99
      refine x_istore_n dX10_not0_102 (by decide) ?_
      refine x_iload_n dX10_not0_103 rfl ?_
      refine x_if_eq 115 dX10_not0_104 (fun _ => ?_) (fun hx => absurd (rfl) hx)
      refine x_iload_n dX10_not0_115 rfl ?_
      refine x_iload_n dX10_not0_116 rfl ?_
      refine x_icmp_ne 124 dX10_not0_117 (fun h_117 => ?_) (fun h_117 => ?_)
      · refine x_iconst 0 dX10_not0_124 ?_
        have zz := fin_cmp (v := 0) (k := 5) hn q.1 hc hK rfl hz (Or.inr hzeq) q3 v1 v3 (by rw [hzeq]; exact (bi_f h_117).symm)
        exact Ex.ret (v := some (.int _)) ⟨dX10_not0_125, _, rfl, by first | rfl | decide⟩ ⟨_, _, _, _, _, _, _, rfl, rfl, zz⟩
      · refine x_iconst 1 dX10_not0_120 ?_
        refine x_goto 125 dX10_not0_121 ?_
        have zz := fin_cmp (v := 1) (k := 5) hn q.1 hc hK rfl hz (Or.inr hzeq) q3 v1 v3 (by rw [hzeq]; exact (bi_t h_117).symm)
        exact Ex.ret (v := some (.int _)) ⟨dX10_not0_125, _, rfl, by first | rfl | decide⟩ ⟨_, _, _, _, _, _, _, rfl, rfl, zz⟩
    refine x_if_ne 77 dX10_not0_63 (fun hx => absurd (bi0.mpr hzlt) hx) (fun _ => ?_)
    refine x_aload_n dX10_not0_66 rfl ?_
    refine x_bipush 61 dX10_not0_67 ?_
    refine ii_X10_229 dX10_not0_69 (c_X10_sign q1 (by decide)) mw_o (by decide) (Nat.le_of_ble_eq_true rfl) ?_
    refine x_if_ne 77 dX10_not0_72 (fun hx => absurd (bi0.mpr hzeq) hx) (fun _ => ?_)
    refine x_iload_n dX10_not0_75 rfl ?_
    have zz := fin_sum (k := 5) hz hzlt hzeq q1 v1
    exact Ex.ret (v := some (.int _)) ⟨dX10_not0_76, _, rfl, by first | rfl | decide⟩ ⟨_, _, _, _, _, _, _, rfl, rfl, zz⟩
  have hz : g_to s = 211 := bi1.mp h_15
  refine x_aload_n dX10_not0_18 rfl ?_
  refine iv_X10_232 dX10_not0_19 (c_X10_opens_y hr hn hb hbp q (by rw [hz]; decide) (by decide)) mw_o (by decide) (Nat.le_of_ble_eq_true rfl) (fun v_19 w_19 hw_19 => ?_)
  obtain ⟨h1, to1, t1, tw1, rfl, rfl, q1⟩ := hw_19
  obtain ⟨c1, k1, e1⟩ := in_pre (b := b) hn q.1 hc hK (by rw [hz]; decide) (by rw [hz]; decide)
  refine x_if_ne 27 dX10_not0_22 (fun _ => ?_) (fun hx => absurd hx (by decide))
  refine x_aload_n dX10_not0_27 rfl ?_
  refine iv_X10_325 dX10_not0_28 (c_X10_not1 hr hn hb hbp q1 c1 k1) mw_o (by decide) (Nat.le_of_ble_eq_true rfl) (fun v_28 w_28 hw_28 => ?_)
  obtain ⟨x2, h2, to2, t2, tw2, ba2, fa2, rfl, rfl, q2, v2⟩ := hw_28
  refine x_istore_n dX10_not0_31 (by decide) ?_
  refine x_aload_n dX10_not0_32 rfl ?_
  refine x_dup dX10_not0_33 ?_
  refine mg_198 dX10_not0_34 ?_
  refine x_iconst 1 dX10_not0_37 ?_
  refine x_isub dX10_not0_38 ?_
  rw [show nI 1 - 1 = nI 0 from nI_pred 0]
  refine mp_198 dX10_not0_39 ?_
  refine x_iload_n dX10_not0_42 rfl ?_
  refine x_if_ne 50 dX10_not0_43 (fun h_43 => ?_) (fun h_43 => ?_)
  · refine x_iconst 0 dX10_not0_50 ?_
    have zz := fin_not (y := 0) (k := 4) hn q.1 hc hK rfl hz q2 v2 (bi_f h_43).symm
    exact Ex.ret (v := some (.int _)) ⟨dX10_not0_51, _, rfl, by first | rfl | decide⟩ ⟨_, _, _, _, _, _, _, rfl, rfl, zz⟩
  · refine x_iconst 1 dX10_not0_46 ?_
    refine x_goto 51 dX10_not0_47 ?_
    have zz := fin_not (y := 1) (k := 4) hn q.1 hc hK rfl hz q2 v2 (bi_t h_43).symm
    exact Ex.ret (v := some (.int _)) ⟨dX10_not0_51, _, rfl, by first | rfl | decide⟩ ⟨_, _, _, _, _, _, _, rfl, rfl, zz⟩
set_option maxRecDepth 100000 in
set_option maxHeartbeats 4000000 in
theorem c_X10_both0 {X : Nat × (Nat → Int32)} {S : CS} {tl : pc_W} {tx : (Nat → Int32)} {ts : (Nat → Int32)} {tc : Int32} {tp : (Nat → Int32)} {tn : Int32} {U : MU} {o : (Nat → Int32)} {to : Int32} {tw : Int64} {ba : Int32} {fa : Int32} {C : MC} {K : MK} {H : MH} {r n h t : Nat} {b : Nat → Int32} {s : PS} (hr : r < 6) (hn : n ≤ 160) (hb : ∀ i, i < n → tx (160 * r + i) = b i) (hbp : ∀ i, i < n → 0 ≤ b i) (q : LR b n s h to t tw ba fa) (hc : g_cz s ≤ g_pl s) (hK : g_op s = 0): Mt X 38 0 0 yX10_both0 cX10_both0 3 (some .int) [.ref 42] (cst S ++ (mw (tx, ts, tc, tp, tn) U (o, nI (160 * r), nI n, nI h, to, nI t, tw, (nI 0), ba, fa) C K H ++ tl)) (fun v w' => ∃ (x : Int32) (h' : Nat) (to' : Int32) (t' : Nat) (tw' : Int64) (ba' fa' : Int32), v = some (.int x) ∧ w' = cst S ++ (mw (tx, ts, tc, tp, tn) U (o, nI (160 * r), nI n, nI h', to', nI t', tw', (nI 0), ba', fa') C K H ++ tl) ∧ LR b n (lvJ b n (lev b n 5) s) h' to' t' tw' ba' fa' ∧ VR o (g_cz s) (lvJ b n (lev b n 5) s) x) := by
  refine Mt.of (by decide +kernel) (fun _ _ => Nat.le_of_ble_eq_true rfl) ?_
  show Ex X mX10_both0 _ _ _ _ _ _ _ _
  refine x_aload_n dX10_both0_0 rfl ?_
  refine iv_X10_343 dX10_both0_1 (c_X10_not0 hr hn hb hbp q hc hK) mw_o (by decide) (Nat.le_of_ble_eq_true rfl) (fun v_1 w_1 hw_1 => ?_)
  obtain ⟨x1, h1, to1, t1, tw1, ba1, fa1, rfl, rfl, q1, v1⟩ := hw_1
  refine x_istore_n dX10_both0_4 (by decide) ?_
  have hg := (lv_gf (b := b) hn 5 0 rfl).2.2.2.1
  have hc1 := (hg s q.1 hc hK).1.cz hc
  refine Ex.forget (L' := [some (.ref 42), some (.int x1), none]) ⟨rfl, rfl, trivial⟩ ?_
  suffices hL : ∀ (f : Nat) (s' : PS) (x : Int32) (h : Nat) (to : Int32) (t : Nat) (tw : Int64) (ba fa : Int32), LR b n s' h to t tw ba fa → g_cz s' ≤ g_pl s' → g_op s' = 0 → n ≤ f + g_pl s' → VR o (g_cz s) s' x → lpG b n qAn (lvN b n (lev b n 5)) f s' = lvJ b n (lev b n 5) s → Ex X mX10_both0 38 (fun v w' => ∃ (x : Int32) (h' : Nat) (to' : Int32) (t' : Nat) (tw' : Int64) (ba' fa' : Int32), v = some (.int x) ∧ w' = cst S ++ (mw (tx, ts, tc, tp, tn) U (o, nI (160 * r), nI n, nI h', to', nI t', tw', (nI 0), ba', fa') C K H ++ tl) ∧ LR b n (lvJ b n (lev b n 5) s) h' to' t' tw' ba' fa' ∧ VR o (g_cz s) (lvJ b n (lev b n 5) s) x) 0 0 5 [some (.ref 42), some (.int x), none] [] (cst S ++ (mw (tx, ts, tc, tp, tn) U (o, nI (160 * r), nI n, nI h, to, nI t, tw, (nI 0), ba, fa) C K H ++ tl)) from hL 160 _ _ _ _ _ _ _ _ q1 hc1 ((hg s q.1 hc hK).1.2.1.trans hK) (by omega) v1 rfl
  intro f
  induction f with
  | zero =>
    intro s' x h to t tw ba fa q hc hK hf hv he
    have hq := lp_0 (q := qAn) rfl rfl q.1 hf
    have he : s' = _ := he
    refine x_aload_n dX10_both0_5 rfl ?_
    refine x_bipush 97 dX10_both0_6 ?_
    refine x_bipush 110 dX10_both0_8 ?_
    refine x_bipush 100 dX10_both0_10 ?_
    refine x_iconst 0 dX10_both0_12 ?_
    refine x_iconst 0 dX10_both0_13 ?_
    refine x_iconst 0 dX10_both0_14 ?_
    refine x_iconst 0 dX10_both0_15 ?_
    refine x_iconst 0 dX10_both0_16 ?_
    refine ii_X10_207 dX10_both0_17 (c_X10_word (w := 210) hr hn hb q (by decide) (by decide) wl_210) mw_o (by decide) (Nat.le_of_ble_eq_true rfl) ?_
    refine x_if_eq 49 dX10_both0_20 (fun _ => ?_) (fun hx => absurd (bi0.mpr (fun z => hq (qAn_iff.mpr z))) hx)
    refine x_iload_n dX10_both0_49 rfl ?_
    exact Ex.ret (v := some (.int _)) ⟨dX10_both0_50, _, rfl, by first | rfl | decide⟩ ⟨_, _, _, _, _, _, _, rfl, rfl, by rw [← he]; exact q, by rw [← he]; exact hv⟩
  | succ f ih =>
    intro s' x h to t tw ba fa q hc hK hf hv he
    by_cases hq : qAn (g_to s') = true
    · obtain ⟨⟨n2, n0⟩, ⟨c1, k1⟩, ⟨w3, c3, k3, f3⟩, e3⟩ := lp_go hn hg rfl rfl q.1 hc hK hf hq
      have hz := qAn_iff.mp hq
      refine x_aload_n dX10_both0_5 rfl ?_
      refine x_bipush 97 dX10_both0_6 ?_
      refine x_bipush 110 dX10_both0_8 ?_
      refine x_bipush 100 dX10_both0_10 ?_
      refine x_iconst 0 dX10_both0_12 ?_
      refine x_iconst 0 dX10_both0_13 ?_
      refine x_iconst 0 dX10_both0_14 ?_
      refine x_iconst 0 dX10_both0_15 ?_
      refine x_iconst 0 dX10_both0_16 ?_
      refine ii_X10_207 dX10_both0_17 (c_X10_word (w := 210) hr hn hb q (by decide) (by decide) wl_210) mw_o (by decide) (Nat.le_of_ble_eq_true rfl) ?_
      refine x_if_eq 49 dX10_both0_20 (fun hx => absurd hx (bi1.mpr hz)) (fun _ => ?_)
      refine x_aload_n dX10_both0_23 rfl ?_
      refine iv_X10_204 dX10_both0_24 (c_X10_nextR hr hn hb hbp q n2) mw_o (by decide) (Nat.le_of_ble_eq_true rfl) (fun v_24 w_24 hw_24 => ?_)
      obtain ⟨h1, to1, t1, tw1, rfl, rfl, q1⟩ := hw_24
      refine x_aload_n dX10_both0_27 rfl ?_
      refine iv_X10_343 dX10_both0_28 (c_X10_not0 hr hn hb hbp q1 c1 k1) mw_o (by decide) (Nat.le_of_ble_eq_true rfl) (fun v_28 w_28 hw_28 => ?_)
      obtain ⟨x2, h2, to2, t2, tw2, ba2, fa2, rfl, rfl, q2, v2⟩ := hw_28
      refine x_istore_n dX10_both0_31 (by decide) ?_
      refine x_iload_n dX10_both0_32 rfl ?_
      refine x_if_eq 44 dX10_both0_33 (fun h_33 => ?_) (fun h_33 => ?_)
      · refine x_iconst 0 dX10_both0_44 ?_
        refine x_istore_n dX10_both0_45 (by decide) ?_
        refine x_goto 5 dX10_both0_46 ?_
        refine Ex.forget (L' := [some (.ref 42), some (.int 0), none]) ⟨rfl, rfl, trivial⟩ ?_
        exact ih _ _ _ _ _ _ _ _ (LR_emt q2) c3 k3 f3 (lp_v hn hg q.1 hc hK n2 n0 hz (by decide) hv v2 (show (0 : Int32) = jn 210 x x2 from (bi_f (fun z => z.1 h_33)).symm)) (e3.symm.trans he)
      · refine x_iload_n dX10_both0_36 rfl ?_
        refine x_if_eq 44 dX10_both0_37 (fun h_37 => ?_) (fun h_37 => ?_)
        · refine x_iconst 0 dX10_both0_44 ?_
          refine x_istore_n dX10_both0_45 (by decide) ?_
          refine x_goto 5 dX10_both0_46 ?_
          refine Ex.forget (L' := [some (.ref 42), some (.int 0), none]) ⟨rfl, rfl, trivial⟩ ?_
          exact ih _ _ _ _ _ _ _ _ (LR_emt q2) c3 k3 f3 (lp_v hn hg q.1 hc hK n2 n0 hz (by decide) hv v2 (show (0 : Int32) = jn 210 x x2 from (bi_f (fun z => z.2 h_37)).symm)) (e3.symm.trans he)
        · refine x_iconst 1 dX10_both0_40 ?_
          refine x_goto 45 dX10_both0_41 ?_
          refine x_istore_n dX10_both0_45 (by decide) ?_
          refine x_goto 5 dX10_both0_46 ?_
          refine Ex.forget (L' := [some (.ref 42), some (.int 1), none]) ⟨rfl, rfl, trivial⟩ ?_
          exact ih _ _ _ _ _ _ _ _ (LR_emt q2) c3 k3 f3 (lp_v hn hg q.1 hc hK n2 n0 hz (by decide) hv v2 (show (1 : Int32) = jn 210 x x2 from (bi_t ⟨h_33, h_37⟩).symm)) (e3.symm.trans he)
    · rw [lp_no hq] at he
      refine x_aload_n dX10_both0_5 rfl ?_
      refine x_bipush 97 dX10_both0_6 ?_
      refine x_bipush 110 dX10_both0_8 ?_
      refine x_bipush 100 dX10_both0_10 ?_
      refine x_iconst 0 dX10_both0_12 ?_
      refine x_iconst 0 dX10_both0_13 ?_
      refine x_iconst 0 dX10_both0_14 ?_
      refine x_iconst 0 dX10_both0_15 ?_
      refine x_iconst 0 dX10_both0_16 ?_
      refine ii_X10_207 dX10_both0_17 (c_X10_word (w := 210) hr hn hb q (by decide) (by decide) wl_210) mw_o (by decide) (Nat.le_of_ble_eq_true rfl) ?_
      refine x_if_eq 49 dX10_both0_20 (fun _ => ?_) (fun hx => absurd (bi0.mpr (fun z => hq (qAn_iff.mpr z))) hx)
      refine x_iload_n dX10_both0_49 rfl ?_
      exact Ex.ret (v := some (.int _)) ⟨dX10_both0_50, _, rfl, by first | rfl | decide⟩ ⟨_, _, _, _, _, _, _, rfl, rfl, by rw [← he]; exact q, by rw [← he]; exact hv⟩
set_option maxRecDepth 100000 in
set_option maxHeartbeats 4000000 in
theorem c_X10_either0 {X : Nat × (Nat → Int32)} {S : CS} {tl : pc_W} {tx : (Nat → Int32)} {ts : (Nat → Int32)} {tc : Int32} {tp : (Nat → Int32)} {tn : Int32} {U : MU} {o : (Nat → Int32)} {to : Int32} {tw : Int64} {ba : Int32} {fa : Int32} {C : MC} {K : MK} {H : MH} {r n h t : Nat} {b : Nat → Int32} {s : PS} (hr : r < 6) (hn : n ≤ 160) (hb : ∀ i, i < n → tx (160 * r + i) = b i) (hbp : ∀ i, i < n → 0 ≤ b i) (q : LR b n s h to t tw ba fa) (hc : g_cz s ≤ g_pl s) (hK : g_op s = 0): Mt X 39 0 0 yX10_either0 cX10_either0 3 (some .int) [.ref 42] (cst S ++ (mw (tx, ts, tc, tp, tn) U (o, nI (160 * r), nI n, nI h, to, nI t, tw, (nI 0), ba, fa) C K H ++ tl)) (fun v w' => ∃ (x : Int32) (h' : Nat) (to' : Int32) (t' : Nat) (tw' : Int64) (ba' fa' : Int32), v = some (.int x) ∧ w' = cst S ++ (mw (tx, ts, tc, tp, tn) U (o, nI (160 * r), nI n, nI h', to', nI t', tw', (nI 0), ba', fa') C K H ++ tl) ∧ LR b n (lvE b n (lev b n 5) s) h' to' t' tw' ba' fa' ∧ VR o (g_cz s) (lvE b n (lev b n 5) s) x) := by
  refine Mt.of (by decide +kernel) (fun _ _ => Nat.le_of_ble_eq_true rfl) ?_
  show Ex X mX10_either0 _ _ _ _ _ _ _ _
  refine x_aload_n dX10_either0_0 rfl ?_
  refine iv_X10_346 dX10_either0_1 (c_X10_both0 hr hn hb hbp q hc hK) mw_o (by decide) (Nat.le_of_ble_eq_true rfl) (fun v_1 w_1 hw_1 => ?_)
  obtain ⟨x1, h1, to1, t1, tw1, ba1, fa1, rfl, rfl, q1, v1⟩ := hw_1
  refine x_istore_n dX10_either0_4 (by decide) ?_
  have hg := (lv_gf (b := b) hn 5 0 rfl).2.2.2.2.1
  have hc1 := (hg s q.1 hc hK).1.cz hc
  refine Ex.forget (L' := [some (.ref 42), some (.int x1), none]) ⟨rfl, rfl, trivial⟩ ?_
  suffices hL : ∀ (f : Nat) (s' : PS) (x : Int32) (h : Nat) (to : Int32) (t : Nat) (tw : Int64) (ba fa : Int32), LR b n s' h to t tw ba fa → g_cz s' ≤ g_pl s' → g_op s' = 0 → n ≤ f + g_pl s' → VR o (g_cz s) s' x → lpG b n qOr (lvJ b n (lev b n 5)) f s' = lvE b n (lev b n 5) s → Ex X mX10_either0 39 (fun v w' => ∃ (x : Int32) (h' : Nat) (to' : Int32) (t' : Nat) (tw' : Int64) (ba' fa' : Int32), v = some (.int x) ∧ w' = cst S ++ (mw (tx, ts, tc, tp, tn) U (o, nI (160 * r), nI n, nI h', to', nI t', tw', (nI 0), ba', fa') C K H ++ tl) ∧ LR b n (lvE b n (lev b n 5) s) h' to' t' tw' ba' fa' ∧ VR o (g_cz s) (lvE b n (lev b n 5) s) x) 0 0 5 [some (.ref 42), some (.int x), none] [] (cst S ++ (mw (tx, ts, tc, tp, tn) U (o, nI (160 * r), nI n, nI h, to, nI t, tw, (nI 0), ba, fa) C K H ++ tl)) from hL 160 _ _ _ _ _ _ _ _ q1 hc1 ((hg s q.1 hc hK).1.2.1.trans hK) (by omega) v1 rfl
  intro f
  induction f with
  | zero =>
    intro s' x h to t tw ba fa q hc hK hf hv he
    have hq := lp_0 (q := qOr) rfl rfl q.1 hf
    have he : s' = _ := he
    refine x_aload_n dX10_either0_5 rfl ?_
    refine x_bipush 111 dX10_either0_6 ?_
    refine x_bipush 114 dX10_either0_8 ?_
    refine x_iconst 0 dX10_either0_10 ?_
    refine x_iconst 0 dX10_either0_11 ?_
    refine x_iconst 0 dX10_either0_12 ?_
    refine x_iconst 0 dX10_either0_13 ?_
    refine x_iconst 0 dX10_either0_14 ?_
    refine x_iconst 0 dX10_either0_15 ?_
    refine ii_X10_207 dX10_either0_16 (c_X10_word (w := 209) hr hn hb q (by decide) (by decide) wl_209) mw_o (by decide) (Nat.le_of_ble_eq_true rfl) ?_
    refine x_if_eq 48 dX10_either0_19 (fun _ => ?_) (fun hx => absurd (bi0.mpr (fun z => hq (qOr_iff.mpr z))) hx)
    refine x_iload_n dX10_either0_48 rfl ?_
    exact Ex.ret (v := some (.int _)) ⟨dX10_either0_49, _, rfl, by first | rfl | decide⟩ ⟨_, _, _, _, _, _, _, rfl, rfl, by rw [← he]; exact q, by rw [← he]; exact hv⟩
  | succ f ih =>
    intro s' x h to t tw ba fa q hc hK hf hv he
    by_cases hq : qOr (g_to s') = true
    · obtain ⟨⟨n2, n0⟩, ⟨c1, k1⟩, ⟨w3, c3, k3, f3⟩, e3⟩ := lp_go hn hg rfl rfl q.1 hc hK hf hq
      have hz := qOr_iff.mp hq
      refine x_aload_n dX10_either0_5 rfl ?_
      refine x_bipush 111 dX10_either0_6 ?_
      refine x_bipush 114 dX10_either0_8 ?_
      refine x_iconst 0 dX10_either0_10 ?_
      refine x_iconst 0 dX10_either0_11 ?_
      refine x_iconst 0 dX10_either0_12 ?_
      refine x_iconst 0 dX10_either0_13 ?_
      refine x_iconst 0 dX10_either0_14 ?_
      refine x_iconst 0 dX10_either0_15 ?_
      refine ii_X10_207 dX10_either0_16 (c_X10_word (w := 209) hr hn hb q (by decide) (by decide) wl_209) mw_o (by decide) (Nat.le_of_ble_eq_true rfl) ?_
      refine x_if_eq 48 dX10_either0_19 (fun hx => absurd hx (bi1.mpr hz)) (fun _ => ?_)
      refine x_aload_n dX10_either0_22 rfl ?_
      refine iv_X10_204 dX10_either0_23 (c_X10_nextR hr hn hb hbp q n2) mw_o (by decide) (Nat.le_of_ble_eq_true rfl) (fun v_23 w_23 hw_23 => ?_)
      obtain ⟨h1, to1, t1, tw1, rfl, rfl, q1⟩ := hw_23
      refine x_aload_n dX10_either0_26 rfl ?_
      refine iv_X10_346 dX10_either0_27 (c_X10_both0 hr hn hb hbp q1 c1 k1) mw_o (by decide) (Nat.le_of_ble_eq_true rfl) (fun v_27 w_27 hw_27 => ?_)
      obtain ⟨x2, h2, to2, t2, tw2, ba2, fa2, rfl, rfl, q2, v2⟩ := hw_27
      refine x_istore_n dX10_either0_30 (by decide) ?_
      refine x_iload_n dX10_either0_31 rfl ?_
      refine x_if_ne 39 dX10_either0_32 (fun h_32 => ?_) (fun h_32 => ?_)
      · refine x_iconst 1 dX10_either0_39 ?_
        refine x_goto 44 dX10_either0_40 ?_
        refine x_istore_n dX10_either0_44 (by decide) ?_
        refine x_goto 5 dX10_either0_45 ?_
        refine Ex.forget (L' := [some (.ref 42), some (.int 1), none]) ⟨rfl, rfl, trivial⟩ ?_
        exact ih _ _ _ _ _ _ _ _ (LR_emt q2) c3 k3 f3 (lp_v hn hg q.1 hc hK n2 n0 hz (by decide) hv v2 (show (1 : Int32) = jn 209 x x2 from (bi_t (Or.inl h_32)).symm)) (e3.symm.trans he)
      · refine x_iload_n dX10_either0_35 rfl ?_
        refine x_if_eq 43 dX10_either0_36 (fun h_36 => ?_) (fun h_36 => ?_)
        · refine x_iconst 0 dX10_either0_43 ?_
          refine x_istore_n dX10_either0_44 (by decide) ?_
          refine x_goto 5 dX10_either0_45 ?_
          refine Ex.forget (L' := [some (.ref 42), some (.int 0), none]) ⟨rfl, rfl, trivial⟩ ?_
          exact ih _ _ _ _ _ _ _ _ (LR_emt q2) c3 k3 f3 (lp_v hn hg q.1 hc hK n2 n0 hz (by decide) hv v2 (show (0 : Int32) = jn 209 x x2 from (bi_f (fun z => z.elim (fun y => y h_32) (fun y => y h_36))).symm)) (e3.symm.trans he)
        · refine x_iconst 1 dX10_either0_39 ?_
          refine x_goto 44 dX10_either0_40 ?_
          refine x_istore_n dX10_either0_44 (by decide) ?_
          refine x_goto 5 dX10_either0_45 ?_
          refine Ex.forget (L' := [some (.ref 42), some (.int 1), none]) ⟨rfl, rfl, trivial⟩ ?_
          exact ih _ _ _ _ _ _ _ _ (LR_emt q2) c3 k3 f3 (lp_v hn hg q.1 hc hK n2 n0 hz (by decide) hv v2 (show (1 : Int32) = jn 209 x x2 from (bi_t (Or.inr h_36)).symm)) (e3.symm.trans he)
    · rw [lp_no hq] at he
      refine x_aload_n dX10_either0_5 rfl ?_
      refine x_bipush 111 dX10_either0_6 ?_
      refine x_bipush 114 dX10_either0_8 ?_
      refine x_iconst 0 dX10_either0_10 ?_
      refine x_iconst 0 dX10_either0_11 ?_
      refine x_iconst 0 dX10_either0_12 ?_
      refine x_iconst 0 dX10_either0_13 ?_
      refine x_iconst 0 dX10_either0_14 ?_
      refine x_iconst 0 dX10_either0_15 ?_
      refine ii_X10_207 dX10_either0_16 (c_X10_word (w := 209) hr hn hb q (by decide) (by decide) wl_209) mw_o (by decide) (Nat.le_of_ble_eq_true rfl) ?_
      refine x_if_eq 48 dX10_either0_19 (fun _ => ?_) (fun hx => absurd (bi0.mpr (fun z => hq (qOr_iff.mpr z))) hx)
      refine x_iload_n dX10_either0_48 rfl ?_
      exact Ex.ret (v := some (.int _)) ⟨dX10_either0_49, _, rfl, by first | rfl | decide⟩ ⟨_, _, _, _, _, _, _, rfl, rfl, by rw [← he]; exact q, by rw [← he]; exact hv⟩
