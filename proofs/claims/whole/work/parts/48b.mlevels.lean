set_option maxRecDepth 100000 in
set_option maxHeartbeats 4000000 in
theorem c_X10_atom4 {X : Nat × (Nat → Int32)} {S : CS} {tl : pc_W} {tx : (Nat → Int32)} {ts : (Nat → Int32)} {tc : Int32} {tp : (Nat → Int32)} {tn : Int32} {U : MU} {o : (Nat → Int32)} {to : Int32} {tw : Int64} {ba : Int32} {fa : Int32} {C : MC} {K : MK} {H : MH} {r n h t : Nat} {b : Nat → Int32} {s : PS} (hr : r < 6) (hn : n ≤ 160) (hb : ∀ i, i < n → tx (160 * r + i) = b i) (hbp : ∀ i, i < n → 0 ≤ b i) (q : LR b n s h to t tw ba fa) (hc : g_cz s ≤ g_pl s) (hK : g_op s = 4): Mt X 10 0 0 yX10_atom4 cX10_atom4 2 (some .int) [.ref 42] (cst S ++ (mw (tx, ts, tc, tp, tn) U (o, nI (160 * r), nI n, nI h, to, nI t, tw, (nI 4), ba, fa) C K H ++ tl)) (fun v w' => ∃ (x : Int32) (h' : Nat) (to' : Int32) (t' : Nat) (tw' : Int64) (ba' fa' : Int32), v = some (.int x) ∧ w' = cst S ++ (mw (tx, ts, tc, tp, tn) U (o, nI (160 * r), nI n, nI h', to', nI t', tw', (nI 4), ba', fa') C K H ++ tl) ∧ LR b n (lvS b n (lev b n 1) s) h' to' t' tw' ba' fa' ∧ VR o (g_cz s) (lvS b n (lev b n 1) s) x) := by
  refine Mt.of (by decide +kernel) (fun _ _ => Nat.le_of_ble_eq_true rfl) ?_
  show Ex X mX10_atom4 _ _ _ _ _ _ _ _
  refine x_iconst 0 dX10_atom4_0 ?_
  refine x_istore_n dX10_atom4_1 (by decide) ?_
  refine x_aload_n dX10_atom4_2 rfl ?_
  refine x_bipush 45 dX10_atom4_3 ?_
  refine ii_X10_229 dX10_atom4_5 (c_X10_sign q (by decide)) mw_o (by decide) (Nat.le_of_ble_eq_true rfl) ?_
  refine x_if_eq 37 dX10_atom4_8 (fun h_8 => ?_) (fun h_8 => ?_)
  · refine x_aload_n dX10_atom4_37 rfl ?_
    refine x_bipush 40 dX10_atom4_38 ?_
    refine ii_X10_229 dX10_atom4_40 (c_X10_sign q (by decide)) mw_o (by decide) (Nat.le_of_ble_eq_true rfl) ?_
    refine x_if_eq 95 dX10_atom4_43 (fun h_43 => ?_) (fun h_43 => ?_)
    · by_cases hz : g_to s = 1
      · obtain ⟨rfl, ht2⟩ := (LR_num q).1.mpr hz
        refine x_aload_n dX10_atom4_95 rfl ?_
        refine mg_188 dX10_atom4_96 ?_
        refine x_if_ne 123 dX10_atom4_99 (fun hx => absurd (rfl) hx) (fun _ => ?_)
        refine x_aload_n dX10_atom4_102 rfl ?_
        refine mg_171 dX10_atom4_103 ?_
        refine x_iconst 2 dX10_atom4_106 ?_
        refine x_icmp_ne 123 dX10_atom4_107 (fun hx => absurd (ht2) hx) (fun _ => ?_)
        refine x_aload_n dX10_atom4_110 rfl ?_
        refine mg_182 dX10_atom4_111 ?_
        refine x_l2i dX10_atom4_114 ?_
        refine x_istore_n dX10_atom4_115 (by decide) ?_
        refine x_aload_n dX10_atom4_116 rfl ?_
        refine iv_X10_204 dX10_atom4_117 (c_X10_nextR (s := emt (g_nu s) s) hr hn hb hbp (LR_emt q) (by rw [(emt_g _ _).2.2.1, hz]; decide)) mw_o (by decide) (Nat.le_of_ble_eq_true rfl) (fun v_117 w_117 hw_117 => ?_)
        obtain ⟨h3, to3, t3, tw3, rfl, rfl, q3⟩ := hw_117
        refine x_goto 161 dX10_atom4_120 ?_
        refine x_iload_n dX10_atom4_161 rfl ?_
        obtain ⟨en, m, hm, em⟩ := (LR_num q).2 hz
        have zz := fin_id (f := lvS b n (lev b n 1)) (nm := o) (lvS_num hz) (q3) ((by rw [en, em]; exact VR_one hn q.1 hc (by rw [hz]; decide) (by rw [hz]; decide) (fun co e1 e2 => GC.lit hm e2 e1) : VR o (g_cz s) (adv b n (emt (g_nu s) s)) tw.toInt32))
        exact Ex.ret (v := some (.int _)) ⟨dX10_atom4_162, _, rfl, by first | rfl | decide⟩ ⟨_, _, _, _, _, _, _, rfl, rfl, zz⟩
      by_cases hw : ba = 0 ∧ to = 1
      · obtain ⟨rfl, ht1⟩ := hw
        refine x_aload_n dX10_atom4_95 rfl ?_
        refine mg_188 dX10_atom4_96 ?_
        refine x_if_ne 123 dX10_atom4_99 (fun hx => absurd (rfl) hx) (fun _ => ?_)
        refine x_aload_n dX10_atom4_102 rfl ?_
        refine mg_171 dX10_atom4_103 ?_
        refine x_iconst 2 dX10_atom4_106 ?_
        refine x_icmp_ne 123 dX10_atom4_107 (fun _ => ?_) (fun hx => absurd hx (by rw [ht1]; decide))
        refine x_aload_n dX10_atom4_123 rfl ?_
        refine mg_188 dX10_atom4_124 ?_
        refine x_if_ne 157 dX10_atom4_127 (fun hx => absurd (rfl) hx) (fun _ => ?_)
        refine x_aload_n dX10_atom4_130 rfl ?_
        refine mg_171 dX10_atom4_131 ?_
        refine x_iconst 1 dX10_atom4_134 ?_
        refine x_icmp_ne 157 dX10_atom4_135 (fun hx => absurd (ht1) hx) (fun _ => ?_)
        refine x_aload_n dX10_atom4_138 rfl ?_
        refine iv_X10_236 dX10_atom4_139 (c_X10_name hr hn hb q) mw_o (by decide) (Nat.le_of_ble_eq_true rfl) (fun v_139 w_139 hw_139 => ?_)
        obtain ⟨x1, ba1, fa1, rfl, rfl, hnm⟩ := hw_139
        rcases hnm with ⟨n1, n2, rfl, rfl, rfl⟩ | ⟨n1, rfl, q1⟩
        · skip
          refine x_istore_n dX10_atom4_142 (by decide) ?_
          refine x_aload_n dX10_atom4_143 rfl ?_
          refine mg_188 dX10_atom4_144 ?_
          refine x_if_ne 161 dX10_atom4_147 (fun hx => absurd (rfl) hx) (fun _ => ?_)
          refine x_aload_n dX10_atom4_150 rfl ?_
          refine iv_X10_204 dX10_atom4_151 (c_X10_nextR (s := emt (-(g_to s)) s) hr hn hb hbp (LR_emt q) (by rw [(emt_g _ _).2.2.1]; exact fun z => by rw [z] at n1; exact absurd n1 (by decide))) mw_o (by decide) (Nat.le_of_ble_eq_true rfl) (fun v_151 w_151 hw_151 => ?_)
          obtain ⟨h3, to3, t3, tw3, rfl, rfl, q3⟩ := hw_151
          refine x_goto 161 dX10_atom4_154 ?_
          refine x_iload_n dX10_atom4_161 rfl ?_
          have zz := fin_id (f := lvS b n (lev b n 1)) (nm := o) (lvS_name ⟨n1, n2⟩) (q3) (VR_one hn q.1 hc (fun z => by rw [z] at n1; exact absurd n1 (by decide)) (fun z => by rw [z] at n1; exact absurd n1 (by decide)) (fun co e1 e2 => GC.name ⟨n1, n2⟩ e2 e1))
          exact Ex.ret (v := some (.int _)) ⟨dX10_atom4_162, _, rfl, by first | rfl | decide⟩ ⟨_, _, _, _, _, _, _, rfl, rfl, zz⟩
        · skip
          refine x_istore_n dX10_atom4_142 (by decide) ?_
          refine x_aload_n dX10_atom4_143 rfl ?_
          refine mg_188 dX10_atom4_144 ?_
          refine x_if_ne 161 dX10_atom4_147 (fun _ => ?_) (fun hx => absurd hx (by decide))
          refine x_iload_n dX10_atom4_161 rfl ?_
          have zz := fin_id (f := lvS b n (lev b n 1)) (nm := o) (lvS_no hz n1 (bi0.mp h_8) (bi0.mp h_43)) (q1) (VR_rfu (x := x1) hn q.1)
          exact Ex.ret (v := some (.int _)) ⟨dX10_atom4_162, _, rfl, by first | rfl | decide⟩ ⟨_, _, _, _, _, _, _, rfl, rfl, zz⟩
      by_cases hb0 : ba = 0
      · subst hb0
        refine x_aload_n dX10_atom4_95 rfl ?_
        refine mg_188 dX10_atom4_96 ?_
        refine x_if_ne 123 dX10_atom4_99 (fun hx => absurd (rfl) hx) (fun _ => ?_)
        refine x_aload_n dX10_atom4_102 rfl ?_
        refine mg_171 dX10_atom4_103 ?_
        refine x_iconst 2 dX10_atom4_106 ?_
        refine x_icmp_ne 123 dX10_atom4_107 (fun _ => ?_) (fun hx => absurd hx (fun z => hz ((LR_num q).1.mp ⟨rfl, z⟩)))
        refine x_aload_n dX10_atom4_123 rfl ?_
        refine mg_188 dX10_atom4_124 ?_
        refine x_if_ne 157 dX10_atom4_127 (fun hx => absurd (rfl) hx) (fun _ => ?_)
        refine x_aload_n dX10_atom4_130 rfl ?_
        refine mg_171 dX10_atom4_131 ?_
        refine x_iconst 1 dX10_atom4_134 ?_
        refine x_icmp_ne 157 dX10_atom4_135 (fun _ => ?_) (fun hx => absurd hx (fun z => hw ⟨rfl, z⟩))
        refine x_aload_n dX10_atom4_157 rfl ?_
        refine iv_X10_201 dX10_atom4_158 (c_X10_failR hn q) mw_o (by decide) (Nat.le_of_ble_eq_true rfl) (fun v_158 w_158 hw_158 => ?_)
        obtain ⟨fa1, rfl, rfl, q1⟩ := hw_158
        refine x_iload_n dX10_atom4_161 rfl ?_
        have zz := fin_id (f := lvS b n (lev b n 1)) (nm := o) (lvS_no hz (fun z => hw ((LR_isw q).2 ⟨z.1, Int32.le_trans z.2 (by decide)⟩)) (bi0.mp h_8) (bi0.mp h_43)) (q1) (VR_rfu (x := 0) hn q.1)
        exact Ex.ret (v := some (.int _)) ⟨dX10_atom4_162, _, rfl, by first | rfl | decide⟩ ⟨_, _, _, _, _, _, _, rfl, rfl, zz⟩
      · skip
        refine x_aload_n dX10_atom4_95 rfl ?_
        refine mg_188 dX10_atom4_96 ?_
        refine x_if_ne 123 dX10_atom4_99 (fun _ => ?_) (fun hx => absurd hx (hb0))
        refine x_aload_n dX10_atom4_123 rfl ?_
        refine mg_188 dX10_atom4_124 ?_
        refine x_if_ne 157 dX10_atom4_127 (fun _ => ?_) (fun hx => absurd hx (hb0))
        refine x_aload_n dX10_atom4_157 rfl ?_
        refine iv_X10_201 dX10_atom4_158 (c_X10_failR hn q) mw_o (by decide) (Nat.le_of_ble_eq_true rfl) (fun v_158 w_158 hw_158 => ?_)
        obtain ⟨fa1, rfl, rfl, q1⟩ := hw_158
        refine x_iload_n dX10_atom4_161 rfl ?_
        have zz := fin_id (f := lvS b n (lev b n 1)) (nm := o) (lvS_no hz (fun z => hw ((LR_isw q).2 ⟨z.1, Int32.le_trans z.2 (by decide)⟩)) (bi0.mp h_8) (bi0.mp h_43)) (q1) (VR_rfu (x := 0) hn q.1)
        exact Ex.ret (v := some (.int _)) ⟨dX10_atom4_162, _, rfl, by first | rfl | decide⟩ ⟨_, _, _, _, _, _, _, rfl, rfl, zz⟩
    have hz := bi1.mp h_43
    refine x_aload_n dX10_atom4_46 rfl ?_
    refine iv_X10_232 dX10_atom4_47 (c_X10_opens_y hr hn hb hbp q (by rw [hz]; decide) (by decide)) mw_o (by decide) (Nat.le_of_ble_eq_true rfl) (fun v_47 w_47 hw_47 => ?_)
    obtain ⟨h1, to1, t1, tw1, rfl, rfl, q1⟩ := hw_47
    obtain ⟨c1, k1, e1⟩ := in_pre (b := b) hn q.1 hc hK (by rw [hz]; decide) (by rw [hz]; decide)
    refine x_if_eq 161 dX10_atom4_50 (fun hx => absurd hx (by decide)) (fun _ => ?_)
    refine x_aload_n dX10_atom4_53 rfl ?_
    refine iv_X10_259 dX10_atom4_54 (c_X10_either5 hr hn hb hbp q1 c1 k1) mw_o (by decide) (Nat.le_of_ble_eq_true rfl) (fun v_54 w_54 hw_54 => ?_)
    obtain ⟨x2, h2, to2, t2, tw2, ba2, fa2, rfl, rfl, q2, v2⟩ := hw_54
    refine x_istore_n dX10_atom4_57 (by decide) ?_
    refine x_aload_n dX10_atom4_58 rfl ?_
    refine x_bipush 41 dX10_atom4_59 ?_
    refine ii_X10_229 dX10_atom4_61 (c_X10_sign q2 (by decide)) mw_o (by decide) (Nat.le_of_ble_eq_true rfl) ?_
    refine x_if_ne 71 dX10_atom4_64 (fun h_64 => ?_) (fun h_64 => ?_)
    · have hz2 := bi1.mp h_64
      obtain ⟨-, rfl, -, -⟩ := LR_ok q2 (by rw [hz2]; decide)
      refine x_aload_n dX10_atom4_71 rfl ?_
      refine x_dup dX10_atom4_72 ?_
      refine mg_198 dX10_atom4_73 ?_
      refine x_iconst 1 dX10_atom4_76 ?_
      refine x_isub dX10_atom4_77 ?_
      rw [show nI 5 - 1 = nI 4 from nI_pred 4]
      refine mp_198 dX10_atom4_78 ?_
      refine x_aload_n dX10_atom4_81 rfl ?_
      refine mg_188 dX10_atom4_82 ?_
      refine x_if_ne 161 dX10_atom4_85 (fun hx => absurd (rfl) hx) (fun _ => ?_)
      refine x_aload_n dX10_atom4_88 rfl ?_
      refine iv_X10_204 dX10_atom4_89 (c_X10_nextR hr hn hb hbp (LR_dec q2) (by rw [to_dec, hz2]; decide)) mw_o (by decide) (Nat.le_of_ble_eq_true rfl) (fun v_89 w_89 hw_89 => ?_)
      obtain ⟨h3, to3, t3, tw3, rfl, rfl, q3⟩ := hw_89
      refine x_goto 161 dX10_atom4_92 ?_
      refine x_iload_n dX10_atom4_161 rfl ?_
      have zz := fin_py (k := 0) hn q.1 hc hK rfl hz hz2 q3 v2
      exact Ex.ret (v := some (.int _)) ⟨dX10_atom4_162, _, rfl, by first | rfl | decide⟩ ⟨_, _, _, _, _, _, _, rfl, rfl, zz⟩
    · have hz2 := bi0.mp h_64
      refine x_aload_n dX10_atom4_67 rfl ?_
      refine iv_X10_201 dX10_atom4_68 (c_X10_failR hn q2) mw_o (by decide) (Nat.le_of_ble_eq_true rfl) (fun v_68 w_68 hw_68 => ?_)
      obtain ⟨fa3, rfl, rfl, q3⟩ := hw_68
      refine x_aload_n dX10_atom4_71 rfl ?_
      refine x_dup dX10_atom4_72 ?_
      refine mg_198 dX10_atom4_73 ?_
      refine x_iconst 1 dX10_atom4_76 ?_
      refine x_isub dX10_atom4_77 ?_
      rw [show nI 5 - 1 = nI 4 from nI_pred 4]
      refine mp_198 dX10_atom4_78 ?_
      refine x_aload_n dX10_atom4_81 rfl ?_
      refine mg_188 dX10_atom4_82 ?_
      refine x_if_ne 161 dX10_atom4_85 (fun _ => ?_) (fun hx => absurd hx (by decide))
      refine x_iload_n dX10_atom4_161 rfl ?_
      have zz := fin_pn (k := 0) hn q.1 hc hK rfl hz hz2 q3 v2
      exact Ex.ret (v := some (.int _)) ⟨dX10_atom4_162, _, rfl, by first | rfl | decide⟩ ⟨_, _, _, _, _, _, _, rfl, rfl, zz⟩
  have hz := bi1.mp h_8
  refine x_aload_n dX10_atom4_11 rfl ?_
  refine iv_X10_232 dX10_atom4_12 (c_X10_opens_y hr hn hb hbp q (by rw [hz]; decide) (by decide)) mw_o (by decide) (Nat.le_of_ble_eq_true rfl) (fun v_12 w_12 hw_12 => ?_)
  obtain ⟨h1, to1, t1, tw1, rfl, rfl, q1⟩ := hw_12
  obtain ⟨c1, k1, e1⟩ := in_pre (b := b) hn q.1 hc hK (by rw [hz]; decide) (by rw [hz]; decide)
  refine x_if_eq 161 dX10_atom4_15 (fun hx => absurd hx (by decide)) (fun _ => ?_)
  refine x_aload_n dX10_atom4_18 rfl ?_
  refine iv_X10_240 dX10_atom4_19 (c_X10_atom5 hr hn hb hbp q1 c1 k1) mw_o (by decide) (Nat.le_of_ble_eq_true rfl) (fun v_19 w_19 hw_19 => ?_)
  obtain ⟨x2, h2, to2, t2, tw2, ba2, fa2, rfl, rfl, q2, v2⟩ := hw_19
  refine x_ineg dX10_atom4_22 ?_
  refine x_istore_n dX10_atom4_23 (by decide) ?_
  refine x_aload_n dX10_atom4_24 rfl ?_
  refine x_dup dX10_atom4_25 ?_
  refine mg_198 dX10_atom4_26 ?_
  refine x_iconst 1 dX10_atom4_29 ?_
  refine x_isub dX10_atom4_30 ?_
  rw [show nI 5 - 1 = nI 4 from nI_pred 4]
  refine mp_198 dX10_atom4_31 ?_
  refine x_goto 161 dX10_atom4_34 ?_
  refine x_iload_n dX10_atom4_161 rfl ?_
  have zz := fin_neg (k := 0) hn q.1 hc hK rfl hz q2 v2
  exact Ex.ret (v := some (.int _)) ⟨dX10_atom4_162, _, rfl, by first | rfl | decide⟩ ⟨_, _, _, _, _, _, _, rfl, rfl, zz⟩
set_option maxRecDepth 100000 in
set_option maxHeartbeats 4000000 in
theorem c_X10_term4 {X : Nat × (Nat → Int32)} {S : CS} {tl : pc_W} {tx : (Nat → Int32)} {ts : (Nat → Int32)} {tc : Int32} {tp : (Nat → Int32)} {tn : Int32} {U : MU} {o : (Nat → Int32)} {to : Int32} {tw : Int64} {ba : Int32} {fa : Int32} {C : MC} {K : MK} {H : MH} {r n h t : Nat} {b : Nat → Int32} {s : PS} (hr : r < 6) (hn : n ≤ 160) (hb : ∀ i, i < n → tx (160 * r + i) = b i) (hbp : ∀ i, i < n → 0 ≤ b i) (q : LR b n s h to t tw ba fa) (hc : g_cz s ≤ g_pl s) (hK : g_op s = 4): Mt X 11 0 0 yX10_term4 cX10_term4 2 (some .int) [.ref 42] (cst S ++ (mw (tx, ts, tc, tp, tn) U (o, nI (160 * r), nI n, nI h, to, nI t, tw, (nI 4), ba, fa) C K H ++ tl)) (fun v w' => ∃ (x : Int32) (h' : Nat) (to' : Int32) (t' : Nat) (tw' : Int64) (ba' fa' : Int32), v = some (.int x) ∧ w' = cst S ++ (mw (tx, ts, tc, tp, tn) U (o, nI (160 * r), nI n, nI h', to', nI t', tw', (nI 4), ba', fa') C K H ++ tl) ∧ LR b n (lvT b n (lev b n 1) s) h' to' t' tw' ba' fa' ∧ VR o (g_cz s) (lvT b n (lev b n 1) s) x) := by
  refine Mt.of (by decide +kernel) (fun _ _ => Nat.le_of_ble_eq_true rfl) ?_
  show Ex X mX10_term4 _ _ _ _ _ _ _ _
  refine x_aload_n dX10_term4_0 rfl ?_
  refine iv_X10_262 dX10_term4_1 (c_X10_atom4 hr hn hb hbp q hc hK) mw_o (by decide) (Nat.le_of_ble_eq_true rfl) (fun v_1 w_1 hw_1 => ?_)
  obtain ⟨x1, h1, to1, t1, tw1, ba1, fa1, rfl, rfl, q1, v1⟩ := hw_1
  refine x_istore_n dX10_term4_4 (by decide) ?_
  have hg := (lv_gf (b := b) hn 1 4 rfl).1
  have hc1 := (hg s q.1 hc hK).1.cz hc
  refine Ex.forget (L' := [some (.ref 42), some (.int x1)]) ⟨rfl, rfl, trivial⟩ ?_
  suffices hL : ∀ (f : Nat) (s' : PS) (x : Int32) (h : Nat) (to : Int32) (t : Nat) (tw : Int64) (ba fa : Int32), LR b n s' h to t tw ba fa → g_cz s' ≤ g_pl s' → g_op s' = 4 → n ≤ f + g_pl s' → VR o (g_cz s) s' x → lpG b n qMu (lvS b n (lev b n 1)) f s' = lvT b n (lev b n 1) s → Ex X mX10_term4 11 (fun v w' => ∃ (x : Int32) (h' : Nat) (to' : Int32) (t' : Nat) (tw' : Int64) (ba' fa' : Int32), v = some (.int x) ∧ w' = cst S ++ (mw (tx, ts, tc, tp, tn) U (o, nI (160 * r), nI n, nI h', to', nI t', tw', (nI 4), ba', fa') C K H ++ tl) ∧ LR b n (lvT b n (lev b n 1) s) h' to' t' tw' ba' fa' ∧ VR o (g_cz s) (lvT b n (lev b n 1) s) x) 0 0 5 [some (.ref 42), some (.int x)] [] (cst S ++ (mw (tx, ts, tc, tp, tn) U (o, nI (160 * r), nI n, nI h, to, nI t, tw, (nI 4), ba, fa) C K H ++ tl)) from hL 160 _ _ _ _ _ _ _ _ q1 hc1 ((hg s q.1 hc hK).1.2.1.trans hK) (by omega) v1 rfl
  intro f
  induction f with
  | zero =>
    intro s' x h to t tw ba fa q hc hK hf hv he
    have hq := lp_0 (q := qMu) rfl rfl q.1 hf
    have he : s' = _ := he
    refine x_aload_n dX10_term4_5 rfl ?_
    refine x_bipush 42 dX10_term4_6 ?_
    refine ii_X10_229 dX10_term4_8 (c_X10_sign q (by decide)) mw_o (by decide) (Nat.le_of_ble_eq_true rfl) ?_
    refine x_if_eq 28 dX10_term4_11 (fun _ => ?_) (fun hx => absurd (bi0.mpr (fun z => hq (qMu_iff.mpr z))) hx)
    refine x_iload_n dX10_term4_28 rfl ?_
    exact Ex.ret (v := some (.int _)) ⟨dX10_term4_29, _, rfl, by first | rfl | decide⟩ ⟨_, _, _, _, _, _, _, rfl, rfl, by rw [← he]; exact q, by rw [← he]; exact hv⟩
  | succ f ih =>
    intro s' x h to t tw ba fa q hc hK hf hv he
    by_cases hq : qMu (g_to s') = true
    · obtain ⟨⟨n2, n0⟩, ⟨c1, k1⟩, ⟨w3, c3, k3, f3⟩, e3⟩ := lp_go hn hg rfl rfl q.1 hc hK hf hq
      have hz := qMu_iff.mp hq
      refine x_aload_n dX10_term4_5 rfl ?_
      refine x_bipush 42 dX10_term4_6 ?_
      refine ii_X10_229 dX10_term4_8 (c_X10_sign q (by decide)) mw_o (by decide) (Nat.le_of_ble_eq_true rfl) ?_
      refine x_if_eq 28 dX10_term4_11 (fun hx => absurd hx (bi1.mpr hz)) (fun _ => ?_)
      refine x_aload_n dX10_term4_14 rfl ?_
      refine iv_X10_204 dX10_term4_15 (c_X10_nextR hr hn hb hbp q n2) mw_o (by decide) (Nat.le_of_ble_eq_true rfl) (fun v_15 w_15 hw_15 => ?_)
      obtain ⟨h1, to1, t1, tw1, rfl, rfl, q1⟩ := hw_15
      refine x_iload_n dX10_term4_18 rfl ?_
      refine x_aload_n dX10_term4_19 rfl ?_
      refine iv_X10_262 dX10_term4_20 (c_X10_atom4 hr hn hb hbp q1 c1 k1) mw_o (by decide) (Nat.le_of_ble_eq_true rfl) (fun v_20 w_20 hw_20 => ?_)
      obtain ⟨x2, h2, to2, t2, tw2, ba2, fa2, rfl, rfl, q2, v2⟩ := hw_20
      refine x_imul dX10_term4_23 ?_
      refine x_istore_n dX10_term4_24 (by decide) ?_
      refine x_goto 5 dX10_term4_25 ?_
      refine Ex.forget (L' := [some (.ref 42), some (.int (x * x2))]) ⟨rfl, rfl, trivial⟩ ?_
      exact ih _ _ _ _ _ _ _ _ (LR_emt q2) c3 k3 f3 (lp_v hn hg q.1 hc hK n2 n0 hz (by decide) hv v2 (jn_mu x x2).symm) (e3.symm.trans he)
    · rw [lp_no hq] at he
      refine x_aload_n dX10_term4_5 rfl ?_
      refine x_bipush 42 dX10_term4_6 ?_
      refine ii_X10_229 dX10_term4_8 (c_X10_sign q (by decide)) mw_o (by decide) (Nat.le_of_ble_eq_true rfl) ?_
      refine x_if_eq 28 dX10_term4_11 (fun _ => ?_) (fun hx => absurd (bi0.mpr (fun z => hq (qMu_iff.mpr z))) hx)
      refine x_iload_n dX10_term4_28 rfl ?_
      exact Ex.ret (v := some (.int _)) ⟨dX10_term4_29, _, rfl, by first | rfl | decide⟩ ⟨_, _, _, _, _, _, _, rfl, rfl, by rw [← he]; exact q, by rw [← he]; exact hv⟩
set_option maxRecDepth 100000 in
set_option maxHeartbeats 4000000 in
theorem c_X10_added4 {X : Nat × (Nat → Int32)} {S : CS} {tl : pc_W} {tx : (Nat → Int32)} {ts : (Nat → Int32)} {tc : Int32} {tp : (Nat → Int32)} {tn : Int32} {U : MU} {o : (Nat → Int32)} {to : Int32} {tw : Int64} {ba : Int32} {fa : Int32} {C : MC} {K : MK} {H : MH} {r n h t : Nat} {b : Nat → Int32} {s : PS} (hr : r < 6) (hn : n ≤ 160) (hb : ∀ i, i < n → tx (160 * r + i) = b i) (hbp : ∀ i, i < n → 0 ≤ b i) (q : LR b n s h to t tw ba fa) (hc : g_cz s ≤ g_pl s) (hK : g_op s = 4): Mt X 12 0 0 yX10_added4 cX10_added4 4 (some .int) [.ref 42] (cst S ++ (mw (tx, ts, tc, tp, tn) U (o, nI (160 * r), nI n, nI h, to, nI t, tw, (nI 4), ba, fa) C K H ++ tl)) (fun v w' => ∃ (x : Int32) (h' : Nat) (to' : Int32) (t' : Nat) (tw' : Int64) (ba' fa' : Int32), v = some (.int x) ∧ w' = cst S ++ (mw (tx, ts, tc, tp, tn) U (o, nI (160 * r), nI n, nI h', to', nI t', tw', (nI 4), ba', fa') C K H ++ tl) ∧ LR b n (lvM b n (lev b n 1) s) h' to' t' tw' ba' fa' ∧ VR o (g_cz s) (lvM b n (lev b n 1) s) x) := by
  refine Mt.of (by decide +kernel) (fun _ _ => Nat.le_of_ble_eq_true rfl) ?_
  show Ex X mX10_added4 _ _ _ _ _ _ _ _
  refine x_aload_n dX10_added4_0 rfl ?_
  refine iv_X10_265 dX10_added4_1 (c_X10_term4 hr hn hb hbp q hc hK) mw_o (by decide) (Nat.le_of_ble_eq_true rfl) (fun v_1 w_1 hw_1 => ?_)
  obtain ⟨x1, h1, to1, t1, tw1, ba1, fa1, rfl, rfl, q1, v1⟩ := hw_1
  refine x_istore_n dX10_added4_4 (by decide) ?_
  have hg := (lv_gf (b := b) hn 1 4 rfl).2.1
  have hc1 := (hg s q.1 hc hK).1.cz hc
  refine Ex.forget (L' := [some (.ref 42), some (.int x1), none, none]) ⟨rfl, rfl, trivial⟩ ?_
  suffices hL : ∀ (f : Nat) (s' : PS) (x : Int32) (h : Nat) (to : Int32) (t : Nat) (tw : Int64) (ba fa : Int32), LR b n s' h to t tw ba fa → g_cz s' ≤ g_pl s' → g_op s' = 4 → n ≤ f + g_pl s' → VR o (g_cz s) s' x → lpG b n qPl (lvT b n (lev b n 1)) f s' = lvM b n (lev b n 1) s → Ex X mX10_added4 12 (fun v w' => ∃ (x : Int32) (h' : Nat) (to' : Int32) (t' : Nat) (tw' : Int64) (ba' fa' : Int32), v = some (.int x) ∧ w' = cst S ++ (mw (tx, ts, tc, tp, tn) U (o, nI (160 * r), nI n, nI h', to', nI t', tw', (nI 4), ba', fa') C K H ++ tl) ∧ LR b n (lvM b n (lev b n 1) s) h' to' t' tw' ba' fa' ∧ VR o (g_cz s) (lvM b n (lev b n 1) s) x) 0 0 5 [some (.ref 42), some (.int x), none, none] [] (cst S ++ (mw (tx, ts, tc, tp, tn) U (o, nI (160 * r), nI n, nI h, to, nI t, tw, (nI 4), ba, fa) C K H ++ tl)) from hL 160 _ _ _ _ _ _ _ _ q1 hc1 ((hg s q.1 hc hK).1.2.1.trans hK) (by omega) v1 rfl
  intro f
  induction f with
  | zero =>
    intro s' x h to t tw ba fa q hc hK hf hv he
    have hq := lp_0 (q := qPl) rfl rfl q.1 hf
    have he : s' = _ := he
    refine x_aload_n dX10_added4_5 rfl ?_
    refine x_bipush 43 dX10_added4_6 ?_
    refine ii_X10_229 dX10_added4_8 (c_X10_sign q (by decide)) mw_o (by decide) (Nat.le_of_ble_eq_true rfl) ?_
    refine x_if_ne 23 dX10_added4_11 (fun hx => absurd (bi0.mpr (fun z => hq (qPl_iff.mpr (Or.inl z)))) hx) (fun _ => ?_)
    refine x_aload_n dX10_added4_14 rfl ?_
    refine x_bipush 45 dX10_added4_15 ?_
    refine ii_X10_229 dX10_added4_17 (c_X10_sign q (by decide)) mw_o (by decide) (Nat.le_of_ble_eq_true rfl) ?_
    refine x_if_eq 66 dX10_added4_20 (fun _ => ?_) (fun hx => absurd (bi0.mpr (fun z => hq (qPl_iff.mpr (Or.inr z)))) hx)
    refine x_iload_n dX10_added4_66 rfl ?_
    exact Ex.ret (v := some (.int _)) ⟨dX10_added4_67, _, rfl, by first | rfl | decide⟩ ⟨_, _, _, _, _, _, _, rfl, rfl, by rw [← he]; exact q, by rw [← he]; exact hv⟩
  | succ f ih =>
    intro s' x h to t tw ba fa q hc hK hf hv he
    by_cases hq : qPl (g_to s') = true
    · obtain ⟨⟨n2, n0⟩, ⟨c1, k1⟩, ⟨w3, c3, k3, f3⟩, e3⟩ := lp_go hn hg rfl rfl q.1 hc hK hf hq
      rcases qPl_iff.mp hq with hz | hz
      · skip
        refine x_aload_n dX10_added4_5 rfl ?_
        refine x_bipush 43 dX10_added4_6 ?_
        refine ii_X10_229 dX10_added4_8 (c_X10_sign q (by decide)) mw_o (by decide) (Nat.le_of_ble_eq_true rfl) ?_
        refine x_if_ne 23 dX10_added4_11 (fun _ => ?_) (fun hx => absurd hx (bi1.mpr hz))
        refine x_aload_n dX10_added4_23 rfl ?_
        refine mg_182 dX10_added4_24 ?_
        refine x_ldc2_w dX10_added4_27 kk_X10_246 ?_
        refine x_lcmp dX10_added4_30 ?_
        refine x_if_ne 38 dX10_added4_31 (fun hx => absurd ((lg_cmp_eq _ _).mpr ((LR_tw q (by rw [hz]; decide)).trans (by rw [hz]; decide))) hx) (fun _ => ?_)
        refine x_iconst 1 dX10_added4_34 ?_
        refine x_goto 39 dX10_added4_35 ?_
        refine x_istore_n dX10_added4_39 (by decide) ?_
        refine x_aload_n dX10_added4_40 rfl ?_
        refine iv_X10_204 dX10_added4_41 (c_X10_nextR hr hn hb hbp q n2) mw_o (by decide) (Nat.le_of_ble_eq_true rfl) (fun v_41 w_41 hw_41 => ?_)
        obtain ⟨h1, to1, t1, tw1, rfl, rfl, q1⟩ := hw_41
        refine x_aload_n dX10_added4_44 rfl ?_
        refine iv_X10_265 dX10_added4_45 (c_X10_term4 hr hn hb hbp q1 c1 k1) mw_o (by decide) (Nat.le_of_ble_eq_true rfl) (fun v_45 w_45 hw_45 => ?_)
        obtain ⟨x2, h2, to2, t2, tw2, ba2, fa2, rfl, rfl, q2, v2⟩ := hw_45
        refine x_istore_n dX10_added4_48 (by decide) ?_
        refine x_iload_n dX10_added4_49 rfl ?_
        refine x_if_eq 59 dX10_added4_50 (fun hx => absurd hx (by decide)) (fun _ => ?_)
        refine x_iload_n dX10_added4_53 rfl ?_
        refine x_iload_n dX10_added4_54 rfl ?_
        refine x_iadd dX10_added4_55 ?_
        refine x_goto 62 dX10_added4_56 ?_
        refine x_istore_n dX10_added4_62 (by decide) ?_
        refine x_goto 5 dX10_added4_63 ?_
        refine Ex.forget (L' := [some (.ref 42), some (.int (x + x2)), none, none]) ⟨rfl, rfl, trivial⟩ ?_
        exact ih _ _ _ _ _ _ _ _ (LR_emt q2) c3 k3 f3 (lp_v hn hg q.1 hc hK n2 n0 hz (by decide) hv v2 (jn_ad x x2).symm) (e3.symm.trans he)
      · skip
        refine x_aload_n dX10_added4_5 rfl ?_
        refine x_bipush 43 dX10_added4_6 ?_
        refine ii_X10_229 dX10_added4_8 (c_X10_sign q (by decide)) mw_o (by decide) (Nat.le_of_ble_eq_true rfl) ?_
        refine x_if_ne 23 dX10_added4_11 (fun hx => absurd (bi0.mpr (fun z => absurd (hz.symm.trans z) (by decide))) hx) (fun _ => ?_)
        refine x_aload_n dX10_added4_14 rfl ?_
        refine x_bipush 45 dX10_added4_15 ?_
        refine ii_X10_229 dX10_added4_17 (c_X10_sign q (by decide)) mw_o (by decide) (Nat.le_of_ble_eq_true rfl) ?_
        refine x_if_eq 66 dX10_added4_20 (fun hx => absurd hx (bi1.mpr hz)) (fun _ => ?_)
        refine x_aload_n dX10_added4_23 rfl ?_
        refine mg_182 dX10_added4_24 ?_
        refine x_ldc2_w dX10_added4_27 kk_X10_246 ?_
        refine x_lcmp dX10_added4_30 ?_
        refine x_if_ne 38 dX10_added4_31 (fun _ => ?_) (fun hx => absurd hx (fun z => absurd (((lg_cmp_eq _ _).mp z).symm.trans ((LR_tw q (by rw [hz]; decide)).trans (by rw [hz]))) (by decide)))
        refine x_iconst 0 dX10_added4_38 ?_
        refine x_istore_n dX10_added4_39 (by decide) ?_
        refine x_aload_n dX10_added4_40 rfl ?_
        refine iv_X10_204 dX10_added4_41 (c_X10_nextR hr hn hb hbp q n2) mw_o (by decide) (Nat.le_of_ble_eq_true rfl) (fun v_41 w_41 hw_41 => ?_)
        obtain ⟨h1, to1, t1, tw1, rfl, rfl, q1⟩ := hw_41
        refine x_aload_n dX10_added4_44 rfl ?_
        refine iv_X10_265 dX10_added4_45 (c_X10_term4 hr hn hb hbp q1 c1 k1) mw_o (by decide) (Nat.le_of_ble_eq_true rfl) (fun v_45 w_45 hw_45 => ?_)
        obtain ⟨x2, h2, to2, t2, tw2, ba2, fa2, rfl, rfl, q2, v2⟩ := hw_45
        refine x_istore_n dX10_added4_48 (by decide) ?_
        refine x_iload_n dX10_added4_49 rfl ?_
        refine x_if_eq 59 dX10_added4_50 (fun _ => ?_) (fun hx => absurd (rfl) hx)
        refine x_iload_n dX10_added4_59 rfl ?_
        refine x_iload_n dX10_added4_60 rfl ?_
        refine x_isub dX10_added4_61 ?_
        refine x_istore_n dX10_added4_62 (by decide) ?_
        refine x_goto 5 dX10_added4_63 ?_
        refine Ex.forget (L' := [some (.ref 42), some (.int (x - x2)), none, none]) ⟨rfl, rfl, trivial⟩ ?_
        exact ih _ _ _ _ _ _ _ _ (LR_emt q2) c3 k3 f3 (lp_v hn hg q.1 hc hK n2 n0 hz (by decide) hv v2 (jn_sb x x2).symm) (e3.symm.trans he)
    · rw [lp_no hq] at he
      refine x_aload_n dX10_added4_5 rfl ?_
      refine x_bipush 43 dX10_added4_6 ?_
      refine ii_X10_229 dX10_added4_8 (c_X10_sign q (by decide)) mw_o (by decide) (Nat.le_of_ble_eq_true rfl) ?_
      refine x_if_ne 23 dX10_added4_11 (fun hx => absurd (bi0.mpr (fun z => hq (qPl_iff.mpr (Or.inl z)))) hx) (fun _ => ?_)
      refine x_aload_n dX10_added4_14 rfl ?_
      refine x_bipush 45 dX10_added4_15 ?_
      refine ii_X10_229 dX10_added4_17 (c_X10_sign q (by decide)) mw_o (by decide) (Nat.le_of_ble_eq_true rfl) ?_
      refine x_if_eq 66 dX10_added4_20 (fun _ => ?_) (fun hx => absurd (bi0.mpr (fun z => hq (qPl_iff.mpr (Or.inr z)))) hx)
      refine x_iload_n dX10_added4_66 rfl ?_
      exact Ex.ret (v := some (.int _)) ⟨dX10_added4_67, _, rfl, by first | rfl | decide⟩ ⟨_, _, _, _, _, _, _, rfl, rfl, by rw [← he]; exact q, by rw [← he]; exact hv⟩
set_option maxRecDepth 100000 in
set_option maxHeartbeats 4000000 in
theorem c_X10_not4 {X : Nat × (Nat → Int32)} {S : CS} {tl : pc_W} {tx : (Nat → Int32)} {ts : (Nat → Int32)} {tc : Int32} {tp : (Nat → Int32)} {tn : Int32} {U : MU} {o : (Nat → Int32)} {to : Int32} {tw : Int64} {ba : Int32} {fa : Int32} {C : MC} {K : MK} {H : MH} {r n h t : Nat} {b : Nat → Int32} {s : PS} (hr : r < 6) (hn : n ≤ 160) (hb : ∀ i, i < n → tx (160 * r + i) = b i) (hbp : ∀ i, i < n → 0 ≤ b i) (q : LR b n s h to t tw ba fa) (hc : g_cz s ≤ g_pl s) (hK : g_op s = 4): Mt X 13 0 0 yX10_not4 cX10_not4 4 (some .int) [.ref 42] (cst S ++ (mw (tx, ts, tc, tp, tn) U (o, nI (160 * r), nI n, nI h, to, nI t, tw, (nI 4), ba, fa) C K H ++ tl)) (fun v w' => ∃ (x : Int32) (h' : Nat) (to' : Int32) (t' : Nat) (tw' : Int64) (ba' fa' : Int32), v = some (.int x) ∧ w' = cst S ++ (mw (tx, ts, tc, tp, tn) U (o, nI (160 * r), nI n, nI h', to', nI t', tw', (nI 4), ba', fa') C K H ++ tl) ∧ LR b n (lvN b n (lev b n 1) s) h' to' t' tw' ba' fa' ∧ VR o (g_cz s) (lvN b n (lev b n 1) s) x) := by
  refine Mt.of (by decide +kernel) (fun _ _ => Nat.le_of_ble_eq_true rfl) ?_
  show Ex X mX10_not4 _ _ _ _ _ _ _ _
  refine x_aload_n dX10_not4_0 rfl ?_
  refine x_bipush 110 dX10_not4_1 ?_
  refine x_bipush 111 dX10_not4_3 ?_
  refine x_bipush 116 dX10_not4_5 ?_
  refine x_iconst 0 dX10_not4_7 ?_
  refine x_iconst 0 dX10_not4_8 ?_
  refine x_iconst 0 dX10_not4_9 ?_
  refine x_iconst 0 dX10_not4_10 ?_
  refine x_iconst 0 dX10_not4_11 ?_
  refine ii_X10_207 dX10_not4_12 (c_X10_word (w := 211) hr hn hb q (by decide) (by decide) wl_211) mw_o (by decide) (Nat.le_of_ble_eq_true rfl) ?_
  refine x_if_eq 52 dX10_not4_15 (fun h_15 => ?_) (fun h_15 => ?_)
  · have hz : ¬ g_to s = 211 := bi0.mp h_15
    refine x_aload_n dX10_not4_52 rfl ?_
    refine iv_X10_268 dX10_not4_53 (c_X10_added4 hr hn hb hbp q hc hK) mw_o (by decide) (Nat.le_of_ble_eq_true rfl) (fun v_53 w_53 hw_53 => ?_)
    obtain ⟨x1, h1, to1, t1, tw1, ba1, fa1, rfl, rfl, q1, v1⟩ := hw_53
    refine x_istore_n dX10_not4_56 (by decide) ?_
    refine x_aload_n dX10_not4_57 rfl ?_
    refine x_bipush 60 dX10_not4_58 ?_
    refine ii_X10_229 dX10_not4_60 (c_X10_sign q1 (by decide)) mw_o (by decide) (Nat.le_of_ble_eq_true rfl) ?_
    have hg := (lv_gf (b := b) hn 1 4 rfl).2.2.1
    have hs1 := (hg s q.1 hc hK).1
    by_cases hzlt : g_to (lvM b n (lev b n 1) s) = 60
    · have n2 : ¬ g_to (lvM b n (lev b n 1) s) = 2 := by rw [hzlt]; decide
      have n0 : ¬ g_to (lvM b n (lev b n 1) s) = 0 := by rw [hzlt]; decide
      have ha := hs1.tr (adv_gd (b := b) hn hs1.1 n2 n0)
      have c2 := ha.cz hc
      have k2 := ha.2.1.trans hK
      refine x_if_ne 77 dX10_not4_63 (fun _ => ?_) (fun hx => absurd hx (bi1.mpr hzlt))
      refine x_aload_n dX10_not4_77 rfl ?_
      refine mg_182 dX10_not4_78 ?_
      refine x_ldc2_w dX10_not4_81 kk_X10_251 ?_
      refine x_lcmp dX10_not4_84 ?_
      refine x_if_ne 92 dX10_not4_85 (fun hx => absurd ((lg_cmp_eq _ _).mpr ((LR_tw q1 (by rw [hzlt]; decide)).trans (by rw [hzlt]; decide))) hx) (fun _ => ?_)
      refine x_iconst 1 dX10_not4_88 ?_
      refine x_goto 93 dX10_not4_89 ?_
      refine x_istore_n dX10_not4_93 (by decide) ?_
      refine x_aload_n dX10_not4_94 rfl ?_
      refine iv_X10_204 dX10_not4_95 (c_X10_nextR hr hn hb hbp q1 n2) mw_o (by decide) (Nat.le_of_ble_eq_true rfl) (fun v_95 w_95 hw_95 => ?_)
      obtain ⟨h2, to2, t2, tw2, rfl, rfl, q2⟩ := hw_95
      refine x_aload_n dX10_not4_98 rfl ?_
      refine iv_X10_268 dX10_not4_99 (c_X10_added4 hr hn hb hbp q2 (by omega) k2) mw_o (by decide) (Nat.le_of_ble_eq_true rfl) (fun v_99 w_99 hw_99 => ?_)
      obtain ⟨x3, h3, to3, t3, tw3, ba3, fa3, rfl, rfl, q3, v3⟩ := hw_99
      refine x_istore_n dX10_not4_102 (by decide) ?_
      refine x_iload_n dX10_not4_103 rfl ?_
      refine x_if_eq 115 dX10_not4_104 (fun hx => absurd hx (by decide)) (fun _ => ?_)
      refine x_iload_n dX10_not4_107 rfl ?_
      refine x_iload_n dX10_not4_108 rfl ?_
      refine x_icmp_ge 124 dX10_not4_109 (fun h_109 => ?_) (fun h_109 => ?_)
      · refine x_iconst 0 dX10_not4_124 ?_
        have zz := fin_cmp (v := 0) (k := 1) hn q.1 hc hK rfl hz (Or.inl hzlt) q3 v1 v3 (by rw [hzlt]; exact (bi_f (Int32.not_lt.mpr h_109)).symm)
        exact Ex.ret (v := some (.int _)) ⟨dX10_not4_125, _, rfl, by first | rfl | decide⟩ ⟨_, _, _, _, _, _, _, rfl, rfl, zz⟩
      · refine x_goto 120 dX10_not4_112 ?_
        refine x_iconst 1 dX10_not4_120 ?_
        refine x_goto 125 dX10_not4_121 ?_
        have zz := fin_cmp (v := 1) (k := 1) hn q.1 hc hK rfl hz (Or.inl hzlt) q3 v1 v3 (by rw [hzlt]; exact (bi_t (Int32.not_le.mp h_109)).symm)
        exact Ex.ret (v := some (.int _)) ⟨dX10_not4_125, _, rfl, by first | rfl | decide⟩ ⟨_, _, _, _, _, _, _, rfl, rfl, zz⟩
    by_cases hzeq : g_to (lvM b n (lev b n 1) s) = 61
    · have n2 : ¬ g_to (lvM b n (lev b n 1) s) = 2 := by rw [hzeq]; decide
      have n0 : ¬ g_to (lvM b n (lev b n 1) s) = 0 := by rw [hzeq]; decide
      have ha := hs1.tr (adv_gd (b := b) hn hs1.1 n2 n0)
      have c2 := ha.cz hc
      have k2 := ha.2.1.trans hK
      refine x_if_ne 77 dX10_not4_63 (fun hx => absurd (bi0.mpr hzlt) hx) (fun _ => ?_)
      refine x_aload_n dX10_not4_66 rfl ?_
      refine x_bipush 61 dX10_not4_67 ?_
      refine ii_X10_229 dX10_not4_69 (c_X10_sign q1 (by decide)) mw_o (by decide) (Nat.le_of_ble_eq_true rfl) ?_
      refine x_if_ne 77 dX10_not4_72 (fun _ => ?_) (fun hx => absurd hx (bi1.mpr hzeq))
      refine x_aload_n dX10_not4_77 rfl ?_
      refine mg_182 dX10_not4_78 ?_
      refine x_ldc2_w dX10_not4_81 kk_X10_251 ?_
      refine x_lcmp dX10_not4_84 ?_
      refine x_if_ne 92 dX10_not4_85 (fun _ => ?_) (fun hx => absurd hx (fun z => absurd (((lg_cmp_eq _ _).mp z).symm.trans ((LR_tw q1 (by rw [hzeq]; decide)).trans (by rw [hzeq]))) (by decide)))
      refine x_iconst 0 dX10_not4_92 ?_
      refine x_istore_n dX10_not4_93 (by decide) ?_
      refine x_aload_n dX10_not4_94 rfl ?_
      refine iv_X10_204 dX10_not4_95 (c_X10_nextR hr hn hb hbp q1 n2) mw_o (by decide) (Nat.le_of_ble_eq_true rfl) (fun v_95 w_95 hw_95 => ?_)
      obtain ⟨h2, to2, t2, tw2, rfl, rfl, q2⟩ := hw_95
      refine x_aload_n dX10_not4_98 rfl ?_
      refine iv_X10_268 dX10_not4_99 (c_X10_added4 hr hn hb hbp q2 (by omega) k2) mw_o (by decide) (Nat.le_of_ble_eq_true rfl) (fun v_99 w_99 hw_99 => ?_)
      obtain ⟨x3, h3, to3, t3, tw3, ba3, fa3, rfl, rfl, q3, v3⟩ := hw_99
      refine x_istore_n dX10_not4_102 (by decide) ?_
      refine x_iload_n dX10_not4_103 rfl ?_
      refine x_if_eq 115 dX10_not4_104 (fun _ => ?_) (fun hx => absurd (rfl) hx)
      refine x_iload_n dX10_not4_115 rfl ?_
      refine x_iload_n dX10_not4_116 rfl ?_
      refine x_icmp_ne 124 dX10_not4_117 (fun h_117 => ?_) (fun h_117 => ?_)
      · refine x_iconst 0 dX10_not4_124 ?_
        have zz := fin_cmp (v := 0) (k := 1) hn q.1 hc hK rfl hz (Or.inr hzeq) q3 v1 v3 (by rw [hzeq]; exact (bi_f h_117).symm)
        exact Ex.ret (v := some (.int _)) ⟨dX10_not4_125, _, rfl, by first | rfl | decide⟩ ⟨_, _, _, _, _, _, _, rfl, rfl, zz⟩
      · refine x_iconst 1 dX10_not4_120 ?_
        refine x_goto 125 dX10_not4_121 ?_
        have zz := fin_cmp (v := 1) (k := 1) hn q.1 hc hK rfl hz (Or.inr hzeq) q3 v1 v3 (by rw [hzeq]; exact (bi_t h_117).symm)
        exact Ex.ret (v := some (.int _)) ⟨dX10_not4_125, _, rfl, by first | rfl | decide⟩ ⟨_, _, _, _, _, _, _, rfl, rfl, zz⟩
    refine x_if_ne 77 dX10_not4_63 (fun hx => absurd (bi0.mpr hzlt) hx) (fun _ => ?_)
    refine x_aload_n dX10_not4_66 rfl ?_
    refine x_bipush 61 dX10_not4_67 ?_
    refine ii_X10_229 dX10_not4_69 (c_X10_sign q1 (by decide)) mw_o (by decide) (Nat.le_of_ble_eq_true rfl) ?_
    refine x_if_ne 77 dX10_not4_72 (fun hx => absurd (bi0.mpr hzeq) hx) (fun _ => ?_)
    refine x_iload_n dX10_not4_75 rfl ?_
    have zz := fin_sum (k := 1) hz hzlt hzeq q1 v1
    exact Ex.ret (v := some (.int _)) ⟨dX10_not4_76, _, rfl, by first | rfl | decide⟩ ⟨_, _, _, _, _, _, _, rfl, rfl, zz⟩
  have hz : g_to s = 211 := bi1.mp h_15
  refine x_aload_n dX10_not4_18 rfl ?_
  refine iv_X10_232 dX10_not4_19 (c_X10_opens_y hr hn hb hbp q (by rw [hz]; decide) (by decide)) mw_o (by decide) (Nat.le_of_ble_eq_true rfl) (fun v_19 w_19 hw_19 => ?_)
  obtain ⟨h1, to1, t1, tw1, rfl, rfl, q1⟩ := hw_19
  obtain ⟨c1, k1, e1⟩ := in_pre (b := b) hn q.1 hc hK (by rw [hz]; decide) (by rw [hz]; decide)
  refine x_if_ne 27 dX10_not4_22 (fun _ => ?_) (fun hx => absurd hx (by decide))
  refine x_aload_n dX10_not4_27 rfl ?_
  refine iv_X10_253 dX10_not4_28 (c_X10_not5 hr hn hb hbp q1 c1 k1) mw_o (by decide) (Nat.le_of_ble_eq_true rfl) (fun v_28 w_28 hw_28 => ?_)
  obtain ⟨x2, h2, to2, t2, tw2, ba2, fa2, rfl, rfl, q2, v2⟩ := hw_28
  refine x_istore_n dX10_not4_31 (by decide) ?_
  refine x_aload_n dX10_not4_32 rfl ?_
  refine x_dup dX10_not4_33 ?_
  refine mg_198 dX10_not4_34 ?_
  refine x_iconst 1 dX10_not4_37 ?_
  refine x_isub dX10_not4_38 ?_
  rw [show nI 5 - 1 = nI 4 from nI_pred 4]
  refine mp_198 dX10_not4_39 ?_
  refine x_iload_n dX10_not4_42 rfl ?_
  refine x_if_ne 50 dX10_not4_43 (fun h_43 => ?_) (fun h_43 => ?_)
  · refine x_iconst 0 dX10_not4_50 ?_
    have zz := fin_not (y := 0) (k := 0) hn q.1 hc hK rfl hz q2 v2 (bi_f h_43).symm
    exact Ex.ret (v := some (.int _)) ⟨dX10_not4_51, _, rfl, by first | rfl | decide⟩ ⟨_, _, _, _, _, _, _, rfl, rfl, zz⟩
  · refine x_iconst 1 dX10_not4_46 ?_
    refine x_goto 51 dX10_not4_47 ?_
    have zz := fin_not (y := 1) (k := 0) hn q.1 hc hK rfl hz q2 v2 (bi_t h_43).symm
    exact Ex.ret (v := some (.int _)) ⟨dX10_not4_51, _, rfl, by first | rfl | decide⟩ ⟨_, _, _, _, _, _, _, rfl, rfl, zz⟩
set_option maxRecDepth 100000 in
set_option maxHeartbeats 4000000 in
theorem c_X10_both4 {X : Nat × (Nat → Int32)} {S : CS} {tl : pc_W} {tx : (Nat → Int32)} {ts : (Nat → Int32)} {tc : Int32} {tp : (Nat → Int32)} {tn : Int32} {U : MU} {o : (Nat → Int32)} {to : Int32} {tw : Int64} {ba : Int32} {fa : Int32} {C : MC} {K : MK} {H : MH} {r n h t : Nat} {b : Nat → Int32} {s : PS} (hr : r < 6) (hn : n ≤ 160) (hb : ∀ i, i < n → tx (160 * r + i) = b i) (hbp : ∀ i, i < n → 0 ≤ b i) (q : LR b n s h to t tw ba fa) (hc : g_cz s ≤ g_pl s) (hK : g_op s = 4): Mt X 14 0 0 yX10_both4 cX10_both4 3 (some .int) [.ref 42] (cst S ++ (mw (tx, ts, tc, tp, tn) U (o, nI (160 * r), nI n, nI h, to, nI t, tw, (nI 4), ba, fa) C K H ++ tl)) (fun v w' => ∃ (x : Int32) (h' : Nat) (to' : Int32) (t' : Nat) (tw' : Int64) (ba' fa' : Int32), v = some (.int x) ∧ w' = cst S ++ (mw (tx, ts, tc, tp, tn) U (o, nI (160 * r), nI n, nI h', to', nI t', tw', (nI 4), ba', fa') C K H ++ tl) ∧ LR b n (lvJ b n (lev b n 1) s) h' to' t' tw' ba' fa' ∧ VR o (g_cz s) (lvJ b n (lev b n 1) s) x) := by
  refine Mt.of (by decide +kernel) (fun _ _ => Nat.le_of_ble_eq_true rfl) ?_
  show Ex X mX10_both4 _ _ _ _ _ _ _ _
  refine x_aload_n dX10_both4_0 rfl ?_
  refine iv_X10_271 dX10_both4_1 (c_X10_not4 hr hn hb hbp q hc hK) mw_o (by decide) (Nat.le_of_ble_eq_true rfl) (fun v_1 w_1 hw_1 => ?_)
  obtain ⟨x1, h1, to1, t1, tw1, ba1, fa1, rfl, rfl, q1, v1⟩ := hw_1
  refine x_istore_n dX10_both4_4 (by decide) ?_
  have hg := (lv_gf (b := b) hn 1 4 rfl).2.2.2.1
  have hc1 := (hg s q.1 hc hK).1.cz hc
  refine Ex.forget (L' := [some (.ref 42), some (.int x1), none]) ⟨rfl, rfl, trivial⟩ ?_
  suffices hL : ∀ (f : Nat) (s' : PS) (x : Int32) (h : Nat) (to : Int32) (t : Nat) (tw : Int64) (ba fa : Int32), LR b n s' h to t tw ba fa → g_cz s' ≤ g_pl s' → g_op s' = 4 → n ≤ f + g_pl s' → VR o (g_cz s) s' x → lpG b n qAn (lvN b n (lev b n 1)) f s' = lvJ b n (lev b n 1) s → Ex X mX10_both4 14 (fun v w' => ∃ (x : Int32) (h' : Nat) (to' : Int32) (t' : Nat) (tw' : Int64) (ba' fa' : Int32), v = some (.int x) ∧ w' = cst S ++ (mw (tx, ts, tc, tp, tn) U (o, nI (160 * r), nI n, nI h', to', nI t', tw', (nI 4), ba', fa') C K H ++ tl) ∧ LR b n (lvJ b n (lev b n 1) s) h' to' t' tw' ba' fa' ∧ VR o (g_cz s) (lvJ b n (lev b n 1) s) x) 0 0 5 [some (.ref 42), some (.int x), none] [] (cst S ++ (mw (tx, ts, tc, tp, tn) U (o, nI (160 * r), nI n, nI h, to, nI t, tw, (nI 4), ba, fa) C K H ++ tl)) from hL 160 _ _ _ _ _ _ _ _ q1 hc1 ((hg s q.1 hc hK).1.2.1.trans hK) (by omega) v1 rfl
  intro f
  induction f with
  | zero =>
    intro s' x h to t tw ba fa q hc hK hf hv he
    have hq := lp_0 (q := qAn) rfl rfl q.1 hf
    have he : s' = _ := he
    refine x_aload_n dX10_both4_5 rfl ?_
    refine x_bipush 97 dX10_both4_6 ?_
    refine x_bipush 110 dX10_both4_8 ?_
    refine x_bipush 100 dX10_both4_10 ?_
    refine x_iconst 0 dX10_both4_12 ?_
    refine x_iconst 0 dX10_both4_13 ?_
    refine x_iconst 0 dX10_both4_14 ?_
    refine x_iconst 0 dX10_both4_15 ?_
    refine x_iconst 0 dX10_both4_16 ?_
    refine ii_X10_207 dX10_both4_17 (c_X10_word (w := 210) hr hn hb q (by decide) (by decide) wl_210) mw_o (by decide) (Nat.le_of_ble_eq_true rfl) ?_
    refine x_if_eq 49 dX10_both4_20 (fun _ => ?_) (fun hx => absurd (bi0.mpr (fun z => hq (qAn_iff.mpr z))) hx)
    refine x_iload_n dX10_both4_49 rfl ?_
    exact Ex.ret (v := some (.int _)) ⟨dX10_both4_50, _, rfl, by first | rfl | decide⟩ ⟨_, _, _, _, _, _, _, rfl, rfl, by rw [← he]; exact q, by rw [← he]; exact hv⟩
  | succ f ih =>
    intro s' x h to t tw ba fa q hc hK hf hv he
    by_cases hq : qAn (g_to s') = true
    · obtain ⟨⟨n2, n0⟩, ⟨c1, k1⟩, ⟨w3, c3, k3, f3⟩, e3⟩ := lp_go hn hg rfl rfl q.1 hc hK hf hq
      have hz := qAn_iff.mp hq
      refine x_aload_n dX10_both4_5 rfl ?_
      refine x_bipush 97 dX10_both4_6 ?_
      refine x_bipush 110 dX10_both4_8 ?_
      refine x_bipush 100 dX10_both4_10 ?_
      refine x_iconst 0 dX10_both4_12 ?_
      refine x_iconst 0 dX10_both4_13 ?_
      refine x_iconst 0 dX10_both4_14 ?_
      refine x_iconst 0 dX10_both4_15 ?_
      refine x_iconst 0 dX10_both4_16 ?_
      refine ii_X10_207 dX10_both4_17 (c_X10_word (w := 210) hr hn hb q (by decide) (by decide) wl_210) mw_o (by decide) (Nat.le_of_ble_eq_true rfl) ?_
      refine x_if_eq 49 dX10_both4_20 (fun hx => absurd hx (bi1.mpr hz)) (fun _ => ?_)
      refine x_aload_n dX10_both4_23 rfl ?_
      refine iv_X10_204 dX10_both4_24 (c_X10_nextR hr hn hb hbp q n2) mw_o (by decide) (Nat.le_of_ble_eq_true rfl) (fun v_24 w_24 hw_24 => ?_)
      obtain ⟨h1, to1, t1, tw1, rfl, rfl, q1⟩ := hw_24
      refine x_aload_n dX10_both4_27 rfl ?_
      refine iv_X10_271 dX10_both4_28 (c_X10_not4 hr hn hb hbp q1 c1 k1) mw_o (by decide) (Nat.le_of_ble_eq_true rfl) (fun v_28 w_28 hw_28 => ?_)
      obtain ⟨x2, h2, to2, t2, tw2, ba2, fa2, rfl, rfl, q2, v2⟩ := hw_28
      refine x_istore_n dX10_both4_31 (by decide) ?_
      refine x_iload_n dX10_both4_32 rfl ?_
      refine x_if_eq 44 dX10_both4_33 (fun h_33 => ?_) (fun h_33 => ?_)
      · refine x_iconst 0 dX10_both4_44 ?_
        refine x_istore_n dX10_both4_45 (by decide) ?_
        refine x_goto 5 dX10_both4_46 ?_
        refine Ex.forget (L' := [some (.ref 42), some (.int 0), none]) ⟨rfl, rfl, trivial⟩ ?_
        exact ih _ _ _ _ _ _ _ _ (LR_emt q2) c3 k3 f3 (lp_v hn hg q.1 hc hK n2 n0 hz (by decide) hv v2 (show (0 : Int32) = jn 210 x x2 from (bi_f (fun z => z.1 h_33)).symm)) (e3.symm.trans he)
      · refine x_iload_n dX10_both4_36 rfl ?_
        refine x_if_eq 44 dX10_both4_37 (fun h_37 => ?_) (fun h_37 => ?_)
        · refine x_iconst 0 dX10_both4_44 ?_
          refine x_istore_n dX10_both4_45 (by decide) ?_
          refine x_goto 5 dX10_both4_46 ?_
          refine Ex.forget (L' := [some (.ref 42), some (.int 0), none]) ⟨rfl, rfl, trivial⟩ ?_
          exact ih _ _ _ _ _ _ _ _ (LR_emt q2) c3 k3 f3 (lp_v hn hg q.1 hc hK n2 n0 hz (by decide) hv v2 (show (0 : Int32) = jn 210 x x2 from (bi_f (fun z => z.2 h_37)).symm)) (e3.symm.trans he)
        · refine x_iconst 1 dX10_both4_40 ?_
          refine x_goto 45 dX10_both4_41 ?_
          refine x_istore_n dX10_both4_45 (by decide) ?_
          refine x_goto 5 dX10_both4_46 ?_
          refine Ex.forget (L' := [some (.ref 42), some (.int 1), none]) ⟨rfl, rfl, trivial⟩ ?_
          exact ih _ _ _ _ _ _ _ _ (LR_emt q2) c3 k3 f3 (lp_v hn hg q.1 hc hK n2 n0 hz (by decide) hv v2 (show (1 : Int32) = jn 210 x x2 from (bi_t ⟨h_33, h_37⟩).symm)) (e3.symm.trans he)
    · rw [lp_no hq] at he
      refine x_aload_n dX10_both4_5 rfl ?_
      refine x_bipush 97 dX10_both4_6 ?_
      refine x_bipush 110 dX10_both4_8 ?_
      refine x_bipush 100 dX10_both4_10 ?_
      refine x_iconst 0 dX10_both4_12 ?_
      refine x_iconst 0 dX10_both4_13 ?_
      refine x_iconst 0 dX10_both4_14 ?_
      refine x_iconst 0 dX10_both4_15 ?_
      refine x_iconst 0 dX10_both4_16 ?_
      refine ii_X10_207 dX10_both4_17 (c_X10_word (w := 210) hr hn hb q (by decide) (by decide) wl_210) mw_o (by decide) (Nat.le_of_ble_eq_true rfl) ?_
      refine x_if_eq 49 dX10_both4_20 (fun _ => ?_) (fun hx => absurd (bi0.mpr (fun z => hq (qAn_iff.mpr z))) hx)
      refine x_iload_n dX10_both4_49 rfl ?_
      exact Ex.ret (v := some (.int _)) ⟨dX10_both4_50, _, rfl, by first | rfl | decide⟩ ⟨_, _, _, _, _, _, _, rfl, rfl, by rw [← he]; exact q, by rw [← he]; exact hv⟩
set_option maxRecDepth 100000 in
set_option maxHeartbeats 4000000 in
theorem c_X10_either4 {X : Nat × (Nat → Int32)} {S : CS} {tl : pc_W} {tx : (Nat → Int32)} {ts : (Nat → Int32)} {tc : Int32} {tp : (Nat → Int32)} {tn : Int32} {U : MU} {o : (Nat → Int32)} {to : Int32} {tw : Int64} {ba : Int32} {fa : Int32} {C : MC} {K : MK} {H : MH} {r n h t : Nat} {b : Nat → Int32} {s : PS} (hr : r < 6) (hn : n ≤ 160) (hb : ∀ i, i < n → tx (160 * r + i) = b i) (hbp : ∀ i, i < n → 0 ≤ b i) (q : LR b n s h to t tw ba fa) (hc : g_cz s ≤ g_pl s) (hK : g_op s = 4): Mt X 15 0 0 yX10_either4 cX10_either4 3 (some .int) [.ref 42] (cst S ++ (mw (tx, ts, tc, tp, tn) U (o, nI (160 * r), nI n, nI h, to, nI t, tw, (nI 4), ba, fa) C K H ++ tl)) (fun v w' => ∃ (x : Int32) (h' : Nat) (to' : Int32) (t' : Nat) (tw' : Int64) (ba' fa' : Int32), v = some (.int x) ∧ w' = cst S ++ (mw (tx, ts, tc, tp, tn) U (o, nI (160 * r), nI n, nI h', to', nI t', tw', (nI 4), ba', fa') C K H ++ tl) ∧ LR b n (lvE b n (lev b n 1) s) h' to' t' tw' ba' fa' ∧ VR o (g_cz s) (lvE b n (lev b n 1) s) x) := by
  refine Mt.of (by decide +kernel) (fun _ _ => Nat.le_of_ble_eq_true rfl) ?_
  show Ex X mX10_either4 _ _ _ _ _ _ _ _
  refine x_aload_n dX10_either4_0 rfl ?_
  refine iv_X10_274 dX10_either4_1 (c_X10_both4 hr hn hb hbp q hc hK) mw_o (by decide) (Nat.le_of_ble_eq_true rfl) (fun v_1 w_1 hw_1 => ?_)
  obtain ⟨x1, h1, to1, t1, tw1, ba1, fa1, rfl, rfl, q1, v1⟩ := hw_1
  refine x_istore_n dX10_either4_4 (by decide) ?_
  have hg := (lv_gf (b := b) hn 1 4 rfl).2.2.2.2.1
  have hc1 := (hg s q.1 hc hK).1.cz hc
  refine Ex.forget (L' := [some (.ref 42), some (.int x1), none]) ⟨rfl, rfl, trivial⟩ ?_
  suffices hL : ∀ (f : Nat) (s' : PS) (x : Int32) (h : Nat) (to : Int32) (t : Nat) (tw : Int64) (ba fa : Int32), LR b n s' h to t tw ba fa → g_cz s' ≤ g_pl s' → g_op s' = 4 → n ≤ f + g_pl s' → VR o (g_cz s) s' x → lpG b n qOr (lvJ b n (lev b n 1)) f s' = lvE b n (lev b n 1) s → Ex X mX10_either4 15 (fun v w' => ∃ (x : Int32) (h' : Nat) (to' : Int32) (t' : Nat) (tw' : Int64) (ba' fa' : Int32), v = some (.int x) ∧ w' = cst S ++ (mw (tx, ts, tc, tp, tn) U (o, nI (160 * r), nI n, nI h', to', nI t', tw', (nI 4), ba', fa') C K H ++ tl) ∧ LR b n (lvE b n (lev b n 1) s) h' to' t' tw' ba' fa' ∧ VR o (g_cz s) (lvE b n (lev b n 1) s) x) 0 0 5 [some (.ref 42), some (.int x), none] [] (cst S ++ (mw (tx, ts, tc, tp, tn) U (o, nI (160 * r), nI n, nI h, to, nI t, tw, (nI 4), ba, fa) C K H ++ tl)) from hL 160 _ _ _ _ _ _ _ _ q1 hc1 ((hg s q.1 hc hK).1.2.1.trans hK) (by omega) v1 rfl
  intro f
  induction f with
  | zero =>
    intro s' x h to t tw ba fa q hc hK hf hv he
    have hq := lp_0 (q := qOr) rfl rfl q.1 hf
    have he : s' = _ := he
    refine x_aload_n dX10_either4_5 rfl ?_
    refine x_bipush 111 dX10_either4_6 ?_
    refine x_bipush 114 dX10_either4_8 ?_
    refine x_iconst 0 dX10_either4_10 ?_
    refine x_iconst 0 dX10_either4_11 ?_
    refine x_iconst 0 dX10_either4_12 ?_
    refine x_iconst 0 dX10_either4_13 ?_
    refine x_iconst 0 dX10_either4_14 ?_
    refine x_iconst 0 dX10_either4_15 ?_
    refine ii_X10_207 dX10_either4_16 (c_X10_word (w := 209) hr hn hb q (by decide) (by decide) wl_209) mw_o (by decide) (Nat.le_of_ble_eq_true rfl) ?_
    refine x_if_eq 48 dX10_either4_19 (fun _ => ?_) (fun hx => absurd (bi0.mpr (fun z => hq (qOr_iff.mpr z))) hx)
    refine x_iload_n dX10_either4_48 rfl ?_
    exact Ex.ret (v := some (.int _)) ⟨dX10_either4_49, _, rfl, by first | rfl | decide⟩ ⟨_, _, _, _, _, _, _, rfl, rfl, by rw [← he]; exact q, by rw [← he]; exact hv⟩
  | succ f ih =>
    intro s' x h to t tw ba fa q hc hK hf hv he
    by_cases hq : qOr (g_to s') = true
    · obtain ⟨⟨n2, n0⟩, ⟨c1, k1⟩, ⟨w3, c3, k3, f3⟩, e3⟩ := lp_go hn hg rfl rfl q.1 hc hK hf hq
      have hz := qOr_iff.mp hq
      refine x_aload_n dX10_either4_5 rfl ?_
      refine x_bipush 111 dX10_either4_6 ?_
      refine x_bipush 114 dX10_either4_8 ?_
      refine x_iconst 0 dX10_either4_10 ?_
      refine x_iconst 0 dX10_either4_11 ?_
      refine x_iconst 0 dX10_either4_12 ?_
      refine x_iconst 0 dX10_either4_13 ?_
      refine x_iconst 0 dX10_either4_14 ?_
      refine x_iconst 0 dX10_either4_15 ?_
      refine ii_X10_207 dX10_either4_16 (c_X10_word (w := 209) hr hn hb q (by decide) (by decide) wl_209) mw_o (by decide) (Nat.le_of_ble_eq_true rfl) ?_
      refine x_if_eq 48 dX10_either4_19 (fun hx => absurd hx (bi1.mpr hz)) (fun _ => ?_)
      refine x_aload_n dX10_either4_22 rfl ?_
      refine iv_X10_204 dX10_either4_23 (c_X10_nextR hr hn hb hbp q n2) mw_o (by decide) (Nat.le_of_ble_eq_true rfl) (fun v_23 w_23 hw_23 => ?_)
      obtain ⟨h1, to1, t1, tw1, rfl, rfl, q1⟩ := hw_23
      refine x_aload_n dX10_either4_26 rfl ?_
      refine iv_X10_274 dX10_either4_27 (c_X10_both4 hr hn hb hbp q1 c1 k1) mw_o (by decide) (Nat.le_of_ble_eq_true rfl) (fun v_27 w_27 hw_27 => ?_)
      obtain ⟨x2, h2, to2, t2, tw2, ba2, fa2, rfl, rfl, q2, v2⟩ := hw_27
      refine x_istore_n dX10_either4_30 (by decide) ?_
      refine x_iload_n dX10_either4_31 rfl ?_
      refine x_if_ne 39 dX10_either4_32 (fun h_32 => ?_) (fun h_32 => ?_)
      · refine x_iconst 1 dX10_either4_39 ?_
        refine x_goto 44 dX10_either4_40 ?_
        refine x_istore_n dX10_either4_44 (by decide) ?_
        refine x_goto 5 dX10_either4_45 ?_
        refine Ex.forget (L' := [some (.ref 42), some (.int 1), none]) ⟨rfl, rfl, trivial⟩ ?_
        exact ih _ _ _ _ _ _ _ _ (LR_emt q2) c3 k3 f3 (lp_v hn hg q.1 hc hK n2 n0 hz (by decide) hv v2 (show (1 : Int32) = jn 209 x x2 from (bi_t (Or.inl h_32)).symm)) (e3.symm.trans he)
      · refine x_iload_n dX10_either4_35 rfl ?_
        refine x_if_eq 43 dX10_either4_36 (fun h_36 => ?_) (fun h_36 => ?_)
        · refine x_iconst 0 dX10_either4_43 ?_
          refine x_istore_n dX10_either4_44 (by decide) ?_
          refine x_goto 5 dX10_either4_45 ?_
          refine Ex.forget (L' := [some (.ref 42), some (.int 0), none]) ⟨rfl, rfl, trivial⟩ ?_
          exact ih _ _ _ _ _ _ _ _ (LR_emt q2) c3 k3 f3 (lp_v hn hg q.1 hc hK n2 n0 hz (by decide) hv v2 (show (0 : Int32) = jn 209 x x2 from (bi_f (fun z => z.elim (fun y => y h_32) (fun y => y h_36))).symm)) (e3.symm.trans he)
        · refine x_iconst 1 dX10_either4_39 ?_
          refine x_goto 44 dX10_either4_40 ?_
          refine x_istore_n dX10_either4_44 (by decide) ?_
          refine x_goto 5 dX10_either4_45 ?_
          refine Ex.forget (L' := [some (.ref 42), some (.int 1), none]) ⟨rfl, rfl, trivial⟩ ?_
          exact ih _ _ _ _ _ _ _ _ (LR_emt q2) c3 k3 f3 (lp_v hn hg q.1 hc hK n2 n0 hz (by decide) hv v2 (show (1 : Int32) = jn 209 x x2 from (bi_t (Or.inr h_36)).symm)) (e3.symm.trans he)
    · rw [lp_no hq] at he
      refine x_aload_n dX10_either4_5 rfl ?_
      refine x_bipush 111 dX10_either4_6 ?_
      refine x_bipush 114 dX10_either4_8 ?_
      refine x_iconst 0 dX10_either4_10 ?_
      refine x_iconst 0 dX10_either4_11 ?_
      refine x_iconst 0 dX10_either4_12 ?_
      refine x_iconst 0 dX10_either4_13 ?_
      refine x_iconst 0 dX10_either4_14 ?_
      refine x_iconst 0 dX10_either4_15 ?_
      refine ii_X10_207 dX10_either4_16 (c_X10_word (w := 209) hr hn hb q (by decide) (by decide) wl_209) mw_o (by decide) (Nat.le_of_ble_eq_true rfl) ?_
      refine x_if_eq 48 dX10_either4_19 (fun _ => ?_) (fun hx => absurd (bi0.mpr (fun z => hq (qOr_iff.mpr z))) hx)
      refine x_iload_n dX10_either4_48 rfl ?_
      exact Ex.ret (v := some (.int _)) ⟨dX10_either4_49, _, rfl, by first | rfl | decide⟩ ⟨_, _, _, _, _, _, _, rfl, rfl, by rw [← he]; exact q, by rw [← he]; exact hv⟩
