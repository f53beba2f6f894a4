set_option maxRecDepth 100000 in
set_option maxHeartbeats 4000000 in
theorem c_X10_atom5 {X : Nat × (Nat → Int32)} {S : CS} {tl : pc_W} {tx : (Nat → Int32)} {ts : (Nat → Int32)} {tc : Int32} {tp : (Nat → Int32)} {tn : Int32} {U : MU} {o : (Nat → Int32)} {to : Int32} {tw : Int64} {ba : Int32} {fa : Int32} {C : MC} {K : MK} {H : MH} {r n h t : Nat} {b : Nat → Int32} {s : PS} (hr : r < 6) (hn : n ≤ 160) (hb : ∀ i, i < n → tx (160 * r + i) = b i) (hbp : ∀ i, i < n → 0 ≤ b i) (q : LR b n s h to t tw ba fa) (hc : g_cz s ≤ g_pl s) (hK : g_op s = 5): Mt X 4 0 0 yX10_atom5 cX10_atom5 2 (some .int) [.ref 42] (cst S ++ (mw (tx, ts, tc, tp, tn) U (o, nI (160 * r), nI n, nI h, to, nI t, tw, (nI 5), ba, fa) C K H ++ tl)) (fun v w' => ∃ (x : Int32) (h' : Nat) (to' : Int32) (t' : Nat) (tw' : Int64) (ba' fa' : Int32), v = some (.int x) ∧ w' = cst S ++ (mw (tx, ts, tc, tp, tn) U (o, nI (160 * r), nI n, nI h', to', nI t', tw', (nI 5), ba', fa') C K H ++ tl) ∧ LR b n (lvS b n (lev b n 0) s) h' to' t' tw' ba' fa' ∧ VR o (g_cz s) (lvS b n (lev b n 0) s) x) := by
  refine Mt.of (by decide +kernel) (fun _ _ => Nat.le_of_ble_eq_true rfl) ?_
  show Ex X mX10_atom5 _ _ _ _ _ _ _ _
  refine x_iconst 0 dX10_atom5_0 ?_
  refine x_istore_n dX10_atom5_1 (by decide) ?_
  refine x_aload_n dX10_atom5_2 rfl ?_
  refine x_bipush 45 dX10_atom5_3 ?_
  refine ii_X10_229 dX10_atom5_5 (c_X10_sign q (by decide)) mw_o (by decide) (Nat.le_of_ble_eq_true rfl) ?_
  refine x_if_eq 19 dX10_atom5_8 (fun h_8 => ?_) (fun h_8 => ?_)
  · refine x_aload_n dX10_atom5_19 rfl ?_
    refine x_bipush 40 dX10_atom5_20 ?_
    refine ii_X10_229 dX10_atom5_22 (c_X10_sign q (by decide)) mw_o (by decide) (Nat.le_of_ble_eq_true rfl) ?_
    refine x_if_eq 36 dX10_atom5_25 (fun h_25 => ?_) (fun h_25 => ?_)
    · by_cases hz : g_to s = 1
      · obtain ⟨rfl, ht2⟩ := (LR_num q).1.mpr hz
        refine x_aload_n dX10_atom5_36 rfl ?_
        refine mg_188 dX10_atom5_37 ?_
        refine x_if_ne 64 dX10_atom5_40 (fun hx => absurd (rfl) hx) (fun _ => ?_)
        refine x_aload_n dX10_atom5_43 rfl ?_
        refine mg_171 dX10_atom5_44 ?_
        refine x_iconst 2 dX10_atom5_47 ?_
        refine x_icmp_ne 64 dX10_atom5_48 (fun hx => absurd (ht2) hx) (fun _ => ?_)
        refine x_aload_n dX10_atom5_51 rfl ?_
        refine mg_182 dX10_atom5_52 ?_
        refine x_l2i dX10_atom5_55 ?_
        refine x_istore_n dX10_atom5_56 (by decide) ?_
        refine x_aload_n dX10_atom5_57 rfl ?_
        refine iv_X10_204 dX10_atom5_58 (c_X10_nextR (s := emt (g_nu s) s) hr hn hb hbp (LR_emt q) (by rw [(emt_g _ _).2.2.1, hz]; decide)) mw_o (by decide) (Nat.le_of_ble_eq_true rfl) (fun v_58 w_58 hw_58 => ?_)
        obtain ⟨h3, to3, t3, tw3, rfl, rfl, q3⟩ := hw_58
        refine x_goto 102 dX10_atom5_61 ?_
        refine x_iload_n dX10_atom5_102 rfl ?_
        obtain ⟨en, m, hm, em⟩ := (LR_num q).2 hz
        have zz := fin_id (f := lvS b n (lev b n 0)) (nm := o) (lvS_num hz) (q3) ((by rw [en, em]; exact VR_one hn q.1 hc (by rw [hz]; decide) (by rw [hz]; decide) (fun co e1 e2 => GC.lit hm e2 e1) : VR o (g_cz s) (adv b n (emt (g_nu s) s)) tw.toInt32))
        exact Ex.ret (v := some (.int _)) ⟨dX10_atom5_103, _, rfl, by first | rfl | decide⟩ ⟨_, _, _, _, _, _, _, rfl, rfl, zz⟩
      by_cases hw : ba = 0 ∧ to = 1
      · obtain ⟨rfl, ht1⟩ := hw
        refine x_aload_n dX10_atom5_36 rfl ?_
        refine mg_188 dX10_atom5_37 ?_
        refine x_if_ne 64 dX10_atom5_40 (fun hx => absurd (rfl) hx) (fun _ => ?_)
        refine x_aload_n dX10_atom5_43 rfl ?_
        refine mg_171 dX10_atom5_44 ?_
        refine x_iconst 2 dX10_atom5_47 ?_
        refine x_icmp_ne 64 dX10_atom5_48 (fun _ => ?_) (fun hx => absurd hx (by rw [ht1]; decide))
        refine x_aload_n dX10_atom5_64 rfl ?_
        refine mg_188 dX10_atom5_65 ?_
        refine x_if_ne 98 dX10_atom5_68 (fun hx => absurd (rfl) hx) (fun _ => ?_)
        refine x_aload_n dX10_atom5_71 rfl ?_
        refine mg_171 dX10_atom5_72 ?_
        refine x_iconst 1 dX10_atom5_75 ?_
        refine x_icmp_ne 98 dX10_atom5_76 (fun hx => absurd (ht1) hx) (fun _ => ?_)
        refine x_aload_n dX10_atom5_79 rfl ?_
        refine iv_X10_236 dX10_atom5_80 (c_X10_name hr hn hb q) mw_o (by decide) (Nat.le_of_ble_eq_true rfl) (fun v_80 w_80 hw_80 => ?_)
        obtain ⟨x1, ba1, fa1, rfl, rfl, hnm⟩ := hw_80
        rcases hnm with ⟨n1, n2, rfl, rfl, rfl⟩ | ⟨n1, rfl, q1⟩
        · skip
          refine x_istore_n dX10_atom5_83 (by decide) ?_
          refine x_aload_n dX10_atom5_84 rfl ?_
          refine mg_188 dX10_atom5_85 ?_
          refine x_if_ne 102 dX10_atom5_88 (fun hx => absurd (rfl) hx) (fun _ => ?_)
          refine x_aload_n dX10_atom5_91 rfl ?_
          refine iv_X10_204 dX10_atom5_92 (c_X10_nextR (s := emt (-(g_to s)) s) hr hn hb hbp (LR_emt q) (by rw [(emt_g _ _).2.2.1]; exact fun z => by rw [z] at n1; exact absurd n1 (by decide))) mw_o (by decide) (Nat.le_of_ble_eq_true rfl) (fun v_92 w_92 hw_92 => ?_)
          obtain ⟨h3, to3, t3, tw3, rfl, rfl, q3⟩ := hw_92
          refine x_goto 102 dX10_atom5_95 ?_
          refine x_iload_n dX10_atom5_102 rfl ?_
          have zz := fin_id (f := lvS b n (lev b n 0)) (nm := o) (lvS_name ⟨n1, n2⟩) (q3) (VR_one hn q.1 hc (fun z => by rw [z] at n1; exact absurd n1 (by decide)) (fun z => by rw [z] at n1; exact absurd n1 (by decide)) (fun co e1 e2 => GC.name ⟨n1, n2⟩ e2 e1))
          exact Ex.ret (v := some (.int _)) ⟨dX10_atom5_103, _, rfl, by first | rfl | decide⟩ ⟨_, _, _, _, _, _, _, rfl, rfl, zz⟩
        · skip
          refine x_istore_n dX10_atom5_83 (by decide) ?_
          refine x_aload_n dX10_atom5_84 rfl ?_
          refine mg_188 dX10_atom5_85 ?_
          refine x_if_ne 102 dX10_atom5_88 (fun _ => ?_) (fun hx => absurd hx (by decide))
          refine x_iload_n dX10_atom5_102 rfl ?_
          have zz := fin_id (f := lvS b n (lev b n 0)) (nm := o) (lvS_no hz n1 (bi0.mp h_8) (bi0.mp h_25)) (q1) (VR_rfu (x := x1) hn q.1)
          exact Ex.ret (v := some (.int _)) ⟨dX10_atom5_103, _, rfl, by first | rfl | decide⟩ ⟨_, _, _, _, _, _, _, rfl, rfl, zz⟩
      by_cases hb0 : ba = 0
      · subst hb0
        refine x_aload_n dX10_atom5_36 rfl ?_
        refine mg_188 dX10_atom5_37 ?_
        refine x_if_ne 64 dX10_atom5_40 (fun hx => absurd (rfl) hx) (fun _ => ?_)
        refine x_aload_n dX10_atom5_43 rfl ?_
        refine mg_171 dX10_atom5_44 ?_
        refine x_iconst 2 dX10_atom5_47 ?_
        refine x_icmp_ne 64 dX10_atom5_48 (fun _ => ?_) (fun hx => absurd hx (fun z => hz ((LR_num q).1.mp ⟨rfl, z⟩)))
        refine x_aload_n dX10_atom5_64 rfl ?_
        refine mg_188 dX10_atom5_65 ?_
        refine x_if_ne 98 dX10_atom5_68 (fun hx => absurd (rfl) hx) (fun _ => ?_)
        refine x_aload_n dX10_atom5_71 rfl ?_
        refine mg_171 dX10_atom5_72 ?_
        refine x_iconst 1 dX10_atom5_75 ?_
        refine x_icmp_ne 98 dX10_atom5_76 (fun _ => ?_) (fun hx => absurd hx (fun z => hw ⟨rfl, z⟩))
        refine x_aload_n dX10_atom5_98 rfl ?_
        refine iv_X10_201 dX10_atom5_99 (c_X10_failR hn q) mw_o (by decide) (Nat.le_of_ble_eq_true rfl) (fun v_99 w_99 hw_99 => ?_)
        obtain ⟨fa1, rfl, rfl, q1⟩ := hw_99
        refine x_iload_n dX10_atom5_102 rfl ?_
        have zz := fin_id (f := lvS b n (lev b n 0)) (nm := o) (lvS_no hz (fun z => hw ((LR_isw q).2 ⟨z.1, Int32.le_trans z.2 (by decide)⟩)) (bi0.mp h_8) (bi0.mp h_25)) (q1) (VR_rfu (x := 0) hn q.1)
        exact Ex.ret (v := some (.int _)) ⟨dX10_atom5_103, _, rfl, by first | rfl | decide⟩ ⟨_, _, _, _, _, _, _, rfl, rfl, zz⟩
      · skip
        refine x_aload_n dX10_atom5_36 rfl ?_
        refine mg_188 dX10_atom5_37 ?_
        refine x_if_ne 64 dX10_atom5_40 (fun _ => ?_) (fun hx => absurd hx (hb0))
        refine x_aload_n dX10_atom5_64 rfl ?_
        refine mg_188 dX10_atom5_65 ?_
        refine x_if_ne 98 dX10_atom5_68 (fun _ => ?_) (fun hx => absurd hx (hb0))
        refine x_aload_n dX10_atom5_98 rfl ?_
        refine iv_X10_201 dX10_atom5_99 (c_X10_failR hn q) mw_o (by decide) (Nat.le_of_ble_eq_true rfl) (fun v_99 w_99 hw_99 => ?_)
        obtain ⟨fa1, rfl, rfl, q1⟩ := hw_99
        refine x_iload_n dX10_atom5_102 rfl ?_
        have zz := fin_id (f := lvS b n (lev b n 0)) (nm := o) (lvS_no hz (fun z => hw ((LR_isw q).2 ⟨z.1, Int32.le_trans z.2 (by decide)⟩)) (bi0.mp h_8) (bi0.mp h_25)) (q1) (VR_rfu (x := 0) hn q.1)
        exact Ex.ret (v := some (.int _)) ⟨dX10_atom5_103, _, rfl, by first | rfl | decide⟩ ⟨_, _, _, _, _, _, _, rfl, rfl, zz⟩
    have hz : g_to s = 45 ∨ g_to s = 40 := Or.inr (bi1.mp h_25)
    refine x_aload_n dX10_atom5_28 rfl ?_
    refine iv_X10_232 dX10_atom5_29 (c_X10_opens_n hn q) mw_o (by decide) (Nat.le_of_ble_eq_true rfl) (fun v_29 w_29 hw_29 => ?_)
    obtain ⟨fa1, rfl, rfl, q1⟩ := hw_29
    refine x_pop dX10_atom5_32 ?_
    refine x_goto 102 dX10_atom5_33 ?_
    refine x_iload_n dX10_atom5_102 rfl ?_
    have zz := fin_id (f := lvS b n (lev b n 0)) (nm := o) (lvS_full hz (by rw [hK]; decide)) (q1) (VR_rfu (x := 0) hn q.1)
    exact Ex.ret (v := some (.int _)) ⟨dX10_atom5_103, _, rfl, by first | rfl | decide⟩ ⟨_, _, _, _, _, _, _, rfl, rfl, zz⟩
  have hz : g_to s = 45 ∨ g_to s = 40 := Or.inl (bi1.mp h_8)
  refine x_aload_n dX10_atom5_11 rfl ?_
  refine iv_X10_232 dX10_atom5_12 (c_X10_opens_n hn q) mw_o (by decide) (Nat.le_of_ble_eq_true rfl) (fun v_12 w_12 hw_12 => ?_)
  obtain ⟨fa1, rfl, rfl, q1⟩ := hw_12
  refine x_pop dX10_atom5_15 ?_
  refine x_goto 102 dX10_atom5_16 ?_
  refine x_iload_n dX10_atom5_102 rfl ?_
  have zz := fin_id (f := lvS b n (lev b n 0)) (nm := o) (lvS_full hz (by rw [hK]; decide)) (q1) (VR_rfu (x := 0) hn q.1)
  exact Ex.ret (v := some (.int _)) ⟨dX10_atom5_103, _, rfl, by first | rfl | decide⟩ ⟨_, _, _, _, _, _, _, rfl, rfl, zz⟩
set_option maxRecDepth 100000 in
set_option maxHeartbeats 4000000 in
theorem c_X10_term5 {X : Nat × (Nat → Int32)} {S : CS} {tl : pc_W} {tx : (Nat → Int32)} {ts : (Nat → Int32)} {tc : Int32} {tp : (Nat → Int32)} {tn : Int32} {U : MU} {o : (Nat → Int32)} {to : Int32} {tw : Int64} {ba : Int32} {fa : Int32} {C : MC} {K : MK} {H : MH} {r n h t : Nat} {b : Nat → Int32} {s : PS} (hr : r < 6) (hn : n ≤ 160) (hb : ∀ i, i < n → tx (160 * r + i) = b i) (hbp : ∀ i, i < n → 0 ≤ b i) (q : LR b n s h to t tw ba fa) (hc : g_cz s ≤ g_pl s) (hK : g_op s = 5): Mt X 5 0 0 yX10_term5 cX10_term5 2 (some .int) [.ref 42] (cst S ++ (mw (tx, ts, tc, tp, tn) U (o, nI (160 * r), nI n, nI h, to, nI t, tw, (nI 5), ba, fa) C K H ++ tl)) (fun v w' => ∃ (x : Int32) (h' : Nat) (to' : Int32) (t' : Nat) (tw' : Int64) (ba' fa' : Int32), v = some (.int x) ∧ w' = cst S ++ (mw (tx, ts, tc, tp, tn) U (o, nI (160 * r), nI n, nI h', to', nI t', tw', (nI 5), ba', fa') C K H ++ tl) ∧ LR b n (lvT b n (lev b n 0) s) h' to' t' tw' ba' fa' ∧ VR o (g_cz s) (lvT b n (lev b n 0) s) x) := by
  refine Mt.of (by decide +kernel) (fun _ _ => Nat.le_of_ble_eq_true rfl) ?_
  show Ex X mX10_term5 _ _ _ _ _ _ _ _
  refine x_aload_n dX10_term5_0 rfl ?_
  refine iv_X10_240 dX10_term5_1 (c_X10_atom5 hr hn hb hbp q hc hK) mw_o (by decide) (Nat.le_of_ble_eq_true rfl) (fun v_1 w_1 hw_1 => ?_)
  obtain ⟨x1, h1, to1, t1, tw1, ba1, fa1, rfl, rfl, q1, v1⟩ := hw_1
  refine x_istore_n dX10_term5_4 (by decide) ?_
  have hg := (lv_gf (b := b) hn 0 5 rfl).1
  have hc1 := (hg s q.1 hc hK).1.cz hc
  refine Ex.forget (L' := [some (.ref 42), some (.int x1)]) ⟨rfl, rfl, trivial⟩ ?_
  suffices hL : ∀ (f : Nat) (s' : PS) (x : Int32) (h : Nat) (to : Int32) (t : Nat) (tw : Int64) (ba fa : Int32), LR b n s' h to t tw ba fa → g_cz s' ≤ g_pl s' → g_op s' = 5 → n ≤ f + g_pl s' → VR o (g_cz s) s' x → lpG b n qMu (lvS b n (lev b n 0)) f s' = lvT b n (lev b n 0) s → Ex X mX10_term5 5 (fun v w' => ∃ (x : Int32) (h' : Nat) (to' : Int32) (t' : Nat) (tw' : Int64) (ba' fa' : Int32), v = some (.int x) ∧ w' = cst S ++ (mw (tx, ts, tc, tp, tn) U (o, nI (160 * r), nI n, nI h', to', nI t', tw', (nI 5), ba', fa') C K H ++ tl) ∧ LR b n (lvT b n (lev b n 0) s) h' to' t' tw' ba' fa' ∧ VR o (g_cz s) (lvT b n (lev b n 0) s) x) 0 0 5 [some (.ref 42), some (.int x)] [] (cst S ++ (mw (tx, ts, tc, tp, tn) U (o, nI (160 * r), nI n, nI h, to, nI t, tw, (nI 5), ba, fa) C K H ++ tl)) from hL 160 _ _ _ _ _ _ _ _ q1 hc1 ((hg s q.1 hc hK).1.2.1.trans hK) (by omega) v1 rfl
  intro f
  induction f with
  | zero =>
    intro s' x h to t tw ba fa q hc hK hf hv he
    have hq := lp_0 (q := qMu) rfl rfl q.1 hf
    have he : s' = _ := he
    refine x_aload_n dX10_term5_5 rfl ?_
    refine x_bipush 42 dX10_term5_6 ?_
    refine ii_X10_229 dX10_term5_8 (c_X10_sign q (by decide)) mw_o (by decide) (Nat.le_of_ble_eq_true rfl) ?_
    refine x_if_eq 28 dX10_term5_11 (fun _ => ?_) (fun hx => absurd (bi0.mpr (fun z => hq (qMu_iff.mpr z))) hx)
    refine x_iload_n dX10_term5_28 rfl ?_
    exact Ex.ret (v := some (.int _)) ⟨dX10_term5_29, _, rfl, by first | rfl | decide⟩ ⟨_, _, _, _, _, _, _, rfl, rfl, by rw [← he]; exact q, by rw [← he]; exact hv⟩
  | succ f ih =>
    intro s' x h to t tw ba fa q hc hK hf hv he
    by_cases hq : qMu (g_to s') = true
    · obtain ⟨⟨n2, n0⟩, ⟨c1, k1⟩, ⟨w3, c3, k3, f3⟩, e3⟩ := lp_go hn hg rfl rfl q.1 hc hK hf hq
      have hz := qMu_iff.mp hq
      refine x_aload_n dX10_term5_5 rfl ?_
      refine x_bipush 42 dX10_term5_6 ?_
      refine ii_X10_229 dX10_term5_8 (c_X10_sign q (by decide)) mw_o (by decide) (Nat.le_of_ble_eq_true rfl) ?_
      refine x_if_eq 28 dX10_term5_11 (fun hx => absurd hx (bi1.mpr hz)) (fun _ => ?_)
      refine x_aload_n dX10_term5_14 rfl ?_
      refine iv_X10_204 dX10_term5_15 (c_X10_nextR hr hn hb hbp q n2) mw_o (by decide) (Nat.le_of_ble_eq_true rfl) (fun v_15 w_15 hw_15 => ?_)
      obtain ⟨h1, to1, t1, tw1, rfl, rfl, q1⟩ := hw_15
      refine x_iload_n dX10_term5_18 rfl ?_
      refine x_aload_n dX10_term5_19 rfl ?_
      refine iv_X10_240 dX10_term5_20 (c_X10_atom5 hr hn hb hbp q1 c1 k1) mw_o (by decide) (Nat.le_of_ble_eq_true rfl) (fun v_20 w_20 hw_20 => ?_)
      obtain ⟨x2, h2, to2, t2, tw2, ba2, fa2, rfl, rfl, q2, v2⟩ := hw_20
      refine x_imul dX10_term5_23 ?_
      refine x_istore_n dX10_term5_24 (by decide) ?_
      refine x_goto 5 dX10_term5_25 ?_
      refine Ex.forget (L' := [some (.ref 42), some (.int (x * x2))]) ⟨rfl, rfl, trivial⟩ ?_
      exact ih _ _ _ _ _ _ _ _ (LR_emt q2) c3 k3 f3 (lp_v hn hg q.1 hc hK n2 n0 hz (by decide) hv v2 (jn_mu x x2).symm) (e3.symm.trans he)
    · rw [lp_no hq] at he
      refine x_aload_n dX10_term5_5 rfl ?_
      refine x_bipush 42 dX10_term5_6 ?_
      refine ii_X10_229 dX10_term5_8 (c_X10_sign q (by decide)) mw_o (by decide) (Nat.le_of_ble_eq_true rfl) ?_
      refine x_if_eq 28 dX10_term5_11 (fun _ => ?_) (fun hx => absurd (bi0.mpr (fun z => hq (qMu_iff.mpr z))) hx)
      refine x_iload_n dX10_term5_28 rfl ?_
      exact Ex.ret (v := some (.int _)) ⟨dX10_term5_29, _, rfl, by first | rfl | decide⟩ ⟨_, _, _, _, _, _, _, rfl, rfl, by rw [← he]; exact q, by rw [← he]; exact hv⟩
set_option maxRecDepth 100000 in
set_option maxHeartbeats 4000000 in
theorem c_X10_added5 {X : Nat × (Nat → Int32)} {S : CS} {tl : pc_W} {tx : (Nat → Int32)} {ts : (Nat → Int32)} {tc : Int32} {tp : (Nat → Int32)} {tn : Int32} {U : MU} {o : (Nat → Int32)} {to : Int32} {tw : Int64} {ba : Int32} {fa : Int32} {C : MC} {K : MK} {H : MH} {r n h t : Nat} {b : Nat → Int32} {s : PS} (hr : r < 6) (hn : n ≤ 160) (hb : ∀ i, i < n → tx (160 * r + i) = b i) (hbp : ∀ i, i < n → 0 ≤ b i) (q : LR b n s h to t tw ba fa) (hc : g_cz s ≤ g_pl s) (hK : g_op s = 5): Mt X 6 0 0 yX10_added5 cX10_added5 4 (some .int) [.ref 42] (cst S ++ (mw (tx, ts, tc, tp, tn) U (o, nI (160 * r), nI n, nI h, to, nI t, tw, (nI 5), ba, fa) C K H ++ tl)) (fun v w' => ∃ (x : Int32) (h' : Nat) (to' : Int32) (t' : Nat) (tw' : Int64) (ba' fa' : Int32), v = some (.int x) ∧ w' = cst S ++ (mw (tx, ts, tc, tp, tn) U (o, nI (160 * r), nI n, nI h', to', nI t', tw', (nI 5), ba', fa') C K H ++ tl) ∧ LR b n (lvM b n (lev b n 0) s) h' to' t' tw' ba' fa' ∧ VR o (g_cz s) (lvM b n (lev b n 0) s) x) := by
  refine Mt.of (by decide +kernel) (fun _ _ => Nat.le_of_ble_eq_true rfl) ?_
  show Ex X mX10_added5 _ _ _ _ _ _ _ _
  refine x_aload_n dX10_added5_0 rfl ?_
  refine iv_X10_243 dX10_added5_1 (c_X10_term5 hr hn hb hbp q hc hK) mw_o (by decide) (Nat.le_of_ble_eq_true rfl) (fun v_1 w_1 hw_1 => ?_)
  obtain ⟨x1, h1, to1, t1, tw1, ba1, fa1, rfl, rfl, q1, v1⟩ := hw_1
  refine x_istore_n dX10_added5_4 (by decide) ?_
  have hg := (lv_gf (b := b) hn 0 5 rfl).2.1
  have hc1 := (hg s q.1 hc hK).1.cz hc
  refine Ex.forget (L' := [some (.ref 42), some (.int x1), none, none]) ⟨rfl, rfl, trivial⟩ ?_
  suffices hL : ∀ (f : Nat) (s' : PS) (x : Int32) (h : Nat) (to : Int32) (t : Nat) (tw : Int64) (ba fa : Int32), LR b n s' h to t tw ba fa → g_cz s' ≤ g_pl s' → g_op s' = 5 → n ≤ f + g_pl s' → VR o (g_cz s) s' x → lpG b n qPl (lvT b n (lev b n 0)) f s' = lvM b n (lev b n 0) s → Ex X mX10_added5 6 (fun v w' => ∃ (x : Int32) (h' : Nat) (to' : Int32) (t' : Nat) (tw' : Int64) (ba' fa' : Int32), v = some (.int x) ∧ w' = cst S ++ (mw (tx, ts, tc, tp, tn) U (o, nI (160 * r), nI n, nI h', to', nI t', tw', (nI 5), ba', fa') C K H ++ tl) ∧ LR b n (lvM b n (lev b n 0) s) h' to' t' tw' ba' fa' ∧ VR o (g_cz s) (lvM b n (lev b n 0) s) x) 0 0 5 [some (.ref 42), some (.int x), none, none] [] (cst S ++ (mw (tx, ts, tc, tp, tn) U (o, nI (160 * r), nI n, nI h, to, nI t, tw, (nI 5), ba, fa) C K H ++ tl)) from hL 160 _ _ _ _ _ _ _ _ q1 hc1 ((hg s q.1 hc hK).1.2.1.trans hK) (by omega) v1 rfl
  intro f
  induction f with
  | zero =>
    intro s' x h to t tw ba fa q hc hK hf hv he
    have hq := lp_0 (q := qPl) rfl rfl q.1 hf
    have he : s' = _ := he
    refine x_aload_n dX10_added5_5 rfl ?_
    refine x_bipush 43 dX10_added5_6 ?_
    refine ii_X10_229 dX10_added5_8 (c_X10_sign q (by decide)) mw_o (by decide) (Nat.le_of_ble_eq_true rfl) ?_
    refine x_if_ne 23 dX10_added5_11 (fun hx => absurd (bi0.mpr (fun z => hq (qPl_iff.mpr (Or.inl z)))) hx) (fun _ => ?_)
    refine x_aload_n dX10_added5_14 rfl ?_
    refine x_bipush 45 dX10_added5_15 ?_
    refine ii_X10_229 dX10_added5_17 (c_X10_sign q (by decide)) mw_o (by decide) (Nat.le_of_ble_eq_true rfl) ?_
    refine x_if_eq 66 dX10_added5_20 (fun _ => ?_) (fun hx => absurd (bi0.mpr (fun z => hq (qPl_iff.mpr (Or.inr z)))) hx)
    refine x_iload_n dX10_added5_66 rfl ?_
    exact Ex.ret (v := some (.int _)) ⟨dX10_added5_67, _, rfl, by first | rfl | decide⟩ ⟨_, _, _, _, _, _, _, rfl, rfl, by rw [← he]; exact q, by rw [← he]; exact hv⟩
  | succ f ih =>
    intro s' x h to t tw ba fa q hc hK hf hv he
    by_cases hq : qPl (g_to s') = true
    · obtain ⟨⟨n2, n0⟩, ⟨c1, k1⟩, ⟨w3, c3, k3, f3⟩, e3⟩ := lp_go hn hg rfl rfl q.1 hc hK hf hq
      rcases qPl_iff.mp hq with hz | hz
      · skip
        refine x_aload_n dX10_added5_5 rfl ?_
        refine x_bipush 43 dX10_added5_6 ?_
        refine ii_X10_229 dX10_added5_8 (c_X10_sign q (by decide)) mw_o (by decide) (Nat.le_of_ble_eq_true rfl) ?_
        refine x_if_ne 23 dX10_added5_11 (fun _ => ?_) (fun hx => absurd hx (bi1.mpr hz))
        refine x_aload_n dX10_added5_23 rfl ?_
        refine mg_182 dX10_added5_24 ?_
        refine x_ldc2_w dX10_added5_27 kk_X10_246 ?_
        refine x_lcmp dX10_added5_30 ?_
        refine x_if_ne 38 dX10_added5_31 (fun hx => absurd ((lg_cmp_eq _ _).mpr ((LR_tw q (by rw [hz]; decide)).trans (by rw [hz]; decide))) hx) (fun _ => ?_)
        refine x_iconst 1 dX10_added5_34 ?_
        refine x_goto 39 dX10_added5_35 ?_
        refine x_istore_n dX10_added5_39 (by decide) ?_
        refine x_aload_n dX10_added5_40 rfl ?_
        refine iv_X10_204 dX10_added5_41 (c_X10_nextR hr hn hb hbp q n2) mw_o (by decide) (Nat.le_of_ble_eq_true rfl) (fun v_41 w_41 hw_41 => ?_)
        obtain ⟨h1, to1, t1, tw1, rfl, rfl, q1⟩ := hw_41
        refine x_aload_n dX10_added5_44 rfl ?_
        refine iv_X10_243 dX10_added5_45 (c_X10_term5 hr hn hb hbp q1 c1 k1) mw_o (by decide) (Nat.le_of_ble_eq_true rfl) (fun v_45 w_45 hw_45 => ?_)
        obtain ⟨x2, h2, to2, t2, tw2, ba2, fa2, rfl, rfl, q2, v2⟩ := hw_45
        refine x_istore_n dX10_added5_48 (by decide) ?_
        refine x_iload_n dX10_added5_49 rfl ?_
        refine x_if_eq 59 dX10_added5_50 (fun hx => absurd hx (by decide)) (fun _ => ?_)
        refine x_iload_n dX10_added5_53 rfl ?_
        refine x_iload_n dX10_added5_54 rfl ?_
        refine x_iadd dX10_added5_55 ?_
        refine x_goto 62 dX10_added5_56 ?_
        refine x_istore_n dX10_added5_62 (by decide) ?_
        refine x_goto 5 dX10_added5_63 ?_
        refine Ex.forget (L' := [some (.ref 42), some (.int (x + x2)), none, none]) ⟨rfl, rfl, trivial⟩ ?_
        exact ih _ _ _ _ _ _ _ _ (LR_emt q2) c3 k3 f3 (lp_v hn hg q.1 hc hK n2 n0 hz (by decide) hv v2 (jn_ad x x2).symm) (e3.symm.trans he)
      · skip
        refine x_aload_n dX10_added5_5 rfl ?_
        refine x_bipush 43 dX10_added5_6 ?_
        refine ii_X10_229 dX10_added5_8 (c_X10_sign q (by decide)) mw_o (by decide) (Nat.le_of_ble_eq_true rfl) ?_
        refine x_if_ne 23 dX10_added5_11 (fun hx => absurd (bi0.mpr (fun z => absurd (hz.symm.trans z) (by decide))) hx) (fun _ => ?_)
        refine x_aload_n dX10_added5_14 rfl ?_
        refine x_bipush 45 dX10_added5_15 ?_
        refine ii_X10_229 dX10_added5_17 (c_X10_sign q (by decide)) mw_o (by decide) (Nat.le_of_ble_eq_true rfl) ?_
        refine x_if_eq 66 dX10_added5_20 (fun hx => absurd hx (bi1.mpr hz)) (fun _ => ?_)
        refine x_aload_n dX10_added5_23 rfl ?_
        refine mg_182 dX10_added5_24 ?_
        refine x_ldc2_w dX10_added5_27 kk_X10_246 ?_
        refine x_lcmp dX10_added5_30 ?_
        refine x_if_ne 38 dX10_added5_31 (fun _ => ?_) (fun hx => absurd hx (fun z => absurd (((lg_cmp_eq _ _).mp z).symm.trans ((LR_tw q (by rw [hz]; decide)).trans (by rw [hz]))) (by decide)))
        refine x_iconst 0 dX10_added5_38 ?_
        refine x_istore_n dX10_added5_39 (by decide) ?_
        refine x_aload_n dX10_added5_40 rfl ?_
        refine iv_X10_204 dX10_added5_41 (c_X10_nextR hr hn hb hbp q n2) mw_o (by decide) (Nat.le_of_ble_eq_true rfl) (fun v_41 w_41 hw_41 => ?_)
        obtain ⟨h1, to1, t1, tw1, rfl, rfl, q1⟩ := hw_41
        refine x_aload_n dX10_added5_44 rfl ?_
        refine iv_X10_243 dX10_added5_45 (c_X10_term5 hr hn hb hbp q1 c1 k1) mw_o (by decide) (Nat.le_of_ble_eq_true rfl) (fun v_45 w_45 hw_45 => ?_)
        obtain ⟨x2, h2, to2, t2, tw2, ba2, fa2, rfl, rfl, q2, v2⟩ := hw_45
        refine x_istore_n dX10_added5_48 (by decide) ?_
        refine x_iload_n dX10_added5_49 rfl ?_
        refine x_if_eq 59 dX10_added5_50 (fun _ => ?_) (fun hx => absurd (rfl) hx)
        refine x_iload_n dX10_added5_59 rfl ?_
        refine x_iload_n dX10_added5_60 rfl ?_
        refine x_isub dX10_added5_61 ?_
        refine x_istore_n dX10_added5_62 (by decide) ?_
        refine x_goto 5 dX10_added5_63 ?_
        refine Ex.forget (L' := [some (.ref 42), some (.int (x - x2)), none, none]) ⟨rfl, rfl, trivial⟩ ?_
        exact ih _ _ _ _ _ _ _ _ (LR_emt q2) c3 k3 f3 (lp_v hn hg q.1 hc hK n2 n0 hz (by decide) hv v2 (jn_sb x x2).symm) (e3.symm.trans he)
    · rw [lp_no hq] at he
      refine x_aload_n dX10_added5_5 rfl ?_
      refine x_bipush 43 dX10_added5_6 ?_
      refine ii_X10_229 dX10_added5_8 (c_X10_sign q (by decide)) mw_o (by decide) (Nat.le_of_ble_eq_true rfl) ?_
      refine x_if_ne 23 dX10_added5_11 (fun hx => absurd (bi0.mpr (fun z => hq (qPl_iff.mpr (Or.inl z)))) hx) (fun _ => ?_)
      refine x_aload_n dX10_added5_14 rfl ?_
      refine x_bipush 45 dX10_added5_15 ?_
      refine ii_X10_229 dX10_added5_17 (c_X10_sign q (by decide)) mw_o (by decide) (Nat.le_of_ble_eq_true rfl) ?_
      refine x_if_eq 66 dX10_added5_20 (fun _ => ?_) (fun hx => absurd (bi0.mpr (fun z => hq (qPl_iff.mpr (Or.inr z)))) hx)
      refine x_iload_n dX10_added5_66 rfl ?_
      exact Ex.ret (v := some (.int _)) ⟨dX10_added5_67, _, rfl, by first | rfl | decide⟩ ⟨_, _, _, _, _, _, _, rfl, rfl, by rw [← he]; exact q, by rw [← he]; exact hv⟩
set_option maxRecDepth 100000 in
set_option maxHeartbeats 4000000 in
theorem c_X10_not5 {X : Nat × (Nat → Int32)} {S : CS} {tl : pc_W} {tx : (Nat → Int32)} {ts : (Nat → Int32)} {tc : Int32} {tp : (Nat → Int32)} {tn : Int32} {U : MU} {o : (Nat → Int32)} {to : Int32} {tw : Int64} {ba : Int32} {fa : Int32} {C : MC} {K : MK} {H : MH} {r n h t : Nat} {b : Nat → Int32} {s : PS} (hr : r < 6) (hn : n ≤ 160) (hb : ∀ i, i < n → tx (160 * r + i) = b i) (hbp : ∀ i, i < n → 0 ≤ b i) (q : LR b n s h to t tw ba fa) (hc : g_cz s ≤ g_pl s) (hK : g_op s = 5): Mt X 7 0 0 yX10_not5 cX10_not5 4 (some .int) [.ref 42] (cst S ++ (mw (tx, ts, tc, tp, tn) U (o, nI (160 * r), nI n, nI h, to, nI t, tw, (nI 5), ba, fa) C K H ++ tl)) (fun v w' => ∃ (x : Int32) (h' : Nat) (to' : Int32) (t' : Nat) (tw' : Int64) (ba' fa' : Int32), v = some (.int x) ∧ w' = cst S ++ (mw (tx, ts, tc, tp, tn) U (o, nI (160 * r), nI n, nI h', to', nI t', tw', (nI 5), ba', fa') C K H ++ tl) ∧ LR b n (lvN b n (lev b n 0) s) h' to' t' tw' ba' fa' ∧ VR o (g_cz s) (lvN b n (lev b n 0) s) x) := by
  refine Mt.of (by decide +kernel) (fun _ _ => Nat.le_of_ble_eq_true rfl) ?_
  show Ex X mX10_not5 _ _ _ _ _ _ _ _
  refine x_aload_n dX10_not5_0 rfl ?_
  refine x_bipush 110 dX10_not5_1 ?_
  refine x_bipush 111 dX10_not5_3 ?_
  refine x_bipush 116 dX10_not5_5 ?_
  refine x_iconst 0 dX10_not5_7 ?_
  refine x_iconst 0 dX10_not5_8 ?_
  refine x_iconst 0 dX10_not5_9 ?_
  refine x_iconst 0 dX10_not5_10 ?_
  refine x_iconst 0 dX10_not5_11 ?_
  refine ii_X10_207 dX10_not5_12 (c_X10_word (w := 211) hr hn hb q (by decide) (by decide) wl_211) mw_o (by decide) (Nat.le_of_ble_eq_true rfl) ?_
  refine x_if_eq 25 dX10_not5_15 (fun h_15 => ?_) (fun h_15 => ?_)
  · have hz : ¬ g_to s = 211 := bi0.mp h_15
    refine x_aload_n dX10_not5_25 rfl ?_
    refine iv_X10_248 dX10_not5_26 (c_X10_added5 hr hn hb hbp q hc hK) mw_o (by decide) (Nat.le_of_ble_eq_true rfl) (fun v_26 w_26 hw_26 => ?_)
    obtain ⟨x1, h1, to1, t1, tw1, ba1, fa1, rfl, rfl, q1, v1⟩ := hw_26
    refine x_istore_n dX10_not5_29 (by decide) ?_
    refine x_aload_n dX10_not5_30 rfl ?_
    refine x_bipush 60 dX10_not5_31 ?_
    refine ii_X10_229 dX10_not5_33 (c_X10_sign q1 (by decide)) mw_o (by decide) (Nat.le_of_ble_eq_true rfl) ?_
    have hg := (lv_gf (b := b) hn 0 5 rfl).2.2.1
    have hs1 := (hg s q.1 hc hK).1
    by_cases hzlt : g_to (lvM b n (lev b n 0) s) = 60
    · have n2 : ¬ g_to (lvM b n (lev b n 0) s) = 2 := by rw [hzlt]; decide
      have n0 : ¬ g_to (lvM b n (lev b n 0) s) = 0 := by rw [hzlt]; decide
      have ha := hs1.tr (adv_gd (b := b) hn hs1.1 n2 n0)
      have c2 := ha.cz hc
      have k2 := ha.2.1.trans hK
      refine x_if_ne 50 dX10_not5_36 (fun _ => ?_) (fun hx => absurd hx (bi1.mpr hzlt))
      refine x_aload_n dX10_not5_50 rfl ?_
      refine mg_182 dX10_not5_51 ?_
      refine x_ldc2_w dX10_not5_54 kk_X10_251 ?_
      refine x_lcmp dX10_not5_57 ?_
      refine x_if_ne 65 dX10_not5_58 (fun hx => absurd ((lg_cmp_eq _ _).mpr ((LR_tw q1 (by rw [hzlt]; decide)).trans (by rw [hzlt]; decide))) hx) (fun _ => ?_)
      refine x_iconst 1 dX10_not5_61 ?_
      refine x_goto 66 dX10_not5_62 ?_
      refine x_istore_n dX10_not5_66 (by decide) ?_
      refine x_aload_n dX10_not5_67 rfl ?_
      refine iv_X10_204 dX10_not5_68 (c_X10_nextR hr hn hb hbp q1 n2) mw_o (by decide) (Nat.le_of_ble_eq_true rfl) (fun v_68 w_68 hw_68 => ?_)
      obtain ⟨h2, to2, t2, tw2, rfl, rfl, q2⟩ := hw_68
      refine x_aload_n dX10_not5_71 rfl ?_
      refine iv_X10_248 dX10_not5_72 (c_X10_added5 hr hn hb hbp q2 (by omega) k2) mw_o (by decide) (Nat.le_of_ble_eq_true rfl) (fun v_72 w_72 hw_72 => ?_)
      obtain ⟨x3, h3, to3, t3, tw3, ba3, fa3, rfl, rfl, q3, v3⟩ := hw_72
      refine x_istore_n dX10_not5_75 (by decide) ?_
      refine x_iload_n dX10_not5_76 rfl ?_
      refine x_if_eq 88 dX10_not5_77 (fun hx => absurd hx (by decide)) (fun _ => ?_)
      refine x_iload_n dX10_not5_80 rfl ?_
      refine x_iload_n dX10_not5_81 rfl ?_
      refine x_icmp_ge 97 dX10_not5_82 (fun h_82 => ?_) (fun h_82 => ?_)
      · refine x_iconst 0 dX10_not5_97 ?_
        have zz := fin_cmp (v := 0) (k := 0) hn q.1 hc hK rfl hz (Or.inl hzlt) q3 v1 v3 (by rw [hzlt]; exact (bi_f (Int32.not_lt.mpr h_82)).symm)
        exact Ex.ret (v := some (.int _)) ⟨dX10_not5_98, _, rfl, by first | rfl | decide⟩ ⟨_, _, _, _, _, _, _, rfl, rfl, zz⟩
      · refine x_goto 93 dX10_not5_85 ?_
        refine x_iconst 1 dX10_not5_93 ?_
        refine x_goto 98 dX10_not5_94 ?_
        have zz := fin_cmp (v := 1) (k := 0) hn q.1 hc hK rfl hz (Or.inl hzlt) q3 v1 v3 (by rw [hzlt]; exact (bi_t (Int32.not_le.mp h_82)).symm)
        exact Ex.ret (v := some (.int _)) ⟨dX10_not5_98, _, rfl, by first | rfl | decide⟩ ⟨_, _, _, _, _, _, _, rfl, rfl, zz⟩
    by_cases hzeq : g_to (lvM b n (lev b n 0) s) = 61
    · have n2 : ¬ g_to (lvM b n (lev b n 0) s) = 2 := by rw [hzeq]; decide
      have n0 : ¬ g_to (lvM b n (lev b n 0) s) = 0 := by rw [hzeq]; decide
      have ha := hs1.tr (adv_gd (b := b) hn hs1.1 n2 n0)
      have c2 := ha.cz hc
      have k2 := ha.2.1.trans hK
      refine x_if_ne 50 dX10_not5_36 (fun hx => absurd (bi0.mpr hzlt) hx) (fun _ => ?_)
      refine x_aload_n dX10_not5_39 rfl ?_
      refine x_bipush 61 dX10_not5_40 ?_
      refine ii_X10_229 dX10_not5_42 (c_X10_sign q1 (by decide)) mw_o (by decide) (Nat.le_of_ble_eq_true rfl) ?_
      refine x_if_ne 50 dX10_not5_45 (fun _ => ?_) (fun hx => absurd hx (bi1.mpr hzeq))
      refine x_aload_n dX10_not5_50 rfl ?_
      refine mg_182 dX10_not5_51 ?_
      refine x_ldc2_w dX10_not5_54 kk_X10_251 ?_
      refine x_lcmp dX10_not5_57 ?_
      refine x_if_ne 65 dX10_not5_58 (fun _ => ?_) (fun hx => absurd hx (fun z => absurd (((lg_cmp_eq _ _).mp z).symm.trans ((LR_tw q1 (by rw [hzeq]; decide)).trans (by rw [hzeq]))) (by decide)))
      refine x_iconst 0 dX10_not5_65 ?_
      refine x_istore_n dX10_not5_66 (by decide) ?_
      refine x_aload_n dX10_not5_67 rfl ?_
      refine iv_X10_204 dX10_not5_68 (c_X10_nextR hr hn hb hbp q1 n2) mw_o (by decide) (Nat.le_of_ble_eq_true rfl) (fun v_68 w_68 hw_68 => ?_)
      obtain ⟨h2, to2, t2, tw2, rfl, rfl, q2⟩ := hw_68
      refine x_aload_n dX10_not5_71 rfl ?_
      refine iv_X10_248 dX10_not5_72 (c_X10_added5 hr hn hb hbp q2 (by omega) k2) mw_o (by decide) (Nat.le_of_ble_eq_true rfl) (fun v_72 w_72 hw_72 => ?_)
      obtain ⟨x3, h3, to3, t3, tw3, ba3, fa3, rfl, rfl, q3, v3⟩ := hw_72
      refine x_istore_n dX10_not5_75 (by decide) ?_
      refine x_iload_n dX10_not5_76 rfl ?_
      refine x_if_eq 88 dX10_not5_77 (fun _ => ?_) (fun hx => absurd (rfl) hx)
      refine x_iload_n dX10_not5_88 rfl ?_
      refine x_iload_n dX10_not5_89 rfl ?_
      refine x_icmp_ne 97 dX10_not5_90 (fun h_90 => ?_) (fun h_90 => ?_)
      · refine x_iconst 0 dX10_not5_97 ?_
        have zz := fin_cmp (v := 0) (k := 0) hn q.1 hc hK rfl hz (Or.inr hzeq) q3 v1 v3 (by rw [hzeq]; exact (bi_f h_90).symm)
        exact Ex.ret (v := some (.int _)) ⟨dX10_not5_98, _, rfl, by first | rfl | decide⟩ ⟨_, _, _, _, _, _, _, rfl, rfl, zz⟩
      · refine x_iconst 1 dX10_not5_93 ?_
        refine x_goto 98 dX10_not5_94 ?_
        have zz := fin_cmp (v := 1) (k := 0) hn q.1 hc hK rfl hz (Or.inr hzeq) q3 v1 v3 (by rw [hzeq]; exact (bi_t h_90).symm)
        exact Ex.ret (v := some (.int _)) ⟨dX10_not5_98, _, rfl, by first | rfl | decide⟩ ⟨_, _, _, _, _, _, _, rfl, rfl, zz⟩
    refine x_if_ne 50 dX10_not5_36 (fun hx => absurd (bi0.mpr hzlt) hx) (fun _ => ?_)
    refine x_aload_n dX10_not5_39 rfl ?_
    refine x_bipush 61 dX10_not5_40 ?_
    refine ii_X10_229 dX10_not5_42 (c_X10_sign q1 (by decide)) mw_o (by decide) (Nat.le_of_ble_eq_true rfl) ?_
    refine x_if_ne 50 dX10_not5_45 (fun hx => absurd (bi0.mpr hzeq) hx) (fun _ => ?_)
    refine x_iload_n dX10_not5_48 rfl ?_
    have zz := fin_sum (k := 0) hz hzlt hzeq q1 v1
    exact Ex.ret (v := some (.int _)) ⟨dX10_not5_49, _, rfl, by first | rfl | decide⟩ ⟨_, _, _, _, _, _, _, rfl, rfl, zz⟩
  have hz : g_to s = 211 := bi1.mp h_15
  refine x_aload_n dX10_not5_18 rfl ?_
  refine iv_X10_232 dX10_not5_19 (c_X10_opens_n hn q) mw_o (by decide) (Nat.le_of_ble_eq_true rfl) (fun v_19 w_19 hw_19 => ?_)
  obtain ⟨fa1, rfl, rfl, q1⟩ := hw_19
  refine x_pop dX10_not5_22 ?_
  refine x_iconst 0 dX10_not5_23 ?_
  have zz := fin_id (f := lvN b n (lev b n 0)) (nm := o) (lvN_full hz (by rw [hK]; decide)) q1 (VR_rfu (x := 0) hn q.1)
  exact Ex.ret (v := some (.int _)) ⟨dX10_not5_24, _, rfl, by first | rfl | decide⟩ ⟨_, _, _, _, _, _, _, rfl, rfl, zz⟩
set_option maxRecDepth 100000 in
set_option maxHeartbeats 4000000 in
theorem c_X10_both5 {X : Nat × (Nat → Int32)} {S : CS} {tl : pc_W} {tx : (Nat → Int32)} {ts : (Nat → Int32)} {tc : Int32} {tp : (Nat → Int32)} {tn : Int32} {U : MU} {o : (Nat → Int32)} {to : Int32} {tw : Int64} {ba : Int32} {fa : Int32} {C : MC} {K : MK} {H : MH} {r n h t : Nat} {b : Nat → Int32} {s : PS} (hr : r < 6) (hn : n ≤ 160) (hb : ∀ i, i < n → tx (160 * r + i) = b i) (hbp : ∀ i, i < n → 0 ≤ b i) (q : LR b n s h to t tw ba fa) (hc : g_cz s ≤ g_pl s) (hK : g_op s = 5): Mt X 8 0 0 yX10_both5 cX10_both5 3 (some .int) [.ref 42] (cst S ++ (mw (tx, ts, tc, tp, tn) U (o, nI (160 * r), nI n, nI h, to, nI t, tw, (nI 5), ba, fa) C K H ++ tl)) (fun v w' => ∃ (x : Int32) (h' : Nat) (to' : Int32) (t' : Nat) (tw' : Int64) (ba' fa' : Int32), v = some (.int x) ∧ w' = cst S ++ (mw (tx, ts, tc, tp, tn) U (o, nI (160 * r), nI n, nI h', to', nI t', tw', (nI 5), ba', fa') C K H ++ tl) ∧ LR b n (lvJ b n (lev b n 0) s) h' to' t' tw' ba' fa' ∧ VR o (g_cz s) (lvJ b n (lev b n 0) s) x) := by
  refine Mt.of (by decide +kernel) (fun _ _ => Nat.le_of_ble_eq_true rfl) ?_
  show Ex X mX10_both5 _ _ _ _ _ _ _ _
  refine x_aload_n dX10_both5_0 rfl ?_
  refine iv_X10_253 dX10_both5_1 (c_X10_not5 hr hn hb hbp q hc hK) mw_o (by decide) (Nat.le_of_ble_eq_true rfl) (fun v_1 w_1 hw_1 => ?_)
  obtain ⟨x1, h1, to1, t1, tw1, ba1, fa1, rfl, rfl, q1, v1⟩ := hw_1
  refine x_istore_n dX10_both5_4 (by decide) ?_
  have hg := (lv_gf (b := b) hn 0 5 rfl).2.2.2.1
  have hc1 := (hg s q.1 hc hK).1.cz hc
  refine Ex.forget (L' := [some (.ref 42), some (.int x1), none]) ⟨rfl, rfl, trivial⟩ ?_
  suffices hL : ∀ (f : Nat) (s' : PS) (x : Int32) (h : Nat) (to : Int32) (t : Nat) (tw : Int64) (ba fa : Int32), LR b n s' h to t tw ba fa → g_cz s' ≤ g_pl s' → g_op s' = 5 → n ≤ f + g_pl s' → VR o (g_cz s) s' x → lpG b n qAn (lvN b n (lev b n 0)) f s' = lvJ b n (lev b n 0) s → Ex X mX10_both5 8 (fun v w' => ∃ (x : Int32) (h' : Nat) (to' : Int32) (t' : Nat) (tw' : Int64) (ba' fa' : Int32), v = some (.int x) ∧ w' = cst S ++ (mw (tx, ts, tc, tp, tn) U (o, nI (160 * r), nI n, nI h', to', nI t', tw', (nI 5), ba', fa') C K H ++ tl) ∧ LR b n (lvJ b n (lev b n 0) s) h' to' t' tw' ba' fa' ∧ VR o (g_cz s) (lvJ b n (lev b n 0) s) x) 0 0 5 [some (.ref 42), some (.int x), none] [] (cst S ++ (mw (tx, ts, tc, tp, tn) U (o, nI (160 * r), nI n, nI h, to, nI t, tw, (nI 5), ba, fa) C K H ++ tl)) from hL 160 _ _ _ _ _ _ _ _ q1 hc1 ((hg s q.1 hc hK).1.2.1.trans hK) (by omega) v1 rfl
  intro f
  induction f with
  | zero =>
    intro s' x h to t tw ba fa q hc hK hf hv he
    have hq := lp_0 (q := qAn) rfl rfl q.1 hf
    have he : s' = _ := he
    refine x_aload_n dX10_both5_5 rfl ?_
    refine x_bipush 97 dX10_both5_6 ?_
    refine x_bipush 110 dX10_both5_8 ?_
    refine x_bipush 100 dX10_both5_10 ?_
    refine x_iconst 0 dX10_both5_12 ?_
    refine x_iconst 0 dX10_both5_13 ?_
    refine x_iconst 0 dX10_both5_14 ?_
    refine x_iconst 0 dX10_both5_15 ?_
    refine x_iconst 0 dX10_both5_16 ?_
    refine ii_X10_207 dX10_both5_17 (c_X10_word (w := 210) hr hn hb q (by decide) (by decide) wl_210) mw_o (by decide) (Nat.le_of_ble_eq_true rfl) ?_
    refine x_if_eq 49 dX10_both5_20 (fun _ => ?_) (fun hx => absurd (bi0.mpr (fun z => hq (qAn_iff.mpr z))) hx)
    refine x_iload_n dX10_both5_49 rfl ?_
    exact Ex.ret (v := some (.int _)) ⟨dX10_both5_50, _, rfl, by first | rfl | decide⟩ ⟨_, _, _, _, _, _, _, rfl, rfl, by rw [← he]; exact q, by rw [← he]; exact hv⟩
  | succ f ih =>
    intro s' x h to t tw ba fa q hc hK hf hv he
    by_cases hq : qAn (g_to s') = true
    · obtain ⟨⟨n2, n0⟩, ⟨c1, k1⟩, ⟨w3, c3, k3, f3⟩, e3⟩ := lp_go hn hg rfl rfl q.1 hc hK hf hq
      have hz := qAn_iff.mp hq
      refine x_aload_n dX10_both5_5 rfl ?_
      refine x_bipush 97 dX10_both5_6 ?_
      refine x_bipush 110 dX10_both5_8 ?_
      refine x_bipush 100 dX10_both5_10 ?_
      refine x_iconst 0 dX10_both5_12 ?_
      refine x_iconst 0 dX10_both5_13 ?_
      refine x_iconst 0 dX10_both5_14 ?_
      refine x_iconst 0 dX10_both5_15 ?_
      refine x_iconst 0 dX10_both5_16 ?_
      refine ii_X10_207 dX10_both5_17 (c_X10_word (w := 210) hr hn hb q (by decide) (by decide) wl_210) mw_o (by decide) (Nat.le_of_ble_eq_true rfl) ?_
      refine x_if_eq 49 dX10_both5_20 (fun hx => absurd hx (bi1.mpr hz)) (fun _ => ?_)
      refine x_aload_n dX10_both5_23 rfl ?_
      refine iv_X10_204 dX10_both5_24 (c_X10_nextR hr hn hb hbp q n2) mw_o (by decide) (Nat.le_of_ble_eq_true rfl) (fun v_24 w_24 hw_24 => ?_)
      obtain ⟨h1, to1, t1, tw1, rfl, rfl, q1⟩ := hw_24
      refine x_aload_n dX10_both5_27 rfl ?_
      refine iv_X10_253 dX10_both5_28 (c_X10_not5 hr hn hb hbp q1 c1 k1) mw_o (by decide) (Nat.le_of_ble_eq_true rfl) (fun v_28 w_28 hw_28 => ?_)
      obtain ⟨x2, h2, to2, t2, tw2, ba2, fa2, rfl, rfl, q2, v2⟩ := hw_28
      refine x_istore_n dX10_both5_31 (by decide) ?_
      refine x_iload_n dX10_both5_32 rfl ?_
      refine x_if_eq 44 dX10_both5_33 (fun h_33 => ?_) (fun h_33 => ?_)
      · refine x_iconst 0 dX10_both5_44 ?_
        refine x_istore_n dX10_both5_45 (by decide) ?_
        refine x_goto 5 dX10_both5_46 ?_
        refine Ex.forget (L' := [some (.ref 42), some (.int 0), none]) ⟨rfl, rfl, trivial⟩ ?_
        exact ih _ _ _ _ _ _ _ _ (LR_emt q2) c3 k3 f3 (lp_v hn hg q.1 hc hK n2 n0 hz (by decide) hv v2 (show (0 : Int32) = jn 210 x x2 from (bi_f (fun z => z.1 h_33)).symm)) (e3.symm.trans he)
      · refine x_iload_n dX10_both5_36 rfl ?_
        refine x_if_eq 44 dX10_both5_37 (fun h_37 => ?_) (fun h_37 => ?_)
        · refine x_iconst 0 dX10_both5_44 ?_
          refine x_istore_n dX10_both5_45 (by decide) ?_
          refine x_goto 5 dX10_both5_46 ?_
          refine Ex.forget (L' := [some (.ref 42), some (.int 0), none]) ⟨rfl, rfl, trivial⟩ ?_
          exact ih _ _ _ _ _ _ _ _ (LR_emt q2) c3 k3 f3 (lp_v hn hg q.1 hc hK n2 n0 hz (by decide) hv v2 (show (0 : Int32) = jn 210 x x2 from (bi_f (fun z => z.2 h_37)).symm)) (e3.symm.trans he)
        · refine x_iconst 1 dX10_both5_40 ?_
          refine x_goto 45 dX10_both5_41 ?_
          refine x_istore_n dX10_both5_45 (by decide) ?_
          refine x_goto 5 dX10_both5_46 ?_
          refine Ex.forget (L' := [some (.ref 42), some (.int 1), none]) ⟨rfl, rfl, trivial⟩ ?_
          exact ih _ _ _ _ _ _ _ _ (LR_emt q2) c3 k3 f3 (lp_v hn hg q.1 hc hK n2 n0 hz (by decide) hv v2 (show (1 : Int32) = jn 210 x x2 from (bi_t ⟨h_33, h_37⟩).symm)) (e3.symm.trans he)
    · rw [lp_no hq] at he
      refine x_aload_n dX10_both5_5 rfl ?_
      refine x_bipush 97 dX10_both5_6 ?_
      refine x_bipush 110 dX10_both5_8 ?_
      refine x_bipush 100 dX10_both5_10 ?_
      refine x_iconst 0 dX10_both5_12 ?_
      refine x_iconst 0 dX10_both5_13 ?_
      refine x_iconst 0 dX10_both5_14 ?_
      refine x_iconst 0 dX10_both5_15 ?_
      refine x_iconst 0 dX10_both5_16 ?_
      refine ii_X10_207 dX10_both5_17 (c_X10_word (w := 210) hr hn hb q (by decide) (by decide) wl_210) mw_o (by decide) (Nat.le_of_ble_eq_true rfl) ?_
      refine x_if_eq 49 dX10_both5_20 (fun _ => ?_) (fun hx => absurd (bi0.mpr (fun z => hq (qAn_iff.mpr z))) hx)
      refine x_iload_n dX10_both5_49 rfl ?_
      exact Ex.ret (v := some (.int _)) ⟨dX10_both5_50, _, rfl, by first | rfl | decide⟩ ⟨_, _, _, _, _, _, _, rfl, rfl, by rw [← he]; exact q, by rw [← he]; exact hv⟩
set_option maxRecDepth 100000 in
set_option maxHeartbeats 4000000 in
theorem c_X10_either5 {X : Nat × (Nat → Int32)} {S : CS} {tl : pc_W} {tx : (Nat → Int32)} {ts : (Nat → Int32)} {tc : Int32} {tp : (Nat → Int32)} {tn : Int32} {U : MU} {o : (Nat → Int32)} {to : Int32} {tw : Int64} {ba : Int32} {fa : Int32} {C : MC} {K : MK} {H : MH} {r n h t : Nat} {b : Nat → Int32} {s : PS} (hr : r < 6) (hn : n ≤ 160) (hb : ∀ i, i < n → tx (160 * r + i) = b i) (hbp : ∀ i, i < n → 0 ≤ b i) (q : LR b n s h to t tw ba fa) (hc : g_cz s ≤ g_pl s) (hK : g_op s = 5): Mt X 9 0 0 yX10_either5 cX10_either5 3 (some .int) [.ref 42] (cst S ++ (mw (tx, ts, tc, tp, tn) U (o, nI (160 * r), nI n, nI h, to, nI t, tw, (nI 5), ba, fa) C K H ++ tl)) (fun v w' => ∃ (x : Int32) (h' : Nat) (to' : Int32) (t' : Nat) (tw' : Int64) (ba' fa' : Int32), v = some (.int x) ∧ w' = cst S ++ (mw (tx, ts, tc, tp, tn) U (o, nI (160 * r), nI n, nI h', to', nI t', tw', (nI 5), ba', fa') C K H ++ tl) ∧ LR b n (lvE b n (lev b n 0) s) h' to' t' tw' ba' fa' ∧ VR o (g_cz s) (lvE b n (lev b n 0) s) x) := by
  refine Mt.of (by decide +kernel) (fun _ _ => Nat.le_of_ble_eq_true rfl) ?_
  show Ex X mX10_either5 _ _ _ _ _ _ _ _
  refine x_aload_n dX10_either5_0 rfl ?_
  refine iv_X10_256 dX10_either5_1 (c_X10_both5 hr hn hb hbp q hc hK) mw_o (by decide) (Nat.le_of_ble_eq_true rfl) (fun v_1 w_1 hw_1 => ?_)
  obtain ⟨x1, h1, to1, t1, tw1, ba1, fa1, rfl, rfl, q1, v1⟩ := hw_1
  refine x_istore_n dX10_either5_4 (by decide) ?_
  have hg := (lv_gf (b := b) hn 0 5 rfl).2.2.2.2.1
  have hc1 := (hg s q.1 hc hK).1.cz hc
  refine Ex.forget (L' := [some (.ref 42), some (.int x1), none]) ⟨rfl, rfl, trivial⟩ ?_
  suffices hL : ∀ (f : Nat) (s' : PS) (x : Int32) (h : Nat) (to : Int32) (t : Nat) (tw : Int64) (ba fa : Int32), LR b n s' h to t tw ba fa → g_cz s' ≤ g_pl s' → g_op s' = 5 → n ≤ f + g_pl s' → VR o (g_cz s) s' x → lpG b n qOr (lvJ b n (lev b n 0)) f s' = lvE b n (lev b n 0) s → Ex X mX10_either5 9 (fun v w' => ∃ (x : Int32) (h' : Nat) (to' : Int32) (t' : Nat) (tw' : Int64) (ba' fa' : Int32), v = some (.int x) ∧ w' = cst S ++ (mw (tx, ts, tc, tp, tn) U (o, nI (160 * r), nI n, nI h', to', nI t', tw', (nI 5), ba', fa') C K H ++ tl) ∧ LR b n (lvE b n (lev b n 0) s) h' to' t' tw' ba' fa' ∧ VR o (g_cz s) (lvE b n (lev b n 0) s) x) 0 0 5 [some (.ref 42), some (.int x), none] [] (cst S ++ (mw (tx, ts, tc, tp, tn) U (o, nI (160 * r), nI n, nI h, to, nI t, tw, (nI 5), ba, fa) C K H ++ tl)) from hL 160 _ _ _ _ _ _ _ _ q1 hc1 ((hg s q.1 hc hK).1.2.1.trans hK) (by omega) v1 rfl
  intro f
  induction f with
  | zero =>
    intro s' x h to t tw ba fa q hc hK hf hv he
    have hq := lp_0 (q := qOr) rfl rfl q.1 hf
    have he : s' = _ := he
    refine x_aload_n dX10_either5_5 rfl ?_
    refine x_bipush 111 dX10_either5_6 ?_
    refine x_bipush 114 dX10_either5_8 ?_
    refine x_iconst 0 dX10_either5_10 ?_
    refine x_iconst 0 dX10_either5_11 ?_
    refine x_iconst 0 dX10_either5_12 ?_
    refine x_iconst 0 dX10_either5_13 ?_
    refine x_iconst 0 dX10_either5_14 ?_
    refine x_iconst 0 dX10_either5_15 ?_
    refine ii_X10_207 dX10_either5_16 (c_X10_word (w := 209) hr hn hb q (by decide) (by decide) wl_209) mw_o (by decide) (Nat.le_of_ble_eq_true rfl) ?_
    refine x_if_eq 48 dX10_either5_19 (fun _ => ?_) (fun hx => absurd (bi0.mpr (fun z => hq (qOr_iff.mpr z))) hx)
    refine x_iload_n dX10_either5_48 rfl ?_
    exact Ex.ret (v := some (.int _)) ⟨dX10_either5_49, _, rfl, by first | rfl | decide⟩ ⟨_, _, _, _, _, _, _, rfl, rfl, by rw [← he]; exact q, by rw [← he]; exact hv⟩
  | succ f ih =>
    intro s' x h to t tw ba fa q hc hK hf hv he
    by_cases hq : qOr (g_to s') = true
    · obtain ⟨⟨n2, n0⟩, ⟨c1, k1⟩, ⟨w3, c3, k3, f3⟩, e3⟩ := lp_go hn hg rfl rfl q.1 hc hK hf hq
      have hz := qOr_iff.mp hq
      refine x_aload_n dX10_either5_5 rfl ?_
      refine x_bipush 111 dX10_either5_6 ?_
      refine x_bipush 114 dX10_either5_8 ?_
      refine x_iconst 0 dX10_either5_10 ?_
      refine x_iconst 0 dX10_either5_11 ?_
      refine x_iconst 0 dX10_either5_12 ?_
      refine x_iconst 0 dX10_either5_13 ?_
      refine x_iconst 0 dX10_either5_14 ?_
      refine x_iconst 0 dX10_either5_15 ?_
      refine ii_X10_207 dX10_either5_16 (c_X10_word (w := 209) hr hn hb q (by decide) (by decide) wl_209) mw_o (by decide) (Nat.le_of_ble_eq_true rfl) ?_
      refine x_if_eq 48 dX10_either5_19 (fun hx => absurd hx (bi1.mpr hz)) (fun _ => ?_)
      refine x_aload_n dX10_either5_22 rfl ?_
      refine iv_X10_204 dX10_either5_23 (c_X10_nextR hr hn hb hbp q n2) mw_o (by decide) (Nat.le_of_ble_eq_true rfl) (fun v_23 w_23 hw_23 => ?_)
      obtain ⟨h1, to1, t1, tw1, rfl, rfl, q1⟩ := hw_23
      refine x_aload_n dX10_either5_26 rfl ?_
      refine iv_X10_256 dX10_either5_27 (c_X10_both5 hr hn hb hbp q1 c1 k1) mw_o (by decide) (Nat.le_of_ble_eq_true rfl) (fun v_27 w_27 hw_27 => ?_)
      obtain ⟨x2, h2, to2, t2, tw2, ba2, fa2, rfl, rfl, q2, v2⟩ := hw_27
      refine x_istore_n dX10_either5_30 (by decide) ?_
      refine x_iload_n dX10_either5_31 rfl ?_
      refine x_if_ne 39 dX10_either5_32 (fun h_32 => ?_) (fun h_32 => ?_)
      · refine x_iconst 1 dX10_either5_39 ?_
        refine x_goto 44 dX10_either5_40 ?_
        refine x_istore_n dX10_either5_44 (by decide) ?_
        refine x_goto 5 dX10_either5_45 ?_
        refine Ex.forget (L' := [some (.ref 42), some (.int 1), none]) ⟨rfl, rfl, trivial⟩ ?_
        exact ih _ _ _ _ _ _ _ _ (LR_emt q2) c3 k3 f3 (lp_v hn hg q.1 hc hK n2 n0 hz (by decide) hv v2 (show (1 : Int32) = jn 209 x x2 from (bi_t (Or.inl h_32)).symm)) (e3.symm.trans he)
      · refine x_iload_n dX10_either5_35 rfl ?_
        refine x_if_eq 43 dX10_either5_36 (fun h_36 => ?_) (fun h_36 => ?_)
        · refine x_iconst 0 dX10_either5_43 ?_
          refine x_istore_n dX10_either5_44 (by decide) ?_
          refine x_goto 5 dX10_either5_45 ?_
          refine Ex.forget (L' := [some (.ref 42), some (.int 0), none]) ⟨rfl, rfl, trivial⟩ ?_
          exact ih _ _ _ _ _ _ _ _ (LR_emt q2) c3 k3 f3 (lp_v hn hg q.1 hc hK n2 n0 hz (by decide) hv v2 (show (0 : Int32) = jn 209 x x2 from (bi_f (fun z => z.elim (fun y => y h_32) (fun y => y h_36))).symm)) (e3.symm.trans he)
        · refine x_iconst 1 dX10_either5_39 ?_
          refine x_goto 44 dX10_either5_40 ?_
          refine x_istore_n dX10_either5_44 (by decide) ?_
          refine x_goto 5 dX10_either5_45 ?_
          refine Ex.forget (L' := [some (.ref 42), some (.int 1), none]) ⟨rfl, rfl, trivial⟩ ?_
          exact ih _ _ _ _ _ _ _ _ (LR_emt q2) c3 k3 f3 (lp_v hn hg q.1 hc hK n2 n0 hz (by decide) hv v2 (show (1 : Int32) = jn 209 x x2 from (bi_t (Or.inr h_36)).symm)) (e3.symm.trans he)
    · rw [lp_no hq] at he
      refine x_aload_n dX10_either5_5 rfl ?_
      refine x_bipush 111 dX10_either5_6 ?_
      refine x_bipush 114 dX10_either5_8 ?_
      refine x_iconst 0 dX10_either5_10 ?_
      refine x_iconst 0 dX10_either5_11 ?_
      refine x_iconst 0 dX10_either5_12 ?_
      refine x_iconst 0 dX10_either5_13 ?_
      refine x_iconst 0 dX10_either5_14 ?_
      refine x_iconst 0 dX10_either5_15 ?_
      refine ii_X10_207 dX10_either5_16 (c_X10_word (w := 209) hr hn hb q (by decide) (by decide) wl_209) mw_o (by decide) (Nat.le_of_ble_eq_true rfl) ?_
      refine x_if_eq 48 dX10_either5_19 (fun _ => ?_) (fun hx => absurd (bi0.mpr (fun z => hq (qOr_iff.mpr z))) hx)
      refine x_iload_n dX10_either5_48 rfl ?_
      exact Ex.ret (v := some (.int _)) ⟨dX10_either5_49, _, rfl, by first | rfl | decide⟩ ⟨_, _, _, _, _, _, _, rfl, rfl, by rw [← he]; exact q, by rw [← he]; exact hv⟩
