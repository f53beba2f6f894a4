theorem wl_200 : ∀ k, k < 8 → (strB (200 - 199)).getD k 0 = [119, 101, 97, 116, 104, 101, 114, 0].getD k 0 := by decide +kernel
theorem wl_201 : ∀ k, k < 8 → (strB (201 - 199)).getD k 0 = [104, 111, 117, 114, 0, 0, 0, 0].getD k 0 := by decide +kernel
theorem wl_202 : ∀ k, k < 8 → (strB (202 - 199)).getD k 0 = [121, 101, 97, 114, 115, 0, 0, 0].getD k 0 := by decide +kernel
theorem wl_203 : ∀ k, k < 8 → (strB (203 - 199)).getD k 0 = [110, 117, 109, 98, 101, 114, 0, 0].getD k 0 := by decide +kernel
theorem wl_204 : ∀ k, k < 8 → (strB (204 - 199)).getD k 0 = [109, 101, 110, 100, 101, 100, 0, 0].getD k 0 := by decide +kernel
theorem wl_205 : ∀ k, k < 8 → (strB (205 - 199)).getD k 0 = [108, 97, 115, 116, 0, 0, 0, 0].getD k 0 := by decide +kernel
theorem wl_206 : ∀ k, k < 8 → (strB (206 - 199)).getD k 0 = [116, 104, 105, 110, 107, 115, 0, 0].getD k 0 := by decide +kernel
theorem wl_207 : ∀ k, k < 8 → (strB (207 - 199)).getD k 0 = [109, 101, 110, 100, 115, 0, 0, 0].getD k 0 := by decide +kernel
theorem wl_208 : ∀ k, k < 8 → (strB (208 - 199)).getD k 0 = [99, 108, 97, 105, 109, 115, 0, 0].getD k 0 := by decide +kernel
theorem wl_209 : ∀ k, k < 8 → (strB (209 - 199)).getD k 0 = [111, 114, 0, 0, 0, 0, 0, 0].getD k 0 := by decide +kernel
theorem wl_210 : ∀ k, k < 8 → (strB (210 - 199)).getD k 0 = [97, 110, 100, 0, 0, 0, 0, 0].getD k 0 := by decide +kernel
theorem wl_211 : ∀ k, k < 8 → (strB (211 - 199)).getD k 0 = [110, 111, 116, 0, 0, 0, 0, 0].getD k 0 := by decide +kernel
theorem c_X10_word {X : Nat × (Nat → Int32)} {S : CS} {tl : pc_W} {tx : (Nat → Int32)} {ts : (Nat → Int32)} {tc : Int32} {tp : (Nat → Int32)} {tn : Int32} {U : MU} {o : (Nat → Int32)} {to : Int32} {tw : Int64} {op : Int32} {ba : Int32} {fa : Int32} {C : MC} {K : MK} {H : MH} {r n h t : Nat} {b : Nat → Int32} {s : PS} {w : Nat} {a0 a1 a2 a3 a4 a5 a6 a7 : Int32} (hr : r < 6) (hn : n ≤ 160) (hb : ∀ i, i < n → tx (160 * r + i) = b i) (q : LR b n s h to t tw ba fa) (h1 : w < 212) (h2 : 200 ≤ w) (hl : ∀ k, k < 8 → (strB (w - 199)).getD k 0 = [a0, a1, a2, a3, a4, a5, a6, a7].getD k 0) : Mt X 2 0 0 yX10_isWord cX10_isWord 9 (some .boolean) [.ref 42, .int a0, .int a1, .int a2, .int a3, .int a4, .int a5, .int a6, .int a7] (cst S ++ (mw (tx, ts, tc, tp, tn) U (o, nI (160 * r), nI n, nI h, to, nI t, tw, op, ba, fa) C K H ++ tl)) (RI (bi (g_to s = nI w)) (cst S ++ (mw (tx, ts, tc, tp, tn) U (o, nI (160 * r), nI n, nI h, to, nI t, tw, op, ba, fa) C K H ++ tl))) := by
  rw [← bi_cong (LR_wd q h1 h2 hl)]
  exact c_X10_isWord hr hn hb q.2.1 q.2.2.1
theorem c_X10_sign {X : Nat × (Nat → Int32)} {S : CS} {tl : pc_W} {tx : (Nat → Int32)} {ts : (Nat → Int32)} {tc : Int32} {tp : (Nat → Int32)} {tn : Int32} {U : MU} {o : (Nat → Int32)} {to : Int32} {tw : Int64} {op : Int32} {ba : Int32} {fa : Int32} {C : MC} {K : MK} {H : MH} {r n h t : Nat} {b : Nat → Int32} {s : PS} {c : Int32} (q : LR b n s h to t tw ba fa) (hc : qSn c = true) : Mt X 0 0 0 yX10_isSign cX10_isSign 2 (some .boolean) [.ref 42, .int c] (cst S ++ (mw (tx, ts, tc, tp, tn) U (o, nI (160 * r), nI n, nI h, to, nI t, tw, op, ba, fa) C K H ++ tl)) (RI (bi (g_to s = c)) (cst S ++ (mw (tx, ts, tc, tp, tn) U (o, nI (160 * r), nI n, nI h, to, nI t, tw, op, ba, fa) C K H ++ tl))) := by
  rw [← bi_cong (LR_sign q hc)]
  exact c_X10_isSign
theorem c_X10_failR {X : Nat × (Nat → Int32)} {S : CS} {tl : pc_W} {tx : (Nat → Int32)} {ts : (Nat → Int32)} {tc : Int32} {tp : (Nat → Int32)} {tn : Int32} {U : MU} {o : (Nat → Int32)} {to : Int32} {tw : Int64} {op : Int32} {ba : Int32} {fa : Int32} {C : MC} {K : MK} {H : MH} {r n h t : Nat} {b : Nat → Int32} {s : PS} (hn : n ≤ 160) (q : LR b n s h to t tw ba fa) : Mt X 0 0 0 yX10_fail cX10_fail 1 none [.ref 42] (cst S ++ (mw (tx, ts, tc, tp, tn) U (o, nI (160 * r), nI n, nI h, to, nI t, tw, op, ba, fa) C K H ++ tl)) (fun v w' => ∃ fa', v = none ∧ w' = cst S ++ (mw (tx, ts, tc, tp, tn) U (o, nI (160 * r), nI n, nI h, to, nI t, tw, op, 1, fa') C K H ++ tl) ∧ LR b n (rfu s) h to t tw 1 fa') :=
  (c_X10_fail (LR_ba q)).weaken (fun v w' hh => ⟨_, hh.1, hh.2, LR_fail hn q⟩)
theorem c_X10_nextR {X : Nat × (Nat → Int32)} {S : CS} {tl : pc_W} {tx : (Nat → Int32)} {ts : (Nat → Int32)} {tc : Int32} {tp : (Nat → Int32)} {tn : Int32} {U : MU} {o : (Nat → Int32)} {to : Int32} {tw : Int64} {op : Int32} {ba : Int32} {fa : Int32} {C : MC} {K : MK} {H : MH} {r n h t : Nat} {b : Nat → Int32} {s : PS} (hr : r < 6) (hn : n ≤ 160) (hb : ∀ i, i < n → tx (160 * r + i) = b i) (hbp : ∀ i, i < n → 0 ≤ b i) (q : LR b n s h to t tw ba fa) (h2 : ¬ g_to s = 2) : Mt X 2 0 0 yX10_next cX10_next 3 none [.ref 42] (cst S ++ (mw (tx, ts, tc, tp, tn) U (o, nI (160 * r), nI n, nI h, to, nI t, tw, op, ba, fa) C K H ++ tl)) (fun v w' => ∃ (h' : Nat) (to' : Int32) (t' : Nat) (tw' : Int64), v = none ∧ w' = cst S ++ (mw (tx, ts, tc, tp, tn) U (o, nI (160 * r), nI n, nI h', to', nI t', tw', op, 0, fa) C K H ++ tl) ∧ LR b n (adv b n s) h' to' t' tw' 0 fa) := by
  obtain ⟨q1, q2, q3, q4⟩ := LR_ok q h2
  subst q2 q3 q4
  refine (c_X10_next hr hn hb q.2.1 hbp).weaken (fun v w' hh => ?_)
  obtain ⟨h', to', t', tw', e1, e2, e3⟩ := hh
  exact ⟨h', to', t', tw', e1, e2, LR_adv hn q1 q.2.1 e3⟩
set_option maxRecDepth 100000 in
set_option maxHeartbeats 4000000 in
theorem c_X10_opens_y {X : Nat × (Nat → Int32)} {S : CS} {tl : pc_W} {tx : (Nat → Int32)} {ts : (Nat → Int32)} {tc : Int32} {tp : (Nat → Int32)} {tn : Int32} {U : MU} {o : (Nat → Int32)} {to : Int32} {tw : Int64} {ba : Int32} {fa : Int32} {C : MC} {K : MK} {H : MH} {r n h t : Nat} {b : Nat → Int32} {s : PS} {k : Nat} (hr : r < 6) (hn : n ≤ 160) (hb : ∀ i, i < n → tx (160 * r + i) = b i) (hbp : ∀ i, i < n → 0 ≤ b i) (q : LR b n s h to t tw ba fa) (h2 : ¬ g_to s = 2) (hk : k < 5): Mt X 3 0 0 yX10_opens cX10_opens 1 (some .boolean) [.ref 42] (cst S ++ (mw (tx, ts, tc, tp, tn) U (o, nI (160 * r), nI n, nI h, to, nI t, tw, (nI k), ba, fa) C K H ++ tl)) (fun v w' => ∃ (h' : Nat) (to' : Int32) (t' : Nat) (tw' : Int64), v = some (.int 1) ∧ w' = cst S ++ (mw (tx, ts, tc, tp, tn) U (o, nI (160 * r), nI n, nI h', to', nI t', tw', (nI (k + 1)), 0, fa) C K H ++ tl) ∧ LR b n (adv b n (inc1 s)) h' to' t' tw' 0 fa) := by
  refine Mt.of (by decide +kernel) (fun _ _ => Nat.le_of_ble_eq_true rfl) ?_
  show Ex X mX10_opens _ _ _ _ _ _ _ _
  refine x_aload_n dX10_opens_0 rfl ?_
  refine mg_198 dX10_opens_1 ?_
  refine x_iconst 5 dX10_opens_4 ?_
  refine x_icmp_ne 14 dX10_opens_5 (fun _ => ?_) (fun hx => absurd hx (fun z => absurd ((nI_eq (b := 5) (by omega) (by decide)).mp z) (by omega)))
  refine x_aload_n dX10_opens_14 rfl ?_
  refine x_dup dX10_opens_15 ?_
  refine mg_198 dX10_opens_16 ?_
  refine x_iconst 1 dX10_opens_19 ?_
  refine x_iadd dX10_opens_20 ?_
  rw [nI_1]
  refine mp_198 dX10_opens_21 ?_
  refine x_aload_n dX10_opens_24 rfl ?_
  refine iv_X10_204 dX10_opens_25 (c_X10_nextR hr hn hb hbp (LR_inc q) h2) mw_o (by decide) (Nat.le_of_ble_eq_true rfl) (fun v_25 w_25 hw_25 => ?_)
  obtain ⟨h1, to1, t1, tw1, rfl, rfl, q1⟩ := hw_25
  refine x_iconst 1 dX10_opens_28 ?_
  exact Ex.ret (v := some (.int _)) ⟨dX10_opens_29, _, rfl, by first | rfl | decide⟩ ⟨h1, to1, t1, tw1, rfl, rfl, q1⟩
set_option maxRecDepth 100000 in
set_option maxHeartbeats 4000000 in
theorem c_X10_opens_n {X : Nat × (Nat → Int32)} {S : CS} {tl : pc_W} {tx : (Nat → Int32)} {ts : (Nat → Int32)} {tc : Int32} {tp : (Nat → Int32)} {tn : Int32} {U : MU} {o : (Nat → Int32)} {to : Int32} {tw : Int64} {ba : Int32} {fa : Int32} {C : MC} {K : MK} {H : MH} {r n h t : Nat} {b : Nat → Int32} {s : PS} (hn : n ≤ 160) (q : LR b n s h to t tw ba fa): Mt X 1 0 0 yX10_opens cX10_opens 1 (some .boolean) [.ref 42] (cst S ++ (mw (tx, ts, tc, tp, tn) U (o, nI (160 * r), nI n, nI h, to, nI t, tw, (nI 5), ba, fa) C K H ++ tl)) (fun v w' => ∃ fa', v = some (.int 0) ∧ w' = cst S ++ (mw (tx, ts, tc, tp, tn) U (o, nI (160 * r), nI n, nI h, to, nI t, tw, (nI 5), 1, fa') C K H ++ tl) ∧ LR b n (rfu s) h to t tw 1 fa') := by
  refine Mt.of (by decide +kernel) (fun _ _ => Nat.le_of_ble_eq_true rfl) ?_
  show Ex X mX10_opens _ _ _ _ _ _ _ _
  refine x_aload_n dX10_opens_0 rfl ?_
  refine mg_198 dX10_opens_1 ?_
  refine x_iconst 5 dX10_opens_4 ?_
  refine x_icmp_ne 14 dX10_opens_5 (fun hx => absurd (rfl) hx) (fun _ => ?_)
  refine x_aload_n dX10_opens_8 rfl ?_
  refine iv_X10_201 dX10_opens_9 (c_X10_failR hn q) mw_o (by decide) (Nat.le_of_ble_eq_true rfl) (fun v_9 w_9 hw_9 => ?_)
  obtain ⟨fa1, rfl, rfl, q1⟩ := hw_9
  refine x_iconst 0 dX10_opens_12 ?_
  exact Ex.ret (v := some (.int _)) ⟨dX10_opens_13, _, rfl, by first | rfl | decide⟩ ⟨fa1, rfl, rfl, q1⟩
theorem nm6 {t : Int32} (h0 : ¬ t = nI 200) (h1 : ¬ t = nI 201) (h2 : ¬ t = nI 202) (h3 : ¬ t = nI 203) (h4 : ¬ t = nI 204) (h5 : ¬ t = nI 205) : ¬ (200 ≤ t ∧ t ≤ 205) := by
  rintro ⟨a1, a2⟩
  obtain ⟨d, hd, rfl⟩ := nat_of (x := t) (n := 206) (Int32.le_trans (by decide) a1) (Int32.lt_of_le_of_lt a2 (by decide)) (by decide)
  have hd2 : 200 ≤ d := (nI_leI (a := 200) (by decide) (by omega)).mp a1
  have : d = 200 ∨ d = 201 ∨ d = 202 ∨ d = 203 ∨ d = 204 ∨ d = 205 := by omega
  rcases this with rfl | rfl | rfl | rfl | rfl | rfl <;> contradiction
set_option maxRecDepth 100000 in
set_option maxHeartbeats 4000000 in
theorem c_X10_name {X : Nat × (Nat → Int32)} {S : CS} {tl : pc_W} {tx : (Nat → Int32)} {ts : (Nat → Int32)} {tc : Int32} {tp : (Nat → Int32)} {tn : Int32} {U : MU} {o : (Nat → Int32)} {to : Int32} {tw : Int64} {op : Int32} {ba : Int32} {fa : Int32} {C : MC} {K : MK} {H : MH} {r n h t : Nat} {b : Nat → Int32} {s : PS} (hr : r < 6) (hn : n ≤ 160) (hb : ∀ i, i < n → tx (160 * r + i) = b i) (q : LR b n s h to t tw ba fa): Mt X 3 0 0 yX10_name cX10_name 1 (some .int) [.ref 42] (cst S ++ (mw (tx, ts, tc, tp, tn) U (o, nI (160 * r), nI n, nI h, to, nI t, tw, op, ba, fa) C K H ++ tl)) (fun v w' => ∃ (x ba' fa' : Int32), v = some (.int x) ∧ w' = cst S ++ (mw (tx, ts, tc, tp, tn) U (o, nI (160 * r), nI n, nI h, to, nI t, tw, op, ba', fa') C K H ++ tl) ∧ ((200 ≤ g_to s ∧ g_to s ≤ 205 ∧ x = o (g_to s - 200).toNatClampNeg ∧ ba' = ba ∧ fa' = fa) ∨ (¬ (200 ≤ g_to s ∧ g_to s ≤ 205) ∧ ba' = 1 ∧ LR b n (rfu s) h to t tw 1 fa'))) := by
  refine Mt.of (by decide +kernel) (fun _ _ => Nat.le_of_ble_eq_true rfl) ?_
  show Ex X mX10_name _ _ _ _ _ _ _ _
  refine x_aload_n dX10_name_0 rfl ?_
  refine x_bipush 119 dX10_name_1 ?_
  refine x_bipush 101 dX10_name_3 ?_
  refine x_bipush 97 dX10_name_5 ?_
  refine x_bipush 116 dX10_name_7 ?_
  refine x_bipush 104 dX10_name_9 ?_
  refine x_bipush 101 dX10_name_11 ?_
  refine x_bipush 114 dX10_name_13 ?_
  refine x_iconst 0 dX10_name_15 ?_
  refine ii_X10_207 dX10_name_16 (c_X10_word (w := 200) hr hn hb q (by decide) (by decide) wl_200) mw_o (by decide) (Nat.le_of_ble_eq_true rfl) ?_
  refine x_if_eq 27 dX10_name_19 (fun h_19 => ?_) (fun h_19 => ?_)
  · refine x_aload_n dX10_name_27 rfl ?_
    refine x_bipush 104 dX10_name_28 ?_
    refine x_bipush 111 dX10_name_30 ?_
    refine x_bipush 117 dX10_name_32 ?_
    refine x_bipush 114 dX10_name_34 ?_
    refine x_iconst 0 dX10_name_36 ?_
    refine x_iconst 0 dX10_name_37 ?_
    refine x_iconst 0 dX10_name_38 ?_
    refine x_iconst 0 dX10_name_39 ?_
    refine ii_X10_207 dX10_name_40 (c_X10_word (w := 201) hr hn hb q (by decide) (by decide) wl_201) mw_o (by decide) (Nat.le_of_ble_eq_true rfl) ?_
    refine x_if_eq 51 dX10_name_43 (fun h_43 => ?_) (fun h_43 => ?_)
    · refine x_aload_n dX10_name_51 rfl ?_
      refine x_bipush 121 dX10_name_52 ?_
      refine x_bipush 101 dX10_name_54 ?_
      refine x_bipush 97 dX10_name_56 ?_
      refine x_bipush 114 dX10_name_58 ?_
      refine x_bipush 115 dX10_name_60 ?_
      refine x_iconst 0 dX10_name_62 ?_
      refine x_iconst 0 dX10_name_63 ?_
      refine x_iconst 0 dX10_name_64 ?_
      refine ii_X10_207 dX10_name_65 (c_X10_word (w := 202) hr hn hb q (by decide) (by decide) wl_202) mw_o (by decide) (Nat.le_of_ble_eq_true rfl) ?_
      refine x_if_eq 76 dX10_name_68 (fun h_68 => ?_) (fun h_68 => ?_)
      · refine x_aload_n dX10_name_76 rfl ?_
        refine x_bipush 110 dX10_name_77 ?_
        refine x_bipush 117 dX10_name_79 ?_
        refine x_bipush 109 dX10_name_81 ?_
        refine x_bipush 98 dX10_name_83 ?_
        refine x_bipush 101 dX10_name_85 ?_
        refine x_bipush 114 dX10_name_87 ?_
        refine x_iconst 0 dX10_name_89 ?_
        refine x_iconst 0 dX10_name_90 ?_
        refine ii_X10_207 dX10_name_91 (c_X10_word (w := 203) hr hn hb q (by decide) (by decide) wl_203) mw_o (by decide) (Nat.le_of_ble_eq_true rfl) ?_
        refine x_if_eq 102 dX10_name_94 (fun h_94 => ?_) (fun h_94 => ?_)
        · refine x_aload_n dX10_name_102 rfl ?_
          refine x_bipush 109 dX10_name_103 ?_
          refine x_bipush 101 dX10_name_105 ?_
          refine x_bipush 110 dX10_name_107 ?_
          refine x_bipush 100 dX10_name_109 ?_
          refine x_bipush 101 dX10_name_111 ?_
          refine x_bipush 100 dX10_name_113 ?_
          refine x_iconst 0 dX10_name_115 ?_
          refine x_iconst 0 dX10_name_116 ?_
          refine ii_X10_207 dX10_name_117 (c_X10_word (w := 204) hr hn hb q (by decide) (by decide) wl_204) mw_o (by decide) (Nat.le_of_ble_eq_true rfl) ?_
          refine x_if_eq 128 dX10_name_120 (fun h_120 => ?_) (fun h_120 => ?_)
          · refine x_aload_n dX10_name_128 rfl ?_
            refine x_bipush 108 dX10_name_129 ?_
            refine x_bipush 97 dX10_name_131 ?_
            refine x_bipush 115 dX10_name_133 ?_
            refine x_bipush 116 dX10_name_135 ?_
            refine x_iconst 0 dX10_name_137 ?_
            refine x_iconst 0 dX10_name_138 ?_
            refine x_iconst 0 dX10_name_139 ?_
            refine x_iconst 0 dX10_name_140 ?_
            refine ii_X10_207 dX10_name_141 (c_X10_word (w := 205) hr hn hb q (by decide) (by decide) wl_205) mw_o (by decide) (Nat.le_of_ble_eq_true rfl) ?_
            refine x_if_eq 152 dX10_name_144 (fun h_144 => ?_) (fun h_144 => ?_)
            · refine x_aload_n dX10_name_152 rfl ?_
              refine iv_X10_201 dX10_name_153 (c_X10_failR hn q) mw_o (by decide) (Nat.le_of_ble_eq_true rfl) (fun v_153 w_153 hw_153 => ?_)
              obtain ⟨fa1, rfl, rfl, q1⟩ := hw_153
              refine x_iconst 0 dX10_name_156 ?_
              exact Ex.ret (v := some (.int _)) ⟨dX10_name_157, _, rfl, rfl⟩ ⟨0, 1, fa1, rfl, rfl, Or.inr ⟨nm6 (bi0.mp h_19) (bi0.mp h_43) (bi0.mp h_68) (bi0.mp h_94) (bi0.mp h_120) (bi0.mp h_144), rfl, q1⟩⟩
            · refine x_aload_n dX10_name_147 rfl ?_
              refine mg_226 dX10_name_148 ?_
              have hz := bi1.mp h_144
              exact Ex.ret (v := some (.int _)) ⟨dX10_name_151, _, rfl, rfl⟩ ⟨_, _, _, rfl, rfl, Or.inl ⟨by rw [hz]; decide, by rw [hz]; decide, by rw [hz]; rfl, rfl, rfl⟩⟩
          · refine x_aload_n dX10_name_123 rfl ?_
            refine mg_223 dX10_name_124 ?_
            have hz := bi1.mp h_120
            exact Ex.ret (v := some (.int _)) ⟨dX10_name_127, _, rfl, rfl⟩ ⟨_, _, _, rfl, rfl, Or.inl ⟨by rw [hz]; decide, by rw [hz]; decide, by rw [hz]; rfl, rfl, rfl⟩⟩
        · refine x_aload_n dX10_name_97 rfl ?_
          refine mg_220 dX10_name_98 ?_
          have hz := bi1.mp h_94
          exact Ex.ret (v := some (.int _)) ⟨dX10_name_101, _, rfl, rfl⟩ ⟨_, _, _, rfl, rfl, Or.inl ⟨by rw [hz]; decide, by rw [hz]; decide, by rw [hz]; rfl, rfl, rfl⟩⟩
      · refine x_aload_n dX10_name_71 rfl ?_
        refine mg_217 dX10_name_72 ?_
        have hz := bi1.mp h_68
        exact Ex.ret (v := some (.int _)) ⟨dX10_name_75, _, rfl, rfl⟩ ⟨_, _, _, rfl, rfl, Or.inl ⟨by rw [hz]; decide, by rw [hz]; decide, by rw [hz]; rfl, rfl, rfl⟩⟩
    · refine x_aload_n dX10_name_46 rfl ?_
      refine mg_214 dX10_name_47 ?_
      have hz := bi1.mp h_43
      exact Ex.ret (v := some (.int _)) ⟨dX10_name_50, _, rfl, rfl⟩ ⟨_, _, _, rfl, rfl, Or.inl ⟨by rw [hz]; decide, by rw [hz]; decide, by rw [hz]; rfl, rfl, rfl⟩⟩
  · refine x_aload_n dX10_name_22 rfl ?_
    refine mg_211 dX10_name_23 ?_
    have hz := bi1.mp h_19
    exact Ex.ret (v := some (.int _)) ⟨dX10_name_26, _, rfl, rfl⟩ ⟨_, _, _, rfl, rfl, Or.inl ⟨by rw [hz]; decide, by rw [hz]; decide, by rw [hz]; rfl, rfl, rfl⟩⟩
/-- a piece and one more behind a sign -/
theorem VR_bin {b : Nat → Int32} {n K : Nat} {bd : PF} {nm : Nat → Int32} {s : PS} {c0 : Nat} {x y : Int32} (hn : n ≤ 160) (hG : GF n K bd) (h : WF n s) (hc : g_cz s ≤ g_pl s) (hK : g_op s = K) (n2 : ¬ g_to s = 2) (n0 : ¬ g_to s = 0) (ht : isOp (g_to s)) (hx : VR nm c0 s x) (hy : VR nm (g_cz (adv b n s)) (bd (adv b n s)) y) : VR nm c0 (emt (-(g_to s)) (bd (adv b n s))) (jn (g_to s) x y) := by
  have h1 := adv_gd (b := b) hn h n2 n0
  have h2 := (hG _ h1.1 (by have := h1.cz hc; omega) (h1.2.1.trans hK)).1
  have h160 := ((h1.tr h2).em (c := -(g_to s)) hn hc).2
  have hcz := (adv_sh (b := b) hn (WF_ok h n2) h.2.1).2.2.2
  intro hf
  rw [(emt_g _ _).2.2.2.2.1] at hf
  have g1 := hx (WF_ok h n2)
  have g2 := hy hf
  rw [emt_y h160]
  show GC nm (upd (g_co (bd (adv b n s))) (g_cz (bd (adv b n s))) (-(g_to s))) c0 (g_cz (bd (adv b n s)) + 1) (jn (g_to s) x y)
  have hle := (h1.tr h2).2.2.2.1
  rw [hcz.1] at g2
  refine GC.bin (j := g_cz s) (g1.cong fun m a1 a2 => ?_) (g2.cong fun m a1 a2 => pk_un (by omega)) h160 ht pk_us
  rw [pk_un (by omega)]
  exact (h1.tr h2).2.2.2.2.2.1 m a2
theorem lp_go {b : Nat → Int32} {n K f : Nat} {q : Int32 → Bool} {bd : PF} {s : PS} (hn : n ≤ 160) (hG : GF n K bd) (q2 : q 2 = false) (q0 : q 0 = false) (h : WF n s) (hc : g_cz s ≤ g_pl s) (hK : g_op s = K) (hf : n ≤ f + 1 + g_pl s) (hq : q (g_to s) = true) : (¬ g_to s = 2 ∧ ¬ g_to s = 0) ∧ (g_cz (adv b n s) ≤ g_pl (adv b n s) ∧ g_op (adv b n s) = K) ∧ (WF n (emt (-(g_to s)) (bd (adv b n s))) ∧ g_cz (emt (-(g_to s)) (bd (adv b n s))) ≤ g_pl (emt (-(g_to s)) (bd (adv b n s))) ∧ g_op (emt (-(g_to s)) (bd (adv b n s))) = K ∧ n ≤ f + g_pl (emt (-(g_to s)) (bd (adv b n s)))) ∧ lpG b n q bd (f + 1) s = lpG b n q bd f (emt (-(g_to s)) (bd (adv b n s))) := by
  have n2 : ¬ g_to s = 2 := fun z => by rw [z, q2] at hq; exact absurd hq (by decide)
  have n0 : ¬ g_to s = 0 := fun z => by rw [z, q0] at hq; exact absurd hq (by decide)
  have a1 := adv_gd (b := b) hn h n2 n0
  have c1 : g_cz (adv b n s) ≤ g_pl (adv b n s) := by have := a1.cz hc; omega
  have a2 := (hG _ a1.1 c1 (a1.2.1.trans hK)).1
  have a3 := ((a1.tr a2).em (c := -(g_to s)) hn hc).1
  refine ⟨⟨n2, n0⟩, ⟨c1, a1.2.1.trans hK⟩, ⟨a3.1, by have := a3.cz hc; omega, a3.2.1.trans hK, ?_⟩, ?_⟩
  · rw [(emt_g _ _).1]
    have := a2.2.2.1
    have h6 := a1.2.2.2.2.1
    have h7 := a1.2.2.2.1
    omega
  · rw [lpG, if_pos hq]
theorem lp_no {b : Nat → Int32} {n f : Nat} {q : Int32 → Bool} {bd : PF} {s : PS} (hq : ¬ q (g_to s) = true) : lpG b n q bd f s = s := by
  cases f with
  | zero => rfl
  | succ f => rw [lpG, if_neg hq]
theorem lp_0 {n : Nat} {q : Int32 → Bool} {s : PS} (q2 : q 2 = false) (q0 : q 0 = false) (h : WF n s) (hp : n ≤ 0 + g_pl s) : ¬ q (g_to s) = true := fun hq => by
  rcases h.2.2 with ⟨-, -, -, z⟩ | ⟨-, z⟩
  · by_cases h0 : g_to s = 0
    · rw [h0, q0] at hq; exact absurd hq (by decide)
    · have := z h0; have := h.2.1; omega
  · rw [z, q2] at hq; exact absurd hq (by decide)
theorem qMu_iff {t : Int32} : qMu t = true ↔ t = 42 := by unfold qMu; exact decide_eq_true_iff
theorem qPl_iff {t : Int32} : qPl t = true ↔ (t = 43 ∨ t = 45) := by unfold qPl; exact decide_eq_true_iff
theorem qAn_iff {t : Int32} : qAn t = true ↔ t = 210 := by unfold qAn; exact decide_eq_true_iff
theorem qOr_iff {t : Int32} : qOr t = true ↔ t = 209 := by unfold qOr; exact decide_eq_true_iff
theorem lvS_minus {b : Nat → Int32} {n k : Nat} {s : PS} (h : g_to s = 45) (h5 : ¬ 5 ≤ g_op s) : lvS b n (lev b n (k + 1)) s = emt (-3) (dec1 (lvS b n (lev b n k) (adv b n (inc1 s)))) := by
  show sgl b n (lev b n (k + 1)).1 (lev b n (k + 1)).2.2 s = _
  unfold sgl
  rw [if_neg (by rw [h]; decide), if_neg (by rw [h]; decide), if_pos h, if_neg h5]
  rfl
theorem lvS_paren {b : Nat → Int32} {n k : Nat} {s : PS} (h : g_to s = 40) (h5 : ¬ 5 ≤ g_op s) : lvS b n (lev b n (k + 1)) s = exc b n 41 (dec1 (lvE b n (lev b n k) (adv b n (inc1 s)))) := by
  show sgl b n (lev b n (k + 1)).1 (lev b n (k + 1)).2.2 s = _
  unfold sgl
  rw [if_neg (by rw [h]; decide), if_neg (by rw [h]; decide), if_neg (by rw [h]; decide), if_pos h, if_neg h5]
  rfl
theorem lvS_full {b : Nat → Int32} {n : Nat} {p : PL} {s : PS} (h : g_to s = 45 ∨ g_to s = 40) (h5 : 5 ≤ g_op s) : lvS b n p s = rfu s := by
  show sgl b n p.1 p.2.2 s = _
  unfold sgl
  rcases h with h | h
  · rw [if_neg (by rw [h]; decide), if_neg (by rw [h]; decide), if_pos h, if_pos h5]
  · rw [if_neg (by rw [h]; decide), if_neg (by rw [h]; decide), if_neg (by rw [h]; decide), if_pos h, if_pos h5]
theorem lvS_num {b : Nat → Int32} {n : Nat} {p : PL} {s : PS} (h : g_to s = 1) : lvS b n p s = adv b n (emt (g_nu s) s) := by
  show sgl b n p.1 p.2.2 s = _
  unfold sgl
  rw [if_pos h]
theorem lvS_name {b : Nat → Int32} {n : Nat} {p : PL} {s : PS} (h : 200 ≤ g_to s ∧ g_to s ≤ 205) : lvS b n p s = adv b n (emt (-(g_to s)) s) := by
  show sgl b n p.1 p.2.2 s = _
  unfold sgl
  rw [if_neg (fun z => by rw [z] at h; exact absurd h.1 (by decide)), if_pos h]
theorem lvS_no {b : Nat → Int32} {n : Nat} {p : PL} {s : PS} (h1 : ¬ g_to s = 1) (h2 : ¬ (200 ≤ g_to s ∧ g_to s ≤ 205)) (h3 : ¬ g_to s = 45) (h4 : ¬ g_to s = 40) : lvS b n p s = rfu s := by
  show sgl b n p.1 p.2.2 s = _
  unfold sgl
  rw [if_neg h1, if_neg h2, if_neg h3, if_neg h4]
theorem lvN_not {b : Nat → Int32} {n k : Nat} {s : PS} (h : g_to s = 211) (h5 : ¬ 5 ≤ g_op s) : lvN b n (lev b n (k + 1)) s = emt (-211) (dec1 (lvN b n (lev b n k) (adv b n (inc1 s)))) := by
  show ngt b n (lvM b n (lev b n (k + 1))) (lev b n (k + 1)).2.1 s = _
  unfold ngt
  rw [if_pos h, if_neg h5]
  rfl
theorem lvN_full {b : Nat → Int32} {n : Nat} {p : PL} {s : PS} (h : g_to s = 211) (h5 : 5 ≤ g_op s) : lvN b n p s = rfu s := by
  show ngt b n (lvM b n p) p.2.1 s = _
  unfold ngt
  rw [if_pos h, if_pos h5]
theorem lvN_plain {b : Nat → Int32} {n : Nat} {p : PL} {s : PS} (h : ¬ g_to s = 211) : lvN b n p s = cmp b n (lvM b n p) (lvM b n p s) := by
  show ngt b n (lvM b n p) p.2.1 s = _
  unfold ngt
  rw [if_neg h]
theorem cmp_y {b : Nat → Int32} {n : Nat} {sm : PF} {s : PS} (h : g_to s = 60 ∨ g_to s = 61) : cmp b n sm s = emt (-(g_to s)) (sm (adv b n s)) := by unfold cmp; rw [if_pos h]
theorem cmp_n {b : Nat → Int32} {n : Nat} {sm : PF} {s : PS} (h1 : ¬ g_to s = 60) (h2 : ¬ g_to s = 61) : cmp b n sm s = s := by unfold cmp; rw [if_neg (fun z => z.elim h1 h2)]
/-- inside, one deeper: what must hold there -/
theorem in_pre {b : Nat → Int32} {n K : Nat} {s : PS} (hn : n ≤ 160) (h : WF n s) (hc : g_cz s ≤ g_pl s) (hK : g_op s = K) (h2 : ¬ g_to s = 2) (h0 : ¬ g_to s = 0) : g_cz (adv b n (inc1 s)) ≤ g_pl (adv b n (inc1 s)) ∧ g_op (adv b n (inc1 s)) = K + 1 ∧ g_cz (adv b n (inc1 s)) = g_cz s := by
  have hi := inc_gd (b := b) hn h h2 h0
  refine ⟨by have := hi.cz (s := inc1 s) hc; omega, by rw [hi.2.1]; show g_op s + 1 = K + 1; rw [hK], (adv_sh (b := b) (s := inc1 s) hn (WF_ok h h2) h.2.1).2.2.2.1⟩
theorem VR_un {b : Nat → Int32} {n K : Nat} {f : PF} {nm : Nat → Int32} {s : PS} {x y c : Int32} (hn : n ≤ 160) (hG : GF n (K + 1) f) (h : WF n s) (hc : g_cz s ≤ g_pl s) (hK : g_op s = K) (h2 : ¬ g_to s = 2) (h0 : ¬ g_to s = 0) (hx : VR nm (g_cz (adv b n (inc1 s))) (f (adv b n (inc1 s))) x) (hy : ∀ co, co (g_cz (f (adv b n (inc1 s)))) = c → g_cz (f (adv b n (inc1 s))) < 160 → GC nm co (g_cz s) (g_cz (f (adv b n (inc1 s)))) x → GC nm co (g_cz s) (g_cz (f (adv b n (inc1 s))) + 1) y) : VR nm (g_cz s) (emt c (dec1 (f (adv b n (inc1 s))))) y := by
  obtain ⟨i1, i2, i3⟩ := in_pre (b := b) hn h hc hK h2 h0
  have hd := dec_gd (b := b) hn hG h hc hK h2 h0
  have h160 := (hd.em (c := c) hn hc).2
  intro hf
  rw [(emt_g _ _).2.2.2.2.1] at hf
  have g1 := hx hf
  rw [i3] at g1
  rw [emt_y h160]
  exact hy _ pk_us h160 (g1.cong fun m a1 a2 => pk_un (Nat.ne_of_lt a2))
theorem VR_par {b : Nat → Int32} {n K : Nat} {f : PF} {nm : Nat → Int32} {s : PS} {x : Int32} (hn : n ≤ 160) (hG : GF n (K + 1) f) (h : WF n s) (hc : g_cz s ≤ g_pl s) (hK : g_op s = K) (h2 : ¬ g_to s = 2) (h0 : ¬ g_to s = 0) (hx : VR nm (g_cz (adv b n (inc1 s))) (f (adv b n (inc1 s))) x) : VR nm (g_cz s) (exc b n 41 (dec1 (f (adv b n (inc1 s))))) x := by
  obtain ⟨i1, i2, i3⟩ := in_pre (b := b) hn h hc hK h2 h0
  have hd := dec_gd (b := b) hn hG h hc hK h2 h0
  rw [i3] at hx
  intro hf
  have hw : g_fa (dec1 (f (adv b n (inc1 s)))) = -1 := by
    by_cases z : g_fa (dec1 (f (adv b n (inc1 s)))) = -1
    · exact z
    · exact absurd hf ((exc_gd (b := b) (t := 41) hn hd.1 (by decide) (by decide)).2.2.2.2.2.2 z)
  have g1 := hx hw
  unfold exc at hf ⊢
  by_cases z : g_to (dec1 (f (adv b n (inc1 s)))) = 41
  · rw [if_pos z]
    obtain ⟨-, -, -, e4, e5⟩ := adv_sh (b := b) (s := dec1 (f (adv b n (inc1 s)))) hn hw hd.1.2.1
    rw [e4, e5]; exact g1
  · rw [if_neg z] at hf
    exact absurd hf (rfu_fa hn hd.1)
theorem VR_one {b : Nat → Int32} {n : Nat} {nm : Nat → Int32} {s : PS} {x c : Int32} (hn : n ≤ 160) (h : WF n s) (hc : g_cz s ≤ g_pl s) (h2 : ¬ g_to s = 2) (h0 : ¬ g_to s = 0) (hy : ∀ co, co (g_cz s) = c → g_cz s < 160 → GC nm co (g_cz s) (g_cz s + 1) x) : VR nm (g_cz s) (adv b n (emt c s)) x := by
  have h160 : g_cz s < 160 := by
    rcases h.2.2 with ⟨-, -, -, q⟩ | ⟨-, q⟩
    · have := q h0; have := h.2.1; omega
    · exact absurd q h2
  intro hf
  rw [emt_y h160] at hf ⊢
  obtain ⟨-, -, -, e4, e5⟩ := adv_sh (b := b) (s := (g_pl s, g_nx s, g_to s, g_nu s, g_fa s, g_op s, g_cz s + 1, upd (g_co s) (g_cz s) c)) hn (WF_ok h h2) h.2.1
  rw [e4, e5]
  exact hy _ pk_us h160
theorem VR_rfu {n : Nat} {nm : Nat → Int32} {s : PS} {c0 : Nat} {x : Int32} (hn : n ≤ 160) (h : WF n s) : VR nm c0 (rfu s) x := fun hf => absurd hf (rfu_fa hn h)
theorem jn_mu (x y : Int32) : jn 42 x y = x * y := rfl
theorem jn_ad (x y : Int32) : jn 43 x y = x + y := rfl
theorem jn_sb (x y : Int32) : jn 45 x y = x - y := rfl
theorem jn_lt (x y : Int32) : jn 60 x y = bi (x < y) := rfl
theorem jn_eq (x y : Int32) : jn 61 x y = bi (x = y) := rfl
theorem jn_or (x y : Int32) : jn 209 x y = bi (¬ x = 0 ∨ ¬ y = 0) := rfl
theorem jn_an (x y : Int32) : jn 210 x y = bi (¬ x = 0 ∧ ¬ y = 0) := rfl
/-! a level's ends, for the levels' walks -/
theorem exc_y {b : Nat → Int32} {n : Nat} {t : Int32} {s : PS} (h : g_to s = t) : exc b n t s = adv b n s := if_pos h
theorem exc_n {b : Nat → Int32} {n : Nat} {t : Int32} {s : PS} (h : ¬ g_to s = t) : exc b n t s = rfu s := if_neg h
theorem to_dec (s : PS) : g_to (dec1 s) = g_to s := rfl
theorem LR_rd {b : Nat → Int32} {n : Nat} {s : PS} {h : Nat} {to : Int32} {t : Nat} {tw : Int64} {ba fa : Int32} (q : LR b n (rfu s) h to t tw ba fa) : LR b n (rfu (dec1 s)) h to t tw ba fa := LR_same (s := rfu s) (s' := rfu (dec1 s)) rfl rfl rfl rfl rfl q
theorem fin_neg {b : Nat → Int32} {n k K : Nat} {s : PS} {h : Nat} {to : Int32} {t : Nat} {tw : Int64} {ba fa : Int32} {nm : Nat → Int32} {x : Int32} (hn : n ≤ 160) (w : WF n s) (hc : g_cz s ≤ g_pl s) (hK : g_op s = K) (hk : K + (k + 1) = 5) (hz : g_to s = 45) (q : LR b n (lvS b n (lev b n k) (adv b n (inc1 s))) h to t tw ba fa) (v : VR nm (g_cz (adv b n (inc1 s))) (lvS b n (lev b n k) (adv b n (inc1 s))) x) : LR b n (lvS b n (lev b n (k + 1)) s) h to t tw ba fa ∧ VR nm (g_cz s) (lvS b n (lev b n (k + 1)) s) (-x) := by
  rw [lvS_minus (k := k) hz (by rw [hK]; omega)]
  exact ⟨LR_emt (LR_dec q), VR_un hn (lv_gf (b := b) hn k (K + 1) (by omega)).1 w hc hK (by rw [hz]; decide) (by rw [hz]; decide) v (fun co e1 e2 e3 => e3.neg e2 e1)⟩
theorem fin_py {b : Nat → Int32} {n k K : Nat} {s : PS} {h : Nat} {to : Int32} {t : Nat} {tw : Int64} {ba fa : Int32} {nm : Nat → Int32} {x : Int32} (hn : n ≤ 160) (w : WF n s) (hc : g_cz s ≤ g_pl s) (hK : g_op s = K) (hk : K + (k + 1) = 5) (hz : g_to s = 40) (h41 : g_to (lvE b n (lev b n k) (adv b n (inc1 s))) = 41) (q : LR b n (adv b n (dec1 (lvE b n (lev b n k) (adv b n (inc1 s))))) h to t tw ba fa) (v : VR nm (g_cz (adv b n (inc1 s))) (lvE b n (lev b n k) (adv b n (inc1 s))) x) : LR b n (lvS b n (lev b n (k + 1)) s) h to t tw ba fa ∧ VR nm (g_cz s) (lvS b n (lev b n (k + 1)) s) x := by
  rw [lvS_paren (k := k) hz (by rw [hK]; omega)]
  refine ⟨?_, VR_par hn (lv_gf (b := b) hn k (K + 1) (by omega)).2.2.2.2.2 w hc hK (by rw [hz]; decide) (by rw [hz]; decide) v⟩
  rw [exc_y (by rw [to_dec]; exact h41)]
  exact q
theorem fin_pn {b : Nat → Int32} {n k K : Nat} {s : PS} {h : Nat} {to : Int32} {t : Nat} {tw : Int64} {ba fa : Int32} {nm : Nat → Int32} {x : Int32} (hn : n ≤ 160) (w : WF n s) (hc : g_cz s ≤ g_pl s) (hK : g_op s = K) (hk : K + (k + 1) = 5) (hz : g_to s = 40) (h41 : ¬ g_to (lvE b n (lev b n k) (adv b n (inc1 s))) = 41) (q : LR b n (rfu (lvE b n (lev b n k) (adv b n (inc1 s)))) h to t tw ba fa) (v : VR nm (g_cz (adv b n (inc1 s))) (lvE b n (lev b n k) (adv b n (inc1 s))) x) : LR b n (lvS b n (lev b n (k + 1)) s) h to t tw ba fa ∧ VR nm (g_cz s) (lvS b n (lev b n (k + 1)) s) x := by
  rw [lvS_paren (k := k) hz (by rw [hK]; omega)]
  refine ⟨?_, VR_par hn (lv_gf (b := b) hn k (K + 1) (by omega)).2.2.2.2.2 w hc hK (by rw [hz]; decide) (by rw [hz]; decide) v⟩
  rw [exc_n (by rw [to_dec]; exact h41)]
  exact LR_rd q
theorem fin_not {b : Nat → Int32} {n k K : Nat} {s : PS} {h : Nat} {to : Int32} {t : Nat} {tw : Int64} {ba fa : Int32} {nm : Nat → Int32} {x y : Int32} (hn : n ≤ 160) (w : WF n s) (hc : g_cz s ≤ g_pl s) (hK : g_op s = K) (hk : K + (k + 1) = 5) (hz : g_to s = 211) (q : LR b n (lvN b n (lev b n k) (adv b n (inc1 s))) h to t tw ba fa) (v : VR nm (g_cz (adv b n (inc1 s))) (lvN b n (lev b n k) (adv b n (inc1 s))) x) (hy : y = bi (x = 0)) : LR b n (lvN b n (lev b n (k + 1)) s) h to t tw ba fa ∧ VR nm (g_cz s) (lvN b n (lev b n (k + 1)) s) y := by
  subst hy
  rw [lvN_not (k := k) hz (by rw [hK]; omega)]
  exact ⟨LR_emt (LR_dec q), VR_un hn (lv_gf (b := b) hn k (K + 1) (by omega)).2.2.2.1 w hc hK (by rw [hz]; decide) (by rw [hz]; decide) v (fun co e1 e2 e3 => e3.nt e2 e1)⟩
theorem fin_cmp {b : Nat → Int32} {n k K : Nat} {s : PS} {h : Nat} {to : Int32} {t : Nat} {tw : Int64} {ba fa : Int32} {nm : Nat → Int32} {x y v : Int32} (hn : n ≤ 160) (w : WF n s) (hc : g_cz s ≤ g_pl s) (hK : g_op s = K) (hk : K + k = 5) (hz : ¬ g_to s = 211) (h6 : g_to (lvM b n (lev b n k) s) = 60 ∨ g_to (lvM b n (lev b n k) s) = 61) (q : LR b n (lvM b n (lev b n k) (adv b n (lvM b n (lev b n k) s))) h to t tw ba fa) (v1 : VR nm (g_cz s) (lvM b n (lev b n k) s) x) (v2 : VR nm (g_cz (adv b n (lvM b n (lev b n k) s))) (lvM b n (lev b n k) (adv b n (lvM b n (lev b n k) s))) y) (hv : v = jn (g_to (lvM b n (lev b n k) s)) x y) : LR b n (lvN b n (lev b n k) s) h to t tw ba fa ∧ VR nm (g_cz s) (lvN b n (lev b n k) s) v := by
  subst hv
  have hg := (lv_gf (b := b) hn k K hk).2.2.1
  have hs1 := (hg s w hc hK).1
  rw [lvN_plain hz, cmp_y h6]
  refine ⟨LR_emt q, VR_bin hn hg hs1.1 (by have := hs1.cz hc; omega) (hs1.2.1.trans hK) (fun z => by rw [z] at h6; exact absurd h6 (by decide)) (fun z => by rw [z] at h6; exact absurd h6 (by decide)) ?_ v1 v2⟩
  rcases h6 with h6 | h6
  · exact Or.inr (Or.inr (Or.inr (Or.inl h6)))
  · exact Or.inr (Or.inr (Or.inr (Or.inr (Or.inl h6))))
theorem fin_sum {b : Nat → Int32} {n k : Nat} {s : PS} {h : Nat} {to : Int32} {t : Nat} {tw : Int64} {ba fa : Int32} {nm : Nat → Int32} {x : Int32} (hz : ¬ g_to s = 211) (h6 : ¬ g_to (lvM b n (lev b n k) s) = 60) (h7 : ¬ g_to (lvM b n (lev b n k) s) = 61) (q : LR b n (lvM b n (lev b n k) s) h to t tw ba fa) (v1 : VR nm (g_cz s) (lvM b n (lev b n k) s) x) : LR b n (lvN b n (lev b n k) s) h to t tw ba fa ∧ VR nm (g_cz s) (lvN b n (lev b n k) s) x := by
  rw [lvN_plain hz, cmp_n h6 h7]
  exact ⟨q, v1⟩
theorem fin_id {b : Nat → Int32} {n : Nat} {f : PF} {s s' : PS} {h : Nat} {to : Int32} {t : Nat} {tw : Int64} {ba fa : Int32} {nm : Nat → Int32} {x : Int32} (e : f s = s') (q : LR b n s' h to t tw ba fa) (v : VR nm (g_cz s) s' x) : LR b n (f s) h to t tw ba fa ∧ VR nm (g_cz s) (f s) x := by
  rw [e]; exact ⟨q, v⟩
theorem LR_tw {b : Nat → Int32} {n : Nat} {s : PS} {h : Nat} {to : Int32} {t : Nat} {tw : Int64} {ba fa : Int32} (q : LR b n s h to t tw ba fa) (hc : qSn (g_to s) = true) : tw = (g_to s).toInt64 := ((LR_sign q hc).mpr rfl).2.2
/-- a loop's turn, its worth -/
theorem lp_v {b : Nat → Int32} {n K : Nat} {bd : PF} {nm : Nat → Int32} {s : PS} {c0 : Nat} {x y v t : Int32} (hn : n ≤ 160) (hG : GF n K bd) (h : WF n s) (hc : g_cz s ≤ g_pl s) (hK : g_op s = K) (n2 : ¬ g_to s = 2) (n0 : ¬ g_to s = 0) (hz : g_to s = t) (ht : isOp t) (hx : VR nm c0 s x) (hy : VR nm (g_cz (adv b n s)) (bd (adv b n s)) y) (hv : v = jn t x y) : VR nm c0 (emt (-(g_to s)) (bd (adv b n s))) v := by
  subst hv hz
  exact VR_bin hn hG h hc hK n2 n0 ht hx hy
