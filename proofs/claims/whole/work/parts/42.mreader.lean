theorem nI_8 (t : Nat) : nI t + 8 = nI (t + 8) := nI_add t 8
def btA (b : Nat → Int32) (n i : Nat) : Int32 := if i < n then b i else -1
def ltB (b : Nat → Int32) (t h k : Nat) (c : Int32) : Bool := if t + k < h then decide (b (t + k) = c) else decide (c = 0)
set_option maxRecDepth 100000 in
set_option maxHeartbeats 4000000 in
theorem c_X10_byteAt {X : Nat × (Nat → Int32)} {S : CS} {tl : pc_W} {tx : (Nat → Int32)} {ts : (Nat → Int32)} {tc : Int32} {tp : (Nat → Int32)} {tn : Int32} {U : MU} {o : (Nat → Int32)} {to : Int32} {tw : Int64} {op : Int32} {ba : Int32} {fa : Int32} {C : MC} {K : MK} {H : MH} {ta : Int32} {r n h : Nat} {b : Nat → Int32} {i : Nat} (hr : r < 6) (hn : n ≤ 160) (hb : ∀ i, i < n → tx (160 * r + i) = b i) (hi : i < 2 ^ 30): Mt X 0 0 0 yX10_byteAt cX10_byteAt 2 (some .int) [.ref 42, .int (nI i)] (cst S ++ (mw (tx, ts, tc, tp, tn) U (o, nI (160 * r), nI n, nI h, to, ta, tw, op, ba, fa) C K H ++ tl)) (RI (btA b n i) (cst S ++ (mw (tx, ts, tc, tp, tn) U (o, nI (160 * r), nI n, nI h, to, ta, tw, op, ba, fa) C K H ++ tl))) := by
  refine Mt.of (by decide +kernel) (fun _ _ => Nat.le_of_ble_eq_true rfl) ?_
  show Ex X mX10_byteAt _ _ _ _ _ _ _ _
  refine x_iload_n dX10_byteAt_0 rfl ?_
  refine x_aload_n dX10_byteAt_1 rfl ?_
  refine mg_156 dX10_byteAt_2 ?_
  refine x_icmp_ge 22 dX10_byteAt_5 (fun h_5 => ?_) (fun h_5 => ?_)
  · refine x_iconst (-1) dX10_byteAt_22 ?_
    exact Ex.ret (v := some (.int _)) ⟨dX10_byteAt_23, _, rfl, rfl⟩ ⟨congrArg (fun z => some (Value.int z)) (by unfold btA; rw [if_neg (fun q => nI_ge q (by omega) h_5)]), rfl⟩
  · refine x_aload_n dX10_byteAt_8 rfl ?_
    refine mg_13 dX10_byteAt_9 ?_
    refine x_aload_n dX10_byteAt_12 rfl ?_
    refine mg_159 dX10_byteAt_13 ?_
    refine x_iload_n dX10_byteAt_16 rfl ?_
    refine x_iadd dX10_byteAt_17 ?_
    have hin : i < n := Nat.not_le.mp (fun q => h_5 (nI_le q (by omega)))
    rw [nI_add]
    refine maN_43 dX10_byteAt_18 (show 160 * r + i < 960 by omega) ?_
    refine x_goto 23 dX10_byteAt_19 ?_
    exact Ex.ret (v := some (.int _)) ⟨dX10_byteAt_23, _, rfl, rfl⟩ ⟨congrArg (fun z => some (Value.int z)) (by unfold btA; rw [if_pos hin, hb i hin]), rfl⟩
set_option maxRecDepth 100000 in
set_option maxHeartbeats 4000000 in
theorem c_X10_isLetter {X : Nat × (Nat → Int32)} {S : CS} {tl : pc_W} {tx : (Nat → Int32)} {ts : (Nat → Int32)} {tc : Int32} {tp : (Nat → Int32)} {tn : Int32} {U : MU} {o : (Nat → Int32)} {to : Int32} {tw : Int64} {op : Int32} {ba : Int32} {fa : Int32} {C : MC} {K : MK} {H : MH} {r n h t : Nat} {b : Nat → Int32} {k : Nat} {c : Int32} (hr : r < 6) (hn : n ≤ 160) (hb : ∀ i, i < n → tx (160 * r + i) = b i) (hhn : h ≤ n) (ht : t ≤ n) (hk : k < 8): Mt X 1 0 0 yX10_isLetter cX10_isLetter 3 (some .boolean) [.ref 42, .int (nI k), .int c] (cst S ++ (mw (tx, ts, tc, tp, tn) U (o, nI (160 * r), nI n, nI h, to, nI t, tw, op, ba, fa) C K H ++ tl)) (RI (bi (ltB b t h k c = true)) (cst S ++ (mw (tx, ts, tc, tp, tn) U (o, nI (160 * r), nI n, nI h, to, nI t, tw, op, ba, fa) C K H ++ tl))) := by
  refine Mt.of (by decide +kernel) (fun _ _ => Nat.le_of_ble_eq_true rfl) ?_
  show Ex X mX10_isLetter _ _ _ _ _ _ _ _
  refine x_aload_n dX10_isLetter_0 rfl ?_
  refine mg_168 dX10_isLetter_1 ?_
  refine x_iload_n dX10_isLetter_4 rfl ?_
  refine x_iadd dX10_isLetter_5 ?_
  rw [nI_add]
  refine x_aload_n dX10_isLetter_6 rfl ?_
  refine mg_162 dX10_isLetter_7 ?_
  refine x_icmp_ge 35 dX10_isLetter_10 (fun h_10 => ?_) (fun h_10 => ?_)
  · refine x_iload_n dX10_isLetter_35 rfl ?_
    refine x_if_ne 43 dX10_isLetter_36 (fun h_36 => ?_) (fun h_36 => ?_)
    · refine x_iconst 0 dX10_isLetter_43 ?_
      exact Ex.ret (v := some (.int _)) ⟨dX10_isLetter_44, _, rfl, (by first | rfl | decide)⟩ ⟨congrArg (fun z => some (Value.int z)) (by have q1 : ¬ t + k < h := (fun q => nI_ge q (by omega) h_10); unfold ltB; rw [if_neg q1]; exact (bi_f (by simpa using h_36)).symm), rfl⟩
    · refine x_iconst 1 dX10_isLetter_39 ?_
      refine x_goto 44 dX10_isLetter_40 ?_
      exact Ex.ret (v := some (.int _)) ⟨dX10_isLetter_44, _, rfl, (by first | rfl | decide)⟩ ⟨congrArg (fun z => some (Value.int z)) (by have q1 : ¬ t + k < h := (fun q => nI_ge q (by omega) h_10); unfold ltB; rw [if_neg q1]; exact (bi_t (by simpa using h_36)).symm), rfl⟩
  · refine x_aload_n dX10_isLetter_13 rfl ?_
    refine x_aload_n dX10_isLetter_14 rfl ?_
    refine mg_168 dX10_isLetter_15 ?_
    refine x_iload_n dX10_isLetter_18 rfl ?_
    refine x_iadd dX10_isLetter_19 ?_
    rw [nI_add]
    refine ii_X10_165 dX10_isLetter_20 (c_X10_byteAt hr hn hb (by omega)) mw_o (by decide) (Nat.le_of_ble_eq_true rfl) ?_
    refine x_iload_n dX10_isLetter_23 rfl ?_
    refine x_icmp_ne 31 dX10_isLetter_24 (fun h_24 => ?_) (fun h_24 => ?_)
    · refine x_iconst 0 dX10_isLetter_31 ?_
      refine x_goto 44 dX10_isLetter_32 ?_
      exact Ex.ret (v := some (.int _)) ⟨dX10_isLetter_44, _, rfl, (by first | rfl | decide)⟩ ⟨congrArg (fun z => some (Value.int z)) (by have q1 : t + k < h := Nat.not_le.mp (fun q => h_10 (nI_le q (by omega))); unfold btA at h_24; rw [if_pos (show t + k < n by omega)] at h_24; unfold ltB; rw [if_pos q1]; exact (bi_f (by simpa using h_24)).symm), rfl⟩
    · refine x_iconst 1 dX10_isLetter_27 ?_
      refine x_goto 44 dX10_isLetter_28 ?_
      exact Ex.ret (v := some (.int _)) ⟨dX10_isLetter_44, _, rfl, (by first | rfl | decide)⟩ ⟨congrArg (fun z => some (Value.int z)) (by have q1 : t + k < h := Nat.not_le.mp (fun q => h_10 (nI_le q (by omega))); unfold btA at h_24; rw [if_pos (show t + k < n by omega)] at h_24; unfold ltB; rw [if_pos q1]; exact (bi_t (by simpa using h_24)).symm), rfl⟩
abbrev wdP (b : Nat → Int32) (t h : Nat) (to ba a0 a1 a2 a3 a4 a5 a6 a7 : Int32) : Prop := ba = 0 ∧ to = 1 ∧ h ≤ t + 8 ∧ ltB b t h 0 a0 = true ∧ ltB b t h 1 a1 = true ∧ ltB b t h 2 a2 = true ∧ ltB b t h 3 a3 = true ∧ ltB b t h 4 a4 = true ∧ ltB b t h 5 a5 = true ∧ ltB b t h 6 a6 = true ∧ ltB b t h 7 a7 = true
set_option maxRecDepth 100000 in
set_option maxHeartbeats 4000000 in
theorem c_X10_isWord {X : Nat × (Nat → Int32)} {S : CS} {tl : pc_W} {tx : (Nat → Int32)} {ts : (Nat → Int32)} {tc : Int32} {tp : (Nat → Int32)} {tn : Int32} {U : MU} {o : (Nat → Int32)} {to : Int32} {tw : Int64} {op : Int32} {ba : Int32} {fa : Int32} {C : MC} {K : MK} {H : MH} {r n h t : Nat} {b : Nat → Int32} {a0 a1 a2 a3 a4 a5 a6 a7 : Int32} (hr : r < 6) (hn : n ≤ 160) (hb : ∀ i, i < n → tx (160 * r + i) = b i) (hhn : h ≤ n) (ht : t ≤ n): Mt X 2 0 0 yX10_isWord cX10_isWord 9 (some .boolean) [.ref 42, .int a0, .int a1, .int a2, .int a3, .int a4, .int a5, .int a6, .int a7] (cst S ++ (mw (tx, ts, tc, tp, tn) U (o, nI (160 * r), nI n, nI h, to, nI t, tw, op, ba, fa) C K H ++ tl)) (RI (bi (wdP b t h to ba a0 a1 a2 a3 a4 a5 a6 a7)) (cst S ++ (mw (tx, ts, tc, tp, tn) U (o, nI (160 * r), nI n, nI h, to, nI t, tw, op, ba, fa) C K H ++ tl))) := by
  refine Mt.of (by decide +kernel) (fun _ _ => Nat.le_of_ble_eq_true rfl) ?_
  show Ex X mX10_isWord _ _ _ _ _ _ _ _
  refine x_aload_n dX10_isWord_0 rfl ?_
  refine mg_188 dX10_isWord_1 ?_
  refine x_if_ne 112 dX10_isWord_4 (fun h_4 => ?_) (fun h_4 => ?_)
  · refine x_iconst 0 dX10_isWord_112 ?_
    exact Ex.ret (v := some (.int _)) ⟨dX10_isWord_113, _, rfl, (by first | rfl | decide)⟩ ⟨congrArg (fun z => some (Value.int z)) ((bi_f (fun q => h_4 q.1)).symm), rfl⟩
  · refine x_aload_n dX10_isWord_7 rfl ?_
    refine mg_171 dX10_isWord_8 ?_
    refine x_iconst 1 dX10_isWord_11 ?_
    refine x_icmp_ne 112 dX10_isWord_12 (fun h_12 => ?_) (fun h_12 => ?_)
    · refine x_iconst 0 dX10_isWord_112 ?_
      exact Ex.ret (v := some (.int _)) ⟨dX10_isWord_113, _, rfl, (by first | rfl | decide)⟩ ⟨congrArg (fun z => some (Value.int z)) ((bi_f (fun q => h_12 q.2.1)).symm), rfl⟩
    · refine x_aload_n dX10_isWord_15 rfl ?_
      refine mg_162 dX10_isWord_16 ?_
      refine x_aload_n dX10_isWord_19 rfl ?_
      refine mg_168 dX10_isWord_20 ?_
      refine x_bipush 8 dX10_isWord_23 ?_
      refine x_iadd dX10_isWord_25 ?_
      rw [nI_8]
      refine x_icmp_gt 112 dX10_isWord_26 (fun h_26 => ?_) (fun h_26 => ?_)
      · refine x_iconst 0 dX10_isWord_112 ?_
        exact Ex.ret (v := some (.int _)) ⟨dX10_isWord_113, _, rfl, (by first | rfl | decide)⟩ ⟨congrArg (fun z => some (Value.int z)) ((bi_f (fun q => nI_nlt q.2.2.1 (by omega) h_26)).symm), rfl⟩
      · refine x_aload_n dX10_isWord_29 rfl ?_
        refine x_iconst 0 dX10_isWord_30 ?_
        refine x_iload_n dX10_isWord_31 rfl ?_
        refine ii_X10_195 dX10_isWord_32 (c_X10_isLetter (k := 0) hr hn hb hhn ht (by decide)) mw_o (by decide) (Nat.le_of_ble_eq_true rfl) ?_
        refine x_if_eq 112 dX10_isWord_35 (fun h_35 => ?_) (fun h_35 => ?_)
        · refine x_iconst 0 dX10_isWord_112 ?_
          exact Ex.ret (v := some (.int _)) ⟨dX10_isWord_113, _, rfl, (by first | rfl | decide)⟩ ⟨congrArg (fun z => some (Value.int z)) ((bi_f (fun q => bi0.mp h_35 q.2.2.2.1)).symm), rfl⟩
        · refine x_aload_n dX10_isWord_38 rfl ?_
          refine x_iconst 1 dX10_isWord_39 ?_
          refine x_iload_n dX10_isWord_40 rfl ?_
          refine ii_X10_195 dX10_isWord_41 (c_X10_isLetter (k := 1) hr hn hb hhn ht (by decide)) mw_o (by decide) (Nat.le_of_ble_eq_true rfl) ?_
          refine x_if_eq 112 dX10_isWord_44 (fun h_44 => ?_) (fun h_44 => ?_)
          · refine x_iconst 0 dX10_isWord_112 ?_
            exact Ex.ret (v := some (.int _)) ⟨dX10_isWord_113, _, rfl, (by first | rfl | decide)⟩ ⟨congrArg (fun z => some (Value.int z)) ((bi_f (fun q => bi0.mp h_44 q.2.2.2.2.1)).symm), rfl⟩
          · refine x_aload_n dX10_isWord_47 rfl ?_
            refine x_iconst 2 dX10_isWord_48 ?_
            refine x_iload_n dX10_isWord_49 rfl ?_
            refine ii_X10_195 dX10_isWord_50 (c_X10_isLetter (k := 2) hr hn hb hhn ht (by decide)) mw_o (by decide) (Nat.le_of_ble_eq_true rfl) ?_
            refine x_if_eq 112 dX10_isWord_53 (fun h_53 => ?_) (fun h_53 => ?_)
            · refine x_iconst 0 dX10_isWord_112 ?_
              exact Ex.ret (v := some (.int _)) ⟨dX10_isWord_113, _, rfl, (by first | rfl | decide)⟩ ⟨congrArg (fun z => some (Value.int z)) ((bi_f (fun q => bi0.mp h_53 q.2.2.2.2.2.1)).symm), rfl⟩
            · refine x_aload_n dX10_isWord_56 rfl ?_
              refine x_iconst 3 dX10_isWord_57 ?_
              refine x_iload dX10_isWord_58 rfl ?_
              refine ii_X10_195 dX10_isWord_60 (c_X10_isLetter (k := 3) hr hn hb hhn ht (by decide)) mw_o (by decide) (Nat.le_of_ble_eq_true rfl) ?_
              refine x_if_eq 112 dX10_isWord_63 (fun h_63 => ?_) (fun h_63 => ?_)
              · refine x_iconst 0 dX10_isWord_112 ?_
                exact Ex.ret (v := some (.int _)) ⟨dX10_isWord_113, _, rfl, (by first | rfl | decide)⟩ ⟨congrArg (fun z => some (Value.int z)) ((bi_f (fun q => bi0.mp h_63 q.2.2.2.2.2.2.1)).symm), rfl⟩
              · refine x_aload_n dX10_isWord_66 rfl ?_
                refine x_iconst 4 dX10_isWord_67 ?_
                refine x_iload dX10_isWord_68 rfl ?_
                refine ii_X10_195 dX10_isWord_70 (c_X10_isLetter (k := 4) hr hn hb hhn ht (by decide)) mw_o (by decide) (Nat.le_of_ble_eq_true rfl) ?_
                refine x_if_eq 112 dX10_isWord_73 (fun h_73 => ?_) (fun h_73 => ?_)
                · refine x_iconst 0 dX10_isWord_112 ?_
                  exact Ex.ret (v := some (.int _)) ⟨dX10_isWord_113, _, rfl, (by first | rfl | decide)⟩ ⟨congrArg (fun z => some (Value.int z)) ((bi_f (fun q => bi0.mp h_73 q.2.2.2.2.2.2.2.1)).symm), rfl⟩
                · refine x_aload_n dX10_isWord_76 rfl ?_
                  refine x_iconst 5 dX10_isWord_77 ?_
                  refine x_iload dX10_isWord_78 rfl ?_
                  refine ii_X10_195 dX10_isWord_80 (c_X10_isLetter (k := 5) hr hn hb hhn ht (by decide)) mw_o (by decide) (Nat.le_of_ble_eq_true rfl) ?_
                  refine x_if_eq 112 dX10_isWord_83 (fun h_83 => ?_) (fun h_83 => ?_)
                  · refine x_iconst 0 dX10_isWord_112 ?_
                    exact Ex.ret (v := some (.int _)) ⟨dX10_isWord_113, _, rfl, (by first | rfl | decide)⟩ ⟨congrArg (fun z => some (Value.int z)) ((bi_f (fun q => bi0.mp h_83 q.2.2.2.2.2.2.2.2.1)).symm), rfl⟩
                  · refine x_aload_n dX10_isWord_86 rfl ?_
                    refine x_bipush 6 dX10_isWord_87 ?_
                    refine x_iload dX10_isWord_89 rfl ?_
                    refine ii_X10_195 dX10_isWord_91 (c_X10_isLetter (k := 6) hr hn hb hhn ht (by decide)) mw_o (by decide) (Nat.le_of_ble_eq_true rfl) ?_
                    refine x_if_eq 112 dX10_isWord_94 (fun h_94 => ?_) (fun h_94 => ?_)
                    · refine x_iconst 0 dX10_isWord_112 ?_
                      exact Ex.ret (v := some (.int _)) ⟨dX10_isWord_113, _, rfl, (by first | rfl | decide)⟩ ⟨congrArg (fun z => some (Value.int z)) ((bi_f (fun q => bi0.mp h_94 q.2.2.2.2.2.2.2.2.2.1)).symm), rfl⟩
                    · refine x_aload_n dX10_isWord_97 rfl ?_
                      refine x_bipush 7 dX10_isWord_98 ?_
                      refine x_iload dX10_isWord_100 rfl ?_
                      refine ii_X10_195 dX10_isWord_102 (c_X10_isLetter (k := 7) hr hn hb hhn ht (by decide)) mw_o (by decide) (Nat.le_of_ble_eq_true rfl) ?_
                      refine x_if_eq 112 dX10_isWord_105 (fun h_105 => ?_) (fun h_105 => ?_)
                      · refine x_iconst 0 dX10_isWord_112 ?_
                        exact Ex.ret (v := some (.int _)) ⟨dX10_isWord_113, _, rfl, (by first | rfl | decide)⟩ ⟨congrArg (fun z => some (Value.int z)) ((bi_f (fun q => bi0.mp h_105 q.2.2.2.2.2.2.2.2.2.2)).symm), rfl⟩
                      · refine x_iconst 1 dX10_isWord_108 ?_
                        refine x_goto 113 dX10_isWord_109 ?_
                        exact Ex.ret (v := some (.int _)) ⟨dX10_isWord_113, _, rfl, (by first | rfl | decide)⟩ ⟨congrArg (fun z => some (Value.int z)) ((bi_t ⟨h_4, h_12, Nat.not_lt.mp (fun q => h_26 (nI_lt q (by omega))), bi1.mp h_35, bi1.mp h_44, bi1.mp h_53, bi1.mp h_63, bi1.mp h_73, bi1.mp h_83, bi1.mp h_94, bi1.mp h_105⟩).symm), rfl⟩
set_option maxRecDepth 100000 in
set_option maxHeartbeats 4000000 in
theorem c_X10_isSign {X : Nat × (Nat → Int32)} {S : CS} {tl : pc_W} {T : MT} {U : MU} {o : (Nat → Int32)} {fr : Int32} {sz : Int32} {to : Int32} {ta : Int32} {tw : Int64} {op : Int32} {ba : Int32} {fa : Int32} {C : MC} {K : MK} {H : MH} {he c : Int32} : Mt X 0 0 0 yX10_isSign cX10_isSign 2 (some .boolean) [.ref 42, .int c] (cst S ++ (mw T U (o, fr, sz, he, to, ta, tw, op, ba, fa) C K H ++ tl)) (RI (bi (ba = 0 ∧ to = 3 ∧ tw = c.toInt64)) (cst S ++ (mw T U (o, fr, sz, he, to, ta, tw, op, ba, fa) C K H ++ tl))) := by
  refine Mt.of (by decide +kernel) (fun _ _ => Nat.le_of_ble_eq_true rfl) ?_
  show Ex X mX10_isSign _ _ _ _ _ _ _ _
  refine x_aload_n dX10_isSign_0 rfl ?_
  refine mg_188 dX10_isSign_1 ?_
  refine x_if_ne 29 dX10_isSign_4 (fun h_4 => ?_) (fun h_4 => ?_)
  · refine x_iconst 0 dX10_isSign_29 ?_
    exact Ex.ret (v := some (.int _)) ⟨dX10_isSign_30, _, rfl, (by first | rfl | decide)⟩ ⟨congrArg (fun z => some (Value.int z)) ((bi_f (fun q => h_4 q.1)).symm), rfl⟩
  · refine x_aload_n dX10_isSign_7 rfl ?_
    refine mg_171 dX10_isSign_8 ?_
    refine x_iconst 3 dX10_isSign_11 ?_
    refine x_icmp_ne 29 dX10_isSign_12 (fun h_12 => ?_) (fun h_12 => ?_)
    · refine x_iconst 0 dX10_isSign_29 ?_
      exact Ex.ret (v := some (.int _)) ⟨dX10_isSign_30, _, rfl, (by first | rfl | decide)⟩ ⟨congrArg (fun z => some (Value.int z)) ((bi_f (fun q => h_12 q.2.1)).symm), rfl⟩
    · refine x_aload_n dX10_isSign_15 rfl ?_
      refine mg_182 dX10_isSign_16 ?_
      refine x_iload_n dX10_isSign_19 rfl ?_
      refine x_i2l dX10_isSign_20 ?_
      refine x_lcmp dX10_isSign_21 ?_
      refine x_if_ne 29 dX10_isSign_22 (fun h_22 => ?_) (fun h_22 => ?_)
      · refine x_iconst 0 dX10_isSign_29 ?_
        exact Ex.ret (v := some (.int _)) ⟨dX10_isSign_30, _, rfl, (by first | rfl | decide)⟩ ⟨congrArg (fun z => some (Value.int z)) ((bi_f (fun q => h_22 ((lg_cmp_eq _ _).mpr q.2.2))).symm), rfl⟩
      · refine x_iconst 1 dX10_isSign_25 ?_
        refine x_goto 30 dX10_isSign_26 ?_
        exact Ex.ret (v := some (.int _)) ⟨dX10_isSign_30, _, rfl, (by first | rfl | decide)⟩ ⟨congrArg (fun z => some (Value.int z)) ((bi_t ⟨h_4, h_12, (lg_cmp_eq _ _).mp h_22⟩).symm), rfl⟩
set_option maxRecDepth 100000 in
set_option maxHeartbeats 4000000 in
theorem c_X10_fail {X : Nat × (Nat → Int32)} {S : CS} {tl : pc_W} {T : MT} {U : MU} {o : (Nat → Int32)} {fr : Int32} {sz : Int32} {he : Int32} {to : Int32} {ta : Int32} {tw : Int64} {op : Int32} {ba : Int32} {fa : Int32} {C : MC} {K : MK} {H : MH} (hb01 : ba = 0 ∨ ba = 1): Mt X 0 0 0 yX10_fail cX10_fail 1 none [.ref 42] (cst S ++ (mw T U (o, fr, sz, he, to, ta, tw, op, ba, fa) C K H ++ tl)) (RV (cst S ++ (mw T U (o, fr, sz, he, to, ta, tw, op, 1, (if ba = 0 then ta else fa)) C K H ++ tl))) := by
  refine Mt.of (by decide +kernel) (fun _ _ => Nat.le_of_ble_eq_true rfl) ?_
  show Ex X mX10_fail _ _ _ _ _ _ _ _
  refine x_aload_n dX10_fail_0 rfl ?_
  refine mg_188 dX10_fail_1 ?_
  refine x_if_ne 20 dX10_fail_4 (fun h_4 => ?_) (fun h_4 => ?_)
  · have hb1 : ba = 1 := hb01.resolve_left h_4
    subst hb1
    exact Ex.ret (v := none) ⟨rfl, dX10_fail_20⟩ ⟨rfl, rfl⟩
  · refine x_aload_n dX10_fail_7 rfl ?_
    refine x_iconst 1 dX10_fail_8 ?_
    refine mp_188 dX10_fail_9 ⟨rfl, rfl⟩ ?_
    refine x_aload_n dX10_fail_12 rfl ?_
    refine x_aload_n dX10_fail_13 rfl ?_
    refine mg_168 dX10_fail_14 ?_
    refine mp_192 dX10_fail_17 ?_
    subst h_4
    exact Ex.ret (v := none) ⟨rfl, dX10_fail_20⟩ ⟨rfl, rfl⟩
