abbrev ofP (z : Nat) (what of : Int32) : Prop := what < 3 ∨ (¬ what < 3 ∧ (((what = 3 ∨ what = 4 ∨ what = 11) ∧ 0 ≤ of ∧ of < 8) ∨ (¬ (what = 3 ∨ what = 4 ∨ what = 11) ∧ onC z of)))
set_option maxRecDepth 100000 in
set_option maxHeartbeats 4000000 in
theorem c_X10_isOf {X : Nat × (Nat → Int32)} {S : CS} {tl : pc_W} {T : MT} {ru : Int32} {ou : (Nat → Int32)} {we : (Nat → Int32)} {me : Int32} {ki : (Nat → Int32)} {ro : (Nat → Int32)} {ma : Int32} {Λ : ML} {C : MC} {K : MK} {H : MH} {z : Nat} {what of : Int32} (hz : ma = nI z) (hz6 : z ≤ 6): Mt X 2 0 0 yX10_isOf cX10_isOf 3 (some .boolean) [.ref 42, .int what, .int of] (cst S ++ (mw T (ru, ou, we, me, ki, ro, ma) Λ C K H ++ tl)) (RI (bi (ofP z what of)) (cst S ++ (mw T (ru, ou, we, me, ki, ro, ma) Λ C K H ++ tl))) := by
  refine Mt.of (by decide +kernel) (fun _ _ => Nat.le_of_ble_eq_true rfl) ?_
  show Ex X mX10_isOf _ _ _ _ _ _ _ _
  refine x_iload_n dX10_isOf_0 rfl ?_
  refine x_iconst 3 dX10_isOf_1 ?_
  refine x_icmp_lt 39 dX10_isOf_2 (fun h_2 => ?_) (fun h_2 => ?_)
  · refine x_iconst 1 dX10_isOf_39 ?_
    refine x_goto 44 dX10_isOf_40 ?_
    exact Ex.ret (v := some (.int _)) ⟨dX10_isOf_44, _, rfl, by first | rfl | decide⟩ ⟨congrArg (fun z => some (Value.int z)) ((bi_t (Or.inl h_2)).symm), rfl⟩
  · refine x_iload_n dX10_isOf_5 rfl ?_
    refine x_iconst 3 dX10_isOf_6 ?_
    refine x_icmp_eq 21 dX10_isOf_7 (fun h_7 => ?_) (fun h_7 => ?_)
    · refine x_iload_n dX10_isOf_21 rfl ?_
      refine ii_X10_82 dX10_isOf_22 c_X10_isHour (by decide) (Nat.le_of_ble_eq_true rfl) ?_
      refine x_if_eq 43 dX10_isOf_25 (fun h_25 => ?_) (fun h_25 => ?_)
      · refine x_iconst 0 dX10_isOf_43 ?_
        exact Ex.ret (v := some (.int _)) ⟨dX10_isOf_44, _, rfl, by first | rfl | decide⟩ ⟨congrArg (fun z => some (Value.int z)) ((bi_f (fun q => q.elim h_2 (fun y => y.2.elim (fun x => bi0.mp h_25 x.2) (fun x => x.1 (Or.inl h_7))))).symm), rfl⟩
      · refine x_goto 39 dX10_isOf_28 ?_
        refine x_iconst 1 dX10_isOf_39 ?_
        refine x_goto 44 dX10_isOf_40 ?_
        exact Ex.ret (v := some (.int _)) ⟨dX10_isOf_44, _, rfl, by first | rfl | decide⟩ ⟨congrArg (fun z => some (Value.int z)) ((bi_t (Or.inr ⟨h_2, Or.inl ⟨(Or.inl h_7), bi1.mp h_25⟩⟩)).symm), rfl⟩
    · refine x_iload_n dX10_isOf_10 rfl ?_
      refine x_iconst 4 dX10_isOf_11 ?_
      refine x_icmp_eq 21 dX10_isOf_12 (fun h_12 => ?_) (fun h_12 => ?_)
      · refine x_iload_n dX10_isOf_21 rfl ?_
        refine ii_X10_82 dX10_isOf_22 c_X10_isHour (by decide) (Nat.le_of_ble_eq_true rfl) ?_
        refine x_if_eq 43 dX10_isOf_25 (fun h_25 => ?_) (fun h_25 => ?_)
        · refine x_iconst 0 dX10_isOf_43 ?_
          exact Ex.ret (v := some (.int _)) ⟨dX10_isOf_44, _, rfl, by first | rfl | decide⟩ ⟨congrArg (fun z => some (Value.int z)) ((bi_f (fun q => q.elim h_2 (fun y => y.2.elim (fun x => bi0.mp h_25 x.2) (fun x => x.1 (Or.inr (Or.inl h_12)))))).symm), rfl⟩
        · refine x_goto 39 dX10_isOf_28 ?_
          refine x_iconst 1 dX10_isOf_39 ?_
          refine x_goto 44 dX10_isOf_40 ?_
          exact Ex.ret (v := some (.int _)) ⟨dX10_isOf_44, _, rfl, by first | rfl | decide⟩ ⟨congrArg (fun z => some (Value.int z)) ((bi_t (Or.inr ⟨h_2, Or.inl ⟨(Or.inr (Or.inl h_12)), bi1.mp h_25⟩⟩)).symm), rfl⟩
      · refine x_iload_n dX10_isOf_15 rfl ?_
        refine x_bipush 11 dX10_isOf_16 ?_
        refine x_icmp_ne 31 dX10_isOf_18 (fun h_18 => ?_) (fun h_18 => ?_)
        · refine x_aload_n dX10_isOf_31 rfl ?_
          refine x_iload_n dX10_isOf_32 rfl ?_
          refine ii_X10_86 dX10_isOf_33 (c_X10_isOne hz hz6) mw_o (by decide) (Nat.le_of_ble_eq_true rfl) ?_
          refine x_if_eq 43 dX10_isOf_36 (fun h_36 => ?_) (fun h_36 => ?_)
          · refine x_iconst 0 dX10_isOf_43 ?_
            exact Ex.ret (v := some (.int _)) ⟨dX10_isOf_44, _, rfl, by first | rfl | decide⟩ ⟨congrArg (fun z => some (Value.int z)) ((bi_f (fun q => q.elim h_2 (fun y => y.2.elim (fun x => (fun y => y.elim h_7 (fun y => y.elim h_12 h_18)) x.1) (fun x => bi0.mp h_36 x.2)))).symm), rfl⟩
          · refine x_iconst 1 dX10_isOf_39 ?_
            refine x_goto 44 dX10_isOf_40 ?_
            exact Ex.ret (v := some (.int _)) ⟨dX10_isOf_44, _, rfl, by first | rfl | decide⟩ ⟨congrArg (fun z => some (Value.int z)) ((bi_t (Or.inr ⟨h_2, Or.inr ⟨(fun y => y.elim h_7 (fun y => y.elim h_12 h_18)), bi1.mp h_36⟩⟩)).symm), rfl⟩
        · refine x_iload_n dX10_isOf_21 rfl ?_
          refine ii_X10_82 dX10_isOf_22 c_X10_isHour (by decide) (Nat.le_of_ble_eq_true rfl) ?_
          refine x_if_eq 43 dX10_isOf_25 (fun h_25 => ?_) (fun h_25 => ?_)
          · refine x_iconst 0 dX10_isOf_43 ?_
            exact Ex.ret (v := some (.int _)) ⟨dX10_isOf_44, _, rfl, by first | rfl | decide⟩ ⟨congrArg (fun z => some (Value.int z)) ((bi_f (fun q => q.elim h_2 (fun y => y.2.elim (fun x => bi0.mp h_25 x.2) (fun x => x.1 (Or.inr (Or.inr h_18)))))).symm), rfl⟩
          · refine x_goto 39 dX10_isOf_28 ?_
            refine x_iconst 1 dX10_isOf_39 ?_
            refine x_goto 44 dX10_isOf_40 ?_
            exact Ex.ret (v := some (.int _)) ⟨dX10_isOf_44, _, rfl, by first | rfl | decide⟩ ⟨congrArg (fun z => some (Value.int z)) ((bi_t (Or.inr ⟨h_2, Or.inl ⟨(Or.inr (Or.inr h_18)), bi1.mp h_25⟩⟩)).symm), rfl⟩
set_option maxRecDepth 100000 in
set_option maxHeartbeats 4000000 in
theorem c_X10_lays_0 {X : Nat × (Nat → Int32)} {S : CS} {tl : pc_W} {T : MT} {ru : Int32} {ou : (Nat → Int32)} {we : (Nat → Int32)} {me : Int32} {ki : (Nat → Int32)} {ro : (Nat → Int32)} {ma : Int32} {Λ : ML} {C : MC} {K : MK} {H : MH}   {of v : Int32} : Mt X 0 0 0 yX10_lays cX10_lays 4 none [.ref 42, .int 0, .int of, .int v] (cst S ++ (mw T (ru, ou, we, me, ki, ro, ma) Λ C K H ++ tl)) (RV (cst S ++ (mw T (ru, (upd ou 0 v), we, me, ki, ro, ma) Λ C K H ++ tl))) := by
  refine Mt.of (by decide +kernel) (fun _ _ => Nat.le_of_ble_eq_true rfl) ?_
  show Ex X mX10_lays _ _ _ _ _ _ _ _
  refine x_iload_n dX10_lays_0 rfl ?_
  refine x_iconst 3 dX10_lays_1 ?_
  refine x_icmp_ge 15 dX10_lays_2 (fun hx => absurd hx (by decide)) (fun _ => ?_)
  refine x_aload_n dX10_lays_5 rfl ?_
  refine mg_23 dX10_lays_6 ?_
  refine x_iload_n dX10_lays_9 rfl ?_
  refine x_iload_n dX10_lays_10 rfl ?_
  refine msK_46 0 dX10_lays_11 rfl (by decide) ?_
  refine x_goto 113 dX10_lays_12 ?_
  exact Ex.ret (v := none) ⟨rfl, dX10_lays_113⟩ ⟨rfl, rfl⟩
set_option maxRecDepth 100000 in
set_option maxHeartbeats 4000000 in
theorem c_X10_lays_1 {X : Nat × (Nat → Int32)} {S : CS} {tl : pc_W} {T : MT} {ru : Int32} {ou : (Nat → Int32)} {we : (Nat → Int32)} {me : Int32} {ki : (Nat → Int32)} {ro : (Nat → Int32)} {ma : Int32} {Λ : ML} {C : MC} {K : MK} {H : MH}   {of v : Int32} : Mt X 0 0 0 yX10_lays cX10_lays 4 none [.ref 42, .int 1, .int of, .int v] (cst S ++ (mw T (ru, ou, we, me, ki, ro, ma) Λ C K H ++ tl)) (RV (cst S ++ (mw T (ru, (upd ou 1 v), we, me, ki, ro, ma) Λ C K H ++ tl))) := by
  refine Mt.of (by decide +kernel) (fun _ _ => Nat.le_of_ble_eq_true rfl) ?_
  show Ex X mX10_lays _ _ _ _ _ _ _ _
  refine x_iload_n dX10_lays_0 rfl ?_
  refine x_iconst 3 dX10_lays_1 ?_
  refine x_icmp_ge 15 dX10_lays_2 (fun hx => absurd hx (by decide)) (fun _ => ?_)
  refine x_aload_n dX10_lays_5 rfl ?_
  refine mg_23 dX10_lays_6 ?_
  refine x_iload_n dX10_lays_9 rfl ?_
  refine x_iload_n dX10_lays_10 rfl ?_
  refine msK_46 1 dX10_lays_11 rfl (by decide) ?_
  refine x_goto 113 dX10_lays_12 ?_
  exact Ex.ret (v := none) ⟨rfl, dX10_lays_113⟩ ⟨rfl, rfl⟩
set_option maxRecDepth 100000 in
set_option maxHeartbeats 4000000 in
theorem c_X10_lays_2 {X : Nat × (Nat → Int32)} {S : CS} {tl : pc_W} {T : MT} {ru : Int32} {ou : (Nat → Int32)} {we : (Nat → Int32)} {me : Int32} {ki : (Nat → Int32)} {ro : (Nat → Int32)} {ma : Int32} {Λ : ML} {C : MC} {K : MK} {H : MH}   {of v : Int32} : Mt X 0 0 0 yX10_lays cX10_lays 4 none [.ref 42, .int 2, .int of, .int v] (cst S ++ (mw T (ru, ou, we, me, ki, ro, ma) Λ C K H ++ tl)) (RV (cst S ++ (mw T (ru, (upd ou 2 v), we, me, ki, ro, ma) Λ C K H ++ tl))) := by
  refine Mt.of (by decide +kernel) (fun _ _ => Nat.le_of_ble_eq_true rfl) ?_
  show Ex X mX10_lays _ _ _ _ _ _ _ _
  refine x_iload_n dX10_lays_0 rfl ?_
  refine x_iconst 3 dX10_lays_1 ?_
  refine x_icmp_ge 15 dX10_lays_2 (fun hx => absurd hx (by decide)) (fun _ => ?_)
  refine x_aload_n dX10_lays_5 rfl ?_
  refine mg_23 dX10_lays_6 ?_
  refine x_iload_n dX10_lays_9 rfl ?_
  refine x_iload_n dX10_lays_10 rfl ?_
  refine msK_46 2 dX10_lays_11 rfl (by decide) ?_
  refine x_goto 113 dX10_lays_12 ?_
  exact Ex.ret (v := none) ⟨rfl, dX10_lays_113⟩ ⟨rfl, rfl⟩
set_option maxRecDepth 100000 in
set_option maxHeartbeats 4000000 in
theorem c_X10_lays_3 {X : Nat × (Nat → Int32)} {S : CS} {tl : pc_W} {T : MT} {ru : Int32} {ou : (Nat → Int32)} {we : (Nat → Int32)} {me : Int32} {ki : (Nat → Int32)} {ro : (Nat → Int32)} {ma : Int32} {Λ : ML} {C : MC} {K : MK} {H : MH}  {i : Nat} {v : Int32} (hi : i < 8): Mt X 0 0 0 yX10_lays cX10_lays 4 none [.ref 42, .int 3, .int (nI i), .int v] (cst S ++ (mw T (ru, ou, we, me, ki, ro, ma) Λ C K H ++ tl)) (RV (cst S ++ (mw T (ru, ou, (upd we i v), me, ki, ro, ma) Λ C K H ++ tl))) := by
  refine Mt.of (by decide +kernel) (fun _ _ => Nat.le_of_ble_eq_true rfl) ?_
  show Ex X mX10_lays _ _ _ _ _ _ _ _
  refine x_iload_n dX10_lays_0 rfl ?_
  refine x_iconst 3 dX10_lays_1 ?_
  refine x_icmp_ge 15 dX10_lays_2 (fun _ => ?_) (fun hx => absurd (by decide) hx)
  refine x_iload_n dX10_lays_15 rfl ?_
  refine x_iconst 3 dX10_lays_16 ?_
  refine x_icmp_ne 30 dX10_lays_17 (fun hx => absurd (rfl) hx) (fun _ => ?_)
  refine x_aload_n dX10_lays_20 rfl ?_
  refine mg_26 dX10_lays_21 ?_
  refine x_iload_n dX10_lays_24 rfl ?_
  refine x_iload_n dX10_lays_25 rfl ?_
  refine msN_47 dX10_lays_26 hi ?_
  refine x_goto 113 dX10_lays_27 ?_
  exact Ex.ret (v := none) ⟨rfl, dX10_lays_113⟩ ⟨rfl, rfl⟩
set_option maxRecDepth 100000 in
set_option maxHeartbeats 4000000 in
theorem c_X10_lays_4 {X : Nat × (Nat → Int32)} {S : CS} {tl : pc_W} {T : MT} {ru : Int32} {ou : (Nat → Int32)} {we : (Nat → Int32)} {me : Int32} {ki : (Nat → Int32)} {ro : (Nat → Int32)} {ma : Int32} {Λ : ML} {C : MC} {K : MK} {H : MH}   {of v : Int32} : Mt X 0 0 0 yX10_lays cX10_lays 4 none [.ref 42, .int 4, .int of, .int v] (cst S ++ (mw T (ru, ou, we, me, ki, ro, ma) Λ C K H ++ tl)) (RV (cst S ++ (mw T (ru, ou, we, (meU me of v), ki, ro, ma) Λ C K H ++ tl))) := by
  refine Mt.of (by decide +kernel) (fun _ _ => Nat.le_of_ble_eq_true rfl) ?_
  show Ex X mX10_lays _ _ _ _ _ _ _ _
  refine x_iload_n dX10_lays_0 rfl ?_
  refine x_iconst 3 dX10_lays_1 ?_
  refine x_icmp_ge 15 dX10_lays_2 (fun _ => ?_) (fun hx => absurd (by decide) hx)
  refine x_iload_n dX10_lays_15 rfl ?_
  refine x_iconst 3 dX10_lays_16 ?_
  refine x_icmp_ne 30 dX10_lays_17 (fun _ => ?_) (fun hx => absurd hx (by decide))
  refine x_iload_n dX10_lays_30 rfl ?_
  refine x_iconst 4 dX10_lays_31 ?_
  refine x_icmp_ne 56 dX10_lays_32 (fun hx => absurd (rfl) hx) (fun _ => ?_)
  refine x_aload_n dX10_lays_35 rfl ?_
  refine x_aload_n dX10_lays_36 rfl ?_
  refine mg_113 dX10_lays_37 ?_
  refine x_iconst 1 dX10_lays_40 ?_
  refine x_iload_n dX10_lays_41 rfl ?_
  refine x_ishl dX10_lays_42 ?_
  refine x_iconst (-1) dX10_lays_43 ?_
  refine x_ixor dX10_lays_44 ?_
  refine x_iand dX10_lays_45 ?_
  refine x_iload_n dX10_lays_46 rfl ?_
  refine x_iload_n dX10_lays_47 rfl ?_
  refine x_ishl dX10_lays_48 ?_
  refine x_ior dX10_lays_49 ?_
  refine mp_113 dX10_lays_50 ?_
  refine x_goto 113 dX10_lays_53 ?_
  exact Ex.ret (v := none) ⟨rfl, dX10_lays_113⟩ ⟨rfl, rfl⟩
set_option maxRecDepth 100000 in
set_option maxHeartbeats 4000000 in
theorem c_X10_lays_5 {X : Nat × (Nat → Int32)} {S : CS} {tl : pc_W} {T : MT} {ru : Int32} {ou : (Nat → Int32)} {we : (Nat → Int32)} {me : Int32} {ki : (Nat → Int32)} {ro : (Nat → Int32)} {ma : Int32} {Λ : ML} {C : MC} {K : MK} {H : MH}  {i : Nat} {v : Int32} (hi : i < 6): Mt X 0 0 0 yX10_lays cX10_lays 4 none [.ref 42, .int 5, .int (nI i), .int v] (cst S ++ (mw T (ru, ou, we, me, ki, ro, ma) Λ C K H ++ tl)) (RV (cst S ++ (mw T (ru, ou, we, me, ki, (upd ro (2 * i) v), ma) Λ C K H ++ tl))) := by
  refine Mt.of (by decide +kernel) (fun _ _ => Nat.le_of_ble_eq_true rfl) ?_
  show Ex X mX10_lays _ _ _ _ _ _ _ _
  refine x_iload_n dX10_lays_0 rfl ?_
  refine x_iconst 3 dX10_lays_1 ?_
  refine x_icmp_ge 15 dX10_lays_2 (fun _ => ?_) (fun hx => absurd (by decide) hx)
  refine x_iload_n dX10_lays_15 rfl ?_
  refine x_iconst 3 dX10_lays_16 ?_
  refine x_icmp_ne 30 dX10_lays_17 (fun _ => ?_) (fun hx => absurd hx (by decide))
  refine x_iload_n dX10_lays_30 rfl ?_
  refine x_iconst 4 dX10_lays_31 ?_
  refine x_icmp_ne 56 dX10_lays_32 (fun _ => ?_) (fun hx => absurd hx (by decide))
  refine x_iload_n dX10_lays_56 rfl ?_
  refine x_bipush 7 dX10_lays_57 ?_
  refine x_icmp_ge 78 dX10_lays_59 (fun hx => absurd hx (by decide)) (fun _ => ?_)
  refine x_aload_n dX10_lays_62 rfl ?_
  refine mg_32 dX10_lays_63 ?_
  refine x_iconst 2 dX10_lays_66 ?_
  refine x_iload_n dX10_lays_67 rfl ?_
  refine x_imul dX10_lays_68 ?_
  refine x_iload_n dX10_lays_69 rfl ?_
  refine x_iadd dX10_lays_70 ?_
  refine x_iconst 5 dX10_lays_71 ?_
  refine x_isub dX10_lays_72 ?_
  rw [show (2 : Int32) * nI i + 5 - 5 = nI (2 * i) from by rw [show (2 : Int32) * nI i = nI (2 * i) from pk_mul 2 i, show nI (2 * i) + 5 = nI (2 * i + 5) from nI_add (2 * i) 5, show nI (2 * i + 5) - 5 = nI (2 * i + 5 - 5) from pk_sub (b := 5) (by omega), show 2 * i + 5 - 5 = 2 * i by omega]]
  refine x_iload_n dX10_lays_73 rfl ?_
  refine msN_49 dX10_lays_74 (show 2 * i < 12 by omega) ?_
  refine x_goto 113 dX10_lays_75 ?_
  exact Ex.ret (v := none) ⟨rfl, dX10_lays_113⟩ ⟨rfl, rfl⟩
set_option maxRecDepth 100000 in
set_option maxHeartbeats 4000000 in
theorem c_X10_lays_6 {X : Nat × (Nat → Int32)} {S : CS} {tl : pc_W} {T : MT} {ru : Int32} {ou : (Nat → Int32)} {we : (Nat → Int32)} {me : Int32} {ki : (Nat → Int32)} {ro : (Nat → Int32)} {ma : Int32} {Λ : ML} {C : MC} {K : MK} {H : MH}  {i : Nat} {v : Int32} (hi : i < 6): Mt X 0 0 0 yX10_lays cX10_lays 4 none [.ref 42, .int 6, .int (nI i), .int v] (cst S ++ (mw T (ru, ou, we, me, ki, ro, ma) Λ C K H ++ tl)) (RV (cst S ++ (mw T (ru, ou, we, me, ki, (upd ro (2 * i + 1) v), ma) Λ C K H ++ tl))) := by
  refine Mt.of (by decide +kernel) (fun _ _ => Nat.le_of_ble_eq_true rfl) ?_
  show Ex X mX10_lays _ _ _ _ _ _ _ _
  refine x_iload_n dX10_lays_0 rfl ?_
  refine x_iconst 3 dX10_lays_1 ?_
  refine x_icmp_ge 15 dX10_lays_2 (fun _ => ?_) (fun hx => absurd (by decide) hx)
  refine x_iload_n dX10_lays_15 rfl ?_
  refine x_iconst 3 dX10_lays_16 ?_
  refine x_icmp_ne 30 dX10_lays_17 (fun _ => ?_) (fun hx => absurd hx (by decide))
  refine x_iload_n dX10_lays_30 rfl ?_
  refine x_iconst 4 dX10_lays_31 ?_
  refine x_icmp_ne 56 dX10_lays_32 (fun _ => ?_) (fun hx => absurd hx (by decide))
  refine x_iload_n dX10_lays_56 rfl ?_
  refine x_bipush 7 dX10_lays_57 ?_
  refine x_icmp_ge 78 dX10_lays_59 (fun hx => absurd hx (by decide)) (fun _ => ?_)
  refine x_aload_n dX10_lays_62 rfl ?_
  refine mg_32 dX10_lays_63 ?_
  refine x_iconst 2 dX10_lays_66 ?_
  refine x_iload_n dX10_lays_67 rfl ?_
  refine x_imul dX10_lays_68 ?_
  refine x_iload_n dX10_lays_69 rfl ?_
  refine x_iadd dX10_lays_70 ?_
  refine x_iconst 5 dX10_lays_71 ?_
  refine x_isub dX10_lays_72 ?_
  rw [show (2 : Int32) * nI i + 6 - 5 = nI (2 * i + 1) from by rw [show (2 : Int32) * nI i = nI (2 * i) from pk_mul 2 i, show nI (2 * i) + 6 = nI (2 * i + 6) from nI_add (2 * i) 6, show nI (2 * i + 6) - 5 = nI (2 * i + 6 - 5) from pk_sub (b := 5) (by omega), show 2 * i + 6 - 5 = 2 * i + 1 by omega]]
  refine x_iload_n dX10_lays_73 rfl ?_
  refine msN_49 dX10_lays_74 (show 2 * i + 1 < 12 by omega) ?_
  refine x_goto 113 dX10_lays_75 ?_
  exact Ex.ret (v := none) ⟨rfl, dX10_lays_113⟩ ⟨rfl, rfl⟩
set_option maxRecDepth 100000 in
set_option maxHeartbeats 4000000 in
theorem c_X10_lays_7 {X : Nat × (Nat → Int32)} {S : CS} {tl : pc_W} {T : MT} {ru : Int32} {ou : (Nat → Int32)} {we : (Nat → Int32)} {me : Int32} {ki : (Nat → Int32)} {ro : (Nat → Int32)} {ma : Int32} {Λ : ML} {C : MC} {K : MK} {H : MH}  {i : Nat} {v : Int32} (hi : i < 6): Mt X 0 0 0 yX10_lays cX10_lays 4 none [.ref 42, .int 7, .int (nI i), .int v] (cst S ++ (mw T (ru, ou, we, me, ki, ro, ma) Λ C K H ++ tl)) (RV (cst S ++ (mw T (ru, ou, we, me, (upd ki i v), ro, ma) Λ C K H ++ tl))) := by
  refine Mt.of (by decide +kernel) (fun _ _ => Nat.le_of_ble_eq_true rfl) ?_
  show Ex X mX10_lays _ _ _ _ _ _ _ _
  refine x_iload_n dX10_lays_0 rfl ?_
  refine x_iconst 3 dX10_lays_1 ?_
  refine x_icmp_ge 15 dX10_lays_2 (fun _ => ?_) (fun hx => absurd (by decide) hx)
  refine x_iload_n dX10_lays_15 rfl ?_
  refine x_iconst 3 dX10_lays_16 ?_
  refine x_icmp_ne 30 dX10_lays_17 (fun _ => ?_) (fun hx => absurd hx (by decide))
  refine x_iload_n dX10_lays_30 rfl ?_
  refine x_iconst 4 dX10_lays_31 ?_
  refine x_icmp_ne 56 dX10_lays_32 (fun _ => ?_) (fun hx => absurd hx (by decide))
  refine x_iload_n dX10_lays_56 rfl ?_
  refine x_bipush 7 dX10_lays_57 ?_
  refine x_icmp_ge 78 dX10_lays_59 (fun _ => ?_) (fun hx => absurd (by decide) hx)
  refine x_iload_n dX10_lays_78 rfl ?_
  refine x_bipush 7 dX10_lays_79 ?_
  refine x_icmp_ne 94 dX10_lays_81 (fun hx => absurd (rfl) hx) (fun _ => ?_)
  refine x_aload_n dX10_lays_84 rfl ?_
  refine mg_29 dX10_lays_85 ?_
  refine x_iload_n dX10_lays_88 rfl ?_
  refine x_iload_n dX10_lays_89 rfl ?_
  refine msN_48 dX10_lays_90 hi ?_
  refine x_goto 113 dX10_lays_91 ?_
  exact Ex.ret (v := none) ⟨rfl, dX10_lays_113⟩ ⟨rfl, rfl⟩
set_option maxRecDepth 100000 in
set_option maxHeartbeats 4000000 in
theorem c_X10_lays_8 {X : Nat × (Nat → Int32)} {S : CS} {tl : pc_W} {T : MT} {ru : Int32} {ou : (Nat → Int32)} {we : (Nat → Int32)} {me : Int32} {ki : (Nat → Int32)} {ro : (Nat → Int32)} {ma : Int32} {Λ : ML} {C : MC} {K : MK} {H : MH}   {of v : Int32} : Mt X 0 0 0 yX10_lays cX10_lays 4 none [.ref 42, .int 8, .int of, .int v] (cst S ++ (mw T (ru, ou, we, me, ki, ro, ma) Λ C K H ++ tl)) (RV (cst S ++ (mw T (v, ou, we, me, ki, ro, ma) Λ C K H ++ tl))) := by
  refine Mt.of (by decide +kernel) (fun _ _ => Nat.le_of_ble_eq_true rfl) ?_
  show Ex X mX10_lays _ _ _ _ _ _ _ _
  refine x_iload_n dX10_lays_0 rfl ?_
  refine x_iconst 3 dX10_lays_1 ?_
  refine x_icmp_ge 15 dX10_lays_2 (fun _ => ?_) (fun hx => absurd (by decide) hx)
  refine x_iload_n dX10_lays_15 rfl ?_
  refine x_iconst 3 dX10_lays_16 ?_
  refine x_icmp_ne 30 dX10_lays_17 (fun _ => ?_) (fun hx => absurd hx (by decide))
  refine x_iload_n dX10_lays_30 rfl ?_
  refine x_iconst 4 dX10_lays_31 ?_
  refine x_icmp_ne 56 dX10_lays_32 (fun _ => ?_) (fun hx => absurd hx (by decide))
  refine x_iload_n dX10_lays_56 rfl ?_
  refine x_bipush 7 dX10_lays_57 ?_
  refine x_icmp_ge 78 dX10_lays_59 (fun _ => ?_) (fun hx => absurd (by decide) hx)
  refine x_iload_n dX10_lays_78 rfl ?_
  refine x_bipush 7 dX10_lays_79 ?_
  refine x_icmp_ne 94 dX10_lays_81 (fun _ => ?_) (fun hx => absurd hx (by decide))
  refine x_iload_n dX10_lays_94 rfl ?_
  refine x_bipush 8 dX10_lays_95 ?_
  refine x_icmp_ne 108 dX10_lays_97 (fun hx => absurd (rfl) hx) (fun _ => ?_)
  refine x_aload_n dX10_lays_100 rfl ?_
  refine x_iload_n dX10_lays_101 rfl ?_
  refine mp_116 dX10_lays_102 ?_
  refine x_goto 113 dX10_lays_105 ?_
  exact Ex.ret (v := none) ⟨rfl, dX10_lays_113⟩ ⟨rfl, rfl⟩
set_option maxRecDepth 100000 in
set_option maxHeartbeats 4000000 in
theorem c_X10_lays_9 {X : Nat × (Nat → Int32)} {S : CS} {tl : pc_W} {T : MT} {ru : Int32} {ou : (Nat → Int32)} {we : (Nat → Int32)} {me : Int32} {ki : (Nat → Int32)} {ro : (Nat → Int32)} {ma : Int32} {Λ : ML} {C : MC} {K : MK} {H : MH}   {of v : Int32} : Mt X 0 0 0 yX10_lays cX10_lays 4 none [.ref 42, .int 9, .int of, .int v] (cst S ++ (mw T (ru, ou, we, me, ki, ro, ma) Λ C K H ++ tl)) (RV (cst S ++ (mw T (ru, ou, we, v, ki, ro, ma) Λ C K H ++ tl))) := by
  refine Mt.of (by decide +kernel) (fun _ _ => Nat.le_of_ble_eq_true rfl) ?_
  show Ex X mX10_lays _ _ _ _ _ _ _ _
  refine x_iload_n dX10_lays_0 rfl ?_
  refine x_iconst 3 dX10_lays_1 ?_
  refine x_icmp_ge 15 dX10_lays_2 (fun _ => ?_) (fun hx => absurd (by decide) hx)
  refine x_iload_n dX10_lays_15 rfl ?_
  refine x_iconst 3 dX10_lays_16 ?_
  refine x_icmp_ne 30 dX10_lays_17 (fun _ => ?_) (fun hx => absurd hx (by decide))
  refine x_iload_n dX10_lays_30 rfl ?_
  refine x_iconst 4 dX10_lays_31 ?_
  refine x_icmp_ne 56 dX10_lays_32 (fun _ => ?_) (fun hx => absurd hx (by decide))
  refine x_iload_n dX10_lays_56 rfl ?_
  refine x_bipush 7 dX10_lays_57 ?_
  refine x_icmp_ge 78 dX10_lays_59 (fun _ => ?_) (fun hx => absurd (by decide) hx)
  refine x_iload_n dX10_lays_78 rfl ?_
  refine x_bipush 7 dX10_lays_79 ?_
  refine x_icmp_ne 94 dX10_lays_81 (fun _ => ?_) (fun hx => absurd hx (by decide))
  refine x_iload_n dX10_lays_94 rfl ?_
  refine x_bipush 8 dX10_lays_95 ?_
  refine x_icmp_ne 108 dX10_lays_97 (fun _ => ?_) (fun hx => absurd hx (by decide))
  refine x_aload_n dX10_lays_108 rfl ?_
  refine x_iload_n dX10_lays_109 rfl ?_
  refine mp_113 dX10_lays_110 ?_
  exact Ex.ret (v := none) ⟨rfl, dX10_lays_113⟩ ⟨rfl, rfl⟩
def peU (U : MU) (z : Nat) (k n : Int32) : MU := if peC k n ∧ z < 6 then (U.1, U.2.1, U.2.2.1, U.2.2.2.1, upd U.2.2.2.2.1 z k, upd (upd U.2.2.2.2.2.1 (2 * z) n) (2 * z + 1) 5, nI (z + 1)) else U
theorem le5 {x : Int32} (h : x < 6) : x ≤ 5 := by
  rw [Int32.lt_iff_toInt_lt, tI_6] at h
  rw [Int32.le_iff_toInt_le, tI_5]
  omega
theorem lt6 {x : Int32} (h : x ≤ 5) : x < 6 := Int32.lt_of_le_of_lt h (by decide)
theorem le9 {x : Int32} (h : x < 10) : x ≤ 9 := by
  rw [Int32.lt_iff_toInt_lt, tI_10] at h
  rw [Int32.le_iff_toInt_le, tI_9]
  omega
theorem lt10 {x : Int32} (h : x ≤ 9) : x < 10 := Int32.lt_of_le_of_lt h (by decide)
set_option maxRecDepth 100000 in
set_option maxHeartbeats 4000000 in
theorem c_X10_person {X : Nat × (Nat → Int32)} {S : CS} {tl : pc_W} {T : MT} {ru : Int32} {ou : (Nat → Int32)} {we : (Nat → Int32)} {me : Int32} {ki : (Nat → Int32)} {ro : (Nat → Int32)} {Λ : ML} {C : MC} {K : MK} {H : MH} {z : Nat} {k n : Int32} (hz6 : z ≤ 6): Mt X 1 0 0 yX10_person cX10_person 3 (some .int) [.ref 42, .int k, .int n] (cst S ++ (mw T (ru, ou, we, me, ki, ro, nI z) Λ C K H ++ tl)) (RI (peF z k n) (cst S ++ (mw T (peU (ru, ou, we, me, ki, ro, nI z) z k n) Λ C K H ++ tl))) := by
  refine Mt.of (by decide +kernel) (fun _ _ => Nat.le_of_ble_eq_true rfl) ?_
  show Ex X mX10_person _ _ _ _ _ _ _ _
  refine x_iload_n dX10_person_0 rfl ?_
  refine x_i2l dX10_person_1 ?_
  refine x_lconst 0 dX10_person_2 ?_
  refine x_ldc2_w dX10_person_3 kk_X10_119 ?_
  refine ii_X10_76 dX10_person_6 (c_X10_inC (a := 0) (b := 5) (by first | rfl | decide) (by first | rfl | decide)) (by decide) (Nat.le_of_ble_eq_true rfl) ?_
  refine x_if_eq 24 dX10_person_9 (fun h_9 => ?_) (fun h_9 => ?_)
  · refine x_bipush (-2) dX10_person_24 ?_
    have hbad : ¬ peC k n := (fun q => bi0.mp h_9 ⟨q.1, le5 q.2.1⟩)
    have hno : ¬ (peC k n ∧ z < 6) := fun q => hbad q.1
    exact Ex.ret (v := some (.int _)) ⟨dX10_person_26, _, rfl, by first | rfl | decide⟩ ⟨congrArg (fun z => some (Value.int z)) (by unfold peF; rw [if_neg hbad]), by rw [show peU (ru, ou, we, me, ki, ro, nI z) z k n = (ru, ou, we, me, ki, ro, nI z) from if_neg hno]⟩
  · refine x_iload_n dX10_person_12 rfl ?_
    refine x_i2l dX10_person_13 ?_
    refine x_lconst 0 dX10_person_14 ?_
    refine x_ldc2_w dX10_person_15 kk_X10_121 ?_
    refine ii_X10_76 dX10_person_18 (c_X10_inC (a := 0) (b := 9) (by first | rfl | decide) (by first | rfl | decide)) (by decide) (Nat.le_of_ble_eq_true rfl) ?_
    refine x_if_ne 27 dX10_person_21 (fun h_21 => ?_) (fun h_21 => ?_)
    · have hpe : peC k n := ⟨(bi1.mp h_9).1, lt6 (bi1.mp h_9).2, (bi1.mp h_21).1, lt10 (bi1.mp h_21).2⟩
      refine x_aload_n dX10_person_27 rfl ?_
      refine mg_73 dX10_person_28 ?_
      refine x_bipush 6 dX10_person_31 ?_
      refine x_icmp_ne 39 dX10_person_33 (fun h_33 => ?_) (fun h_33 => ?_)
      · have hz7 : z < 6 := Nat.lt_of_le_of_ne hz6 (fun q => h_33 (by rw [q]; rfl))
        refine x_aload_n dX10_person_39 rfl ?_
        refine mg_29 dX10_person_40 ?_
        refine x_aload_n dX10_person_43 rfl ?_
        refine mg_73 dX10_person_44 ?_
        refine x_iload_n dX10_person_47 rfl ?_
        refine msN_48 dX10_person_48 hz7 ?_
        refine x_aload_n dX10_person_49 rfl ?_
        refine mg_32 dX10_person_50 ?_
        refine x_iconst 2 dX10_person_53 ?_
        refine x_aload_n dX10_person_54 rfl ?_
        refine mg_73 dX10_person_55 ?_
        refine x_imul dX10_person_58 ?_
        rw [show (2 : Int32) * nI z = nI (2 * z) from pk_mul 2 z]
        refine x_iload_n dX10_person_59 rfl ?_
        refine msN_49 dX10_person_60 (show 2 * z < 12 by omega) ?_
        refine x_aload_n dX10_person_61 rfl ?_
        refine mg_32 dX10_person_62 ?_
        refine x_iconst 2 dX10_person_65 ?_
        refine x_aload_n dX10_person_66 rfl ?_
        refine mg_73 dX10_person_67 ?_
        refine x_imul dX10_person_70 ?_
        refine x_iconst 1 dX10_person_71 ?_
        refine x_iadd dX10_person_72 ?_
        rw [show (2 : Int32) * nI z = nI (2 * z) from pk_mul 2 z, nI_1]
        refine x_iconst 5 dX10_person_73 ?_
        refine msN_49 dX10_person_74 (show 2 * z + 1 < 12 by omega) ?_
        refine x_aload_n dX10_person_75 rfl ?_
        refine x_dup dX10_person_76 ?_
        refine mg_73 dX10_person_77 ?_
        refine x_iconst 1 dX10_person_80 ?_
        refine x_iadd dX10_person_81 ?_
        rw [nI_1]
        refine mp_73 dX10_person_82 ?_
        refine x_aload_n dX10_person_85 rfl ?_
        refine mg_73 dX10_person_86 ?_
        refine x_iconst 1 dX10_person_89 ?_
        refine x_isub dX10_person_90 ?_
        exact Ex.ret (v := some (.int _)) ⟨dX10_person_91, _, rfl, by first | rfl | decide⟩ ⟨congrArg (fun z => some (Value.int z)) (by unfold peF; rw [if_pos hpe, if_pos hz7]; exact nI_pred z), by rw [show peU (ru, ou, we, me, ki, ro, nI z) z k n = _ from if_pos ⟨hpe, hz7⟩]⟩
      · refine x_bipush (-4) dX10_person_36 ?_
        have hz66 : ¬ z < 6 := fun q => absurd ((nI_eq (b := 6) (by omega) (by decide)).mp h_33) (by omega)
        have hno : ¬ (peC k n ∧ z < 6) := fun q => hz66 q.2
        exact Ex.ret (v := some (.int _)) ⟨dX10_person_38, _, rfl, by first | rfl | decide⟩ ⟨congrArg (fun z => some (Value.int z)) (by unfold peF; rw [if_pos hpe, if_neg hz66]), by rw [show peU (ru, ou, we, me, ki, ro, nI z) z k n = (ru, ou, we, me, ki, ro, nI z) from if_neg hno]⟩
    · refine x_bipush (-2) dX10_person_24 ?_
      have hbad : ¬ peC k n := (fun q => bi0.mp h_21 ⟨q.2.2.1, le9 q.2.2.2⟩)
      have hno : ¬ (peC k n ∧ z < 6) := fun q => hbad q.1
      exact Ex.ret (v := some (.int _)) ⟨dX10_person_26, _, rfl, by first | rfl | decide⟩ ⟨congrArg (fun z => some (Value.int z)) (by unfold peF; rw [if_neg hbad]), by rw [show peU (ru, ou, we, me, ki, ro, nI z) z k n = (ru, ou, we, me, ki, ro, nI z) from if_neg hno]⟩
def feT (T : MT) (b : Nat) (x : Int32) : MT := if feC x ∧ b < 160 then (T.1, T.2.1, T.2.2.1, upd T.2.2.2.1 b x, nI (b + 1)) else T
set_option maxRecDepth 100000 in
set_option maxHeartbeats 4000000 in
theorem c_X10_feed {X : Nat × (Nat → Int32)} {S : CS} {tl : pc_W} {tx : (Nat → Int32)} {ts : (Nat → Int32)} {tc : Int32} {tp : (Nat → Int32)} {U : MU} {Λ : ML} {C : MC} {K : MK} {H : MH} {b : Nat} {x : Int32} (hb6 : b ≤ 160): Mt X 1 0 0 yX10_feed cX10_feed 2 (some .int) [.ref 42, .int x] (cst S ++ (mw (tx, ts, tc, tp, nI b) U Λ C K H ++ tl)) (RI (feF b x) (cst S ++ (mw (feT (tx, ts, tc, tp, nI b) b x) U Λ C K H ++ tl))) := by
  refine Mt.of (by decide +kernel) (fun _ _ => Nat.le_of_ble_eq_true rfl) ?_
  show Ex X mX10_feed _ _ _ _ _ _ _ _
  refine x_iload_n dX10_feed_0 rfl ?_
  refine x_i2l dX10_feed_1 ?_
  refine x_lconst 0 dX10_feed_2 ?_
  refine x_ldc2_w dX10_feed_3 kk_X10_151 ?_
  refine ii_X10_76 dX10_feed_6 (c_X10_inC (a := 0) (b := 255) (by first | rfl | decide) (by first | rfl | decide)) (by decide) (Nat.le_of_ble_eq_true rfl) ?_
  refine x_if_ne 15 dX10_feed_9 (fun h_9 => ?_) (fun h_9 => ?_)
  · refine x_aload_n dX10_feed_15 rfl ?_
    refine mg_153 dX10_feed_16 ?_
    refine x_sipush 160 dX10_feed_19 ?_
    refine x_icmp_ne 28 dX10_feed_22 (fun h_22 => ?_) (fun h_22 => ?_)
    · have hb7 : b < 160 := Nat.lt_of_le_of_ne hb6 (fun q => h_22 (by rw [q]; rfl))
      refine x_aload_n dX10_feed_28 rfl ?_
      refine mg_20 dX10_feed_29 ?_
      refine x_aload_n dX10_feed_32 rfl ?_
      refine mg_153 dX10_feed_33 ?_
      refine x_iload_n dX10_feed_36 rfl ?_
      refine msN_45 dX10_feed_37 hb7 ?_
      refine x_aload_n dX10_feed_38 rfl ?_
      refine x_dup dX10_feed_39 ?_
      refine mg_153 dX10_feed_40 ?_
      refine x_iconst 1 dX10_feed_43 ?_
      refine x_iadd dX10_feed_44 ?_
      rw [nI_1]
      refine mp_153 dX10_feed_45 ?_
      refine x_aload_n dX10_feed_48 rfl ?_
      refine mg_153 dX10_feed_49 ?_
      exact Ex.ret (v := some (.int _)) ⟨dX10_feed_52, _, rfl, by first | rfl | decide⟩ ⟨congrArg (fun z => some (Value.int z)) (by unfold feF; rw [if_pos (bi1.mp h_9), if_pos hb7]), by rw [show feT (tx, ts, tc, tp, nI b) b x = _ from if_pos ⟨bi1.mp h_9, hb7⟩]⟩
    · refine x_bipush (-4) dX10_feed_25 ?_
      have hb66 : ¬ b < 160 := fun q => absurd ((nI_eq (b := 160) (by omega) (by decide)).mp h_22) (by omega)
      have hno : ¬ (feC x ∧ b < 160) := fun q => hb66 q.2
      exact Ex.ret (v := some (.int _)) ⟨dX10_feed_27, _, rfl, by first | rfl | decide⟩ ⟨congrArg (fun z => some (Value.int z)) (by unfold feF; rw [if_pos (bi1.mp h_9), if_neg hb66]), by rw [show feT (tx, ts, tc, tp, nI b) b x = (tx, ts, tc, tp, nI b) from if_neg hno]⟩
  · refine x_bipush (-2) dX10_feed_12 ?_
    have hno : ¬ (feC x ∧ b < 160) := fun q => bi0.mp h_9 q.1
    exact Ex.ret (v := some (.int _)) ⟨dX10_feed_14, _, rfl, by first | rfl | decide⟩ ⟨congrArg (fun z => some (Value.int z)) (by unfold feF; rw [if_neg (bi0.mp h_9)]), by rw [show feT (tx, ts, tc, tp, nI b) b x = (tx, ts, tc, tp, nI b) from if_neg hno]⟩
theorem fo_iff {m : Nat} {tc t : Int32} (hm : tc = nI m) (hm6 : m ≤ 6) : (0 ≤ t ∧ t ≤ tc - 1) ↔ foC m t := on_iff hm hm6
set_option maxRecDepth 100000 in
set_option maxHeartbeats 4000000 in
theorem c_X10_force {X : Nat × (Nat → Int32)} {S : CS} {tl : pc_W} {tx : (Nat → Int32)} {ts : (Nat → Int32)} {tc : Int32} {tp : (Nat → Int32)} {tn : Int32} {ru : Int32} {ou : (Nat → Int32)} {we : (Nat → Int32)} {me : Int32} {ki : (Nat → Int32)} {ro : (Nat → Int32)} {ma : Int32} {Λ : ML} {C : MC} {K : MK} {H : MH} {m : Nat} {t : Int32} (hm : tc = nI m) (hm6 : m ≤ 6): Mt X 1 0 0 yX10_force cX10_force 3 (some .int) [.ref 42, .int t] (cst S ++ (mw (tx, ts, tc, tp, tn) (ru, ou, we, me, ki, ro, ma) Λ C K H ++ tl)) (RI (if foC m t then ru else -2) (cst S ++ (mw (tx, ts, tc, tp, tn) (if foC m t then (t, ou, we, me, ki, ro, ma) else (ru, ou, we, me, ki, ro, ma)) Λ C K H ++ tl))) := by
  refine Mt.of (by decide +kernel) (fun _ _ => Nat.le_of_ble_eq_true rfl) ?_
  show Ex X mX10_force _ _ _ _ _ _ _ _
  refine x_iload_n dX10_force_0 rfl ?_
  refine x_i2l dX10_force_1 ?_
  refine x_lconst 0 dX10_force_2 ?_
  refine x_aload_n dX10_force_3 rfl ?_
  refine mg_70 dX10_force_4 ?_
  refine x_iconst 1 dX10_force_7 ?_
  refine x_isub dX10_force_8 ?_
  refine x_i2l dX10_force_9 ?_
  refine ii_X10_76 dX10_force_10 (c_X10_inC (a := 0) (b := tc - 1) (by first | rfl | decide) (by first | rfl | decide)) (by decide) (Nat.le_of_ble_eq_true rfl) ?_
  refine x_if_ne 19 dX10_force_13 (fun h_13 => ?_) (fun h_13 => ?_)
  · refine x_aload_n dX10_force_19 rfl ?_
    refine mg_116 dX10_force_20 ?_
    refine x_istore_n dX10_force_23 (by decide) ?_
    refine x_aload_n dX10_force_24 rfl ?_
    refine x_iload_n dX10_force_25 rfl ?_
    refine mp_116 dX10_force_26 ?_
    refine x_iload_n dX10_force_29 rfl ?_
    exact Ex.ret (v := some (.int _)) ⟨dX10_force_30, _, rfl, by first | rfl | decide⟩ ⟨congrArg (fun z => some (Value.int z)) (by rw [if_pos ((fo_iff hm hm6).mp (bi1.mp h_13))]), by rw [if_pos ((fo_iff hm hm6).mp (bi1.mp h_13))]⟩
  · refine x_bipush (-2) dX10_force_16 ?_
    exact Ex.ret (v := some (.int _)) ⟨dX10_force_18, _, rfl, by first | rfl | decide⟩ ⟨congrArg (fun z => some (Value.int z)) (by rw [if_neg (fun q => bi0.mp h_13 ((fo_iff hm hm6).mpr q))]), by rw [if_neg (fun q => bi0.mp h_13 ((fo_iff hm hm6).mpr q))]⟩
def cnM (me : Int32) (h : Nat) : Int32 := (me >>> (nI h &&& 31)) &&& 1
def coM (T : MT) (U : MU) (what : Int32) : Int32 := if ¬ (0 ≤ what ∧ what ≤ 5) then -2 else if what = 0 then U.2.2.2.2.2.2 else if what = 1 then sumI (cnM U.2.2.2.1) 8 else if what = 2 then U.2.1 0 else if what = 3 then T.2.2.1 else if what = 4 then T.2.2.2.2 else U.1
theorem gt2_ne {x : Int32} (h : ¬ x ≤ 2) : ¬ x = 0 ∧ ¬ x = 1 ∧ ¬ x = 2 := ⟨fun q => h (by rw [q]; decide), fun q => h (by rw [q]; decide), fun q => h (by rw [q]; decide)⟩
theorem le2_or {x : Int32} (h0 : 0 ≤ x) (h : x ≤ 2) : x = 0 ∨ x = 1 ∨ x = 2 := by
  simp only [Int32.le_iff_toInt_le, ← Int32.toInt_inj, tI_0, tI_1, tI_2] at *
  omega
set_option maxRecDepth 100000 in
set_option maxHeartbeats 4000000 in
theorem c_X10_count {X : Nat × (Nat → Int32)} {S : CS} {tl : pc_W} {tx : (Nat → Int32)} {ts : (Nat → Int32)} {tc : Int32} {tp : (Nat → Int32)} {tn : Int32} {ru : Int32} {ou : (Nat → Int32)} {we : (Nat → Int32)} {me : Int32} {ki : (Nat → Int32)} {ro : (Nat → Int32)} {ma : Int32} {Λ : ML} {C : MC} {K : MK} {H : MH} {what : Int32} : Mt X 1 0 0 yX10_count cX10_count 4 (some .int) [.ref 42, .int what] (cst S ++ (mw (tx, ts, tc, tp, tn) (ru, ou, we, me, ki, ro, ma) Λ C K H ++ tl)) (RI (coM (tx, ts, tc, tp, tn) (ru, ou, we, me, ki, ro, ma) what) (cst S ++ (mw (tx, ts, tc, tp, tn) (ru, ou, we, me, ki, ro, ma) Λ C K H ++ tl))) := by
  refine Mt.of (by decide +kernel) (fun _ _ => Nat.le_of_ble_eq_true rfl) ?_
  show Ex X mX10_count _ _ _ _ _ _ _ _
  obtain ⟨x0, hx0⟩ : ∃ x0, x0 = coM (tx, ts, tc, tp, tn) (ru, ou, we, me, ki, ro, ma) what := ⟨_, rfl⟩
  rw [← hx0]
  refine x_iload_n dX10_count_0 rfl ?_
  refine x_i2l dX10_count_1 ?_
  refine x_lconst 0 dX10_count_2 ?_
  refine x_ldc2_w dX10_count_3 kk_X10_119 ?_
  refine ii_X10_76 dX10_count_6 (c_X10_inC (a := 0) (b := 5) (by first | rfl | decide) (by first | rfl | decide)) (by decide) (Nat.le_of_ble_eq_true rfl) ?_
  refine x_if_ne 15 dX10_count_9 (fun h_9 => ?_) (fun h_9 => ?_)
  · refine x_iload_n dX10_count_15 rfl ?_
    refine x_iconst 2 dX10_count_16 ?_
    refine x_icmp_le 49 dX10_count_17 (fun h_17 => ?_) (fun h_17 => ?_)
    · refine x_iconst 0 dX10_count_49 ?_
      refine x_istore_n dX10_count_50 (by decide) ?_
      refine x_iconst 0 dX10_count_51 ?_
      refine x_istore_n dX10_count_52 (by decide) ?_
      refine for_up (P := fun i => Ex X mX10_count 1 (RI x0 (cst S ++ (mw (tx, ts, tc, tp, tn) (ru, ou, we, me, ki, ro, ma) Λ C K H ++ tl))) 0 0 53 [some (.ref 42), some (.int what), some (.int (sumI (cnM me) i)), some (.int (nI i))] [] (cst S ++ (mw (tx, ts, tc, tp, tn) (ru, ou, we, me, ki, ro, ma) Λ C K H ++ tl))) (8) ?_ (fun i hi ih => ?_) (0) (by decide)
      · refine x_iload_n dX10_count_53 rfl ?_
        refine x_bipush 8 dX10_count_54 ?_
        refine x_icmp_ge 76 dX10_count_56 (fun _ => ?_) (fun hx => absurd (by decide) hx)
        refine x_iload_n dX10_count_76 rfl ?_
        refine x_if_ne 87 dX10_count_77 (fun h_77 => ?_) (fun h_77 => ?_)
        · refine x_iload_n dX10_count_87 rfl ?_
          refine x_iconst 1 dX10_count_88 ?_
          refine x_icmp_ne 96 dX10_count_89 (fun h_89 => ?_) (fun h_89 => ?_)
          · refine x_aload_n dX10_count_96 rfl ?_
            refine mg_23 dX10_count_97 ?_
            refine x_iconst 0 dX10_count_100 ?_
            refine maK_46 0 dX10_count_101 rfl (by decide) ?_
            have h2 : what = 2 := ((le2_or (bi1.mp h_9).1 h_17).resolve_left h_77).resolve_left h_89
            exact Ex.ret (v := some (.int _)) ⟨dX10_count_102, _, rfl, by first | rfl | decide⟩ ⟨congrArg (fun z => some (Value.int z)) (by rw [hx0]; unfold coM; rw [if_neg (fun z => z (bi1.mp h_9)), if_neg h_77, if_neg h_89, if_pos h2]), rfl⟩
          · refine x_iload_n dX10_count_92 rfl ?_
            refine x_goto 102 dX10_count_93 ?_
            exact Ex.ret (v := some (.int _)) ⟨dX10_count_102, _, rfl, by first | rfl | decide⟩ ⟨congrArg (fun z => some (Value.int z)) (by rw [hx0]; unfold coM; rw [if_neg (fun z => z (bi1.mp h_9)), if_neg h_77, if_pos h_89]), rfl⟩
        · refine x_aload_n dX10_count_80 rfl ?_
          refine mg_73 dX10_count_81 ?_
          refine x_goto 102 dX10_count_84 ?_
          exact Ex.ret (v := some (.int _)) ⟨dX10_count_102, _, rfl, by first | rfl | decide⟩ ⟨congrArg (fun z => some (Value.int z)) (by rw [hx0]; unfold coM; rw [if_neg (fun z => z (bi1.mp h_9)), if_pos h_77]), rfl⟩
      · refine x_iload_n dX10_count_53 rfl ?_
        refine x_bipush 8 dX10_count_54 ?_
        refine x_icmp_ge 76 dX10_count_56 (fun hx => absurd hx (nI_ge hi (by decide))) (fun _ => ?_)
        refine x_iload_n dX10_count_59 rfl ?_
        refine x_aload_n dX10_count_60 rfl ?_
        refine mg_113 dX10_count_61 ?_
        refine x_iload_n dX10_count_64 rfl ?_
        refine x_ishr dX10_count_65 ?_
        refine x_iconst 1 dX10_count_66 ?_
        refine x_iand dX10_count_67 ?_
        refine x_iadd dX10_count_68 ?_
        refine x_istore_n dX10_count_69 (by decide) ?_
        refine x_iincN dX10_count_70 rfl (by decide) ?_
        refine x_goto 53 dX10_count_73 ?_
        exact ih
    · refine x_iload_n dX10_count_20 rfl ?_
      refine x_iconst 3 dX10_count_21 ?_
      refine x_icmp_ne 32 dX10_count_22 (fun h_22 => ?_) (fun h_22 => ?_)
      · refine x_iload_n dX10_count_32 rfl ?_
        refine x_iconst 4 dX10_count_33 ?_
        refine x_icmp_ne 44 dX10_count_34 (fun h_34 => ?_) (fun h_34 => ?_)
        · refine x_aload_n dX10_count_44 rfl ?_
          refine mg_116 dX10_count_45 ?_
          have hg := gt2_ne h_17
          exact Ex.ret (v := some (.int _)) ⟨dX10_count_48, _, rfl, by first | rfl | decide⟩ ⟨congrArg (fun z => some (Value.int z)) (by rw [hx0]; unfold coM; rw [if_neg (fun z => z (bi1.mp h_9)), if_neg hg.1, if_neg hg.2.1, if_neg hg.2.2, if_neg h_22, if_neg h_34]), rfl⟩
        · refine x_aload_n dX10_count_37 rfl ?_
          refine mg_153 dX10_count_38 ?_
          refine x_goto 48 dX10_count_41 ?_
          have hg := gt2_ne h_17
          exact Ex.ret (v := some (.int _)) ⟨dX10_count_48, _, rfl, by first | rfl | decide⟩ ⟨congrArg (fun z => some (Value.int z)) (by rw [hx0]; unfold coM; rw [if_neg (fun z => z (bi1.mp h_9)), if_neg hg.1, if_neg hg.2.1, if_neg hg.2.2, if_neg h_22, if_pos h_34]), rfl⟩
      · refine x_aload_n dX10_count_25 rfl ?_
        refine mg_70 dX10_count_26 ?_
        refine x_goto 48 dX10_count_29 ?_
        have hg := gt2_ne h_17
        exact Ex.ret (v := some (.int _)) ⟨dX10_count_48, _, rfl, by first | rfl | decide⟩ ⟨congrArg (fun z => some (Value.int z)) (by rw [hx0]; unfold coM; rw [if_neg (fun z => z (bi1.mp h_9)), if_neg hg.1, if_neg hg.2.1, if_neg hg.2.2, if_pos h_22]), rfl⟩
  · refine x_bipush (-2) dX10_count_12 ?_
    exact Ex.ret (v := some (.int _)) ⟨dX10_count_14, _, rfl, by first | rfl | decide⟩ ⟨congrArg (fun z => some (Value.int z)) (by rw [hx0]; unfold coM; rw [if_pos (bi0.mp h_9)]), rfl⟩
theorem ov_at : ∀ k, k < 6 → ovF (nI k) = tabAbove k := by decide +kernel
theorem ab_at : ∀ k, k < 6 → tabAbove k = -1 ∨ ∃ j, j < k ∧ tabAbove k = nI j := by decide +kernel
set_option maxRecDepth 100000 in
set_option maxHeartbeats 4000000 in
theorem c_X10_taken {X : Nat × (Nat → Int32)} {S : CS} {tl : pc_W} {T : MT} {ru : Int32} {ou : (Nat → Int32)} {we : (Nat → Int32)} {me : Int32} {ki : (Nat → Int32)} {ro : (Nat → Int32)} {ma : Int32} {Λ : ML} {C : MC} {K : MK} {H : MH} {z : Nat} {one k : Int32} (hz : ma = nI z) (hz6 : z ≤ 6) (hki : ∀ i, i < z → ∃ j, j < 6 ∧ ki i = nI j): Mt X 2 0 0 yX10_taken cX10_taken 4 (some .int) [.ref 42, .int one, .int k] (cst S ++ (mw T (ru, ou, we, me, ki, ro, ma) Λ C K H ++ tl)) (RI (taF (mO (ru, ou, we, me, ki, ro, ma)) z one k) (cst S ++ (mw T (ru, ou, we, me, ki, ro, ma) Λ C K H ++ tl))) := by
  refine Mt.of (by decide +kernel) (fun _ _ => Nat.le_of_ble_eq_true rfl) ?_
  show Ex X mX10_taken _ _ _ _ _ _ _ _
  obtain ⟨x0, hx0⟩ : ∃ x0, x0 = taF (mO (ru, ou, we, me, ki, ro, ma)) z one k := ⟨_, rfl⟩
  rw [← hx0]
  refine x_iload_n dX10_taken_0 rfl ?_
  refine x_i2l dX10_taken_1 ?_
  refine x_lconst 0 dX10_taken_2 ?_
  refine x_ldc2_w dX10_taken_3 kk_X10_119 ?_
  refine ii_X10_76 dX10_taken_6 (c_X10_inC (a := 0) (b := 5) (by first | rfl | decide) (by first | rfl | decide)) (by decide) (Nat.le_of_ble_eq_true rfl) ?_
  refine x_if_ne 15 dX10_taken_9 (fun h_9 => ?_) (fun h_9 => ?_)
  · refine x_aload_n dX10_taken_15 rfl ?_
    refine x_iload_n dX10_taken_16 rfl ?_
    refine ii_X10_86 dX10_taken_17 (c_X10_isOne hz hz6) mw_o (by decide) (Nat.le_of_ble_eq_true rfl) ?_
    refine x_if_ne 26 dX10_taken_20 (fun h_20 => ?_) (fun h_20 => ?_)
    · have ho := bi1.mp h_20
      obtain ⟨p, hpz, rfl⟩ := nat_of ho.1 ho.2 (by omega)
      have hcl : (nI p).toNatClampNeg = p := nI_clamp (by omega)
      have hk6 : 0 ≤ k ∧ k < 6 := ⟨(bi1.mp h_9).1, lt6 (bi1.mp h_9).2⟩
      refine x_aload_n dX10_taken_26 rfl ?_
      refine mg_29 dX10_taken_27 ?_
      refine x_iload_n dX10_taken_30 rfl ?_
      refine maN_48 dX10_taken_31 (show p < 6 by omega) ?_
      refine x_istore_n dX10_taken_32 (by decide) ?_
      suffices hL : ∀ (m : Nat) (x : Int32), (x = -1 ∨ ∃ j, j < 6 ∧ j < m ∧ x = nI j) → (if unF k m x = 0 then (-13 : Int32) else ro (2 * p)) = x0 → Ex X mX10_taken 2 (RI x0 (cst S ++ (mw T (ru, ou, we, me, ki, ro, ma) Λ C K H ++ tl))) 0 0 33 [some (.ref 42), some (.int (nI p)), some (.int k), some (.int (x))] [] (cst S ++ (mw T (ru, ou, we, me, ki, ro, ma) Λ C K H ++ tl)) from hL 6 _ (Or.inr (by obtain ⟨j, hj, ej⟩ := hki p hpz; exact ⟨j, hj, hj, ej⟩)) (by rw [hx0]; unfold taF; rw [if_pos hk6, if_pos ho, hcl]; rfl)
      intro m
      induction m with
      | zero =>
        intro x hx hf
        have hm1 : x = -1 := hx.resolve_right (fun ⟨j, _, q, _⟩ => absurd q (by omega))
        subst hm1
        refine x_iload_n dX10_taken_33 rfl ?_
        refine x_iconst (-1) dX10_taken_34 ?_
        refine x_icmp_eq 51 dX10_taken_35 (fun _ => ?_) (fun hx => absurd (rfl) hx)
        refine x_iload_n dX10_taken_51 rfl ?_
        refine x_iload_n dX10_taken_52 rfl ?_
        refine x_icmp_ne 67 dX10_taken_53 (fun _ => ?_) (fun hx => absurd hx ((fun q => absurd (by rw [← q]; decide : ¬ (0 : Int32) ≤ k) (fun y => y hk6.1))))
        refine x_bipush (-13) dX10_taken_67 ?_
        exact Ex.ret (v := some (.int _)) ⟨dX10_taken_69, _, rfl, by first | rfl | decide⟩ ⟨congrArg (fun z => some (Value.int z)) (by rw [← hf, if_pos (by unfold unF; rfl)]), rfl⟩
      | succ m ih =>
        intro x hx hf
        rcases hx with rfl | ⟨j, hj6, hjm, rfl⟩
        · skip
          refine x_iload_n dX10_taken_33 rfl ?_
          refine x_iconst (-1) dX10_taken_34 ?_
          refine x_icmp_eq 51 dX10_taken_35 (fun _ => ?_) (fun hx => absurd (rfl) hx)
          refine x_iload_n dX10_taken_51 rfl ?_
          refine x_iload_n dX10_taken_52 rfl ?_
          refine x_icmp_ne 67 dX10_taken_53 (fun _ => ?_) (fun hx => absurd hx ((fun q => absurd (by rw [← q]; decide : ¬ (0 : Int32) ≤ k) (fun y => y hk6.1))))
          refine x_bipush (-13) dX10_taken_67 ?_
          exact Ex.ret (v := some (.int _)) ⟨dX10_taken_69, _, rfl, by first | rfl | decide⟩ ⟨congrArg (fun z => some (Value.int z)) (by rw [← hf, if_pos (by unfold unF; rw [if_neg (by decide)])]), rfl⟩
        · have hj0 : (0 : Int32) ≤ nI j ∧ nI j < 6 := ⟨nI_le (a := 0) (Nat.zero_le _) (by omega), nI_lt (b := 6) hj6 (by decide)⟩
          rw [unF, if_pos hj0, nI_clamp (by omega)] at hf
          by_cases hjk : nI j = k
          · rw [if_pos hjk, if_neg (by decide)] at hf
            refine x_iload_n dX10_taken_33 rfl ?_
            refine x_iconst (-1) dX10_taken_34 ?_
            refine x_icmp_eq 51 dX10_taken_35 (fun hx => absurd hx (nI_nm1 (by omega))) (fun _ => ?_)
            refine x_iload_n dX10_taken_38 rfl ?_
            refine x_iload_n dX10_taken_39 rfl ?_
            refine x_icmp_eq 51 dX10_taken_40 (fun _ => ?_) (fun hx => absurd (hjk) hx)
            refine x_iload_n dX10_taken_51 rfl ?_
            refine x_iload_n dX10_taken_52 rfl ?_
            refine x_icmp_ne 67 dX10_taken_53 (fun hx => absurd (hjk) hx) (fun _ => ?_)
            refine x_aload_n dX10_taken_56 rfl ?_
            refine mg_32 dX10_taken_57 ?_
            refine x_iconst 2 dX10_taken_60 ?_
            refine x_iload_n dX10_taken_61 rfl ?_
            refine x_imul dX10_taken_62 ?_
            rw [show (2 : Int32) * nI p = nI (2 * p) from pk_mul 2 p]
            refine maN_49 dX10_taken_63 (show 2 * p < 12 by omega) ?_
            refine x_goto 69 dX10_taken_64 ?_
            exact Ex.ret (v := some (.int _)) ⟨dX10_taken_69, _, rfl, by first | rfl | decide⟩ ⟨congrArg (fun z => some (Value.int z)) (hf), rfl⟩
          · rw [if_neg hjk] at hf
            refine x_iload_n dX10_taken_33 rfl ?_
            refine x_iconst (-1) dX10_taken_34 ?_
            refine x_icmp_eq 51 dX10_taken_35 (fun hx => absurd hx (nI_nm1 (by omega))) (fun _ => ?_)
            refine x_iload_n dX10_taken_38 rfl ?_
            refine x_iload_n dX10_taken_39 rfl ?_
            refine x_icmp_eq 51 dX10_taken_40 (fun hx => absurd hx (hjk)) (fun _ => ?_)
            refine x_iload_n dX10_taken_43 rfl ?_
            refine ii_X10_437 dX10_taken_44 c_X10_over (by decide) (Nat.le_of_ble_eq_true rfl) ?_
            refine x_istore_n dX10_taken_47 (by decide) ?_
            refine x_goto 33 dX10_taken_48 ?_
            rw [ov_at j hj6]
            exact ih _ ((ab_at j hj6).imp id (fun ⟨i, hi, ei⟩ => ⟨i, by omega, by omega, ei⟩)) hf
    · refine x_bipush (-11) dX10_taken_23 ?_
      exact Ex.ret (v := some (.int _)) ⟨dX10_taken_25, _, rfl, by first | rfl | decide⟩ ⟨congrArg (fun z => some (Value.int z)) (by rw [hx0]; unfold taF; rw [if_pos ⟨(bi1.mp h_9).1, lt6 (bi1.mp h_9).2⟩, if_neg (bi0.mp h_20)]), rfl⟩
  · refine x_bipush (-2) dX10_taken_12 ?_
    exact Ex.ret (v := some (.int _)) ⟨dX10_taken_14, _, rfl, by first | rfl | decide⟩ ⟨congrArg (fun z => some (Value.int z)) (by rw [hx0]; unfold taF; rw [if_neg (fun q => bi0.mp h_9 ⟨q.1, le5 q.2⟩)]), rfl⟩
