set_option maxRecDepth 100000 in
set_option maxHeartbeats 4000000 in
theorem c_X10_memoryOf {X : Nat × (Nat → Int32)} {S : CS} {tl : pc_W} {T : MT} {ru : Int32} {ou : (Nat → Int32)} {we : (Nat → Int32)} {me : Int32} {ki : (Nat → Int32)} {ro : (Nat → Int32)} {ma : Int32} {Λ : ML} {C : MC} {K : MK} {H : MH} {τ : TV} {r p : Nat} (hX : TXm τ T.1 T.2.1 r) (hru : ru = nI r) (hp : p < 6): Mt X 45 0 0 yX10_memoryOf cX10_memoryOf 4 (some .int) [.ref 42, .int (nI p)] (cst S ++ (mw T (ru, ou, we, me, ki, ro, ma) Λ C K H ++ tl)) (fun v w' => ∃ Λ' : ML, v = some (.int (moF τ (mO (ru, ou, we, me, ki, ro, ma)) r p)) ∧ w' = cst S ++ (mw T (ru, ou, we, me, ki, ro, ma) Λ' C K H ++ tl)) := by
  refine Mt.of (by decide +kernel) (fun _ _ => Nat.le_of_ble_eq_true rfl) ?_
  show Ex X mX10_memoryOf _ _ _ _ _ _ _ _
  refine x_iconst 0 dX10_memoryOf_0 ?_
  refine x_istore_n dX10_memoryOf_1 (by decide) ?_
  refine x_iconst 0 dX10_memoryOf_2 ?_
  refine x_istore_n dX10_memoryOf_3 (by decide) ?_
  refine for_up (P := fun i => ∀ Λ : ML, Ex X mX10_memoryOf 45 (fun v w' => ∃ Λ' : ML, v = some (.int (moF τ (mO (ru, ou, we, me, ki, ro, ma)) r p)) ∧ w' = cst S ++ (mw T (ru, ou, we, me, ki, ro, ma) Λ' C K H ++ tl)) 0 0 4 [some (.ref 42), some (.int (nI p)), some (.int (sumI (thF τ (mO (ru, ou, we, me, ki, ro, ma)) r p) i)), some (.int (nI i))] [] (cst S ++ (mw T (ru, ou, we, me, ki, ro, ma) Λ C K H ++ tl))) (8) ?_ (fun i hi ih => ?_) (0) (Nat.zero_le _) Λ
  · intro Λ
    refine x_iload_n dX10_memoryOf_4 rfl ?_
    refine x_bipush 8 dX10_memoryOf_5 ?_
    refine x_icmp_ge 25 dX10_memoryOf_7 (fun _ => ?_) (fun hx => absurd (by decide) hx)
    refine x_iload_n dX10_memoryOf_25 rfl ?_
    exact Ex.ret (v := some (.int _)) ⟨dX10_memoryOf_26, _, rfl, by first | rfl | decide⟩ ⟨_, congrArg (fun z => some (Value.int z)) (rfl), rfl⟩
  · intro Λ
    refine x_iload_n dX10_memoryOf_4 rfl ?_
    refine x_bipush 8 dX10_memoryOf_5 ?_
    refine x_icmp_ge 25 dX10_memoryOf_7 (fun hx => absurd hx (nI_ge hi (by decide))) (fun _ => ?_)
    refine x_iload_n dX10_memoryOf_10 rfl ?_
    refine x_aload_n dX10_memoryOf_11 rfl ?_
    refine x_iload_n dX10_memoryOf_12 rfl ?_
    refine x_iload_n dX10_memoryOf_13 rfl ?_
    refine iv_X10_133 dX10_memoryOf_14 (c_X10_thinksOf hX hru hp hi) mw_o (by decide) (Nat.le_of_ble_eq_true rfl) (fun v_14 w_14 hw_14 => ?_)
    obtain ⟨Λ1, rfl, rfl⟩ := hw_14
    refine x_iadd dX10_memoryOf_17 ?_
    refine x_istore_n dX10_memoryOf_18 (by decide) ?_
    refine x_iincN dX10_memoryOf_19 rfl (by decide) ?_
    refine x_goto 4 dX10_memoryOf_22 ?_
    exact ih _
set_option maxRecDepth 100000 in
set_option maxHeartbeats 4000000 in
theorem c_X10_isHazy {X : Nat × (Nat → Int32)} {S : CS} {tl : pc_W} {T : MT} {ru : Int32} {ou : (Nat → Int32)} {we : (Nat → Int32)} {me : Int32} {ki : (Nat → Int32)} {ro : (Nat → Int32)} {ma : Int32} {Λ : ML} {C : MC} {K : MK} {H : MH} {τ : TV} {r p : Nat} (hX : TXm τ T.1 T.2.1 r) (hru : ru = nI r) (hp : p < 6): Mt X 46 0 0 yX10_isHazy cX10_isHazy 2 (some .boolean) [.ref 42, .int (nI p)] (cst S ++ (mw T (ru, ou, we, me, ki, ro, ma) Λ C K H ++ tl)) (fun v w' => ∃ Λ' : ML, v = some (.int (hzF τ (mO (ru, ou, we, me, ki, ro, ma)) r p)) ∧ w' = cst S ++ (mw T (ru, ou, we, me, ki, ro, ma) Λ' C K H ++ tl)) := by
  refine Mt.of (by decide +kernel) (fun _ _ => Nat.le_of_ble_eq_true rfl) ?_
  show Ex X mX10_isHazy _ _ _ _ _ _ _ _
  refine x_aload_n dX10_isHazy_0 rfl ?_
  refine x_iload_n dX10_isHazy_1 rfl ?_
  refine iv_X10_139 dX10_isHazy_2 (c_X10_memoryOf hX hru hp) mw_o (by decide) (Nat.le_of_ble_eq_true rfl) (fun v_2 w_2 hw_2 => ?_)
  obtain ⟨Λ1, rfl, rfl⟩ := hw_2
  refine x_aload_n dX10_isHazy_5 rfl ?_
  refine mg_23 dX10_isHazy_6 ?_
  refine x_iconst 1 dX10_isHazy_9 ?_
  refine maK_46 1 dX10_isHazy_10 rfl (by decide) ?_
  refine x_icmp_lt 18 dX10_isHazy_11 (fun h_11 => ?_) (fun h_11 => ?_)
  · refine x_iconst 0 dX10_isHazy_18 ?_
    exact Ex.ret (v := some (.int _)) ⟨dX10_isHazy_19, _, rfl, by first | rfl | decide⟩ ⟨_, congrArg (fun z => some (Value.int z)) ((bi_f (Int32.not_le.mpr h_11)).symm), rfl⟩
  · refine x_iconst 1 dX10_isHazy_14 ?_
    refine x_goto 19 dX10_isHazy_15 ?_
    exact Ex.ret (v := some (.int _)) ⟨dX10_isHazy_19, _, rfl, by first | rfl | decide⟩ ⟨_, congrArg (fun z => some (Value.int z)) ((bi_t (Int32.not_lt.mp h_11)).symm), rfl⟩
set_option maxRecDepth 100000 in
set_option maxHeartbeats 4000000 in
theorem c_X10_claimsOf {X : Nat × (Nat → Int32)} {S : CS} {tl : pc_W} {T : MT} {ru : Int32} {ou : (Nat → Int32)} {we : (Nat → Int32)} {me : Int32} {ki : (Nat → Int32)} {ro : (Nat → Int32)} {ma : Int32} {Λ : ML} {C : MC} {K : MK} {H : MH} {τ : TV} {r p : Nat} (hX : TXm τ T.1 T.2.1 r) (hru : ru = nI r) (hp : p < 6) (hnu : ∃ m, m < 10 ∧ ro (2 * p) = nI m): Mt X 47 0 0 yX10_claimsOf cX10_claimsOf 4 (some .int) [.ref 42, .int (nI p)] (cst S ++ (mw T (ru, ou, we, me, ki, ro, ma) Λ C K H ++ tl)) (fun v w' => ∃ Λ' : ML, v = some (.int (clF τ (mO (ru, ou, we, me, ki, ro, ma)) r p)) ∧ w' = cst S ++ (mw T (ru, ou, we, me, ki, ro, ma) Λ' C K H ++ tl)) := by
  refine Mt.of (by decide +kernel) (fun _ _ => Nat.le_of_ble_eq_true rfl) ?_
  show Ex X mX10_claimsOf _ _ _ _ _ _ _ _
  refine x_aload_n dX10_claimsOf_0 rfl ?_
  refine mg_29 dX10_claimsOf_1 ?_
  refine x_iload_n dX10_claimsOf_4 rfl ?_
  refine maN_48 dX10_claimsOf_5 hp ?_
  refine x_istore_n dX10_claimsOf_6 (by decide) ?_
  refine x_aload_n dX10_claimsOf_7 rfl ?_
  refine x_iload_n dX10_claimsOf_8 rfl ?_
  refine iv_X10_142 dX10_claimsOf_9 (c_X10_isHazy hX hru hp) mw_o (by decide) (Nat.le_of_ble_eq_true rfl) (fun v_9 w_9 hw_9 => ?_)
  obtain ⟨Λ2, rfl, rfl⟩ := hw_9
  refine x_if_ne 25 dX10_claimsOf_12 (fun h_12 => ?_) (fun h_12 => ?_)
  · refine x_iconst 0 dX10_claimsOf_25 ?_
    exact Ex.ret (v := some (.int _)) ⟨dX10_claimsOf_26, _, rfl, by first | rfl | decide⟩ ⟨_, congrArg (fun z => some (Value.int z)) (by unfold clF; rw [if_pos (bi1.mp h_12)]), rfl⟩
  · refine x_iload_n dX10_claimsOf_15 rfl ?_
    refine x_iconst 2 dX10_claimsOf_16 ?_
    refine x_icmp_eq 25 dX10_claimsOf_17 (fun h_17 => ?_) (fun h_17 => ?_)
    · refine x_iconst 0 dX10_claimsOf_25 ?_
      exact Ex.ret (v := some (.int _)) ⟨dX10_claimsOf_26, _, rfl, by first | rfl | decide⟩ ⟨_, congrArg (fun z => some (Value.int z)) (by unfold clF; rw [if_neg (bi0.mp h_12)]; exact cl_0 (Or.inl h_17)), rfl⟩
    · refine x_iload_n dX10_claimsOf_20 rfl ?_
      refine x_iconst 4 dX10_claimsOf_21 ?_
      refine x_icmp_ne 27 dX10_claimsOf_22 (fun h_22 => ?_) (fun h_22 => ?_)
      · refine x_iload_n dX10_claimsOf_27 rfl ?_
        refine x_iconst 5 dX10_claimsOf_28 ?_
        refine x_icmp_ne 42 dX10_claimsOf_29 (fun h_29 => ?_) (fun h_29 => ?_)
        · refine x_aload_n dX10_claimsOf_42 rfl ?_
          refine x_iconst 2 dX10_claimsOf_43 ?_
          refine x_iload_n dX10_claimsOf_44 rfl ?_
          refine x_iconst (-1) dX10_claimsOf_45 ?_
          refine iv_X10_363 dX10_claimsOf_46 (c_X10_asks_n (wh := 2) (lo := 0) hX hru hp (by decide) rfl) mw_o (by decide) (Nat.le_of_ble_eq_true rfl) (fun v_46 w_46 hw_46 => ?_)
          obtain ⟨Λ1, rfl, rfl⟩ := hw_46
          refine x_istore_n dX10_claimsOf_49 (by decide) ?_
          refine x_iload_n dX10_claimsOf_50 rfl ?_
          refine x_iconst 3 dX10_claimsOf_51 ?_
          refine x_icmp_ne 61 dX10_claimsOf_52 (fun h_52 => ?_) (fun h_52 => ?_)
          · refine x_iload_n dX10_claimsOf_61 rfl ?_
            refine x_bipush (-99) dX10_claimsOf_62 ?_
            refine x_sipush 999 dX10_claimsOf_64 ?_
            refine ii_X10_359 dX10_claimsOf_67 c_X10_within (by decide) (Nat.le_of_ble_eq_true rfl) ?_
            exact Ex.ret (v := some (.int _)) ⟨dX10_claimsOf_70, _, rfl, by first | rfl | decide⟩ ⟨_, congrArg (fun z => some (Value.int z)) (by unfold clF; rw [if_neg (bi0.mp h_12)]; show _ = clp (-99) (kCl (ki p) (clp 0 (τ r 2 (nmC (mO (ru, ou, we, me, ki, ro, ma)) p)) 99) (ro (2 * p))) 999; rw [← cl_v h_17 h_22 h_29, if_neg h_52]), rfl⟩
          · refine x_iconst 2 dX10_claimsOf_55 ?_
            refine x_iload_n dX10_claimsOf_56 rfl ?_
            refine x_imul dX10_claimsOf_57 ?_
            refine x_goto 62 dX10_claimsOf_58 ?_
            refine x_bipush (-99) dX10_claimsOf_62 ?_
            refine x_sipush 999 dX10_claimsOf_64 ?_
            refine ii_X10_359 dX10_claimsOf_67 c_X10_within (by decide) (Nat.le_of_ble_eq_true rfl) ?_
            exact Ex.ret (v := some (.int _)) ⟨dX10_claimsOf_70, _, rfl, by first | rfl | decide⟩ ⟨_, congrArg (fun z => some (Value.int z)) (by unfold clF; rw [if_neg (bi0.mp h_12)]; show _ = clp (-99) (kCl (ki p) (clp 0 (τ r 2 (nmC (mO (ru, ou, we, me, ki, ro, ma)) p)) 99) (ro (2 * p))) 999; rw [← cl_v h_17 h_22 h_29, if_pos h_52]), rfl⟩
        · refine x_aload_n dX10_claimsOf_32 rfl ?_
          refine mg_32 dX10_claimsOf_33 ?_
          refine x_iconst 2 dX10_claimsOf_36 ?_
          refine x_iload_n dX10_claimsOf_37 rfl ?_
          refine x_imul dX10_claimsOf_38 ?_
          rw [show (2 : Int32) * nI p = nI (2 * p) from pk_mul 2 p]
          refine maN_49 dX10_claimsOf_39 (show 2 * p < 12 by omega) ?_
          refine x_ineg dX10_claimsOf_40 ?_
          exact Ex.ret (v := some (.int _)) ⟨dX10_claimsOf_41, _, rfl, by first | rfl | decide⟩ ⟨_, congrArg (fun z => some (Value.int z)) (by obtain ⟨m, hm, em⟩ := hnu; unfold clF; rw [if_neg (bi0.mp h_12)]; show _ = clp (-99) (kCl (ki p) _ (ro (2 * p))) 999; rw [h_29]; exact cl_w hm em _), rfl⟩
      · refine x_iconst 0 dX10_claimsOf_25 ?_
        exact Ex.ret (v := some (.int _)) ⟨dX10_claimsOf_26, _, rfl, by first | rfl | decide⟩ ⟨_, congrArg (fun z => some (Value.int z)) (by unfold clF; rw [if_neg (bi0.mp h_12)]; exact cl_0 (Or.inr h_22)), rfl⟩
set_option maxRecDepth 100000 in
set_option maxHeartbeats 4000000 in
theorem c_X10_costOf {X : Nat × (Nat → Int32)} {S : CS} {tl : pc_W} {T : MT} {ru : Int32} {ou : (Nat → Int32)} {we : (Nat → Int32)} {me : Int32} {ki : (Nat → Int32)} {ro : (Nat → Int32)} {ma : Int32} {Λ : ML} {C : MC} {K : MK} {H : MH} {τ : TV} {r h z : Nat} (hX : TXm τ T.1 T.2.1 r) (hru : ru = nI r) (hz : ma = nI z) (hz6 : z ≤ 6) (hh : h < 8): Mt X 45 0 0 yX10_costOf cX10_costOf 4 (some .int) [.ref 42, .int (nI h)] (cst S ++ (mw T (ru, ou, we, me, ki, ro, ma) Λ C K H ++ tl)) (fun v w' => ∃ Λ' : ML, v = some (.int (coF τ (mO (ru, ou, we, me, ki, ro, ma)) r z h)) ∧ w' = cst S ++ (mw T (ru, ou, we, me, ki, ro, ma) Λ' C K H ++ tl)) := by
  refine Mt.of (by decide +kernel) (fun _ _ => Nat.le_of_ble_eq_true rfl) ?_
  show Ex X mX10_costOf _ _ _ _ _ _ _ _
  refine x_iconst 0 dX10_costOf_0 ?_
  refine x_istore_n dX10_costOf_1 (by decide) ?_
  refine x_iconst 0 dX10_costOf_2 ?_
  refine x_istore_n dX10_costOf_3 (by decide) ?_
  refine for_up (P := fun i => ∀ Λ : ML, Ex X mX10_costOf 45 (fun v w' => ∃ Λ' : ML, v = some (.int (coF τ (mO (ru, ou, we, me, ki, ro, ma)) r z h)) ∧ w' = cst S ++ (mw T (ru, ou, we, me, ki, ro, ma) Λ' C K H ++ tl)) 0 0 4 [some (.ref 42), some (.int (nI h)), some (.int (sumI (fun p => meF τ (mO (ru, ou, we, me, ki, ro, ma)) r p h) i)), some (.int (nI i))] [] (cst S ++ (mw T (ru, ou, we, me, ki, ro, ma) Λ C K H ++ tl))) (z) ?_ (fun i hi ih => ?_) (0) (Nat.zero_le _) Λ
  · intro Λ
    refine x_iload_n dX10_costOf_4 rfl ?_
    refine x_aload_n dX10_costOf_5 rfl ?_
    refine mg_73 dX10_costOf_6 ?_
    refine x_icmp_ge 27 dX10_costOf_9 (fun _ => ?_) (fun hx => absurd (by rw [hz]; exact Int32.le_refl _) hx)
    refine x_iload_n dX10_costOf_27 rfl ?_
    exact Ex.ret (v := some (.int _)) ⟨dX10_costOf_28, _, rfl, by first | rfl | decide⟩ ⟨_, congrArg (fun z => some (Value.int z)) (rfl), rfl⟩
  · intro Λ
    refine x_iload_n dX10_costOf_4 rfl ?_
    refine x_aload_n dX10_costOf_5 rfl ?_
    refine mg_73 dX10_costOf_6 ?_
    refine x_icmp_ge 27 dX10_costOf_9 (fun hx => absurd hx (by rw [hz]; exact nI_ge hi (by omega))) (fun _ => ?_)
    refine x_iload_n dX10_costOf_12 rfl ?_
    refine x_aload_n dX10_costOf_13 rfl ?_
    refine x_iload_n dX10_costOf_14 rfl ?_
    refine x_iload_n dX10_costOf_15 rfl ?_
    refine iv_X10_136 dX10_costOf_16 (c_X10_mendingOf hX hru (by omega) hh) mw_o (by decide) (Nat.le_of_ble_eq_true rfl) (fun v_16 w_16 hw_16 => ?_)
    obtain ⟨Λ1, rfl, rfl⟩ := hw_16
    refine x_iadd dX10_costOf_19 ?_
    refine x_istore_n dX10_costOf_20 (by decide) ?_
    refine x_iincN dX10_costOf_21 rfl (by decide) ?_
    refine x_goto 4 dX10_costOf_24 ?_
    exact ih _
set_option maxRecDepth 100000 in
set_option maxHeartbeats 4000000 in
theorem c_X10_dueAll {X : Nat × (Nat → Int32)} {S : CS} {tl : pc_W} {T : MT} {ru : Int32} {ou : (Nat → Int32)} {we : (Nat → Int32)} {me : Int32} {ki : (Nat → Int32)} {ro : (Nat → Int32)} {ma : Int32} {Λ : ML} {C : MC} {K : MK} {H : MH} {τ : TV} {r z : Nat} (hX : TXm τ T.1 T.2.1 r) (hru : ru = nI r) (hz : ma = nI z) (hz6 : z ≤ 6) (hnu : ∀ i, i < z → ∃ m, m < 10 ∧ ro (2 * i) = nI m): Mt X 48 0 0 yX10_dueAll cX10_dueAll 3 (some .int) [.ref 42] (cst S ++ (mw T (ru, ou, we, me, ki, ro, ma) Λ C K H ++ tl)) (fun v w' => ∃ Λ' : ML, v = some (.int (duF τ (mO (ru, ou, we, me, ki, ro, ma)) r z)) ∧ w' = cst S ++ (mw T (ru, ou, we, me, ki, ro, ma) Λ' C K H ++ tl)) := by
  refine Mt.of (by decide +kernel) (fun _ _ => Nat.le_of_ble_eq_true rfl) ?_
  show Ex X mX10_dueAll _ _ _ _ _ _ _ _
  refine x_iconst 0 dX10_dueAll_0 ?_
  refine x_istore_n dX10_dueAll_1 (by decide) ?_
  refine x_iconst 0 dX10_dueAll_2 ?_
  refine x_istore_n dX10_dueAll_3 (by decide) ?_
  refine for_up (P := fun i => ∀ Λ : ML, Ex X mX10_dueAll 48 (fun v w' => ∃ Λ' : ML, v = some (.int (duF τ (mO (ru, ou, we, me, ki, ro, ma)) r z)) ∧ w' = cst S ++ (mw T (ru, ou, we, me, ki, ro, ma) Λ' C K H ++ tl)) 0 0 4 [some (.ref 42), some (.int (sumI (clF τ (mO (ru, ou, we, me, ki, ro, ma)) r) i)), some (.int (nI i))] [] (cst S ++ (mw T (ru, ou, we, me, ki, ro, ma) Λ C K H ++ tl))) (z) ?_ (fun i hi ih => ?_) (0) (Nat.zero_le _) Λ
  · intro Λ
    refine x_iload_n dX10_dueAll_4 rfl ?_
    refine x_aload_n dX10_dueAll_5 rfl ?_
    refine mg_73 dX10_dueAll_6 ?_
    refine x_icmp_ge 26 dX10_dueAll_9 (fun _ => ?_) (fun hx => absurd (by rw [hz]; exact Int32.le_refl _) hx)
    refine x_iload_n dX10_dueAll_26 rfl ?_
    exact Ex.ret (v := some (.int _)) ⟨dX10_dueAll_27, _, rfl, by first | rfl | decide⟩ ⟨_, congrArg (fun z => some (Value.int z)) (rfl), rfl⟩
  · intro Λ
    refine x_iload_n dX10_dueAll_4 rfl ?_
    refine x_aload_n dX10_dueAll_5 rfl ?_
    refine mg_73 dX10_dueAll_6 ?_
    refine x_icmp_ge 26 dX10_dueAll_9 (fun hx => absurd hx (by rw [hz]; exact nI_ge hi (by omega))) (fun _ => ?_)
    refine x_iload_n dX10_dueAll_12 rfl ?_
    refine x_aload_n dX10_dueAll_13 rfl ?_
    refine x_iload_n dX10_dueAll_14 rfl ?_
    refine iv_X10_145 dX10_dueAll_15 (c_X10_claimsOf hX hru (by omega) (hnu i hi)) mw_o (by decide) (Nat.le_of_ble_eq_true rfl) (fun v_15 w_15 hw_15 => ?_)
    obtain ⟨Λ1, rfl, rfl⟩ := hw_15
    refine x_iadd dX10_dueAll_18 ?_
    refine x_istore_n dX10_dueAll_19 (by decide) ?_
    refine x_iincN dX10_dueAll_20 rfl (by decide) ?_
    refine x_goto 4 dX10_dueAll_23 ?_
    exact ih _
set_option maxRecDepth 100000 in
set_option maxHeartbeats 4000000 in
theorem c_X10_paysAll {X : Nat × (Nat → Int32)} {S : CS} {tl : pc_W} {T : MT} {ru : Int32} {ou : (Nat → Int32)} {we : (Nat → Int32)} {me : Int32} {ki : (Nat → Int32)} {ro : (Nat → Int32)} {ma : Int32} {Λ : ML} {C : MC} {K : MK} {H : MH}  {z : Nat} (hz : ma = nI z) (hz6 : z ≤ 6): Mt X 0 0 0 yX10_paysAll cX10_paysAll 3 (some .int) [.ref 42] (cst S ++ (mw T (ru, ou, we, me, ki, ro, ma) Λ C K H ++ tl)) (RI (sumI (o_pr (mO (ru, ou, we, me, ki, ro, ma))) z) (cst S ++ (mw T (ru, ou, we, me, ki, ro, ma) Λ C K H ++ tl))) := by
  refine Mt.of (by decide +kernel) (fun _ _ => Nat.le_of_ble_eq_true rfl) ?_
  show Ex X mX10_paysAll _ _ _ _ _ _ _ _
  refine x_iconst 0 dX10_paysAll_0 ?_
  refine x_istore_n dX10_paysAll_1 (by decide) ?_
  refine x_iconst 0 dX10_paysAll_2 ?_
  refine x_istore_n dX10_paysAll_3 (by decide) ?_
  refine for_up (P := fun i => Ex X mX10_paysAll 0 (RI (sumI (o_pr (mO (ru, ou, we, me, ki, ro, ma))) z) (cst S ++ (mw T (ru, ou, we, me, ki, ro, ma) Λ C K H ++ tl))) 0 0 4 [some (.ref 42), some (.int (sumI (o_pr (mO (ru, ou, we, me, ki, ro, ma))) i)), some (.int (nI i))] [] (cst S ++ (mw T (ru, ou, we, me, ki, ro, ma) Λ C K H ++ tl))) (z) ?_ (fun i hi ih => ?_) (0) (Nat.zero_le _)
  · refine x_iload_n dX10_paysAll_4 rfl ?_
    refine x_aload_n dX10_paysAll_5 rfl ?_
    refine mg_73 dX10_paysAll_6 ?_
    refine x_icmp_ge 31 dX10_paysAll_9 (fun _ => ?_) (fun hx => absurd (by rw [hz]; exact Int32.le_refl _) hx)
    refine x_iload_n dX10_paysAll_31 rfl ?_
    exact Ex.ret (v := some (.int _)) ⟨dX10_paysAll_32, _, rfl, by first | rfl | decide⟩ ⟨congrArg (fun z => some (Value.int z)) (by rfl), rfl⟩
  · refine x_iload_n dX10_paysAll_4 rfl ?_
    refine x_aload_n dX10_paysAll_5 rfl ?_
    refine mg_73 dX10_paysAll_6 ?_
    refine x_icmp_ge 31 dX10_paysAll_9 (fun hx => absurd hx (by rw [hz]; exact nI_ge hi (by omega))) (fun _ => ?_)
    refine x_iload_n dX10_paysAll_12 rfl ?_
    refine x_aload_n dX10_paysAll_13 rfl ?_
    refine mg_32 dX10_paysAll_14 ?_
    refine x_iconst 2 dX10_paysAll_17 ?_
    refine x_iload_n dX10_paysAll_18 rfl ?_
    refine x_imul dX10_paysAll_19 ?_
    refine x_iconst 1 dX10_paysAll_20 ?_
    refine x_iadd dX10_paysAll_21 ?_
    rw [show (2 : Int32) * nI i = nI (2 * i) from pk_mul 2 i, nI_1]
    refine maN_49 dX10_paysAll_22 (show 2 * i + 1 < 12 by omega) ?_
    refine x_iadd dX10_paysAll_23 ?_
    refine x_istore_n dX10_paysAll_24 (by decide) ?_
    refine x_iincN dX10_paysAll_25 rfl (by decide) ?_
    refine x_goto 4 dX10_paysAll_28 ?_
    exact ih
set_option maxRecDepth 100000 in
set_option maxHeartbeats 4000000 in
theorem c_X10_hazyMany {X : Nat × (Nat → Int32)} {S : CS} {tl : pc_W} {T : MT} {ru : Int32} {ou : (Nat → Int32)} {we : (Nat → Int32)} {me : Int32} {ki : (Nat → Int32)} {ro : (Nat → Int32)} {ma : Int32} {Λ : ML} {C : MC} {K : MK} {H : MH} {τ : TV} {r z : Nat} (hX : TXm τ T.1 T.2.1 r) (hru : ru = nI r) (hz : ma = nI z) (hz6 : z ≤ 6): Mt X 47 0 0 yX10_hazyMany cX10_hazyMany 3 (some .int) [.ref 42] (cst S ++ (mw T (ru, ou, we, me, ki, ro, ma) Λ C K H ++ tl)) (fun v w' => ∃ Λ' : ML, v = some (.int (hpF τ (mO (ru, ou, we, me, ki, ro, ma)) r z)) ∧ w' = cst S ++ (mw T (ru, ou, we, me, ki, ro, ma) Λ' C K H ++ tl)) := by
  refine Mt.of (by decide +kernel) (fun _ _ => Nat.le_of_ble_eq_true rfl) ?_
  show Ex X mX10_hazyMany _ _ _ _ _ _ _ _
  refine x_iconst 0 dX10_hazyMany_0 ?_
  refine x_istore_n dX10_hazyMany_1 (by decide) ?_
  refine x_iconst 0 dX10_hazyMany_2 ?_
  refine x_istore_n dX10_hazyMany_3 (by decide) ?_
  refine for_up (P := fun i => ∀ Λ : ML, Ex X mX10_hazyMany 47 (fun v w' => ∃ Λ' : ML, v = some (.int (hpF τ (mO (ru, ou, we, me, ki, ro, ma)) r z)) ∧ w' = cst S ++ (mw T (ru, ou, we, me, ki, ro, ma) Λ' C K H ++ tl)) 0 0 4 [some (.ref 42), some (.int (sumI (hzF τ (mO (ru, ou, we, me, ki, ro, ma)) r) i)), some (.int (nI i))] [] (cst S ++ (mw T (ru, ou, we, me, ki, ro, ma) Λ C K H ++ tl))) (z) ?_ (fun i hi ih => ?_) (0) (Nat.zero_le _) Λ
  · intro Λ
    refine x_iload_n dX10_hazyMany_4 rfl ?_
    refine x_aload_n dX10_hazyMany_5 rfl ?_
    refine mg_73 dX10_hazyMany_6 ?_
    refine x_icmp_ge 34 dX10_hazyMany_9 (fun _ => ?_) (fun hx => absurd (by rw [hz]; exact Int32.le_refl _) hx)
    refine x_iload_n dX10_hazyMany_34 rfl ?_
    exact Ex.ret (v := some (.int _)) ⟨dX10_hazyMany_35, _, rfl, by first | rfl | decide⟩ ⟨_, congrArg (fun z => some (Value.int z)) (rfl), rfl⟩
  · intro Λ
    refine x_iload_n dX10_hazyMany_4 rfl ?_
    refine x_aload_n dX10_hazyMany_5 rfl ?_
    refine mg_73 dX10_hazyMany_6 ?_
    refine x_icmp_ge 34 dX10_hazyMany_9 (fun hx => absurd hx (by rw [hz]; exact nI_ge hi (by omega))) (fun _ => ?_)
    refine x_iload_n dX10_hazyMany_12 rfl ?_
    refine x_aload_n dX10_hazyMany_13 rfl ?_
    refine x_iload_n dX10_hazyMany_14 rfl ?_
    refine iv_X10_142 dX10_hazyMany_15 (c_X10_isHazy hX hru (by omega)) mw_o (by decide) (Nat.le_of_ble_eq_true rfl) (fun v_15 w_15 hw_15 => ?_)
    obtain ⟨Λ1, rfl, rfl⟩ := hw_15
    refine x_if_eq 25 dX10_hazyMany_18 (fun h_18 => ?_) (fun h_18 => ?_)
    · refine x_iconst 0 dX10_hazyMany_25 ?_
      refine x_iadd dX10_hazyMany_26 ?_
      refine x_istore_n dX10_hazyMany_27 (by decide) ?_
      refine x_iincN dX10_hazyMany_28 rfl (by decide) ?_
      refine x_goto 4 dX10_hazyMany_31 ?_
      have e : sumI (hzF τ (mO (ru, ou, we, me, ki, ro, ma)) r) i + 0 = sumI (hzF τ (mO (ru, ou, we, me, ki, ro, ma)) r) (i + 1) := by show _ = sumI (hzF τ (mO (ru, ou, we, me, ki, ro, ma)) r) i + hzF τ (mO (ru, ou, we, me, ki, ro, ma)) r i; rw [h_18]
      rw [e]
      exact ih _
    · refine x_iconst 1 dX10_hazyMany_21 ?_
      refine x_goto 26 dX10_hazyMany_22 ?_
      refine x_iadd dX10_hazyMany_26 ?_
      refine x_istore_n dX10_hazyMany_27 (by decide) ?_
      refine x_iincN dX10_hazyMany_28 rfl (by decide) ?_
      refine x_goto 4 dX10_hazyMany_31 ?_
      have e : sumI (hzF τ (mO (ru, ou, we, me, ki, ro, ma)) r) i + 1 = sumI (hzF τ (mO (ru, ou, we, me, ki, ro, ma)) r) (i + 1) := by show _ = sumI (hzF τ (mO (ru, ou, we, me, ki, ro, ma)) r) i + hzF τ (mO (ru, ou, we, me, ki, ro, ma)) r i; rw [show hzF τ (mO (ru, ou, we, me, ki, ro, ma)) r i = 1 from bi_t (bi1.mp h_18)]
      rw [e]
      exact ih _
/-- a year's passing, in the reference -/
def oyr (ou : Nat → Int32) (x du : Int32) : Nat → Int32 := upd (upd ou 2 (clp (-99999) (clp (-99999) (ou 2 + x) 99999 - du) 99999)) 0 (ou 0 + 1)
theorem oyr_u (ou : Nat → Int32) (x du : Int32) : upd (upd (upd ou 2 (clp (-99999) (ou 2 + x) 99999)) 2 (clp (-99999) (clp (-99999) (ou 2 + x) 99999 - du) 99999)) 0 (ou 0 + 1) = oyr ou x du := by
  funext j
  unfold oyr upd
  by_cases h0 : j = 0
  · simp [h0]
  · by_cases h2 : j = 2
    · simp [h2]
    · simp [h0, h2]
set_option maxRecDepth 100000 in
set_option maxHeartbeats 4000000 in
theorem c_X10_passes {X : Nat × (Nat → Int32)} {S : CS} {tl : pc_W} {T : MT} {ru : Int32} {ou : (Nat → Int32)} {we : (Nat → Int32)} {me : Int32} {ki : (Nat → Int32)} {ro : (Nat → Int32)} {ma : Int32} {Λ : ML} {C : MC} {K : MK} {H : MH} {τ : TV} {r z : Nat} {x : Int32} (hX : TXm τ T.1 T.2.1 r) (hru : ru = nI r) (hz : ma = nI z) (hz6 : z ≤ 6) (hnu : ∀ i, i < z → ∃ m, m < 10 ∧ ro (2 * i) = nI m): Mt X 49 0 0 yX10_passes cX10_passes 3 none [.ref 42, .int x] (cst S ++ (mw T (ru, ou, we, me, ki, ro, ma) Λ C K H ++ tl)) (fun v w' => ∃ Λ' : ML, v = none ∧ w' = cst S ++ (mw T (ru, (oyr ou x (duF τ (mO (ru, ou, we, me, ki, ro, ma)) r z)), we, me, ki, ro, ma) Λ' C K H ++ tl)) := by
  refine Mt.of (by decide +kernel) (fun _ _ => Nat.le_of_ble_eq_true rfl) ?_
  show Ex X mX10_passes _ _ _ _ _ _ _ _
  refine x_aload_n dX10_passes_0 rfl ?_
  refine iv_X10_366 dX10_passes_1 (c_X10_dueAll hX hru hz hz6 hnu) mw_o (by decide) (Nat.le_of_ble_eq_true rfl) (fun v_1 w_1 hw_1 => ?_)
  obtain ⟨Λ1, rfl, rfl⟩ := hw_1
  refine x_istore_n dX10_passes_4 (by decide) ?_
  refine x_aload_n dX10_passes_5 rfl ?_
  refine mg_23 dX10_passes_6 ?_
  refine x_iconst 2 dX10_passes_9 ?_
  refine x_aload_n dX10_passes_10 rfl ?_
  refine mg_23 dX10_passes_11 ?_
  refine x_iconst 2 dX10_passes_14 ?_
  refine maK_46 2 dX10_passes_15 rfl (by decide) ?_
  refine x_iload_n dX10_passes_16 rfl ?_
  refine x_iadd dX10_passes_17 ?_
  refine x_ldc dX10_passes_18 kk_X10_89 ?_
  refine x_ldc dX10_passes_20 kk_X10_90 ?_
  refine ii_X10_359 dX10_passes_22 c_X10_within (by decide) (Nat.le_of_ble_eq_true rfl) ?_
  refine msK_46 2 dX10_passes_25 rfl (by decide) ?_
  refine x_aload_n dX10_passes_26 rfl ?_
  refine mg_23 dX10_passes_27 ?_
  refine x_iconst 2 dX10_passes_30 ?_
  refine x_aload_n dX10_passes_31 rfl ?_
  refine mg_23 dX10_passes_32 ?_
  refine x_iconst 2 dX10_passes_35 ?_
  refine maK_46 2 dX10_passes_36 rfl (by decide) ?_
  refine x_iload_n dX10_passes_37 rfl ?_
  refine x_isub dX10_passes_38 ?_
  refine x_ldc dX10_passes_39 kk_X10_89 ?_
  refine x_ldc dX10_passes_41 kk_X10_90 ?_
  refine ii_X10_359 dX10_passes_43 c_X10_within (by decide) (Nat.le_of_ble_eq_true rfl) ?_
  refine msK_46 2 dX10_passes_46 rfl (by decide) ?_
  refine x_aload_n dX10_passes_47 rfl ?_
  refine mg_23 dX10_passes_48 ?_
  refine x_iconst 0 dX10_passes_51 ?_
  refine x_dup2 dX10_passes_52 ?_
  refine maK_46 0 dX10_passes_53 rfl (by decide) ?_
  refine x_iconst 1 dX10_passes_54 ?_
  refine x_iadd dX10_passes_55 ?_
  refine msK_46 0 dX10_passes_56 rfl (by decide) ?_
  exact Ex.ret (v := none) ⟨rfl, dX10_passes_57⟩ ⟨Λ1, rfl, by rw [← oyr_u]; rfl⟩
