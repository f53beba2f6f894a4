abbrev shBad (a so : Int32) : Prop := ¬ (0 ≤ a ∧ a < 4) ∨ (¬ so = -1 ∧ ¬ (0 ≤ so ∧ so ≤ 2))
def shF (a so n : Int32) : Int32 := if shBad a so then -2 else if so = -1 then 1 else if 40 < n then -2 else if n < 0 then -14 else 1
def shS (S : CS) (a so n : Int32) : CS := if shF a so n = 1 then u_sh S (shU (s_sh S) a.toNatClampNeg (so, (if so = -1 then 0 else n), zrow 40 (s_sh S a.toNatClampNeg).2.2)) else S
set_option maxRecDepth 100000 in
set_option maxHeartbeats 4000000 in
theorem c_X9_sheet {X : Nat × (Nat → Int32)} {S : CS} {tl : pc_W} {a so n : Int32} : Mt X 1 0 0 yX9_sheet cX9_sheet 4 (some .int) [.ref 0, .int a, .int so, .int n] (cst S ++ tl) (RI (shF a so n) (cst (shS S a so n) ++ tl)) := by
  refine Mt.of (by decide +kernel) (fun _ _ => Nat.le_of_ble_eq_true rfl) ?_
  show Ex X mX9_sheet _ _ _ _ _ _ _ _
  refine x_iload_n dX9_sheet_0 rfl ?_
  refine ii_X9_247 dX9_sheet_1 c_X9_isSheet (by decide) (Nat.le_of_ble_eq_true rfl) ?_
  refine x_if_eq 19 dX9_sheet_4 (fun h_4 => ?_) (fun h_4 => ?_)
  · refine x_bipush (-2) dX9_sheet_19 ?_
    have hF : shF a so n = -2 := (by rw [shF, if_pos (Or.inl (bi0.mp h_4))])
    exact Ex.ret (v := some (.int _)) ⟨dX9_sheet_21, _, rfl, rfl⟩ ⟨congrArg (fun z => some (Value.int z)) hF.symm, by rw [shS, hF, if_neg (by decide)]⟩
  · refine x_iload_n dX9_sheet_7 rfl ?_
    refine x_iconst (-1) dX9_sheet_8 ?_
    refine x_icmp_eq 22 dX9_sheet_9 (fun h_9 => ?_) (fun h_9 => ?_)
    · have ho := bi1.mp h_4
      have hg0 : ¬ shBad a so := (by rintro (q | q); exact q ho; exact q.1 h_9)
      obtain ⟨k, hk, rfl⟩ := nat_of ho.1 (show a < nI 4 from ho.2) (by omega)
      have hg := hg0
      refine x_iload_n dX9_sheet_22 rfl ?_
      refine x_iconst (-1) dX9_sheet_23 ?_
      refine x_icmp_ne 40 dX9_sheet_24 (fun hs1 => ?_) (fun hq => ?_)
      · skip
        refine x_iload_n dX9_sheet_40 rfl ?_
        refine x_bipush 40 dX9_sheet_41 ?_
        refine x_icmp_le 49 dX9_sheet_43 (fun h_43 => ?_) (fun h_43 => ?_)
        · refine x_iload_n dX9_sheet_49 rfl ?_
          refine x_if_ge 56 dX9_sheet_50 (fun h_50 => ?_) (fun h_50 => ?_)
          · refine x_aload_n dX9_sheet_56 rfl ?_
            refine gf_X9_53 dX9_sheet_57 rfl rfl ?_
            refine x_iload_n dX9_sheet_60 rfl ?_
            refine x_aaloadN dX9_sheet_61 (fun _ => rfl) rfl hk (by decide) (shR_at hk) ?_
            refine x_iload_n dX9_sheet_62 rfl ?_
            refine x_iload_n dX9_sheet_63 rfl ?_
            refine Ex.eqW (sw_eta S tl hk) ?_
            refine ii_X9_274 dX9_sheet_64 (c_X6_lay hk) (sw_obj hk) (by decide) (Nat.le_of_ble_eq_true rfl) ?_
            refine x_iconst 1 dX9_sheet_67 ?_
            have hF : shF (nI k) so n = 1 := (by rw [shF, if_neg hg, if_neg hs1, if_neg (Int32.not_lt.mpr h_43), if_neg (Int32.not_lt.mpr h_50)])
            exact Ex.ret (v := some (.int _)) ⟨dX9_sheet_68, _, rfl, rfl⟩ ⟨congrArg (fun z => some (Value.int z)) hF.symm, by rw [shS, hF, if_pos rfl, nI_clamp (by omega), if_neg hs1]⟩
          · refine x_bipush (-14) dX9_sheet_53 ?_
            have hF : shF (nI k) so n = -14 := (by rw [shF, if_neg hg, if_neg hs1, if_neg (Int32.not_lt.mpr h_43), if_pos (Int32.not_le.mp h_50)])
            exact Ex.ret (v := some (.int _)) ⟨dX9_sheet_55, _, rfl, rfl⟩ ⟨congrArg (fun z => some (Value.int z)) hF.symm, by rw [shS, hF, if_neg (by decide)]⟩
        · refine x_bipush (-2) dX9_sheet_46 ?_
          have hF : shF (nI k) so n = -2 := (by rw [shF, if_neg hg, if_neg hs1, if_pos (Int32.not_le.mp h_43)])
          exact Ex.ret (v := some (.int _)) ⟨dX9_sheet_48, _, rfl, rfl⟩ ⟨congrArg (fun z => some (Value.int z)) hF.symm, by rw [shS, hF, if_neg (by decide)]⟩
      · have hs1 : so = -1 := hq
        refine x_aload_n dX9_sheet_27 rfl ?_
        refine gf_X9_53 dX9_sheet_28 rfl rfl ?_
        refine x_iload_n dX9_sheet_31 rfl ?_
        refine x_aaloadN dX9_sheet_32 (fun _ => rfl) rfl hk (by decide) (shR_at hk) ?_
        refine x_iload_n dX9_sheet_33 rfl ?_
        refine x_iconst 0 dX9_sheet_34 ?_
        refine Ex.eqW (sw_eta S tl hk) ?_
        refine ii_X9_274 dX9_sheet_35 (c_X6_lay hk) (sw_obj hk) (by decide) (Nat.le_of_ble_eq_true rfl) ?_
        refine x_iconst 1 dX9_sheet_38 ?_
        have hF : shF (nI k) so n = 1 := (by rw [shF, if_neg hg, if_pos hs1])
        exact Ex.ret (v := some (.int _)) ⟨dX9_sheet_39, _, rfl, rfl⟩ ⟨congrArg (fun z => some (Value.int z)) hF.symm, by rw [shS, hF, if_pos rfl, nI_clamp (by omega), if_pos hs1]⟩
    · refine x_iload_n dX9_sheet_12 rfl ?_
      refine ii_X9_308 dX9_sheet_13 c_X9_isSort (by decide) (Nat.le_of_ble_eq_true rfl) ?_
      refine x_if_ne 22 dX9_sheet_16 (fun h_16 => ?_) (fun h_16 => ?_)
      · have ho := bi1.mp h_4
        have hg0 : ¬ shBad a so := (by rintro (q | q); exact q ho; exact q.2 (bi1.mp h_16))
        obtain ⟨k, hk, rfl⟩ := nat_of ho.1 (show a < nI 4 from ho.2) (by omega)
        have hg := hg0
        refine x_iload_n dX9_sheet_22 rfl ?_
        refine x_iconst (-1) dX9_sheet_23 ?_
        refine x_icmp_ne 40 dX9_sheet_24 (fun hs1 => ?_) (fun hq => ?_)
        · skip
          refine x_iload_n dX9_sheet_40 rfl ?_
          refine x_bipush 40 dX9_sheet_41 ?_
          refine x_icmp_le 49 dX9_sheet_43 (fun h_43 => ?_) (fun h_43 => ?_)
          · refine x_iload_n dX9_sheet_49 rfl ?_
            refine x_if_ge 56 dX9_sheet_50 (fun h_50 => ?_) (fun h_50 => ?_)
            · refine x_aload_n dX9_sheet_56 rfl ?_
              refine gf_X9_53 dX9_sheet_57 rfl rfl ?_
              refine x_iload_n dX9_sheet_60 rfl ?_
              refine x_aaloadN dX9_sheet_61 (fun _ => rfl) rfl hk (by decide) (shR_at hk) ?_
              refine x_iload_n dX9_sheet_62 rfl ?_
              refine x_iload_n dX9_sheet_63 rfl ?_
              refine Ex.eqW (sw_eta S tl hk) ?_
              refine ii_X9_274 dX9_sheet_64 (c_X6_lay hk) (sw_obj hk) (by decide) (Nat.le_of_ble_eq_true rfl) ?_
              refine x_iconst 1 dX9_sheet_67 ?_
              have hF : shF (nI k) so n = 1 := (by rw [shF, if_neg hg, if_neg hs1, if_neg (Int32.not_lt.mpr h_43), if_neg (Int32.not_lt.mpr h_50)])
              exact Ex.ret (v := some (.int _)) ⟨dX9_sheet_68, _, rfl, rfl⟩ ⟨congrArg (fun z => some (Value.int z)) hF.symm, by rw [shS, hF, if_pos rfl, nI_clamp (by omega), if_neg hs1]⟩
            · refine x_bipush (-14) dX9_sheet_53 ?_
              have hF : shF (nI k) so n = -14 := (by rw [shF, if_neg hg, if_neg hs1, if_neg (Int32.not_lt.mpr h_43), if_pos (Int32.not_le.mp h_50)])
              exact Ex.ret (v := some (.int _)) ⟨dX9_sheet_55, _, rfl, rfl⟩ ⟨congrArg (fun z => some (Value.int z)) hF.symm, by rw [shS, hF, if_neg (by decide)]⟩
          · refine x_bipush (-2) dX9_sheet_46 ?_
            have hF : shF (nI k) so n = -2 := (by rw [shF, if_neg hg, if_neg hs1, if_pos (Int32.not_le.mp h_43)])
            exact Ex.ret (v := some (.int _)) ⟨dX9_sheet_48, _, rfl, rfl⟩ ⟨congrArg (fun z => some (Value.int z)) hF.symm, by rw [shS, hF, if_neg (by decide)]⟩
        · have hs1 : so = -1 := hq
          refine x_aload_n dX9_sheet_27 rfl ?_
          refine gf_X9_53 dX9_sheet_28 rfl rfl ?_
          refine x_iload_n dX9_sheet_31 rfl ?_
          refine x_aaloadN dX9_sheet_32 (fun _ => rfl) rfl hk (by decide) (shR_at hk) ?_
          refine x_iload_n dX9_sheet_33 rfl ?_
          refine x_iconst 0 dX9_sheet_34 ?_
          refine Ex.eqW (sw_eta S tl hk) ?_
          refine ii_X9_274 dX9_sheet_35 (c_X6_lay hk) (sw_obj hk) (by decide) (Nat.le_of_ble_eq_true rfl) ?_
          refine x_iconst 1 dX9_sheet_38 ?_
          have hF : shF (nI k) so n = 1 := (by rw [shF, if_neg hg, if_pos hs1])
          exact Ex.ret (v := some (.int _)) ⟨dX9_sheet_39, _, rfl, rfl⟩ ⟨congrArg (fun z => some (Value.int z)) hF.symm, by rw [shS, hF, if_pos rfl, nI_clamp (by omega), if_pos hs1]⟩
      · refine x_bipush (-2) dX9_sheet_19 ?_
        have hF : shF a so n = -2 := (by rw [shF, if_pos (Or.inr ⟨h_9, bi0.mp h_16⟩)])
        exact Ex.ret (v := some (.int _)) ⟨dX9_sheet_21, _, rfl, rfl⟩ ⟨congrArg (fun z => some (Value.int z)) hF.symm, by rw [shS, hF, if_neg (by decide)]⟩
