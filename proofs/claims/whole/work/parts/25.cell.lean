def ceF (S : CS) (a i : Int32) : Int32 := if ¬ (0 ≤ a ∧ a < 4) then -2 else if (s_sh S a.toNatClampNeg).1 = -1 then -11 else if ¬ (0 ≤ i ∧ i < (s_sh S a.toNatClampNeg).2.1) then -12 else 1
def ceS (S : CS) (a i v : Int32) : CS := if ceF S a i = 1 then u_sh S (shU (s_sh S) a.toNatClampNeg ((s_sh S a.toNatClampNeg).1, (s_sh S a.toNatClampNeg).2.1, upd (s_sh S a.toNatClampNeg).2.2 i.toNatClampNeg (wrV (s_sh S a.toNatClampNeg).1 v))) else S
theorem vin40 {i b : Int32} (h : 0 ≤ i ∧ i < b) (hb : b ≤ nI 40) : vp_in i 40 := by
  obtain ⟨j, hj, rfl⟩ := nat_of h.1 (show i < nI 40 from Int32.lt_of_lt_of_le h.2 hb) (by omega)
  exact vin hj (by decide)
set_option maxRecDepth 100000 in
set_option maxHeartbeats 4000000 in
theorem c_X9_cell {X : Nat × (Nat → Int32)} {S : CS} {tl : pc_W} {a i v : Int32} (hsz : ∀ k, k < 4 → (s_sh S k).2.1 ≤ nI 40): Mt X 1 0 0 yX9_cell cX9_cell 5 (some .int) [.ref 0, .int a, .int i, .int v] (cst S ++ tl) (RI (ceF S a i) (cst (ceS S a i v) ++ tl)) := by
  refine Mt.of (by decide +kernel) (fun _ _ => Nat.le_of_ble_eq_true rfl) ?_
  show Ex X mX9_cell _ _ _ _ _ _ _ _
  refine x_iload_n dX9_cell_0 rfl ?_
  refine ii_X9_247 dX9_cell_1 c_X9_isSheet (by decide) (Nat.le_of_ble_eq_true rfl) ?_
  refine x_if_ne 10 dX9_cell_4 (fun h_4 => ?_) (fun h_4 => ?_)
  · have ho := bi1.mp h_4
    obtain ⟨k, hk, rfl⟩ := nat_of ho.1 (show a < nI 4 from ho.2) (by omega)
    refine x_aload_n dX9_cell_10 rfl ?_
    refine gf_X9_53 dX9_cell_11 rfl rfl ?_
    refine x_iload_n dX9_cell_14 rfl ?_
    refine x_aaloadN dX9_cell_15 (fun _ => rfl) rfl hk (by decide) (shR_at hk) ?_
    refine x_astore dX9_cell_16 (by decide) ?_
    refine x_aload dX9_cell_18 rfl ?_
    refine Ex.eqW (sw_eta S tl hk) ?_
    refine ii_X9_250 dX9_cell_20 (c_X6_isMissing hk) (sw_obj hk) (by decide) (Nat.le_of_ble_eq_true rfl) ?_
    refine x_if_eq 29 dX9_cell_23 (fun h_23 => ?_) (fun h_23 => ?_)
    · refine x_aload dX9_cell_29 rfl ?_
      refine x_iload_n dX9_cell_31 rfl ?_
      refine ii_X9_311 dX9_cell_32 (c_X6_has hk) (sw_obj hk) (by decide) (Nat.le_of_ble_eq_true rfl) ?_
      refine x_if_ne 41 dX9_cell_35 (fun h_35 => ?_) (fun h_35 => ?_)
      · refine x_aload dX9_cell_41 rfl ?_
        refine x_iload_n dX9_cell_43 rfl ?_
        refine x_iload_n dX9_cell_44 rfl ?_
        refine ii_X9_278 dX9_cell_45 (c_X6_write hk (vin40 (bi1.mp h_35) (hsz k hk))) (sw_obj hk) (by decide) (Nat.le_of_ble_eq_true rfl) ?_
        refine x_iconst 1 dX9_cell_48 ?_
        have hF : ceF S (nI k) i = 1 := (by rw [ceF, if_neg (fun q => q ho), nI_clamp (by omega), if_neg (bi0.mp h_23), if_neg (fun q => q (bi1.mp h_35))])
        exact Ex.ret (v := some (.int _)) ⟨dX9_cell_49, _, rfl, rfl⟩ ⟨congrArg (fun z => some (Value.int z)) hF.symm, by rw [ceS, hF, if_pos rfl, nI_clamp (by omega)]⟩
      · refine x_bipush (-12) dX9_cell_38 ?_
        have hF : ceF S (nI k) i = -12 := (by rw [ceF, if_neg (fun q => q ho), nI_clamp (by omega), if_neg (bi0.mp h_23), if_pos (bi0.mp h_35)])
        exact Ex.ret (v := some (.int _)) ⟨dX9_cell_40, _, rfl, rfl⟩ ⟨congrArg (fun z => some (Value.int z)) hF.symm, by rw [ceS, hF, if_neg (by decide)]; exact (sw_eta S tl hk).symm⟩
    · refine x_bipush (-11) dX9_cell_26 ?_
      have hF : ceF S (nI k) i = -11 := (by rw [ceF, if_neg (fun q => q ho), nI_clamp (by omega), if_pos (bi1.mp h_23)])
      exact Ex.ret (v := some (.int _)) ⟨dX9_cell_28, _, rfl, rfl⟩ ⟨congrArg (fun z => some (Value.int z)) hF.symm, by rw [ceS, hF, if_neg (by decide)]; exact (sw_eta S tl hk).symm⟩
  · refine x_bipush (-2) dX9_cell_7 ?_
    have hF : ceF S a i = -2 := (by rw [ceF, if_pos (bi0.mp h_4)])
    exact Ex.ret (v := some (.int _)) ⟨dX9_cell_9, _, rfl, rfl⟩ ⟨congrArg (fun z => some (Value.int z)) hF.symm, by rw [ceS, hF, if_neg (by decide)]⟩
