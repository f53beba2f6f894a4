theorem wt_ns {S : CS} {T : OT} {nm sk nm' sk' : Nat → Int32} {F : Nat → ST} : u_sk (u_nm (wtS S T nm sk F) nm') sk' = wtS S T nm' sk' F := by
  unfold wtS
  rw [k_nm_tho, k_sk_tho, k_nm_sh, k_sk_sh, k_nm_sk, k_sk_sk, k_nm_nm]
theorem wt_F {S : CS} {T : OT} {nm sk : Nat → Int32} {F : Nat → ST} : s_sh (wtS S T nm sk F) = F := by
  unfold wtS
  rfl
theorem shU_k {f : Nat → ST} {k : Nat} {x : ST} : shU f k x k = x := if_pos rfl
set_option maxRecDepth 100000 in
theorem c_X9_hoursJustSo {X : Nat × (Nat → Int32)} {S : CS} {tl : pc_W} {T : OT} {nm sk : Nat → Int32} {f : Nat → ST} {a b : Int32} {c : Nat → Int32} {τ : TV} {p k r : Nat} {g : Nat → Int32} (hX : TXr τ S tl r) (hr : o_ru T = nI r) (hg : ∀ i, i < 8 → (g i = -1 ↔ c i = thF τ T r p i)) (hp6 : p < 6) (hk : k < 4) : Mt X 6 0 0 yX9_hoursJustSo cX9_hoursJustSo 5 (some .int) [.ref 0, .ref (shP k), .int (nI p)] (cst (wtS S T nm sk (shU f k (a, b, c))) ++ tl) (fun v w' => ∃ nm' sk', v = some (.int (btF g 8)) ∧ w' = cst (wtS S T nm' sk' (shU f k (a, b, c))) ++ tl) := by
  have hrow : ∀ nm1 sk1, (cst (wtS S T nm1 sk1 (shU f k (a, b, c))) ++ tl)[shP k + 1]? = some (.inl (0, (40, .inl c))) := fun nm1 sk1 => by rw [sh_row hk, wt_F, shU_k]
  have hobj : ∀ nm1 sk1, (cst (wtS S T nm1 sk1 (shU f k (a, b, c))) ++ tl)[shP k]? = some (.inr (5, [.int a, .int b, .ref (shP k + 1)])) := fun nm1 sk1 => by rw [sh_obj hk, wt_F, shU_k]
  refine Mt.of (by decide +kernel) (fun _ _ => Nat.le_of_ble_eq_true rfl) ?_
  show Ex X mX9_hoursJustSo _ _ _ _ _ _ _ _
  refine x_iconst 0 dX9_hoursJustSo_0 ?_
  refine x_istore_n dX9_hoursJustSo_1 (by decide) ?_
  refine x_iconst 0 dX9_hoursJustSo_2 ?_
  refine x_istore dX9_hoursJustSo_3 (by decide) ?_
  refine Ex.forget (L' := [some (.ref 0), some (.ref (shP k)), some (.int (nI p)), some (.int (btF g 0)), some (.int (nI 0))]) ⟨rfl, rfl, rfl, rfl, rfl, trivial⟩ ?_
  refine for_up (P := fun i => ∀ nm1 sk1, Ex X mX9_hoursJustSo 6 (fun v w' => ∃ nm' sk', v = some (.int (btF g 8)) ∧ w' = cst (wtS S T nm' sk' (shU f k (a, b, c))) ++ tl) 0 0 5 [some (.ref 0), some (.ref (shP k)), some (.int (nI p)), some (.int (btF g i)), some (.int (nI i))] [] (cst (wtS S T nm1 sk1 (shU f k (a, b, c))) ++ tl)) 8 ?_ (fun i hi ih => ?_) 0 (Nat.zero_le _) nm sk
  · intro nm1 sk1
    refine x_iload dX9_hoursJustSo_5 rfl ?_
    refine x_bipush 8 dX9_hoursJustSo_7 ?_
    refine x_icmp_ge 49 dX9_hoursJustSo_9 (fun _ => ?_) (fun y => absurd (by decide) y)
    refine x_iload_n dX9_hoursJustSo_49 rfl ?_
    exact Ex.ret (v := some (.int _)) ⟨dX9_hoursJustSo_50, _, rfl, rfl⟩ ⟨nm1, sk1, rfl, rfl⟩
  · intro nm1 sk1
    refine x_iload dX9_hoursJustSo_5 rfl ?_
    refine x_bipush 8 dX9_hoursJustSo_7 ?_
    refine x_icmp_ge 49 dX9_hoursJustSo_9 (fun y => absurd y (nI_ge (b := 8) hi (by decide))) (fun _ => ?_)
    refine x_aload_n dX9_hoursJustSo_12 rfl ?_
    refine gf_X9_294 dX9_hoursJustSo_13 (hobj nm1 sk1) rfl ?_
    refine x_iload dX9_hoursJustSo_16 rfl ?_
    refine x_ialoadN dX9_hoursJustSo_18 (hrow nm1 sk1) (show i < 40 by omega) (by decide) ?_
    refine x_aload_n dX9_hoursJustSo_19 rfl ?_
    refine gf_X9_36 dX9_hoursJustSo_20 rfl rfl ?_
    refine x_aload_n dX9_hoursJustSo_23 rfl ?_
    refine gf_X9_19 dX9_hoursJustSo_24 rfl rfl ?_
    refine x_iload_n dX9_hoursJustSo_27 rfl ?_
    refine x_iload dX9_hoursJustSo_28 rfl ?_
    refine iv_X9_110 dX9_hoursJustSo_30 (c_X2_thinks_t (S := wtS S T nm1 sk1 (shU f k (a, b, c))) (wt_TX hX) (by rw [wt_tho]; exact hr) hp6 hi) rfl (by decide) (Nat.le_of_ble_eq_true rfl) (fun v w' h => ?_)
    obtain ⟨nm2, sk2, rfl, rfl⟩ := h
    rw [wt_tho, wt_ns]
    refine x_icmp_ne 43 dX9_hoursJustSo_33 (fun y => ?_) (fun y => ?_)
    · refine x_iincN dX9_hoursJustSo_43 rfl (by decide) ?_
      refine x_goto 5 dX9_hoursJustSo_46 ?_
      refine Ex.forget (L' := [some (.ref 0), some (.ref (shP k)), some (.int (nI p)), some (.int (btF g (i + 1))), some (.int (nI (i + 1)))]) ⟨rfl, rfl, rfl, by rw [btF, if_neg (fun z => y ((hg i hi).mp z))] <;> rfl, rfl, trivial⟩ ?_
      exact ih _ _
    · refine x_iload_n dX9_hoursJustSo_36 rfl ?_
      refine x_iconst 1 dX9_hoursJustSo_37 ?_
      refine x_iload dX9_hoursJustSo_38 rfl ?_
      refine x_ishl dX9_hoursJustSo_40 ?_
      refine x_ior dX9_hoursJustSo_41 ?_
      refine x_istore_n dX9_hoursJustSo_42 (by decide) ?_
      refine x_iincN dX9_hoursJustSo_43 rfl (by decide) ?_
      refine x_goto 5 dX9_hoursJustSo_46 ?_
      refine Ex.forget (L' := [some (.ref 0), some (.ref (shP k)), some (.int (nI p)), some (.int (btF g (i + 1))), some (.int (nI (i + 1)))]) ⟨rfl, rfl, rfl, by rw [btF, if_pos ((hg i hi).mpr y)] <;> rfl, rfl, trivial⟩ ?_
      exact ih _ _
