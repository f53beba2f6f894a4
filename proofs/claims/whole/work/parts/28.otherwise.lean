def foF (th c : Nat → Int32) : Nat → Nat → Int32
  | 0, _ => -1
  | n + 1, i => if c i = th i then foF th c n (i + 1) else nI i
set_option maxRecDepth 100000 in
set_option maxHeartbeats 4000000 in
theorem c_X9_firstOtherwise {X : Nat × (Nat → Int32)} {S : CS} {tl : pc_W} {τ : TV} {r p k : Nat} {f : Nat → ST} {a b : Int32} {c : Nat → Int32} (hX : TXr τ S tl r) (hrt : o_ru (s_tho S) = nI r) (hp6 : p < 6) (hk : k < 4): Mt X 4 0 0 yX9_firstOtherwise cX9_firstOtherwise 4 (some .int) [.ref 0, .ref (shP k), .int (nI p)] (cst (u_sh S (shU f k (a, b, c))) ++ tl) (fun v w' => ∃ nm sk, v = some (.int (foF (thF τ (s_tho S) r p) c 8 0)) ∧ w' = cst (u_sh (u_sk (u_nm S nm) sk) (shU f k (a, b, c))) ++ tl) := by
  refine Mt.of (by decide +kernel) (fun _ _ => Nat.le_of_ble_eq_true rfl) ?_
  show Ex X mX9_firstOtherwise _ _ _ _ _ _ _ _
  refine x_iconst 0 dX9_firstOtherwise_0 ?_
  refine x_istore_n dX9_firstOtherwise_1 (by decide) ?_
  refine for_up (P := fun i => ∀ (nm sk : Nat → Int32) (r0 : Int32), foF (thF τ (s_tho S) r p) c (8 - i) i = r0 → Ex X mX9_firstOtherwise 4 (fun v w' => ∃ nm sk, v = some (.int (r0)) ∧ w' = cst (u_sh (u_sk (u_nm S nm) sk) (shU f k (a, b, c))) ++ tl) 0 0 2 [some (.ref 0), some (.ref (shP k)), some (.int (nI p)), some (.int (nI i))] [] (cst (u_sh (u_sk (u_nm S nm) sk) (shU f k (a, b, c))) ++ tl)) 8 ?_ (fun i hii ihi => ?_) 0 (by omega) (s_nm S) (s_sk S) _ rfl
  · intro nm sk r0 hr0
    refine x_iload_n dX9_firstOtherwise_2 rfl ?_
    refine x_bipush 8 dX9_firstOtherwise_3 ?_
    refine x_icmp_ge 38 dX9_firstOtherwise_5 (fun _ => ?_) (fun hx => absurd (by decide) hx)
    refine x_iconst (-1) dX9_firstOtherwise_38 ?_
    exact Ex.ret (v := some (.int _)) ⟨dX9_firstOtherwise_39, _, rfl, rfl⟩ ⟨nm, sk, congrArg (fun z => some (Value.int z)) (by rw [← hr0]; rfl), rfl⟩
  · intro nm sk r0 hr0
    refine x_iload_n dX9_firstOtherwise_2 rfl ?_
    refine x_bipush 8 dX9_firstOtherwise_3 ?_
    refine x_icmp_ge 38 dX9_firstOtherwise_5 (fun hx => absurd hx (nI_ge hii (by decide))) (fun _ => ?_)
    refine x_aload_n dX9_firstOtherwise_8 rfl ?_
    refine gf_X9_294 dX9_firstOtherwise_9 (sw_obj hk) rfl ?_
    refine x_iload_n dX9_firstOtherwise_12 rfl ?_
    refine x_ialoadN (f := c) dX9_firstOtherwise_13 (sw_row hk) (show i < 40 by omega) (by decide) ?_
    refine x_aload_n dX9_firstOtherwise_14 rfl ?_
    refine gf_X9_36 dX9_firstOtherwise_15 rfl rfl ?_
    refine x_aload_n dX9_firstOtherwise_18 rfl ?_
    refine gf_X9_19 dX9_firstOtherwise_19 rfl rfl ?_
    refine x_iload_n dX9_firstOtherwise_22 rfl ?_
    refine x_iload_n dX9_firstOtherwise_23 rfl ?_
    refine iv_X9_110 dX9_firstOtherwise_24 (c_X2_thinks_t hX hrt hp6 hii) rfl (by decide) (Nat.le_of_ble_eq_true rfl) (fun v w3 hw => ?_)
    obtain ⟨nm3, sk3, rfl, rfl⟩ := hw
    refine Ex.eqW (w' := (cst (u_sh (u_sk (u_nm S nm3) sk3) (shU f k (a, b, c))) ++ tl)) rfl ?_
    refine x_icmp_eq 32 dX9_firstOtherwise_27 (fun h_27 => ?_) (fun h_27 => ?_)
    · refine x_iincN dX9_firstOtherwise_32 rfl (by decide) ?_
      refine x_goto 2 dX9_firstOtherwise_35 ?_
      exact ihi nm3 sk3 r0 (by rw [← hr0, show 8 - i = (8 - (i + 1)) + 1 from by omega, foF, if_pos h_27])
    · refine x_iload_n dX9_firstOtherwise_30 rfl ?_
      exact Ex.ret (v := some (.int _)) ⟨dX9_firstOtherwise_31, _, rfl, rfl⟩ ⟨nm3, sk3, congrArg (fun z => some (Value.int z)) (by rw [← hr0, show 8 - i = (8 - (i + 1)) + 1 from by omega, foF, if_neg h_27]), rfl⟩
set_option maxRecDepth 100000 in
set_option maxHeartbeats 4000000 in
theorem c_X9_isJustSo {X : Nat × (Nat → Int32)} {S : CS} {tl : pc_W} {τ : TV} {r p k : Nat} {f : Nat → ST} {a b : Int32} {c : Nat → Int32} (hX : TXr τ S tl r) (hrt : o_ru (s_tho S) = nI r) (hp6 : p < 6) (hk : k < 4): Mt X 5 0 0 yX9_isJustSo cX9_isJustSo 3 (some .boolean) [.ref 0, .ref (shP k), .int (nI p)] (cst (u_sh S (shU f k (a, b, c))) ++ tl) (fun v w' => ∃ nm sk, v = some (.int (bi (foF (thF τ (s_tho S) r p) c 8 0 = -1))) ∧ w' = cst (u_sh (u_sk (u_nm S nm) sk) (shU f k (a, b, c))) ++ tl) := by
  refine Mt.of (by decide +kernel) (fun _ _ => Nat.le_of_ble_eq_true rfl) ?_
  show Ex X mX9_isJustSo _ _ _ _ _ _ _ _
  refine x_aload_n dX9_isJustSo_0 rfl ?_
  refine x_aload_n dX9_isJustSo_1 rfl ?_
  refine x_iload_n dX9_isJustSo_2 rfl ?_
  refine iv_X9_255 dX9_isJustSo_3 (c_X9_firstOtherwise hX hrt hp6 hk) rfl (by decide) (Nat.le_of_ble_eq_true rfl) (fun v w3 hw => ?_)
  obtain ⟨nm3, sk3, rfl, rfl⟩ := hw
  refine x_iconst (-1) dX9_isJustSo_6 ?_
  refine x_icmp_ne 14 dX9_isJustSo_7 (fun h_7 => ?_) (fun h_7 => ?_)
  · refine x_iconst 0 dX9_isJustSo_14 ?_
    exact Ex.ret (v := some (.int _)) ⟨dX9_isJustSo_15, _, rfl, by decide⟩ ⟨nm3, sk3, congrArg (fun z => some (Value.int z)) ((bi_f h_7).symm), rfl⟩
  · refine x_iconst 1 dX9_isJustSo_10 ?_
    refine x_goto 15 dX9_isJustSo_11 ?_
    exact Ex.ret (v := some (.int _)) ⟨dX9_isJustSo_15, _, rfl, by decide⟩ ⟨nm3, sk3, congrArg (fun z => some (Value.int z)) ((bi_t h_7).symm), rfl⟩
