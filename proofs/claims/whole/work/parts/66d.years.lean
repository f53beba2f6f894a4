theorem st_ye {S : CS} {tl : pc_W} {v : Int32} : (cst S ++ tl).set 11 (.inr (2, [.ref 12, .int (o_me (s_tho S)), .int v, .int (o_li (s_tho S)), .int (o_pu (s_tho S)), .int (o_ru (s_tho S)), .int (o_sz (s_tho S)), .ref 13, .ref 14, .ref 15])) = cst (u_tho S (uo_ye (s_tho S) v)) ++ tl := rfl
theorem wt_ye {S : CS} {tl : pc_W} {T : OT} {nm sk : Nat → Int32} {F : Nat → ST} {v : Int32} : (cst (wtS S T nm sk F) ++ tl).set 11 (.inr (2, [.ref 12, .int (o_me T), .int v, .int (o_li T), .int (o_pu T), .int (o_ru T), .int (o_sz T), .ref 13, .ref 14, .ref 15])) = cst (wtS S (uo_ye T v) nm sk F) ++ tl := by
  have e := st_ye (S := wtS S T nm sk F) (tl := tl) (v := v)
  rw [wt_tho, wt_u] at e
  exact e
set_option maxRecDepth 100000 in
theorem c_X9_yearsTold {X : Nat × (Nat → Int32)} {S : CS} {tl : pc_W} {T : OT} {nm sk : Nat → Int32} {f : Nat → ST} {a b q : Int32} {c : Nat → Int32} {τ : TV} {p k r : Nat} {g : Nat → Int32} (hX : TXr τ S tl r) (hr : o_ru T = nI r) (hg : ∀ i, i < 100 → g i = foF (thF τ (uo_ye T (nI i)) r p) c 8 0) (hp6 : p < 6) (hk : k < 4) : Mt X 6 0 0 yX9_yearsTold cX9_yearsTold 7 (some .int) [.ref 0, .ref (shP k), .int (nI p), .int q] (cst (wtS S T nm sk (shU f k (a, b, c))) ++ tl) (fun v w' => ∃ T' nm' sk', v = some (.int (if q = 0 then tlL 0 g 99 100 else nI (tlN g 99 100))) ∧ w' = cst (wtS S T' nm' sk' (shU f k (a, b, c))) ++ tl) := by
  refine Mt.of (by decide +kernel) (fun _ _ => Nat.le_of_ble_eq_true rfl) ?_
  show Ex X mX9_yearsTold _ _ _ _ _ _ _ _
  refine x_iconst 0 dX9_yearsTold_0 ?_
  refine x_istore dX9_yearsTold_1 (by decide) ?_
  refine x_iconst (-1) dX9_yearsTold_3 ?_
  refine x_istore dX9_yearsTold_4 (by decide) ?_
  refine x_bipush 99 dX9_yearsTold_6 ?_
  refine x_istore dX9_yearsTold_8 (by decide) ?_
  refine Ex.forget (L' := [some (.ref 0), some (.ref (shP k)), some (.int (nI p)), some (.int q), some (.int (nI (tlN g 99 0))), some (.int (tlL 0 g 99 0)), some (.int (vv 0 99 0))]) ⟨rfl, rfl, rfl, rfl, rfl, rfl, rfl, trivial⟩ ?_
  refine for_up (P := fun i => ∀ T1 nm1 sk1, (∀ x, uo_ye T1 x = uo_ye T x) → Ex X mX9_yearsTold 6 (fun v w' => ∃ T' nm' sk', v = some (.int (if q = 0 then tlL 0 g 99 100 else nI (tlN g 99 100))) ∧ w' = cst (wtS S T' nm' sk' (shU f k (a, b, c))) ++ tl) 0 0 10 [some (.ref 0), some (.ref (shP k)), some (.int (nI p)), some (.int q), some (.int (nI (tlN g 99 i))), some (.int (tlL 0 g 99 i)), some (.int (vv 0 99 i))] [] (cst (wtS S T1 nm1 sk1 (shU f k (a, b, c))) ++ tl)) 100 ?_ (fun i hi ih => ?_) 0 (Nat.zero_le _) T nm sk (fun _ => rfl)
  · intro T1 nm1 sk1 hs
    refine x_iload dX9_yearsTold_10 rfl ?_
    refine x_if_lt 46 dX9_yearsTold_12 (fun _ => ?_) (fun y => absurd (vv_lt (N := 99) (Or.inl rfl)) y)
    refine x_iload_n dX9_yearsTold_46 rfl ?_
    refine x_if_eq 55 dX9_yearsTold_47 (fun y => ?_) (fun y => ?_)
    · refine x_iload dX9_yearsTold_55 rfl ?_
      exact Ex.ret (v := some (.int _)) ⟨dX9_yearsTold_57, _, rfl, rfl⟩ ⟨T1, nm1, sk1, congrArg (fun z => some (Value.int z)) (if_pos y).symm, rfl⟩
    · refine x_iload dX9_yearsTold_50 rfl ?_
      refine x_goto 57 dX9_yearsTold_52 ?_
      exact Ex.ret (v := some (.int _)) ⟨dX9_yearsTold_57, _, rfl, rfl⟩ ⟨T1, nm1, sk1, congrArg (fun z => some (Value.int z)) (if_neg y).symm, rfl⟩
  · intro T1 nm1 sk1 hs
    have hiN : i ≤ 99 := by omega
    refine x_iload dX9_yearsTold_10 rfl ?_
    refine x_if_lt 46 dX9_yearsTold_12 (fun y => absurd y (vv_nlt (Or.inl rfl) hiN (by omega))) (fun _ => ?_)
    rw [vv_le hiN, Int32.zero_add]
    refine x_aload_n dX9_yearsTold_15 rfl ?_
    refine gf_X9_19 dX9_yearsTold_16 rfl rfl ?_
    refine x_iload dX9_yearsTold_19 rfl ?_
    refine pf_X9_130 (fs := [.ref 12, .int (o_me T1), .int (o_ye T1), .int (o_li T1), .int (o_pu T1), .int (o_ru T1), .int (o_sz T1), .ref 13, .ref 14, .ref 15]) dX9_yearsTold_21 rfl (Nat.le_of_ble_eq_true rfl) (fun _ _ => ⟨rfl, rfl⟩) ?_
    refine Ex.eqW (w' := cst (wtS S (uo_ye T (nI (99 - i))) nm1 sk1 (shU f k (a, b, c))) ++ tl) (by rw [← hs]; exact wt_ye) ?_
    refine x_aload_n dX9_yearsTold_24 rfl ?_
    refine x_aload_n dX9_yearsTold_25 rfl ?_
    refine x_iload_n dX9_yearsTold_26 rfl ?_
    refine iv_X9_300 dX9_yearsTold_27 (c_isJustSo_w (T := uo_ye T (nI (99 - i))) (wt_TX hX) hr hp6 hk) rfl (by decide) (Nat.le_of_ble_eq_true rfl) (fun v w' h => ?_)
    obtain ⟨nm2, sk2, rfl, rfl⟩ := h
    rw [← hg (99 - i) (by omega)]
    refine x_if_eq 40 dX9_yearsTold_30 (fun y => ?_) (fun y => ?_)
    · refine x_iinc (-1) dX9_yearsTold_40 rfl (by decide) ?_
      refine x_goto 10 dX9_yearsTold_43 ?_
      refine Ex.forget (L' := [some (.ref 0), some (.ref (shP k)), some (.int (nI p)), some (.int q), some (.int (nI (tlN g 99 (i + 1)))), some (.int (tlL 0 g 99 (i + 1))), some (.int (vv 0 99 (i + 1)))]) ⟨rfl, rfl, rfl, rfl, by rw [tlN, if_neg (bi0.mp y)] <;> rfl, by rw [tlL, if_neg (bi0.mp y)] <;> rfl, by rw [← vv_s hiN, vv_le hiN, Int32.zero_add] <;> rfl, trivial⟩ ?_
      exact ih _ _ _ (fun x => rfl)
    · refine x_iincN dX9_yearsTold_33 rfl (by decide) ?_
      refine x_iload dX9_yearsTold_36 rfl ?_
      refine x_istore dX9_yearsTold_38 (by decide) ?_
      refine x_iinc (-1) dX9_yearsTold_40 rfl (by decide) ?_
      refine x_goto 10 dX9_yearsTold_43 ?_
      refine Ex.forget (L' := [some (.ref 0), some (.ref (shP k)), some (.int (nI p)), some (.int q), some (.int (nI (tlN g 99 (i + 1)))), some (.int (tlL 0 g 99 (i + 1))), some (.int (vv 0 99 (i + 1)))]) ⟨rfl, rfl, rfl, rfl, by rw [tlN, if_pos (bi1.mp y)] <;> rfl, by rw [tlL, if_pos (bi1.mp y), Int32.zero_add] <;> rfl, by rw [← vv_s hiN, vv_le hiN, Int32.zero_add] <;> rfl, trivial⟩ ?_
      exact ih _ _ _ (fun x => rfl)
