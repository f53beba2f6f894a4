set_option maxRecDepth 100000 in
theorem c_X9_peopleTold {X : Nat × (Nat → Int32)} {S : CS} {tl : pc_W} {T : OT} {nm sk : Nat → Int32} {f : Nat → ST} {a b : Int32} {c : Nat → Int32} {τ : TV} {k z r : Nat} {g : Nat → Int32} (hX : TXr τ S tl r) (hr : o_ru T = nI r) (hz : o_sz T = nI z) (hz6 : z ≤ 6) (hg : ∀ i, i < z → g i = foF (thF τ T r i) c 8 0) (hk : k < 4) : Mt X 6 0 0 yX9_peopleTold cX9_peopleTold 4 (some .int) [.ref 0, .ref (shP k)] (cst (wtS S T nm sk (shU f k (a, b, c))) ++ tl) (fun v w' => ∃ nm' sk', v = some (.int (btF g z)) ∧ w' = cst (wtS S T nm' sk' (shU f k (a, b, c))) ++ tl) := by
  refine Mt.of (by decide +kernel) (fun _ _ => Nat.le_of_ble_eq_true rfl) ?_
  show Ex X mX9_peopleTold _ _ _ _ _ _ _ _
  refine x_iconst 0 dX9_peopleTold_0 ?_
  refine x_istore_n dX9_peopleTold_1 (by decide) ?_
  refine x_iconst 0 dX9_peopleTold_2 ?_
  refine x_istore_n dX9_peopleTold_3 (by decide) ?_
  refine Ex.forget (L' := [some (.ref 0), some (.ref (shP k)), some (.int (btF g 0)), some (.int (nI 0))]) ⟨rfl, rfl, rfl, rfl, trivial⟩ ?_
  refine for_up (P := fun i => ∀ nm1 sk1, Ex X mX9_peopleTold 6 (fun v w' => ∃ nm' sk', v = some (.int (btF g z)) ∧ w' = cst (wtS S T nm' sk' (shU f k (a, b, c))) ++ tl) 0 0 4 [some (.ref 0), some (.ref (shP k)), some (.int (btF g i)), some (.int (nI i))] [] (cst (wtS S T nm1 sk1 (shU f k (a, b, c))) ++ tl)) z ?_ (fun i hi ih => ?_) 0 (Nat.zero_le _) nm sk
  · intro nm1 sk1
    refine x_iload_n dX9_peopleTold_4 rfl ?_
    refine x_aload_n dX9_peopleTold_5 rfl ?_
    refine gf_X9_19 dX9_peopleTold_6 rfl rfl ?_
    refine gf_X9_203 (v := .int (o_sz T)) dX9_peopleTold_9 rfl rfl ?_
    rw [hz]
    refine x_icmp_ge 36 dX9_peopleTold_12 (fun _ => ?_) (fun y => absurd (nI_le (Nat.le_refl _) (by omega)) y)
    refine x_iload_n dX9_peopleTold_36 rfl ?_
    exact Ex.ret (v := some (.int _)) ⟨dX9_peopleTold_37, _, rfl, rfl⟩ ⟨nm1, sk1, rfl, rfl⟩
  · intro nm1 sk1
    refine x_iload_n dX9_peopleTold_4 rfl ?_
    refine x_aload_n dX9_peopleTold_5 rfl ?_
    refine gf_X9_19 dX9_peopleTold_6 rfl rfl ?_
    refine gf_X9_203 (v := .int (o_sz T)) dX9_peopleTold_9 rfl rfl ?_
    rw [hz]
    refine x_icmp_ge 36 dX9_peopleTold_12 (fun y => absurd y (nI_ge hi (by omega))) (fun _ => ?_)
    refine x_aload_n dX9_peopleTold_15 rfl ?_
    refine x_aload_n dX9_peopleTold_16 rfl ?_
    refine x_iload_n dX9_peopleTold_17 rfl ?_
    refine iv_X9_300 dX9_peopleTold_18 (c_isJustSo_w (wt_TX hX) hr (by omega) hk) rfl (by decide) (Nat.le_of_ble_eq_true rfl) (fun v w' h => ?_)
    obtain ⟨nm2, sk2, rfl, rfl⟩ := h
    rw [← hg i hi]
    refine x_if_eq 30 dX9_peopleTold_21 (fun y => ?_) (fun y => ?_)
    · refine x_iincN dX9_peopleTold_30 rfl (by decide) ?_
      refine x_goto 4 dX9_peopleTold_33 ?_
      refine Ex.forget (L' := [some (.ref 0), some (.ref (shP k)), some (.int (btF g (i + 1))), some (.int (nI (i + 1)))]) ⟨rfl, rfl, by rw [btF, if_neg (bi0.mp y)] <;> rfl, rfl, trivial⟩ ?_
      exact ih _ _
    · refine x_iload_n dX9_peopleTold_24 rfl ?_
      refine x_iconst 1 dX9_peopleTold_25 ?_
      refine x_iload_n dX9_peopleTold_26 rfl ?_
      refine x_ishl dX9_peopleTold_27 ?_
      refine x_ior dX9_peopleTold_28 ?_
      refine x_istore_n dX9_peopleTold_29 (by decide) ?_
      refine x_iincN dX9_peopleTold_30 rfl (by decide) ?_
      refine x_goto 4 dX9_peopleTold_33 ?_
      refine Ex.forget (L' := [some (.ref 0), some (.ref (shP k)), some (.int (btF g (i + 1))), some (.int (nI (i + 1)))]) ⟨rfl, rfl, by rw [btF, if_pos (bi1.mp y)] <;> rfl, rfl, trivial⟩ ?_
      exact ih _ _
