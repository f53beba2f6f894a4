theorem st_me {S : CS} {tl : pc_W} {v : Int32} : (cst S ++ tl).set 11 (.inr (2, [.ref 12, .int v, .int (o_ye (s_tho S)), .int (o_li (s_tho S)), .int (o_pu (s_tho S)), .int (o_ru (s_tho S)), .int (o_sz (s_tho S)), .ref 13, .ref 14, .ref 15])) = cst (u_tho S (uo_me (s_tho S) v)) ++ tl := rfl
theorem wt_me {S : CS} {tl : pc_W} {T : OT} {nm sk : Nat → Int32} {F : Nat → ST} {v : Int32} : (cst (wtS S T nm sk F) ++ tl).set 11 (.inr (2, [.ref 12, .int v, .int (o_ye T), .int (o_li T), .int (o_pu T), .int (o_ru T), .int (o_sz T), .ref 13, .ref 14, .ref 15])) = cst (wtS S (uo_me T v) nm sk F) ++ tl := by
  have e := st_me (S := wtS S T nm sk F) (tl := tl) (v := v)
  rw [wt_tho, wt_u] at e
  exact e
set_option maxRecDepth 100000 in
theorem c_X9_mendedTold {X : Nat × (Nat → Int32)} {S : CS} {tl : pc_W} {T : OT} {nm sk : Nat → Int32} {f : Nat → ST} {a b q A B : Int32} {c : Nat → Int32} {τ : TV} {p k r : Nat} {g g0 g1 : Nat → Int32} (hX : TXr τ S tl r) (hr : o_ru T = nI r) (h0 : ∀ i, i < 8 → (g0 i = -1 ↔ c i = thF τ (uo_me T 0) r p i)) (h1 : ∀ i, i < 8 → (g1 i = -1 ↔ c i = thF τ (uo_me T 255) r p i)) (hA : A = btF g0 8) (hB : B = btF g1 8) (hg : ∀ i, i < 256 → (g i = -1 ↔ ((255 &&& (A ^^^ -1)) &&& (nI i ^^^ -1) = 0 ∧ nI i &&& (B ^^^ -1) = 0))) (hp6 : p < 6) (hk : k < 4) : Mt X 7 0 0 yX9_mendedTold cX9_mendedTold 9 (some .int) [.ref 0, .ref (shP k), .int (nI p), .int q] (cst (wtS S T nm sk (shU f k (a, b, c))) ++ tl) (fun v w' => ∃ T' nm' sk', v = some (.int (if q = 0 then tlL 0 g 255 256 else nI (tlN g 255 256))) ∧ w' = cst (wtS S T' nm' sk' (shU f k (a, b, c))) ++ tl) := by
  refine Mt.of (by decide +kernel) (fun _ _ => Nat.le_of_ble_eq_true rfl) ?_
  show Ex X mX9_mendedTold _ _ _ _ _ _ _ _
  refine x_aload_n dX9_mendedTold_0 rfl ?_
  refine gf_X9_19 dX9_mendedTold_1 rfl rfl ?_
  refine x_iconst 0 dX9_mendedTold_4 ?_
  refine pf_X9_152 (fs := [.ref 12, .int (o_me T), .int (o_ye T), .int (o_li T), .int (o_pu T), .int (o_ru T), .int (o_sz T), .ref 13, .ref 14, .ref 15]) dX9_mendedTold_5 rfl (Nat.le_of_ble_eq_true rfl) (fun _ _ => ⟨rfl, rfl⟩) ?_
  refine Ex.eqW (w' := cst (wtS S (uo_me T 0) nm sk (shU f k (a, b, c))) ++ tl) wt_me ?_
  refine x_sipush 255 dX9_mendedTold_8 ?_
  refine x_aload_n dX9_mendedTold_11 rfl ?_
  refine x_aload_n dX9_mendedTold_12 rfl ?_
  refine x_iload_n dX9_mendedTold_13 rfl ?_
  refine iv_X9_304 dX9_mendedTold_14 (c_X9_hoursJustSo (T := uo_me T 0) hX hr h0 hp6 hk) rfl (by decide) (Nat.le_of_ble_eq_true rfl) (fun v w' h => ?_)
  obtain ⟨nm2, sk2, rfl, rfl⟩ := h
  rw [← hA]
  refine x_iconst (-1) dX9_mendedTold_17 ?_
  refine x_ixor dX9_mendedTold_18 ?_
  refine x_iand dX9_mendedTold_19 ?_
  refine x_istore dX9_mendedTold_20 (by decide) ?_
  refine x_aload_n dX9_mendedTold_22 rfl ?_
  refine gf_X9_19 dX9_mendedTold_23 rfl rfl ?_
  refine x_sipush 255 dX9_mendedTold_26 ?_
  refine pf_X9_152 (fs := [.ref 12, .int 0, .int (o_ye T), .int (o_li T), .int (o_pu T), .int (o_ru T), .int (o_sz T), .ref 13, .ref 14, .ref 15]) dX9_mendedTold_29 rfl (Nat.le_of_ble_eq_true rfl) (fun _ _ => ⟨rfl, rfl⟩) ?_
  refine Ex.eqW (w' := cst (wtS S (uo_me T 255) nm2 sk2 (shU f k (a, b, c))) ++ tl) (wt_me (T := uo_me T 0)) ?_
  refine x_aload_n dX9_mendedTold_32 rfl ?_
  refine x_aload_n dX9_mendedTold_33 rfl ?_
  refine x_iload_n dX9_mendedTold_34 rfl ?_
  refine iv_X9_304 dX9_mendedTold_35 (c_X9_hoursJustSo (T := uo_me T 255) hX hr h1 hp6 hk) rfl (by decide) (Nat.le_of_ble_eq_true rfl) (fun v w' h => ?_)
  obtain ⟨nm3, sk3, rfl, rfl⟩ := h
  rw [← hB]
  refine x_istore dX9_mendedTold_38 (by decide) ?_
  refine x_iconst 0 dX9_mendedTold_40 ?_
  refine x_istore dX9_mendedTold_41 (by decide) ?_
  refine x_iconst (-1) dX9_mendedTold_43 ?_
  refine x_istore dX9_mendedTold_44 (by decide) ?_
  refine x_sipush 255 dX9_mendedTold_46 ?_
  refine x_istore dX9_mendedTold_49 (by decide) ?_
  refine Ex.forget (L' := [some (.ref 0), some (.ref (shP k)), some (.int (nI p)), some (.int q), some (.int (255 &&& (A ^^^ -1))), some (.int B), some (.int (nI (tlN g 255 0))), some (.int (tlL 0 g 255 0)), some (.int (vv 0 255 0))]) ⟨rfl, rfl, rfl, rfl, rfl, rfl, rfl, rfl, rfl, trivial⟩ ?_
  refine for_up (P := fun i => Ex X mX9_mendedTold 7 (fun v w' => ∃ T' nm' sk', v = some (.int (if q = 0 then tlL 0 g 255 256 else nI (tlN g 255 256))) ∧ w' = cst (wtS S T' nm' sk' (shU f k (a, b, c))) ++ tl) 0 0 51 [some (.ref 0), some (.ref (shP k)), some (.int (nI p)), some (.int q), some (.int (255 &&& (A ^^^ -1))), some (.int B), some (.int (nI (tlN g 255 i))), some (.int (tlL 0 g 255 i)), some (.int (vv 0 255 i))] [] (cst (wtS S (uo_me T 255) nm3 sk3 (shU f k (a, b, c))) ++ tl)) 256 ?_ (fun i hi ih => ?_) 0 (Nat.zero_le _)
  · refine x_iload dX9_mendedTold_51 rfl ?_
    refine x_if_lt 89 dX9_mendedTold_53 (fun _ => ?_) (fun y => absurd (vv_lt (N := 255) (Or.inl rfl)) y)
    refine x_iload_n dX9_mendedTold_89 rfl ?_
    refine x_if_eq 98 dX9_mendedTold_90 (fun y => ?_) (fun y => ?_)
    · refine x_iload dX9_mendedTold_98 rfl ?_
      exact Ex.ret (v := some (.int _)) ⟨dX9_mendedTold_100, _, rfl, rfl⟩ ⟨_, nm3, sk3, congrArg (fun z => some (Value.int z)) (if_pos y).symm, rfl⟩
    · refine x_iload dX9_mendedTold_93 rfl ?_
      refine x_goto 100 dX9_mendedTold_95 ?_
      exact Ex.ret (v := some (.int _)) ⟨dX9_mendedTold_100, _, rfl, rfl⟩ ⟨_, nm3, sk3, congrArg (fun z => some (Value.int z)) (if_neg y).symm, rfl⟩
  · have hiN : i ≤ 255 := by omega
    have hgi := hg (255 - i) (by omega)
    refine x_iload dX9_mendedTold_51 rfl ?_
    refine x_if_lt 89 dX9_mendedTold_53 (fun y => absurd y (vv_nlt (Or.inl rfl) hiN (by omega))) (fun _ => ?_)
    rw [vv_le hiN, Int32.zero_add]
    refine x_iload dX9_mendedTold_56 rfl ?_
    refine x_iload dX9_mendedTold_58 rfl ?_
    refine x_iconst (-1) dX9_mendedTold_60 ?_
    refine x_ixor dX9_mendedTold_61 ?_
    refine x_iand dX9_mendedTold_62 ?_
    refine x_if_ne 83 dX9_mendedTold_63 (fun y => ?_) (fun y => ?_)
    · refine x_iinc (-1) dX9_mendedTold_83 rfl (by decide) ?_
      refine x_goto 51 dX9_mendedTold_86 ?_
      refine Ex.forget (L' := [some (.ref 0), some (.ref (shP k)), some (.int (nI p)), some (.int q), some (.int (255 &&& (A ^^^ -1))), some (.int B), some (.int (nI (tlN g 255 (i + 1)))), some (.int (tlL 0 g 255 (i + 1))), some (.int (vv 0 255 (i + 1)))]) ⟨rfl, rfl, rfl, rfl, rfl, rfl, by rw [tlN, if_neg (fun z => y (hgi.mp z).1)] <;> rfl, by rw [tlL, if_neg (fun z => y (hgi.mp z).1)] <;> rfl, by rw [← vv_s hiN, vv_le hiN, Int32.zero_add] <;> rfl, trivial⟩ ?_
      exact ih
    · refine x_iload dX9_mendedTold_66 rfl ?_
      refine x_iload dX9_mendedTold_68 rfl ?_
      refine x_iconst (-1) dX9_mendedTold_70 ?_
      refine x_ixor dX9_mendedTold_71 ?_
      refine x_iand dX9_mendedTold_72 ?_
      refine x_if_ne 83 dX9_mendedTold_73 (fun y2 => ?_) (fun y2 => ?_)
      · refine x_iinc (-1) dX9_mendedTold_83 rfl (by decide) ?_
        refine x_goto 51 dX9_mendedTold_86 ?_
        refine Ex.forget (L' := [some (.ref 0), some (.ref (shP k)), some (.int (nI p)), some (.int q), some (.int (255 &&& (A ^^^ -1))), some (.int B), some (.int (nI (tlN g 255 (i + 1)))), some (.int (tlL 0 g 255 (i + 1))), some (.int (vv 0 255 (i + 1)))]) ⟨rfl, rfl, rfl, rfl, rfl, rfl, by rw [tlN, if_neg (fun z => y2 (hgi.mp z).2)] <;> rfl, by rw [tlL, if_neg (fun z => y2 (hgi.mp z).2)] <;> rfl, by rw [← vv_s hiN, vv_le hiN, Int32.zero_add] <;> rfl, trivial⟩ ?_
        exact ih
      · refine x_iincN dX9_mendedTold_76 rfl (by decide) ?_
        refine x_iload dX9_mendedTold_79 rfl ?_
        refine x_istore dX9_mendedTold_81 (by decide) ?_
        refine x_iinc (-1) dX9_mendedTold_83 rfl (by decide) ?_
        refine x_goto 51 dX9_mendedTold_86 ?_
        refine Ex.forget (L' := [some (.ref 0), some (.ref (shP k)), some (.int (nI p)), some (.int q), some (.int (255 &&& (A ^^^ -1))), some (.int B), some (.int (nI (tlN g 255 (i + 1)))), some (.int (tlL 0 g 255 (i + 1))), some (.int (vv 0 255 (i + 1)))]) ⟨rfl, rfl, rfl, rfl, rfl, rfl, by rw [tlN, if_pos (hgi.mpr ⟨y, y2⟩)] <;> rfl, by rw [tlL, if_pos (hgi.mpr ⟨y, y2⟩), Int32.zero_add] <;> rfl, by rw [← vv_s hiN, vv_le hiN, Int32.zero_add] <;> rfl, trivial⟩ ?_
        exact ih
