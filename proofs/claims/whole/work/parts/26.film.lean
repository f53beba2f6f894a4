set_option maxRecDepth 100000 in
set_option maxHeartbeats 4000000 in
theorem c_X9_film {X : Nat × (Nat → Int32)} {S : CS} {tl : pc_W} {τ : TV} {r z : Nat} {a one : Int32} {FR : Nat → Nat → Int32} (hX : TXr τ S tl r) (hr : o_ru (s_now S) = nI r) (hz : o_sz (s_now S) = nI z) (hz6 : z ≤ 6) (f0 : FR 0 = zrow 40 (s_sh S a.toNatClampNeg).2.2) (f1 : ∀ i, FR (i + 1) = upd (FR i) i (wrV 0 (thF τ (s_now S) r one.toNatClampNeg i))): Mt X 5 0 0 yX9_film cX9_film 5 (some .int) [.ref 0, .int a, .int one] (cst S ++ tl) (fun v w' => ∃ nm sk, v = some (.int (if (¬ (0 ≤ a ∧ a < 4) ∨ ¬ (0 ≤ one ∧ one < nI z)) then -1000000 else moF τ (s_now S) r one.toNatClampNeg)) ∧ w' = cst (if (¬ (0 ≤ a ∧ a < 4) ∨ ¬ (0 ≤ one ∧ one < nI z)) then S else u_sh (u_sk (u_nm S nm) sk) (shU (s_sh S) a.toNatClampNeg (0, 8, FR 8))) ++ tl) := by
  refine Mt.of (by decide +kernel) (fun _ _ => Nat.le_of_ble_eq_true rfl) ?_
  show Ex X mX9_film _ _ _ _ _ _ _ _
  refine x_iload_n dX9_film_0 rfl ?_
  refine ii_X9_247 dX9_film_1 c_X9_isSheet (by decide) (Nat.le_of_ble_eq_true rfl) ?_
  refine x_if_eq 18 dX9_film_4 (fun h_4 => ?_) (fun h_4 => ?_)
  · refine x_ldc dX9_film_18 kk_X9_87 ?_
    have hB : (¬ (0 ≤ a ∧ a < 4) ∨ ¬ (0 ≤ one ∧ one < nI z)) := Or.inl (bi0.mp h_4)
    exact Ex.ret (v := some (.int _)) ⟨dX9_film_20, _, rfl, rfl⟩ ⟨s_nm S, s_sk S, by rw [if_pos hB], by rw [if_pos hB]⟩
  · refine x_aload_n dX9_film_7 rfl ?_
    refine gf_X9_10 dX9_film_8 rfl rfl ?_
    refine x_iload_n dX9_film_11 rfl ?_
    refine ii_X9_107 dX9_film_12 c_X3_has rfl (by decide) (Nat.le_of_ble_eq_true rfl) ?_
    refine x_if_ne 21 dX9_film_15 (fun h_15 => ?_) (fun h_15 => ?_)
    · have ha := bi1.mp h_4
      have ho := bi1.mp h_15
      rw [hz] at ho
      have hB : ¬ (¬ (0 ≤ a ∧ a < 4) ∨ ¬ (0 ≤ one ∧ one < nI z)) := (by rintro (q | q); exact q ha; exact q ho)
      obtain ⟨k, hk, rfl⟩ := nat_of ha.1 (show a < nI 4 from ha.2) (by omega)
      obtain ⟨p, hp, rfl⟩ := nat_of ho.1 ho.2 (by omega)
      have hp6 : p < 6 := (by omega)
      rw [nI_clamp (by omega)] at f1
      refine Ex.postRS (Ret := fun v w' => ∃ nm sk, v = some (.int (moF τ (s_now S) r p)) ∧ w' = cst (u_sh (u_sk (u_nm S nm) sk) (shU (s_sh S) k (0, 8, FR 8))) ++ tl) (fun v w' hq => ?_) ?_
      · obtain ⟨nm, sk, e1, e2⟩ := hq; exact ⟨nm, sk, by rw [if_neg hB, nI_clamp (by omega)]; exact e1, by rw [if_neg hB, nI_clamp (by omega)]; exact e2⟩
      refine x_aload_n dX9_film_21 rfl ?_
      refine gf_X9_53 dX9_film_22 rfl rfl ?_
      refine x_iload_n dX9_film_25 rfl ?_
      refine x_aaloadN dX9_film_26 (fun _ => rfl) rfl hk (by decide) (shR_at hk) ?_
      refine x_astore_n dX9_film_27 (by decide) ?_
      refine x_aload_n dX9_film_28 rfl ?_
      refine x_iconst 0 dX9_film_29 ?_
      refine x_bipush 8 dX9_film_30 ?_
      refine Ex.eqW (sw_eta S tl hk) ?_
      refine ii_X9_274 dX9_film_32 (c_X6_lay hk) (sw_obj hk) (by decide) (Nat.le_of_ble_eq_true rfl) ?_
      refine Ex.eqW (w' := (cst (u_sh (u_sk (u_nm S (s_nm S)) (s_sk S)) (shU (s_sh S) k (0, 8, FR 0))) ++ tl)) (by rw [f0, nI_clamp (by omega)]; try rfl) ?_
      refine x_iconst 0 dX9_film_35 ?_
      refine x_istore dX9_film_36 (by decide) ?_
      refine for_up (P := fun i => ∀ (nm : Nat → Int32) (sk : Nat → Int32), Ex X mX9_film 5 (fun v w' => ∃ nm sk, v = some (.int (moF τ (s_now S) r p)) ∧ w' = cst (u_sh (u_sk (u_nm S nm) sk) (shU (s_sh S) k (0, 8, FR 8))) ++ tl) 0 0 38 [some (.ref 0), some (.int (nI k)), some (.int (nI p)), some (.ref (shP k)), some (.int (nI i))] [] (cst (u_sh (u_sk (u_nm S nm) sk) (shU (s_sh S) k (0, 8, FR i))) ++ tl)) 8 ?_ (fun i hii ihi => ?_) 0 (by omega) (s_nm S) (s_sk S)
      · intro nm sk
        refine x_iload dX9_film_38 rfl ?_
        refine x_bipush 8 dX9_film_40 ?_
        refine x_icmp_ge 71 dX9_film_42 (fun _ => ?_) (fun hx => absurd (by decide) hx)
        refine x_aload_n dX9_film_71 rfl ?_
        refine gf_X9_36 dX9_film_72 rfl rfl ?_
        refine x_aload_n dX9_film_75 rfl ?_
        refine gf_X9_10 dX9_film_76 rfl rfl ?_
        refine x_iload_n dX9_film_79 rfl ?_
        refine iv_X9_120 dX9_film_80 (c_X2_memory_n hX hr hp6) rfl (by decide) (Nat.le_of_ble_eq_true rfl) (fun v w3 hw => ?_)
        obtain ⟨nm3, sk3, rfl, rfl⟩ := hw
        exact Ex.ret (v := some (.int _)) ⟨dX9_film_83, _, rfl, rfl⟩ ⟨nm3, sk3, rfl, rfl⟩
      · intro nm sk
        refine x_iload dX9_film_38 rfl ?_
        refine x_bipush 8 dX9_film_40 ?_
        refine x_icmp_ge 71 dX9_film_42 (fun hx => absurd hx (nI_ge hii (by decide))) (fun _ => ?_)
        refine x_aload_n dX9_film_45 rfl ?_
        refine x_iload dX9_film_46 rfl ?_
        refine x_aload_n dX9_film_48 rfl ?_
        refine gf_X9_36 dX9_film_49 rfl rfl ?_
        refine x_aload_n dX9_film_52 rfl ?_
        refine gf_X9_10 dX9_film_53 rfl rfl ?_
        refine x_iload_n dX9_film_56 rfl ?_
        refine x_iload dX9_film_57 rfl ?_
        refine iv_X9_110 dX9_film_59 (c_X2_thinks_n hX hr hp6 hii) rfl (by decide) (Nat.le_of_ble_eq_true rfl) (fun v w3 hw => ?_)
        obtain ⟨nm3, sk3, rfl, rfl⟩ := hw
        refine Ex.eqW (w' := (cst (u_sh (u_sk (u_nm S nm3) sk3) (shU (s_sh S) k (0, 8, FR i))) ++ tl)) rfl ?_
        refine x_nm (fun y ey => ?_)
        refine ii_X9_278 dX9_film_62 (c_X6_write hk (vin (show i < 40 by omega) (by decide))) (sw_obj hk) (by decide) (Nat.le_of_ble_eq_true rfl) ?_
        rw [nI_clamp (by omega), show upd (FR i) i (wrV 0 y) = FR (i + 1) from (by rw [f1, ey])]
        refine x_iincN dX9_film_65 rfl (by decide) ?_
        refine x_goto 38 dX9_film_68 ?_
        exact ihi nm3 sk3
    · refine x_ldc dX9_film_18 kk_X9_87 ?_
      have hB : (¬ (0 ≤ a ∧ a < 4) ∨ ¬ (0 ≤ one ∧ one < nI z)) := Or.inr (fun q => bi0.mp h_15 (by rw [hz]; exact q))
      exact Ex.ret (v := some (.int _)) ⟨dX9_film_20, _, rfl, rfl⟩ ⟨s_nm S, s_sk S, by rw [if_pos hB], by rw [if_pos hB]⟩
