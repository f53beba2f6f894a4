theorem cdF_ne (a b : Int32) : ∀ n, n < 100 → ¬ cdF a b n = 0
  | 0, _ => by rw [cdF]; decide
  | n + 1, h => by
    rw [cdF]
    split
    · decide
    · split
      · exact nI_n0 (by omega)
      · exact cdF_ne a b n (by omega)
set_option maxRecDepth 100000 in
set_option maxHeartbeats 4000000 in
theorem c_X9_chance {X : Nat × (Nat → Int32)} {S : CS} {tl : pc_W} {τ : TV} {r z : Nat} {seed m kk part : Int32} {F : Nat → Nat → Int32} {CN : Nat → Nat} (hX : TXr τ S tl r) (hr : o_ru (s_now S) = nI r) (hz : o_sz (s_now S) = nI z) (hz6 : z ≤ 6) (f0 : F 0 = o_we (o_bec (s_tho S) (s_now S))) (fx : ∀ i, ∃ (ZZ : Nat → Int32) (WE : Nat → Nat → Int32), ZZ 0 = seed + nI i ∧ (∀ j, ZZ (j + 1) = ZZ j * 1103515245 + 12345) ∧ WE 0 = F i ∧ (∀ j, WE (j + 1) = upd (WE j) j (wthr (ZZ (j + 1)))) ∧ WE 8 = F (i + 1)) (c0 : CN 0 = 0) (c1 : ∀ i, CN (i + 1) = if kk ≤ hpF τ (uo_we (o_bec (s_tho S) (s_now S)) (F (i + 1))) r z then CN i + 1 else CN i): Mt X 8 0 0 yX9_chance cX9_chance 7 (some .long) [.ref 0, .int seed, .int m, .int kk, .int part] (cst S ++ tl) (fun v w' => ∃ T nm sk, v = some (.long (if (m < 1 ∨ 20 < m ∨ kk < 0 ∨ 6 < kk ∨ part < 0 ∨ 1 < part) then -4611686018427387904 else ((if part = 0 then nI (CN m.toNatClampNeg) else m) / cdF (nI (CN m.toNatClampNeg)) m m.toNatClampNeg).toInt64)) ∧ w' = cst (u_tho (u_sk (u_nm S nm) sk) T) ++ tl) := by
  refine Mt.of (by decide +kernel) (fun _ _ => Nat.le_of_ble_eq_true rfl) ?_
  show Ex X mX9_chance _ _ _ _ _ _ _ _
  refine x_iload_n dX9_chance_0 rfl ?_
  refine x_iconst 1 dX9_chance_1 ?_
  refine x_icmp_lt 32 dX9_chance_2 (fun h_2 => ?_) (fun h_2 => ?_)
  · refine x_ldc2_w dX9_chance_32 kk_X9_284 ?_
    exact Ex.ret (v := some (.long _)) ⟨rfl, dX9_chance_35⟩ ⟨s_tho S, s_nm S, s_sk S, by rw [if_pos (Or.inl h_2)], rfl⟩
  · refine x_iload_n dX9_chance_5 rfl ?_
    refine x_bipush 20 dX9_chance_6 ?_
    refine x_icmp_gt 32 dX9_chance_8 (fun h_8 => ?_) (fun h_8 => ?_)
    · refine x_ldc2_w dX9_chance_32 kk_X9_284 ?_
      exact Ex.ret (v := some (.long _)) ⟨rfl, dX9_chance_35⟩ ⟨s_tho S, s_nm S, s_sk S, by rw [if_pos (Or.inr (Or.inl h_8))], rfl⟩
    · refine x_iload_n dX9_chance_11 rfl ?_
      refine x_if_lt 32 dX9_chance_12 (fun h_12 => ?_) (fun h_12 => ?_)
      · refine x_ldc2_w dX9_chance_32 kk_X9_284 ?_
        exact Ex.ret (v := some (.long _)) ⟨rfl, dX9_chance_35⟩ ⟨s_tho S, s_nm S, s_sk S, by rw [if_pos (Or.inr (Or.inr (Or.inl h_12)))], rfl⟩
      · refine x_iload_n dX9_chance_15 rfl ?_
        refine x_bipush 6 dX9_chance_16 ?_
        refine x_icmp_gt 32 dX9_chance_18 (fun h_18 => ?_) (fun h_18 => ?_)
        · refine x_ldc2_w dX9_chance_32 kk_X9_284 ?_
          exact Ex.ret (v := some (.long _)) ⟨rfl, dX9_chance_35⟩ ⟨s_tho S, s_nm S, s_sk S, by rw [if_pos (Or.inr (Or.inr (Or.inr (Or.inl h_18))))], rfl⟩
        · refine x_iload dX9_chance_21 rfl ?_
          refine x_if_lt 32 dX9_chance_23 (fun h_23 => ?_) (fun h_23 => ?_)
          · refine x_ldc2_w dX9_chance_32 kk_X9_284 ?_
            exact Ex.ret (v := some (.long _)) ⟨rfl, dX9_chance_35⟩ ⟨s_tho S, s_nm S, s_sk S, by rw [if_pos (Or.inr (Or.inr (Or.inr (Or.inr (Or.inl h_23)))))], rfl⟩
          · refine x_iload dX9_chance_26 rfl ?_
            refine x_iconst 1 dX9_chance_28 ?_
            refine x_icmp_le 36 dX9_chance_29 (fun h_29 => ?_) (fun h_29 => ?_)
            · have hB : ¬ (m < 1 ∨ 20 < m ∨ kk < 0 ∨ 6 < kk ∨ part < 0 ∨ 1 < part) := (by rintro (q | q | q | q | q | q); exact h_2 q; exact h_8 q; exact h_12 q; exact h_18 q; exact h_23 q; exact absurd h_29 (Int32.not_le.mpr q))
              obtain ⟨M, hM, rfl⟩ := nat_of (Int32.le_trans (by decide : (0 : Int32) ≤ 1) (Int32.not_lt.mp h_2)) (show m < nI 21 from Int32.lt_of_le_of_lt (Int32.not_lt.mp h_8) (by decide)) (by omega)
              refine Ex.postRS (Ret := fun v w' => ∃ T nm sk, v = some (.long (((if part = 0 then nI (CN M) else (nI M)) / cdF (nI (CN M)) (nI M) M).toInt64)) ∧ w' = cst (u_tho (u_sk (u_nm S nm) sk) T) ++ tl) (fun v w' hq => ?_) ?_
              · obtain ⟨T, nm, sk, e1, e2⟩ := hq; exact ⟨T, nm, sk, by rw [if_neg hB, nI_clamp (by omega)]; exact e1, e2⟩
              refine x_aload_n dX9_chance_36 rfl ?_
              refine gf_X9_19 dX9_chance_37 rfl rfl ?_
              refine x_aload_n dX9_chance_40 rfl ?_
              refine gf_X9_10 dX9_chance_41 rfl rfl ?_
              refine ii_X9_184 dX9_chance_44 c_X3_become_tn rfl (by decide) (Nat.le_of_ble_eq_true rfl) ?_
              have hrt : o_ru (o_bec (s_tho S) (s_now S)) = nI r := hr
              have hzt : o_sz (o_bec (s_tho S) (s_now S)) = nI z := hz
              generalize (o_bec (s_tho S) (s_now S)) = T1 at hrt hzt f0 c1 ⊢
              refine Ex.eqW (w' := (cst (u_tho (u_sk (u_nm S (s_nm S)) (s_sk S)) (uo_we T1 (F 0))) ++ tl)) (by rw [f0]; try rfl) ?_
              refine x_iconst 0 dX9_chance_47 ?_
              refine x_istore dX9_chance_48 (by decide) ?_
              refine x_iconst 0 dX9_chance_50 ?_
              refine x_istore dX9_chance_51 (by decide) ?_
              refine Ex.forget (L' := [some (.ref 0), some (.int seed), some (.int (nI M)), some (.int kk), some (.int part), some (.int (nI (CN 0))), some (.int (nI 0))]) ⟨rfl, rfl, rfl, rfl, rfl, by rw [c0] <;> rfl, rfl, trivial⟩ ?_
              refine for_up (P := fun i => ∀ (nm : Nat → Int32) (sk : Nat → Int32), Ex X mX9_chance 8 (fun v w' => ∃ T nm sk, v = some (.long (((if part = 0 then nI (CN M) else (nI M)) / cdF (nI (CN M)) (nI M) M).toInt64)) ∧ w' = cst (u_tho (u_sk (u_nm S nm) sk) T) ++ tl) 0 0 53 [some (.ref 0), some (.int seed), some (.int (nI M)), some (.int kk), some (.int part), some (.int (nI (CN i))), some (.int (nI i))] [] (cst (u_tho (u_sk (u_nm S nm) sk) (uo_we T1 (F i))) ++ tl)) M ?_ (fun i hii ihi => ?_) 0 (Nat.zero_le _) (s_nm S) (s_sk S)
              · intro nm sk
                refine x_iload dX9_chance_53 rfl ?_
                refine x_iload_n dX9_chance_55 rfl ?_
                refine x_icmp_ge 80 dX9_chance_56 (fun _ => ?_) (fun hx => absurd (Int32.le_refl _) hx)
                refine x_iload dX9_chance_80 rfl ?_
                refine x_iload_n dX9_chance_82 rfl ?_
                refine ii_X9_286 dX9_chance_83 (c_X9_commonDivisor (by omega)) (by decide) (Nat.le_of_ble_eq_true rfl) ?_
                refine x_istore dX9_chance_86 (by decide) ?_
                refine x_iload dX9_chance_88 rfl ?_
                refine x_if_ne 98 dX9_chance_90 (fun h_90 => ?_) (fun h_90 => ?_)
                · refine x_iload_n dX9_chance_98 rfl ?_
                  refine x_iload dX9_chance_99 rfl ?_
                  refine x_idiv dX9_chance_101 (cdF_ne _ _ M (by omega)) ?_
                  refine x_i2l dX9_chance_102 ?_
                  exact Ex.ret (v := some (.long _)) ⟨rfl, dX9_chance_103⟩ ⟨uo_we T1 (F M), nm, sk, by rw [if_neg h_90], rfl⟩
                · refine x_iload dX9_chance_93 rfl ?_
                  refine x_goto 99 dX9_chance_95 ?_
                  refine x_iload dX9_chance_99 rfl ?_
                  refine x_idiv dX9_chance_101 (cdF_ne _ _ M (by omega)) ?_
                  refine x_i2l dX9_chance_102 ?_
                  exact Ex.ret (v := some (.long _)) ⟨rfl, dX9_chance_103⟩ ⟨uo_we T1 (F M), nm, sk, by rw [if_pos h_90], rfl⟩
              · intro nm sk
                refine x_iload dX9_chance_53 rfl ?_
                refine x_iload_n dX9_chance_55 rfl ?_
                refine x_icmp_ge 80 dX9_chance_56 (fun hx => absurd hx (nI_ge hii (by omega))) (fun _ => ?_)
                refine x_aload_n dX9_chance_59 rfl ?_
                refine x_iload_n dX9_chance_60 rfl ?_
                refine x_iload dX9_chance_61 rfl ?_
                refine x_iadd dX9_chance_63 ?_
                obtain ⟨ZZ, WE, z0, z1, w0, w1, w8⟩ := fx i
                refine iv_X9_281 dX9_chance_64 (c_X9_hazyBySeed hX hrt hzt hz6 z0 z1 w0 w1) rfl (by decide) (Nat.le_of_ble_eq_true rfl) (fun v w3 hw => ?_)
                obtain ⟨nm3, sk3, rfl, rfl⟩ := hw
                refine Ex.eqW (w' := (cst (u_tho (u_sk (u_nm S nm3) sk3) (uo_we T1 (WE 8))) ++ tl)) rfl ?_
                rw [show (hpF τ (uo_we (s_tho (u_tho (u_sk (u_nm S nm) sk) (uo_we T1 (F i)))) (WE 8)) r z) = hpF τ (uo_we T1 (F (i + 1))) r z from (by rw [w8]), w8]
                refine x_iload_n dX9_chance_67 rfl ?_
                refine x_icmp_lt 74 dX9_chance_68 (fun h_68 => ?_) (fun h_68 => ?_)
                · have hb : CN (i + 1) = CN i := (by rw [c1, if_neg (Int32.not_le.mpr h_68)])
                  refine x_iincN dX9_chance_74 rfl (by decide) ?_
                  refine x_goto 53 dX9_chance_77 ?_
                  refine Ex.forget (L' := [some (.ref 0), some (.int seed), some (.int (nI M)), some (.int kk), some (.int part), some (.int (nI (CN (i + 1)))), some (.int (nI (i + 1)))]) ⟨rfl, rfl, rfl, rfl, rfl, by rw [hb] <;> rfl, rfl, trivial⟩ ?_
                  exact ihi nm3 sk3
                · refine x_iincN dX9_chance_71 rfl (by decide) ?_
                  have hb : CN (i + 1) = CN i + 1 := (by rw [c1, if_pos (Int32.not_lt.mp h_68)])
                  refine x_iincN dX9_chance_74 rfl (by decide) ?_
                  refine x_goto 53 dX9_chance_77 ?_
                  refine Ex.forget (L' := [some (.ref 0), some (.int seed), some (.int (nI M)), some (.int kk), some (.int part), some (.int (nI (CN (i + 1)))), some (.int (nI (i + 1)))]) ⟨rfl, rfl, rfl, rfl, rfl, by rw [hb] <;> rfl, rfl, trivial⟩ ?_
                  exact ihi nm3 sk3
            · refine x_ldc2_w dX9_chance_32 kk_X9_284 ?_
              exact Ex.ret (v := some (.long _)) ⟨rfl, dX9_chance_35⟩ ⟨s_tho S, s_nm S, s_sk S, by rw [if_pos (Or.inr (Or.inr (Or.inr (Or.inr (Or.inr ((Int32.not_le.mp h_29)))))))], rfl⟩
