def wthr (z : Int32) : Int32 := (z.toUInt32 >>> ((9 : Int32).toUInt32 &&& Int32.toUInt32 31)).toInt32 - (z.toUInt32 >>> ((9 : Int32).toUInt32 &&& Int32.toUInt32 31)).toInt32 / 19 * 19 + -9
theorem w12 {S : CS} {tl : pc_W} {T : OT} {f f' : Nat → Int32} : (cst (u_tho S (uo_we T f)) ++ tl).set 12 (.inl (0, (8, .inl f'))) = cst (u_tho S (uo_we T f')) ++ tl := by
  simp only [cst, List.cons_append, List.set_cons_succ, List.set_cons_zero]
set_option maxRecDepth 100000 in
set_option maxHeartbeats 4000000 in
theorem c_X9_hazyBySeed {X : Nat × (Nat → Int32)} {S : CS} {tl : pc_W} {τ : TV} {r z : Nat} {seed : Int32} {ZZ : Nat → Int32} {WE : Nat → Nat → Int32} (hX : TXr τ S tl r) (hrt : o_ru (s_tho S) = nI r) (hzt : o_sz (s_tho S) = nI z) (hz6 : z ≤ 6) (z0 : ZZ 0 = seed) (z1 : ∀ i, ZZ (i + 1) = ZZ i * 1103515245 + 12345) (w0 : WE 0 = o_we (s_tho S)) (w1 : ∀ i, WE (i + 1) = upd (WE i) i (wthr (ZZ (i + 1)))): Mt X 7 0 0 yX9_hazyBySeed cX9_hazyBySeed 4 (some .int) [.ref 0, .int seed] (cst S ++ tl) (RS (hpF τ (uo_we (s_tho S) (WE 8)) r z) (u_tho S (uo_we (s_tho S) (WE 8))) tl) := by
  refine Mt.of (by decide +kernel) (fun _ _ => Nat.le_of_ble_eq_true rfl) ?_
  show Ex X mX9_hazyBySeed _ _ _ _ _ _ _ _
  refine x_iload_n dX9_hazyBySeed_0 rfl ?_
  refine x_istore_n dX9_hazyBySeed_1 (by decide) ?_
  refine x_iconst 0 dX9_hazyBySeed_2 ?_
  refine x_istore_n dX9_hazyBySeed_3 (by decide) ?_
  refine Ex.eqW (w' := (cst (u_tho S (uo_we (s_tho S) (WE 0))) ++ tl)) (by rw [w0]) ?_
  refine Ex.forget (L' := [some (.ref 0), some (.int seed), some (.int (ZZ 0)), some (.int (nI 0))]) ⟨rfl, rfl, by rw [z0] <;> rfl, rfl, trivial⟩ ?_
  refine for_up (P := fun i => Ex X mX9_hazyBySeed 7 (RS (hpF τ (uo_we (s_tho S) (WE 8)) r z) (u_tho S (uo_we (s_tho S) (WE 8))) tl) 0 0 4 [some (.ref 0), some (.int seed), some (.int (ZZ i)), some (.int (nI i))] [] (cst (u_tho S (uo_we (s_tho S) (WE i))) ++ tl)) 8 ?_ (fun i hii ihi => ?_) 0 (by omega)
  · skip
    refine x_iload_n dX9_hazyBySeed_4 rfl ?_
    refine x_bipush 8 dX9_hazyBySeed_5 ?_
    refine x_icmp_ge 45 dX9_hazyBySeed_7 (fun _ => ?_) (fun hx => absurd (by decide) hx)
    refine x_aload_n dX9_hazyBySeed_45 rfl ?_
    refine gf_X9_36 dX9_hazyBySeed_46 rfl rfl ?_
    refine x_aload_n dX9_hazyBySeed_49 rfl ?_
    refine gf_X9_19 dX9_hazyBySeed_50 rfl rfl ?_
    refine iv_X9_187 dX9_hazyBySeed_53 (c_X2_hazyPeople_t hX hrt hzt hz6) rfl (by decide) (Nat.le_of_ble_eq_true rfl) (fun v w3 hw => ?_)
    obtain ⟨nm3, sk3, rfl, rfl⟩ := hw
    exact Ex.ret (v := some (.int _)) ⟨dX9_hazyBySeed_56, _, rfl, rfl⟩ ⟨nm3, sk3, rfl, rfl⟩
  · skip
    refine x_iload_n dX9_hazyBySeed_4 rfl ?_
    refine x_bipush 8 dX9_hazyBySeed_5 ?_
    refine x_icmp_ge 45 dX9_hazyBySeed_7 (fun hx => absurd hx (nI_ge hii (by decide))) (fun _ => ?_)
    refine x_iload_n dX9_hazyBySeed_10 rfl ?_
    refine x_ldc_w dX9_hazyBySeed_11 kk_X9_307 ?_
    refine x_imul dX9_hazyBySeed_14 ?_
    refine x_sipush 12345 dX9_hazyBySeed_15 ?_
    refine x_iadd dX9_hazyBySeed_18 ?_
    rw [← z1 i]
    refine x_istore_n dX9_hazyBySeed_19 (by decide) ?_
    refine x_aload_n dX9_hazyBySeed_20 rfl ?_
    refine gf_X9_19 dX9_hazyBySeed_21 rfl rfl ?_
    refine gf_X9_140 dX9_hazyBySeed_24 rfl rfl ?_
    refine x_iload_n dX9_hazyBySeed_27 rfl ?_
    refine x_iload_n dX9_hazyBySeed_28 rfl ?_
    refine x_bipush 9 dX9_hazyBySeed_29 ?_
    refine x_iushr dX9_hazyBySeed_31 ?_
    refine x_bipush 19 dX9_hazyBySeed_32 ?_
    refine x_irem dX9_hazyBySeed_34 (by decide) ?_
    refine x_bipush (-9) dX9_hazyBySeed_35 ?_
    refine x_iadd dX9_hazyBySeed_37 ?_
    refine x_nm (fun y ey => ?_)
    refine x_iastoreN (f := WE i) dX9_hazyBySeed_38 rfl hii (by decide) ?_
    refine Ex.eqW w12 ?_
    rw [show upd (WE i) i y = WE (i + 1) from (by rw [w1, wthr, ey])]
    refine x_iincN dX9_hazyBySeed_39 rfl (by decide) ?_
    refine x_goto 4 dX9_hazyBySeed_42 ?_
    exact ihi
set_option maxRecDepth 100000 in
set_option maxHeartbeats 4000000 in
theorem c_X9_drawn {X : Nat × (Nat → Int32)} {S : CS} {tl : pc_W} {τ : TV} {r z : Nat} {seed : Int32} {ZZ : Nat → Int32} {WE : Nat → Nat → Int32} (hX : TXr τ S tl r) (hr : o_ru (s_now S) = nI r) (hz : o_sz (s_now S) = nI z) (hz6 : z ≤ 6) (z0 : ZZ 0 = seed) (z1 : ∀ i, ZZ (i + 1) = ZZ i * 1103515245 + 12345) (w0 : WE 0 = o_we (o_bec (s_tho S) (s_now S))) (w1 : ∀ i, WE (i + 1) = upd (WE i) i (wthr (ZZ (i + 1)))): Mt X 8 0 0 yX9_drawn cX9_drawn 2 (some .int) [.ref 0, .int seed] (cst S ++ tl) (RX (hpF τ (uo_we (o_bec (s_tho S) (s_now S)) (WE 8)) r z) S tl) := by
  refine Mt.of (by decide +kernel) (fun _ _ => Nat.le_of_ble_eq_true rfl) ?_
  show Ex X mX9_drawn _ _ _ _ _ _ _ _
  refine x_aload_n dX9_drawn_0 rfl ?_
  refine gf_X9_19 dX9_drawn_1 rfl rfl ?_
  refine x_aload_n dX9_drawn_4 rfl ?_
  refine gf_X9_10 dX9_drawn_5 rfl rfl ?_
  refine ii_X9_184 dX9_drawn_8 c_X3_become_tn rfl (by decide) (Nat.le_of_ble_eq_true rfl) ?_
  have hrt : o_ru (o_bec (s_tho S) (s_now S)) = nI r := hr
  have hzt : o_sz (o_bec (s_tho S) (s_now S)) = nI z := hz
  generalize o_bec (s_tho S) (s_now S) = T1 at hrt hzt w0 ⊢
  refine x_aload_n dX9_drawn_11 rfl ?_
  refine x_iload_n dX9_drawn_12 rfl ?_
  refine iv_X9_281 dX9_drawn_13 (c_X9_hazyBySeed (S := u_tho S T1) hX hrt hzt hz6 z0 z1 w0 w1) rfl (by decide) (Nat.le_of_ble_eq_true rfl) (fun v w3 hw => ?_)
  obtain ⟨nm3, sk3, rfl, rfl⟩ := hw
  exact Ex.ret (v := some (.int _)) ⟨dX9_drawn_16, _, rfl, rfl⟩ ⟨uo_we T1 (WE 8), nm3, sk3, s_rm S, s_du S, rfl, rfl⟩
