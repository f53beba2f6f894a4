abbrev hoC (x : Int32) : Prop := 0 ≤ x ∧ x < 8
def riF (τ : TV) (O : OT) (r z : Nat) (x : Int32) : Int32 := if hoC x then (if o_mAt O x = 1 then -3 else coF τ O r z x.toNatClampNeg) else -2
def riO (τ : TV) (O : OT) (r z : Nat) (x : Int32) : OT := if hoC x ∧ ¬ o_mAt O x = 1 then rtO τ O r z x.toNatClampNeg else O
set_option maxRecDepth 100000 in
set_option maxHeartbeats 4000000 in
theorem c_X9_right {X : Nat × (Nat → Int32)} {S : CS} {tl : pc_W} {τ : TV} {r z : Nat} {x : Int32} (hX : TXr τ S tl r) (hr : o_ru (s_now S) = nI r) (hz : o_sz (s_now S) = nI z) (hz6 : z ≤ 6): Mt X 5 0 0 yX9_right cX9_right 3 (some .int) [.ref 0, .int x] (cst S ++ tl) (RS (riF τ (s_now S) r z x) (u_now S (riO τ (s_now S) r z x)) tl) := by
  refine Mt.of (by decide +kernel) (fun _ _ => Nat.le_of_ble_eq_true rfl) ?_
  show Ex X mX9_right _ _ _ _ _ _ _ _
  refine x_iload_n dX9_right_0 rfl ?_
  refine ii_X9_99 dX9_right_1 c_X9_isHour (by decide) (Nat.le_of_ble_eq_true rfl) ?_
  refine x_if_ne 10 dX9_right_4 (fun h_4 => ?_) (fun h_4 => ?_)
  · have hx : hoC x := bi1.mp h_4
    obtain ⟨h, hh, rfl⟩ := nat_of (n := 8) hx.1 hx.2 (by decide)
    refine x_aload_n dX9_right_10 rfl ?_
    refine gf_X9_10 dX9_right_11 rfl rfl ?_
    refine x_iload_n dX9_right_14 rfl ?_
    refine ii_X9_143 dX9_right_15 c_X3_mendedAt_n rfl (by decide) (Nat.le_of_ble_eq_true rfl) ?_
    refine x_iconst 1 dX9_right_18 ?_
    refine x_icmp_ne 25 dX9_right_19 (fun h_19 => ?_) (fun h_19 => ?_)
    · refine x_aload_n dX9_right_25 rfl ?_
      refine gf_X9_36 dX9_right_26 rfl rfl ?_
      refine x_aload_n dX9_right_29 rfl ?_
      refine gf_X9_10 dX9_right_30 rfl rfl ?_
      refine x_iload_n dX9_right_33 rfl ?_
      refine iv_X9_103 dX9_right_34 (c_X2_cost_n hX hr hz hz6 hh) rfl (by decide) (Nat.le_of_ble_eq_true rfl) (fun v w3 hw => ?_)
      obtain ⟨nm3, sk3, rfl, rfl⟩ := hw
      refine x_istore_n dX9_right_37 (by decide) ?_
      refine x_aload_n dX9_right_38 rfl ?_
      refine gf_X9_10 dX9_right_39 rfl rfl ?_
      refine x_iload_n dX9_right_42 rfl ?_
      refine x_ineg dX9_right_43 ?_
      refine iv_X9_180 dX9_right_44 c_X3_earn_ne rfl (by decide) (Nat.le_of_ble_eq_true rfl) (fun v w4 hw => ?_)
      obtain ⟨O1, eO1, rfl, rfl⟩ := hw
      have eO1 : O1 = o_ear (s_now S) (-(coF τ (s_now S) r z h)) := eO1
      refine x_aload_n dX9_right_47 rfl ?_
      refine gf_X9_10 dX9_right_48 rfl rfl ?_
      refine x_dup dX9_right_51 ?_
      refine gf_X9_152 dX9_right_52 rfl rfl ?_
      refine x_iconst 1 dX9_right_55 ?_
      refine x_iload_n dX9_right_56 rfl ?_
      refine x_ishl dX9_right_57 ?_
      refine x_ior dX9_right_58 ?_
      refine pf_X9_152 dX9_right_59 rfl (Nat.le_of_ble_eq_true rfl) (fun _ _ => ⟨rfl, rfl⟩) ?_
      refine x_iload_n dX9_right_62 rfl ?_
      exact Ex.ret (v := some (.int _)) ⟨dX9_right_63, _, rfl, rfl⟩ ⟨nm3, sk3, congrArg (fun z => some (Value.int z)) (show coF τ (s_now S) r z h = riF τ (s_now S) r z (nI h) from by rw [riF, if_pos hx, if_neg h_19, nI_clamp (by omega)]), (show _ = cst (u_sk (u_nm (u_now S (uo_me O1 (o_me O1 ||| (1 <<< (nI h &&& 31))))) nm3) sk3) ++ tl from rfl).trans (by rw [riO, if_pos ⟨hx, h_19⟩, nI_clamp (by omega), rtO, ← eO1])⟩
    · refine x_bipush (-3) dX9_right_22 ?_
      exact Ex.ret (v := some (.int _)) ⟨dX9_right_24, _, rfl, rfl⟩ ⟨s_nm S, s_sk S, congrArg (fun z => some (Value.int z)) (show (-3 : Int32) = riF τ (s_now S) r z (nI h) from by rw [riF, if_pos hx, if_pos h_19]), by rw [riO, if_neg (fun q => q.2 h_19)]⟩
  · refine x_bipush (-2) dX9_right_7 ?_
    exact Ex.ret (v := some (.int _)) ⟨dX9_right_9, _, rfl, rfl⟩ ⟨s_nm S, s_sk S, congrArg (fun z => some (Value.int z)) (show (-2 : Int32) = riF τ (s_now S) r z x from (if_neg (show ¬ hoC x from fun q => bi0.mp h_4 q)).symm), by rw [riO, if_neg (fun q => (show ¬ hoC x from fun q => bi0.mp h_4 q) q.1)]⟩
set_option maxRecDepth 100000 in
set_option maxHeartbeats 4000000 in
theorem c_X9_bestHour {X : Nat × (Nat → Int32)} {S : CS} {tl : pc_W} {τ : TV} {r z : Nat} {p : Nat} (hX : TXr τ S tl r) (hr : o_ru (s_now S) = nI r) (hz : o_sz (s_now S) = nI z) (hz6 : z ≤ 6) (hp : p < 6): Mt X 4 0 0 yX9_bestHour cX9_bestHour 6 (some .int) [.ref 0, .int (nI p)] (cst S ++ tl) (RS (nI (bhF τ (s_now S) r p 7).1) S tl) := by
  refine Mt.of (by decide +kernel) (fun _ _ => Nat.le_of_ble_eq_true rfl) ?_
  show Ex X mX9_bestHour _ _ _ _ _ _ _ _
  refine x_iconst 0 dX9_bestHour_0 ?_
  refine x_istore_n dX9_bestHour_1 (by decide) ?_
  refine x_aload_n dX9_bestHour_2 rfl ?_
  refine gf_X9_36 dX9_bestHour_3 rfl rfl ?_
  refine x_aload_n dX9_bestHour_6 rfl ?_
  refine gf_X9_10 dX9_bestHour_7 rfl rfl ?_
  refine x_iload_n dX9_bestHour_10 rfl ?_
  refine x_iconst 0 dX9_bestHour_11 ?_
  refine iv_X9_110 dX9_bestHour_12 (c_X2_thinks_n (h := 0) hX hr hp (by decide)) rfl (by decide) (Nat.le_of_ble_eq_true rfl) (fun v w3 hw => ?_)
  obtain ⟨nm3, sk3, rfl, rfl⟩ := hw
  refine x_istore_n dX9_bestHour_15 (by decide) ?_
  refine x_iconst 1 dX9_bestHour_16 ?_
  refine x_istore dX9_bestHour_17 (by decide) ?_
  refine for_up (P := fun i => ∀ (nm : Nat → Int32) (sk : Nat → Int32), Ex X mX9_bestHour 4 (RS (nI (bhF τ (s_now S) r p 7).1) S tl) 0 0 19 [some (.ref 0), some (.int (nI p)), some (.int (nI (bhF τ (s_now S) r p i).1)), some (.int (bhF τ (s_now S) r p i).2), some (.int (nI (i + 1))), none] [] (cst (u_sk (u_nm S nm) sk) ++ tl)) 7 ?_ (fun i hii ihi => ?_) 0 (by omega) _ _
  · intro nm sk
    refine x_iload dX9_bestHour_19 rfl ?_
    refine x_bipush 8 dX9_bestHour_21 ?_
    refine x_icmp_ge 60 dX9_bestHour_23 (fun _ => ?_) (fun hx => absurd (by decide) hx)
    refine x_iload_n dX9_bestHour_60 rfl ?_
    exact Ex.ret (v := some (.int _)) ⟨dX9_bestHour_61, _, rfl, rfl⟩ ⟨_, _, rfl, rfl⟩
  · intro nm sk
    refine x_iload dX9_bestHour_19 rfl ?_
    refine x_bipush 8 dX9_bestHour_21 ?_
    refine x_icmp_ge 60 dX9_bestHour_23 (fun hx => absurd hx (nI_ge (a := i + 1) (b := 7+1) (by omega) (by decide))) (fun _ => ?_)
    refine x_aload_n dX9_bestHour_26 rfl ?_
    refine gf_X9_36 dX9_bestHour_27 rfl rfl ?_
    refine x_aload_n dX9_bestHour_30 rfl ?_
    refine gf_X9_10 dX9_bestHour_31 rfl rfl ?_
    refine x_iload_n dX9_bestHour_34 rfl ?_
    refine x_iload dX9_bestHour_35 rfl ?_
    refine iv_X9_110 dX9_bestHour_37 (c_X2_thinks_n hX hr hp (show i + 1 < 8 by omega)) rfl (by decide) (Nat.le_of_ble_eq_true rfl) (fun v w3 hw => ?_)
    obtain ⟨nm3, sk3, rfl, rfl⟩ := hw
    refine x_istore dX9_bestHour_40 (by decide) ?_
    refine x_iload dX9_bestHour_42 rfl ?_
    refine x_iload_n dX9_bestHour_44 rfl ?_
    refine x_icmp_le 54 dX9_bestHour_45 (fun h_45 => ?_) (fun h_45 => ?_)
    · have hb : bhF τ (s_now S) r p (i + 1) = bhF τ (s_now S) r p i := if_neg (Int32.not_lt.mpr h_45)
      refine x_iincN dX9_bestHour_54 rfl (by decide) ?_
      refine x_goto 19 dX9_bestHour_57 ?_
      refine Ex.forget (L' := [some (.ref 0), some (.int (nI p)), some (.int (nI (bhF τ (s_now S) r p (i + 1)).1)), some (.int (bhF τ (s_now S) r p (i + 1)).2), some (.int (nI (i + 1 + 1))), none]) ⟨rfl, rfl, by rw [hb] <;> rfl, by rw [hb] <;> rfl, rfl, trivial⟩ ?_
      exact ihi _ _
    · refine x_iload dX9_bestHour_48 rfl ?_
      refine x_istore_n dX9_bestHour_50 (by decide) ?_
      refine x_iload dX9_bestHour_51 rfl ?_
      refine x_istore_n dX9_bestHour_53 (by decide) ?_
      have hb : bhF τ (s_now S) r p (i + 1) = (i + 1, thF τ (s_now S) r p (i + 1)) := if_pos (Int32.not_le.mp h_45)
      refine x_iincN dX9_bestHour_54 rfl (by decide) ?_
      refine x_goto 19 dX9_bestHour_57 ?_
      refine Ex.forget (L' := [some (.ref 0), some (.int (nI p)), some (.int (nI (bhF τ (s_now S) r p (i + 1)).1)), some (.int (bhF τ (s_now S) r p (i + 1)).2), some (.int (nI (i + 1 + 1))), none]) ⟨rfl, rfl, by rw [hb] <;> rfl, by rw [hb] <;> rfl, rfl, trivial⟩ ?_
      exact ihi _ _
set_option maxRecDepth 100000 in
set_option maxHeartbeats 4000000 in
theorem c_X9_alone {X : Nat × (Nat → Int32)} {S : CS} {tl : pc_W} {τ : TV} {r z : Nat} {p : Nat} (hX : TXr τ S tl r) (hr : o_ru (s_now S) = nI r) (hz : o_sz (s_now S) = nI z) (hz6 : z ≤ 6) (hp : p < 6): Mt X 5 0 0 yX9_alone cX9_alone 4 (some .int) [.ref 0, .int (nI p)] (cst S ++ tl) (RS (alF τ (s_now S) r p z) S tl) := by
  refine Mt.of (by decide +kernel) (fun _ _ => Nat.le_of_ble_eq_true rfl) ?_
  show Ex X mX9_alone _ _ _ _ _ _ _ _
  refine x_aload_n dX9_alone_0 rfl ?_
  refine gf_X9_36 dX9_alone_1 rfl rfl ?_
  refine x_aload_n dX9_alone_4 rfl ?_
  refine gf_X9_10 dX9_alone_5 rfl rfl ?_
  refine x_iload_n dX9_alone_8 rfl ?_
  refine iv_X9_244 dX9_alone_9 (c_X2_likedHours_n hX hr hp) rfl (by decide) (Nat.le_of_ble_eq_true rfl) (fun v w3 hw => ?_)
  obtain ⟨nm3, sk3, rfl, rfl⟩ := hw
  refine x_istore_n dX9_alone_12 (by decide) ?_
  refine x_iconst 0 dX9_alone_13 ?_
  refine x_istore_n dX9_alone_14 (by decide) ?_
  refine for_up (P := fun i => ∀ (nm : Nat → Int32) (sk : Nat → Int32), Ex X mX9_alone 5 (RS (alF τ (s_now S) r p z) S tl) 0 0 15 [some (.ref 0), some (.int (nI p)), some (.int (alF τ (s_now S) r p i)), some (.int (nI i))] [] (cst (u_sk (u_nm S nm) sk) ++ tl)) z ?_ (fun i hii ihi => ?_) 0 (by omega) _ _
  · intro nm sk
    refine x_iload_n dX9_alone_15 rfl ?_
    refine x_aload_n dX9_alone_16 rfl ?_
    refine gf_X9_10 dX9_alone_17 rfl rfl ?_
    refine gf_X9_203 dX9_alone_20 rfl rfl ?_
    refine x_icmp_ge 54 dX9_alone_23 (fun _ => ?_) (fun hx => absurd (by rw [show _ = nI z from hz]; exact Int32.le_refl _) hx)
    refine x_iload_n dX9_alone_54 rfl ?_
    exact Ex.ret (v := some (.int _)) ⟨dX9_alone_55, _, rfl, rfl⟩ ⟨_, _, rfl, rfl⟩
  · intro nm sk
    refine x_iload_n dX9_alone_15 rfl ?_
    refine x_aload_n dX9_alone_16 rfl ?_
    refine gf_X9_10 dX9_alone_17 rfl rfl ?_
    refine gf_X9_203 dX9_alone_20 rfl rfl ?_
    refine x_icmp_ge 54 dX9_alone_23 (fun hx => absurd hx (by rw [show _ = nI z from hz]; exact nI_ge hii (by omega))) (fun _ => ?_)
    refine x_iload_n dX9_alone_26 rfl ?_
    refine x_iload_n dX9_alone_27 rfl ?_
    refine x_icmp_eq 48 dX9_alone_28 (fun h_28 => ?_) (fun h_28 => ?_)
    · rw [show alF τ (s_now S) r p i = alF τ (s_now S) r p (i + 1) from (if_pos ((nI_eq (by omega) (by omega)).mp h_28)).symm]
      refine x_iincN dX9_alone_48 rfl (by decide) ?_
      refine x_goto 15 dX9_alone_51 ?_
      exact ihi _ _
    · refine x_iload_n dX9_alone_31 rfl ?_
      refine x_aload_n dX9_alone_32 rfl ?_
      refine gf_X9_36 dX9_alone_33 rfl rfl ?_
      refine x_aload_n dX9_alone_36 rfl ?_
      refine gf_X9_10 dX9_alone_37 rfl rfl ?_
      refine x_iload_n dX9_alone_40 rfl ?_
      refine iv_X9_244 dX9_alone_41 (c_X2_likedHours_n hX hr (show i < 6 by omega)) rfl (by decide) (Nat.le_of_ble_eq_true rfl) (fun v w3 hw => ?_)
      obtain ⟨nm3, sk3, rfl, rfl⟩ := hw
      refine x_iconst (-1) dX9_alone_44 ?_
      refine x_ixor dX9_alone_45 ?_
      refine x_iand dX9_alone_46 ?_
      refine x_istore_n dX9_alone_47 (by decide) ?_
      rw [show (alF τ (s_now S) r p i &&& (lkF τ (s_now S) r i 8 ^^^ (-1))) = alF τ (s_now S) r p (i + 1) from (if_neg (fun e => h_28 (by rw [e]))).symm]
      refine x_iincN dX9_alone_48 rfl (by decide) ?_
      refine x_goto 15 dX9_alone_51 ?_
      exact ihi _ _
abbrev onC (z : Nat) (one : Int32) : Prop := 0 ≤ one ∧ one < nI z
def beF (τ : TV) (O : OT) (r z : Nat) (one what : Int32) : Int32 := if onC z one ∧ 0 ≤ what ∧ what ≤ 2 then (if what = 2 then alF τ O r one.toNatClampNeg z else if what = 0 then nI (bhF τ O r one.toNatClampNeg 7).1 else thF τ O r one.toNatClampNeg (bhF τ O r one.toNatClampNeg 7).1) else -1000000
set_option maxRecDepth 100000 in
set_option maxHeartbeats 4000000 in
theorem c_X9_best {X : Nat × (Nat → Int32)} {S : CS} {tl : pc_W} {τ : TV} {r z : Nat} {one what : Int32} (hX : TXr τ S tl r) (hr : o_ru (s_now S) = nI r) (hz : o_sz (s_now S) = nI z) (hz6 : z ≤ 6): Mt X 6 0 0 yX9_best cX9_best 4 (some .int) [.ref 0, .int one, .int what] (cst S ++ tl) (RS (beF τ (s_now S) r z one what) S tl) := by
  refine Mt.of (by decide +kernel) (fun _ _ => Nat.le_of_ble_eq_true rfl) ?_
  show Ex X mX9_best _ _ _ _ _ _ _ _
  refine x_aload_n dX9_best_0 rfl ?_
  refine gf_X9_10 dX9_best_1 rfl rfl ?_
  refine x_iload_n dX9_best_4 rfl ?_
  refine ii_X9_107 dX9_best_5 c_X3_has rfl (by decide) (Nat.le_of_ble_eq_true rfl) ?_
  refine x_if_eq 20 dX9_best_8 (fun h_8 => ?_) (fun h_8 => ?_)
  · refine x_ldc dX9_best_20 kk_X9_87 ?_
    exact Ex.ret (v := some (.int _)) ⟨dX9_best_22, _, rfl, rfl⟩ ⟨s_nm S, s_sk S, congrArg (fun z => some (Value.int z)) (if_neg (fun q => bi0.mp h_8 (by rw [hz]; exact q.1))).symm, rfl⟩
  · refine x_iload_n dX9_best_11 rfl ?_
    refine x_if_lt 20 dX9_best_12 (fun h_12 => ?_) (fun h_12 => ?_)
    · refine x_ldc dX9_best_20 kk_X9_87 ?_
      exact Ex.ret (v := some (.int _)) ⟨dX9_best_22, _, rfl, rfl⟩ ⟨s_nm S, s_sk S, congrArg (fun z => some (Value.int z)) (if_neg (fun q => absurd q.2.1 (Int32.not_le.mpr h_12))).symm, rfl⟩
    · refine x_iload_n dX9_best_15 rfl ?_
      refine x_iconst 2 dX9_best_16 ?_
      refine x_icmp_le 23 dX9_best_17 (fun h_17 => ?_) (fun h_17 => ?_)
      · have ho1 := bi1.mp h_8
        rw [hz] at ho1
        obtain ⟨p, hp, rfl⟩ := nat_of ho1.1 ho1.2 (by omega)
        have hc : onC z (nI p) ∧ 0 ≤ what ∧ what ≤ 2 := ⟨ho1, Int32.not_lt.mp h_12, h_17⟩
        refine x_iload_n dX9_best_23 rfl ?_
        refine x_iconst 2 dX9_best_24 ?_
        refine x_icmp_ne 34 dX9_best_25 (fun h_25 => ?_) (fun h_25 => ?_)
        · refine x_aload_n dX9_best_34 rfl ?_
          refine x_iload_n dX9_best_35 rfl ?_
          refine iv_X9_225 dX9_best_36 (c_X9_bestHour hX hr hz hz6 (show p < 6 by omega)) rfl (by decide) (Nat.le_of_ble_eq_true rfl) (fun v w3 hw => ?_)
          obtain ⟨nm3, sk3, rfl, rfl⟩ := hw
          refine x_istore_n dX9_best_39 (by decide) ?_
          refine x_iload_n dX9_best_40 rfl ?_
          refine x_if_ne 48 dX9_best_41 (fun h_41 => ?_) (fun h_41 => ?_)
          · refine x_aload_n dX9_best_48 rfl ?_
            refine gf_X9_36 dX9_best_49 rfl rfl ?_
            refine x_aload_n dX9_best_52 rfl ?_
            refine gf_X9_10 dX9_best_53 rfl rfl ?_
            refine x_iload_n dX9_best_56 rfl ?_
            refine x_iload_n dX9_best_57 rfl ?_
            refine iv_X9_110 dX9_best_58 (c_X2_thinks_n hX hr (show p < 6 by omega) (show (bhF τ (s_now S) r p 7).1 < 8 from Nat.lt_succ_of_le (bhF_le τ (s_now S) r p 7))) rfl (by decide) (Nat.le_of_ble_eq_true rfl) (fun v w4 hw => ?_)
            obtain ⟨nm4, sk4, rfl, rfl⟩ := hw
            exact Ex.ret (v := some (.int _)) ⟨dX9_best_61, _, rfl, rfl⟩ ⟨_, _, congrArg (fun z => some (Value.int z)) (by rw [beF, if_pos hc, if_neg h_25, if_neg h_41, nI_clamp (by omega)]), rfl⟩
          · refine x_iload_n dX9_best_44 rfl ?_
            refine x_goto 61 dX9_best_45 ?_
            exact Ex.ret (v := some (.int _)) ⟨dX9_best_61, _, rfl, rfl⟩ ⟨_, _, congrArg (fun z => some (Value.int z)) (by rw [beF, if_pos hc, if_neg h_25, if_pos h_41, nI_clamp (by omega)]), rfl⟩
        · refine x_aload_n dX9_best_28 rfl ?_
          refine x_iload_n dX9_best_29 rfl ?_
          refine iv_X9_222 dX9_best_30 (c_X9_alone hX hr hz hz6 (show p < 6 by omega)) rfl (by decide) (Nat.le_of_ble_eq_true rfl) (fun v w3 hw => ?_)
          obtain ⟨nm3, sk3, rfl, rfl⟩ := hw
          exact Ex.ret (v := some (.int _)) ⟨dX9_best_33, _, rfl, rfl⟩ ⟨_, _, congrArg (fun z => some (Value.int z)) (by rw [beF, if_pos hc, if_pos h_25, nI_clamp (by omega)]), rfl⟩
      · refine x_ldc dX9_best_20 kk_X9_87 ?_
        exact Ex.ret (v := some (.int _)) ⟨dX9_best_22, _, rfl, rfl⟩ ⟨s_nm S, s_sk S, congrArg (fun z => some (Value.int z)) (if_neg (fun q => h_17 q.2.2)).symm, rfl⟩
set_option maxRecDepth 100000 in
set_option maxHeartbeats 4000000 in
theorem c_X9_image {X : Nat × (Nat → Int32)} {S : CS} {tl : pc_W} : Mt X 2 0 0 yX9_image cX9_image 1 (some .int) [.ref 0] (cst S ++ tl) (RI (o_sz (s_now S)) (cst (u_im (u_kep S (o_bec (s_kep S) (s_now S))) 1) ++ tl)) := by
  refine Mt.of (by decide +kernel) (fun _ _ => Nat.le_of_ble_eq_true rfl) ?_
  show Ex X mX9_image _ _ _ _ _ _ _ _
  refine x_aload_n dX9_image_0 rfl ?_
  refine gf_X9_16 dX9_image_1 rfl rfl ?_
  refine x_aload_n dX9_image_4 rfl ?_
  refine gf_X9_10 dX9_image_5 rfl rfl ?_
  refine ii_X9_184 dX9_image_8 c_X3_become_kn rfl (by decide) (Nat.le_of_ble_eq_true rfl) ?_
  refine x_aload_n dX9_image_11 rfl ?_
  refine x_iconst 1 dX9_image_12 ?_
  refine pf_X9_22 dX9_image_13 rfl (Nat.le_of_ble_eq_true rfl) (fun _ _ => ⟨rfl, rfl⟩) ?_
  refine x_aload_n dX9_image_16 rfl ?_
  refine gf_X9_10 dX9_image_17 rfl rfl ?_
  refine gf_X9_203 dX9_image_20 rfl rfl ?_
  exact Ex.ret (v := some (.int _)) ⟨dX9_image_23, _, rfl, by first | rfl | decide⟩ ⟨congrArg (fun z => some (Value.int z)) (by rfl), rfl⟩
set_option maxRecDepth 100000 in
set_option maxHeartbeats 4000000 in
theorem c_X9_back {X : Nat × (Nat → Int32)} {S : CS} {tl : pc_W} : Mt X 2 0 0 yX9_back cX9_back 1 (some .int) [.ref 0] (cst S ++ tl) (RI (if s_im S = 0 then -3 else o_sz (s_kep S)) (cst (if s_im S = 0 then S else u_now S (o_bec (s_now S) (s_kep S))) ++ tl)) := by
  refine Mt.of (by decide +kernel) (fun _ _ => Nat.le_of_ble_eq_true rfl) ?_
  show Ex X mX9_back _ _ _ _ _ _ _ _
  refine x_aload_n dX9_back_0 rfl ?_
  refine gf_X9_22 dX9_back_1 rfl rfl ?_
  refine x_if_ne 10 dX9_back_4 (fun h_4 => ?_) (fun h_4 => ?_)
  · refine x_aload_n dX9_back_10 rfl ?_
    refine gf_X9_10 dX9_back_11 rfl rfl ?_
    refine x_aload_n dX9_back_14 rfl ?_
    refine gf_X9_16 dX9_back_15 rfl rfl ?_
    refine ii_X9_184 dX9_back_18 c_X3_become_nk rfl (by decide) (Nat.le_of_ble_eq_true rfl) ?_
    refine x_aload_n dX9_back_21 rfl ?_
    refine gf_X9_10 dX9_back_22 rfl rfl ?_
    refine gf_X9_203 dX9_back_25 rfl rfl ?_
    exact Ex.ret (v := some (.int _)) ⟨dX9_back_28, _, rfl, rfl⟩ ⟨congrArg (fun z => some (Value.int z)) (if_neg h_4).symm, by rw [if_neg h_4]⟩
  · refine x_bipush (-3) dX9_back_7 ?_
    exact Ex.ret (v := some (.int _)) ⟨dX9_back_9, _, rfl, rfl⟩ ⟨congrArg (fun z => some (Value.int z)) (if_pos h_4).symm, by rw [if_pos h_4]⟩
