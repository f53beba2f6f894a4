def unF (o : Int32) : Nat → Int32 → Int32
  | 0, _ => 0
  | n + 1, x => if 0 ≤ x ∧ x < 6 then (if x = o then 1 else unF o n (tabAbove x.toNatClampNeg)) else 0
set_option maxRecDepth 100000 in
set_option maxHeartbeats 4000000 in
theorem c_X0_isUnder {X : Nat × (Nat → Int32)} {k o : Int32} {w : pc_W} : Mt X 0 0 0 yX0_isUnder cX0_isUnder 4 (some .boolean) [.int k, .int o] w (RI (unF o 6 k) w) := by
  refine Mt.of (by decide +kernel) (fun _ _ => Nat.le_of_ble_eq_true rfl) ?_
  show Ex X mX0_isUnder _ _ _ _ _ _ _ _
  refine x_iload_n dX0_isUnder_0 rfl ?_
  refine x_istore_n dX0_isUnder_1 (by decide) ?_
  refine x_iconst 0 dX0_isUnder_2 ?_
  refine x_istore_n dX0_isUnder_3 (by decide) ?_
  refine for_up (P := fun i => ∀ (x r0 : Int32), unF o (6 - i) x = r0 → Ex X mX0_isUnder 0 (RI r0 w) 0 0 4 [some (.int k), some (.int o), some (.int x), some (.int (nI i))] [] w) 6 ?_ (fun i hii ihi => ?_) 0 (by omega) _ _ rfl
  · intro x r0 hr0
    refine x_iload_n dX0_isUnder_4 rfl ?_
    refine x_bipush 6 dX0_isUnder_5 ?_
    refine x_icmp_ge 39 dX0_isUnder_7 (fun _ => ?_) (fun hx => absurd (by decide) hx)
    refine x_iconst 0 dX0_isUnder_39 ?_
    exact Ex.ret (v := some (.int _)) ⟨dX0_isUnder_40, _, rfl, by decide⟩ ⟨congrArg (fun z => some (Value.int z)) (by rw [← hr0]; rfl), rfl⟩
  · intro x r0 hr0
    refine x_iload_n dX0_isUnder_4 rfl ?_
    refine x_bipush 6 dX0_isUnder_5 ?_
    refine x_icmp_ge 39 dX0_isUnder_7 (fun hx => absurd hx (nI_ge hii (by decide))) (fun _ => ?_)
    refine x_iload_n dX0_isUnder_10 rfl ?_
    refine x_if_lt 39 dX0_isUnder_11 (fun h_11 => ?_) (fun h_11 => ?_)
    · refine x_iconst 0 dX0_isUnder_39 ?_
      exact Ex.ret (v := some (.int _)) ⟨dX0_isUnder_40, _, rfl, by decide⟩ ⟨congrArg (fun z => some (Value.int z)) (by rw [← hr0, show 6 - i = (6 - (i + 1)) + 1 from by omega, unF, if_neg (fun q => absurd q.1 (Int32.not_le.mpr h_11))]), rfl⟩
    · refine x_iload_n dX0_isUnder_14 rfl ?_
      refine x_bipush 6 dX0_isUnder_15 ?_
      refine x_icmp_ge 39 dX0_isUnder_17 (fun h_17 => ?_) (fun h_17 => ?_)
      · refine x_iconst 0 dX0_isUnder_39 ?_
        exact Ex.ret (v := some (.int _)) ⟨dX0_isUnder_40, _, rfl, by decide⟩ ⟨congrArg (fun z => some (Value.int z)) (by rw [← hr0, show 6 - i = (6 - (i + 1)) + 1 from by omega, unF, if_neg (fun q => absurd q.2 (Int32.not_lt.mpr h_17))]), rfl⟩
      · refine x_iload_n dX0_isUnder_20 rfl ?_
        refine x_iload_n dX0_isUnder_21 rfl ?_
        refine x_icmp_ne 27 dX0_isUnder_22 (fun h_22 => ?_) (fun h_22 => ?_)
        · refine x_getsA (ref := "RememberedAsSunny$Kinds") (C := "RememberedAsSunny$Kinds") (n := "ABOVE") 102 dX0_isUnder_27 (fun _ _ _ _ h => h.2.1.2.2) kf_X0_9 ?_
          refine x_iload_n dX0_isUnder_30 rfl ?_
          refine x_taload dX0_isUnder_31 (Or.inr (Or.inr (Or.inl rfl))) (vp_lt (n := 6) (Int32.not_lt.mp h_11) (Int32.not_le.mp h_17) (by decide)) ?_
          refine x_istore_n dX0_isUnder_32 (by decide) ?_
          refine x_iincN dX0_isUnder_33 rfl (by decide) ?_
          refine x_goto 4 dX0_isUnder_36 ?_
          exact ihi _ _ (by rw [← hr0, show 6 - i = (6 - (i + 1)) + 1 from by omega, unF, if_pos ⟨Int32.not_lt.mp h_11, Int32.not_le.mp h_17⟩, if_neg h_22]; rfl)
        · refine x_iconst 1 dX0_isUnder_25 ?_
          exact Ex.ret (v := some (.int _)) ⟨dX0_isUnder_26, _, rfl, by decide⟩ ⟨congrArg (fun z => some (Value.int z)) (by rw [← hr0, show 6 - i = (6 - (i + 1)) + 1 from by omega, unF, if_pos ⟨Int32.not_lt.mp h_11, Int32.not_le.mp h_17⟩, if_pos h_22]), rfl⟩
def taF (O : OT) (z : Nat) (one k : Int32) : Int32 := if 0 ≤ k ∧ k < 6 then (if 0 ≤ one ∧ one < nI z then (if unF k 6 (o_ki O one.toNatClampNeg) = 0 then -13 else o_nu O one.toNatClampNeg) else -11) else -2
set_option maxRecDepth 100000 in
set_option maxHeartbeats 4000000 in
theorem c_X9_taken {X : Nat × (Nat → Int32)} {S : CS} {tl : pc_W} {z : Nat} {one k : Int32} (hz : o_sz (s_now S) = nI z) (hz6 : z ≤ 6): Mt X 1 0 0 yX9_taken cX9_taken 3 (some .int) [.ref 0, .int one, .int k] (cst S ++ tl) (RI (taF (s_now S) z one k) (cst S ++ tl)) := by
  refine Mt.of (by decide +kernel) (fun _ _ => Nat.le_of_ble_eq_true rfl) ?_
  show Ex X mX9_taken _ _ _ _ _ _ _ _
  refine x_iload_n dX9_taken_0 rfl ?_
  refine x_if_lt 10 dX9_taken_1 (fun h_1 => ?_) (fun h_1 => ?_)
  · refine x_bipush (-2) dX9_taken_10 ?_
    exact Ex.ret (v := some (.int _)) ⟨dX9_taken_12, _, rfl, rfl⟩ ⟨congrArg (fun z => some (Value.int z)) (by rw [taF, if_neg (fun q => absurd q.1 (Int32.not_le.mpr h_1))]), rfl⟩
  · refine x_iload_n dX9_taken_4 rfl ?_
    refine x_bipush 6 dX9_taken_5 ?_
    refine x_icmp_lt 13 dX9_taken_7 (fun h_7 => ?_) (fun h_7 => ?_)
    · have hk : 0 ≤ k ∧ k < 6 := ⟨Int32.not_lt.mp h_1, h_7⟩
      refine x_aload_n dX9_taken_13 rfl ?_
      refine gf_X9_10 dX9_taken_14 rfl rfl ?_
      refine x_iload_n dX9_taken_17 rfl ?_
      refine ii_X9_107 dX9_taken_18 c_X3_has rfl (by decide) (Nat.le_of_ble_eq_true rfl) ?_
      refine x_if_ne 27 dX9_taken_21 (fun h_21 => ?_) (fun h_21 => ?_)
      · have ho := bi1.mp h_21
        rw [hz] at ho
        obtain ⟨p, hp, rfl⟩ := nat_of ho.1 ho.2 (by omega)
        refine x_aload_n dX9_taken_27 rfl ?_
        refine gf_X9_10 dX9_taken_28 rfl rfl ?_
        refine gf_X9_117 dX9_taken_31 rfl rfl ?_
        refine x_iload_n dX9_taken_34 rfl ?_
        refine x_ialoadN dX9_taken_35 rfl (show p < 6 by omega) (by decide) ?_
        refine x_iload_n dX9_taken_36 rfl ?_
        refine ii_X9_327 dX9_taken_37 c_X0_isUnder (by decide) (Nat.le_of_ble_eq_true rfl) ?_
        refine x_if_eq 55 dX9_taken_40 (fun h_40 => ?_) (fun h_40 => ?_)
        · refine x_bipush (-13) dX9_taken_55 ?_
          exact Ex.ret (v := some (.int _)) ⟨dX9_taken_57, _, rfl, rfl⟩ ⟨congrArg (fun z => some (Value.int z)) (by rw [taF, if_pos hk, if_pos ho, nI_clamp (by omega), if_pos h_40]), rfl⟩
        · refine x_aload_n dX9_taken_43 rfl ?_
          refine gf_X9_10 dX9_taken_44 rfl rfl ?_
          refine gf_X9_146 dX9_taken_47 rfl rfl ?_
          refine x_iload_n dX9_taken_50 rfl ?_
          refine x_ialoadN dX9_taken_51 rfl (show p < 6 by omega) (by decide) ?_
          refine x_goto 57 dX9_taken_52 ?_
          exact Ex.ret (v := some (.int _)) ⟨dX9_taken_57, _, rfl, rfl⟩ ⟨congrArg (fun z => some (Value.int z)) (by rw [taF, if_pos hk, if_pos ho, nI_clamp (by omega), if_neg h_40]), rfl⟩
      · refine x_bipush (-11) dX9_taken_24 ?_
        exact Ex.ret (v := some (.int _)) ⟨dX9_taken_26, _, rfl, rfl⟩ ⟨congrArg (fun z => some (Value.int z)) (by rw [taF, if_pos hk, if_neg (fun q => bi0.mp h_21 (by rw [hz]; exact q))]), rfl⟩
    · refine x_bipush (-2) dX9_taken_10 ?_
      exact Ex.ret (v := some (.int _)) ⟨dX9_taken_12, _, rfl, rfl⟩ ⟨congrArg (fun z => some (Value.int z)) (by rw [taF, if_neg (fun q => h_7 q.2)]), rfl⟩
def rnT (τ : TV) (r z : Nat) (T : OT) : Nat → OT
  | 0 => T
  | i + 1 => yrF τ (rnT τ r z T i) r z
theorem rnT_s (τ : TV) (r z : Nat) (T : OT) (i : Nat) : rnT τ r z T (i + 1) = yrF τ (rnT τ r z T i) r z := by rw [rnT]
theorem yrF_ru (τ : TV) (r z : Nat) (T : OT) : o_ru (yrF τ T r z) = o_ru T ∧ o_sz (yrF τ T r z) = o_sz T := by
  constructor
  · simp only [yrF, yr1, o_ear]
  · simp only [yrF, yr1, o_ear]
theorem rnT_ru (τ : TV) (r z : Nat) (T : OT) : ∀ i, o_ru (rnT τ r z T i) = o_ru T ∧ o_sz (rnT τ r z T i) = o_sz T
  | 0 => ⟨rfl, rfl⟩
  | i + 1 => by
    rw [rnT_s, (yrF_ru τ r z _).1, (yrF_ru τ r z _).2]
    exact rnT_ru τ r z T i
def rnB (τ : TV) (r z : Nat) (T : OT) : Nat → Int32
  | 0 => -1
  | i + 1 => if o_pu (rnT τ r z T (i + 1)) < 0 ∧ rnB τ r z T i = -1 then nI i else rnB τ r z T i
def ruF (τ : TV) (r z : Nat) (T : OT) (n what : Int32) : Int32 := if (0 ≤ n ∧ n ≤ 40) ∧ 0 ≤ what ∧ what ≤ 2 then (if what = 0 then o_pu (rnT τ r z T n.toNatClampNeg) else if what = 1 then hpF τ (rnT τ r z T n.toNatClampNeg) r z else rnB τ r z T n.toNatClampNeg) else -1000000
theorem c_X2_passYear_te {X : Nat × (Nat → Int32)} {S : CS} {tl : pc_W} {τ : TV} {r z : Nat} (hX : TXr τ S tl r) (hr : o_ru (s_tho S) = nI r) (hz : o_sz (s_tho S) = nI z) (hz6 : z ≤ 6) : Mt X 7 0 0 yX2_passYear cX2_passYear 3 none [.ref 19, .ref 11] (cst S ++ tl) (fun v w' => ∃ T1 nm sk, T1 = yrF τ (s_tho S) r z ∧ v = none ∧ w' = cst (u_sk (u_nm (u_tho S T1) nm) sk) ++ tl) := (c_X2_passYear_t hX hr hz hz6).weaken (fun v w h => by
  obtain ⟨nm, sk, h1, h2⟩ := h
  exact ⟨_, nm, sk, rfl, h1, h2⟩)
set_option maxRecDepth 100000 in
set_option maxHeartbeats 4000000 in
theorem c_X9_run {X : Nat × (Nat → Int32)} {S : CS} {tl : pc_W} {τ : TV} {r z : Nat} {n what : Int32} (hX : TXr τ S tl r) (hr : o_ru (s_now S) = nI r) (hz : o_sz (s_now S) = nI z) (hz6 : z ≤ 6): Mt X 8 0 0 yX9_run cX9_run 5 (some .int) [.ref 0, .int n, .int what] (cst S ++ tl) (RX (ruF τ r z (o_bec (s_tho S) (s_now S)) n what) S tl) := by
  refine Mt.of (by decide +kernel) (fun _ _ => Nat.le_of_ble_eq_true rfl) ?_
  show Ex X mX9_run _ _ _ _ _ _ _ _
  refine x_iload_n dX9_run_0 rfl ?_
  refine x_if_lt 19 dX9_run_1 (fun h_1 => ?_) (fun h_1 => ?_)
  · refine x_ldc dX9_run_19 kk_X9_87 ?_
    exact Ex.ret (v := some (.int _)) ⟨dX9_run_21, _, rfl, rfl⟩ ⟨s_tho S, s_nm S, s_sk S, s_rm S, s_du S, congrArg (fun z => some (Value.int z)) (by rw [ruF, if_neg (fun q => absurd q.1.1 (Int32.not_le.mpr h_1))]), rfl⟩
  · refine x_iload_n dX9_run_4 rfl ?_
    refine x_bipush 40 dX9_run_5 ?_
    refine x_icmp_gt 19 dX9_run_7 (fun h_7 => ?_) (fun h_7 => ?_)
    · refine x_ldc dX9_run_19 kk_X9_87 ?_
      exact Ex.ret (v := some (.int _)) ⟨dX9_run_21, _, rfl, rfl⟩ ⟨s_tho S, s_nm S, s_sk S, s_rm S, s_du S, congrArg (fun z => some (Value.int z)) (by rw [ruF, if_neg (fun q => absurd q.1.2 (Int32.not_le.mpr h_7))]), rfl⟩
    · refine x_iload_n dX9_run_10 rfl ?_
      refine x_if_lt 19 dX9_run_11 (fun h_11 => ?_) (fun h_11 => ?_)
      · refine x_ldc dX9_run_19 kk_X9_87 ?_
        exact Ex.ret (v := some (.int _)) ⟨dX9_run_21, _, rfl, rfl⟩ ⟨s_tho S, s_nm S, s_sk S, s_rm S, s_du S, congrArg (fun z => some (Value.int z)) (by rw [ruF, if_neg (fun q => absurd q.2.1 (Int32.not_le.mpr h_11))]), rfl⟩
      · refine x_iload_n dX9_run_14 rfl ?_
        refine x_iconst 2 dX9_run_15 ?_
        refine x_icmp_le 22 dX9_run_16 (fun h_16 => ?_) (fun h_16 => ?_)
        · have hc : (0 ≤ n ∧ n ≤ 40) ∧ 0 ≤ what ∧ what ≤ 2 := ⟨⟨Int32.not_lt.mp h_1, Int32.not_lt.mp h_7⟩, Int32.not_lt.mp h_11, h_16⟩
          obtain ⟨N, hN, rfl⟩ : ∃ N, N < 41 ∧ n = nI N := nat_of (n := 41) hc.1.1 (Int32.lt_of_le_of_lt hc.1.2 (by decide)) (by decide)
          refine x_aload_n dX9_run_22 rfl ?_
          refine gf_X9_19 dX9_run_23 rfl rfl ?_
          refine x_aload_n dX9_run_26 rfl ?_
          refine gf_X9_10 dX9_run_27 rfl rfl ?_
          refine ii_X9_184 dX9_run_30 c_X3_become_tn rfl (by decide) (Nat.le_of_ble_eq_true rfl) ?_
          generalize hT1 : o_bec (s_tho S) (s_now S) = T1
          have hru : ∀ i, o_ru (rnT τ r z T1 i) = nI r := fun i => (rnT_ru τ r z T1 i).1.trans (by rw [← hT1]; exact hr)
          have hsu : ∀ i, o_sz (rnT τ r z T1 i) = nI z := fun i => (rnT_ru τ r z T1 i).2.trans (by rw [← hT1]; exact hz)
          refine x_iconst (-1) dX9_run_33 ?_
          refine x_istore_n dX9_run_34 (by decide) ?_
          refine x_iconst 0 dX9_run_35 ?_
          refine x_istore dX9_run_36 (by decide) ?_
          refine for_up (P := fun i => ∀ (nm : Nat → Int32) (sk : Nat → Int32), Ex X mX9_run 8 (RX (ruF τ r z T1 (nI N) what) S tl) 0 0 38 [some (.ref 0), some (.int (nI N)), some (.int what), some (.int (rnB τ r z T1 i)), some (.int (nI i))] [] (cst (u_tho (u_sk (u_nm S nm) sk) (rnT τ r z T1 i)) ++ tl)) N ?_ (fun i hii ihi => ?_) 0 (by omega) _ _
          · intro nm sk
            refine x_iload dX9_run_38 rfl ?_
            refine x_iload_n dX9_run_40 rfl ?_
            refine x_icmp_ge 79 dX9_run_41 (fun _ => ?_) (fun hx => absurd (Int32.le_refl _) hx)
            have hri := hru N
            have hsi := hsu N
            generalize hTi : rnT τ r z T1 N = Ti at hri hsi ⊢
            refine x_iload_n dX9_run_79 rfl ?_
            refine x_swC 0 (fun s_80_0 => ?_) (fun s_80_0 => ?_)
            · refine x_lsw (off := 28) 108 dX9_run_80 (by decide) (by decide) ?_
              refine x_aload_n dX9_run_108 rfl ?_
              refine gf_X9_19 dX9_run_109 rfl rfl ?_
              refine gf_X9_137 dX9_run_112 rfl rfl ?_
              exact Ex.ret (v := some (.int _)) ⟨dX9_run_115, _, rfl, rfl⟩ ⟨Ti, nm, sk, s_rm S, s_du S, congrArg (fun z => some (Value.int z)) (by rw [ruF, if_pos hc, nI_clamp (by omega), hTi]; rw [s_80_0]; rfl), rfl⟩
            refine x_swC 1 (fun s_80_1 => ?_) (fun s_80_1 => ?_)
            · refine x_lsw (off := 36) 116 dX9_run_80 (by decide) (by decide) ?_
              refine x_aload_n dX9_run_116 rfl ?_
              refine gf_X9_36 dX9_run_117 rfl rfl ?_
              refine x_aload_n dX9_run_120 rfl ?_
              refine gf_X9_19 dX9_run_121 rfl rfl ?_
              refine iv_X9_187 dX9_run_124 (c_X2_hazyPeople_t hX hri hsi hz6) rfl (by decide) (Nat.le_of_ble_eq_true rfl) (fun v w4 hw => ?_)
              obtain ⟨nm3, sk3, rfl, rfl⟩ := hw
              exact Ex.ret (v := some (.int _)) ⟨dX9_run_127, _, rfl, rfl⟩ ⟨Ti, nm3, sk3, s_rm S, s_du S, congrArg (fun z => some (Value.int z)) (by rw [ruF, if_pos hc, nI_clamp (by omega), hTi]; rw [s_80_1]; rfl), rfl⟩
            refine x_lsw (off := 48) 128 dX9_run_80 (by decide) (by show lookupswitch.offset _ _ _ = _; simp only [List.toList_toArray]; rw [lv_osw (a := 0) s_80_0 (by decide), lv_osw (a := 1) s_80_1 (by decide)]; rfl) ?_
            refine x_iload_n dX9_run_128 rfl ?_
            exact Ex.ret (v := some (.int _)) ⟨dX9_run_129, _, rfl, rfl⟩ ⟨Ti, nm, sk, s_rm S, s_du S, congrArg (fun z => some (Value.int z)) (by rw [ruF, if_pos hc, nI_clamp (by omega), if_neg s_80_0, if_neg s_80_1]), rfl⟩
          · intro nm sk
            have hri := hru i
            have hsi := hsu i
            generalize hTi : rnT τ r z T1 i = Ti at hri hsi ⊢
            refine x_iload dX9_run_38 rfl ?_
            refine x_iload_n dX9_run_40 rfl ?_
            refine x_icmp_ge 79 dX9_run_41 (fun hx => absurd hx (nI_ge hii (by omega))) (fun _ => ?_)
            refine x_aload_n dX9_run_44 rfl ?_
            refine gf_X9_36 dX9_run_45 rfl rfl ?_
            refine x_aload_n dX9_run_48 rfl ?_
            refine gf_X9_19 dX9_run_49 rfl rfl ?_
            refine iv_X9_176 dX9_run_52 (c_X2_passYear_te hX hri hsi hz6) rfl (by decide) (Nat.le_of_ble_eq_true rfl) (fun v w4 hw => ?_)
            obtain ⟨T2, nm3, sk3, eT, rfl, rfl⟩ := hw
            have eT2 : T2 = rnT τ r z T1 (i + 1) := (by rw [rnT_s, hTi]; exact eT)
            refine Ex.eqW (w' := cst (u_tho (u_sk (u_nm S nm3) sk3) T2) ++ tl) rfl ?_
            refine x_aload_n dX9_run_55 rfl ?_
            refine gf_X9_19 dX9_run_56 rfl rfl ?_
            refine gf_X9_137 dX9_run_59 rfl rfl ?_
            refine x_if_ge 73 dX9_run_62 (fun h_62 => ?_) (fun h_62 => ?_)
            · have hb : rnB τ r z T1 (i + 1) = rnB τ r z T1 i := by rw [rnB, ← eT2]; exact if_neg (fun q => absurd q.1 (Int32.not_lt.mpr h_62))
              refine x_iincN dX9_run_73 rfl (by decide) ?_
              refine x_goto 38 dX9_run_76 ?_
              refine Ex.forget (L' := [some (.ref 0), some (.int (nI N)), some (.int what), some (.int (rnB τ r z T1 (i + 1))), some (.int (nI (i + 1)))]) ⟨rfl, rfl, rfl, by rw [hb] <;> rfl, rfl, trivial⟩ ?_
              rw [eT2]
              exact ihi nm3 sk3
            · refine x_iload_n dX9_run_65 rfl ?_
              refine x_iconst (-1) dX9_run_66 ?_
              refine x_icmp_ne 73 dX9_run_67 (fun h_67 => ?_) (fun h_67 => ?_)
              · have hb : rnB τ r z T1 (i + 1) = rnB τ r z T1 i := by rw [rnB, ← eT2]; exact if_neg (fun q => h_67 q.2)
                refine x_iincN dX9_run_73 rfl (by decide) ?_
                refine x_goto 38 dX9_run_76 ?_
                refine Ex.forget (L' := [some (.ref 0), some (.int (nI N)), some (.int what), some (.int (rnB τ r z T1 (i + 1))), some (.int (nI (i + 1)))]) ⟨rfl, rfl, rfl, by rw [hb] <;> rfl, rfl, trivial⟩ ?_
                rw [eT2]
                exact ihi nm3 sk3
              · refine x_iload dX9_run_70 rfl ?_
                refine x_istore_n dX9_run_72 (by decide) ?_
                have hb : rnB τ r z T1 (i + 1) = nI i := by rw [rnB, ← eT2]; exact if_pos ⟨Int32.not_le.mp h_62, h_67⟩
                refine x_iincN dX9_run_73 rfl (by decide) ?_
                refine x_goto 38 dX9_run_76 ?_
                refine Ex.forget (L' := [some (.ref 0), some (.int (nI N)), some (.int what), some (.int (rnB τ r z T1 (i + 1))), some (.int (nI (i + 1)))]) ⟨rfl, rfl, rfl, by rw [hb] <;> rfl, rfl, trivial⟩ ?_
                rw [eT2]
                exact ihi nm3 sk3
        · refine x_ldc dX9_run_19 kk_X9_87 ?_
          exact Ex.ret (v := some (.int _)) ⟨dX9_run_21, _, rfl, rfl⟩ ⟨s_tho S, s_nm S, s_sk S, s_rm S, s_du S, congrArg (fun z => some (Value.int z)) (by rw [ruF, if_neg (fun q => h_16 q.2.2)]), rfl⟩
