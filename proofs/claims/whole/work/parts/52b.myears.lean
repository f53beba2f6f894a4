theorem sub_neg (a b : Int32) : a - b = a + -b := Int32.sub_eq_add_neg a b
theorem oyr_mO (ru : Int32) (ou we : Nat → Int32) (me : Int32) (ki ro : Nat → Int32) (ma x du : Int32) : mO (ru, oyr ou x du, we, me, ki, ro, ma) = yr1 (o_ear (o_ear (mO (ru, ou, we, me, ki, ro, ma)) x) (-du)) := by
  have h0 : oyr ou x du 0 = ou 0 + 1 := pk_us
  have h1 : oyr ou x du 1 = ou 1 := (pk_un (by decide)).trans (pk_un (by decide))
  have h2 : oyr ou x du 2 = clp (-99999) (clp (-99999) (ou 2 + x) 99999 + -du) 99999 := by rw [← sub_neg]; exact (pk_un (by decide)).trans pk_us
  simp only [mO, yr1, o_ear, h0, h1, h2]
def yeM (τ : TV) (O : OT) (r z : Nat) : Int32 := if o_ye O = 99 then -1000000 else o_pu (yrF τ O r z)
/-- the purse and the years by turns, as run() has them -/
def orn (τ : TV) (U : MU) (r z : Nat) : Nat → (Nat → Int32)
  | 0 => U.2.1
  | i + 1 => oyr (orn τ U r z i) (sumI (o_pr (mO U)) z) (duF τ (mO (U.1, orn τ U r z i, U.2.2)) r z)
theorem orn_mO (τ : TV) (U : MU) (r z : Nat) : ∀ i, mO (U.1, orn τ U r z i, U.2.2) = rnT τ r z (mO U) i
  | 0 => rfl
  | i + 1 => by
    rw [rnT_s, ← orn_mO τ U r z i]
    obtain ⟨ru, ou, we, me, ki, ro, ma⟩ := U
    exact oyr_mO ru _ we me ki ro ma _ _
theorem oyr_o (ou : Nat → Int32) (x du : Int32) {j : Nat} (h0 : ¬ j = 0) (h2 : ¬ j = 2) : oyr ou x du j = ou j := by unfold oyr upd; rw [if_neg h0, if_neg h2]
theorem orn_o (τ : TV) (U : MU) (r z : Nat) {j : Nat} (h0 : ¬ j = 0) (h2 : ¬ j = 2) : ∀ i, orn τ U r z i j = U.2.1 j
  | 0 => rfl
  | i + 1 => by rw [orn, oyr_o _ _ _ h0 h2]; exact orn_o τ U r z h0 h2 i
theorem ou_back {f g : Nat → Int32} (h : ∀ j, ¬ j = 0 → ¬ j = 2 → f j = g j) : upd (upd f 0 (g 0)) 2 (g 2) = g := by
  funext j
  unfold upd
  by_cases h2 : j = 2
  · rw [if_pos h2, h2]
  · rw [if_neg h2]
    by_cases h0 : j = 0
    · rw [if_pos h0, h0]
    · rw [if_neg h0]; exact h j h0 h2
def hou (ou : Nat → Int32) (i : Nat) : Nat → Int32 := upd ou 0 (ou 0 + nI i)
theorem hou_0 (ou : Nat → Int32) : hou ou 0 = ou := by
  funext j
  unfold hou upd
  by_cases h : j = 0
  · rw [if_pos h, h, nI_0, Int32.add_zero]
  · rw [if_neg h]
theorem hou_s (ou : Nat → Int32) (i : Nat) : upd (hou ou i) 0 (hou ou i 0 + 1) = hou ou (i + 1) := by
  funext j
  unfold hou upd
  by_cases h : j = 0
  · rw [if_pos h, if_pos h, if_pos rfl, Int32.add_assoc, nI_1]
  · rw [if_neg h, if_neg h, if_neg h]
theorem hou_r (ou : Nat → Int32) (i : Nat) : upd (hou ou i) 0 (ou 0) = ou := by
  funext j
  unfold hou upd
  by_cases h : j = 0
  · rw [if_pos h, h]
  · rw [if_neg h, if_neg h]
/-- ten years at a premium -/
def opr (τ : TV) (U : MU) (r z : Nat) (x : Int32) : Nat → (Nat → Int32)
  | 0 => U.2.1
  | i + 1 => oyr (opr τ U r z x i) x (duF τ (mO (U.1, opr τ U r z x i, U.2.2)) r z)
theorem opr_o (τ : TV) (U : MU) (r z : Nat) (x : Int32) {j : Nat} (h0 : ¬ j = 0) (h2 : ¬ j = 2) : ∀ i, opr τ U r z x i j = U.2.1 j
  | 0 => rfl
  | i + 1 => by rw [opr, oyr_o _ _ _ h0 h2]; exact opr_o τ U r z x h0 h2 i
def okM (τ : TV) (U : MU) (r z : Nat) (x : Int32) : Nat → Int32
  | 0 => 1
  | i + 1 => if ¬ okM τ U r z x i = 0 ∧ 0 ≤ opr τ U r z x (i + 1) 2 then 1 else 0
def pmM (τ : TV) (U : MU) (r z : Nat) : Nat → Nat → Int32
  | 0, _ => -1
  | n + 1, v => if okM τ U r z (nI v * nI z) 10 = 0 then pmM τ U r z n (v + 1) else nI v
def wthM (z : Int32) : Int32 := (z.toUInt32 >>> ((9 : Int32).toUInt32 &&& Int32.toUInt32 31)).toInt32 - (z.toUInt32 >>> ((9 : Int32).toUInt32 &&& Int32.toUInt32 31)).toInt32 / 19 * 19 - 9
theorem wthM_eq (z : Int32) : wthM z = wthr z := by unfold wthM wthr; rw [sub_neg (_ - _)]
def zzM (seed : Int32) : Nat → Int32
  | 0 => seed
  | i + 1 => zzM seed i * 1103515245 + 12345
def weM (seed : Int32) (we : Nat → Int32) : Nat → (Nat → Int32)
  | 0 => we
  | i + 1 => upd (weM seed we i) i (wthM (zzM seed (i + 1)))
theorem weM_o (seed : Int32) (we : Nat → Int32) : ∀ i j, i ≤ j → weM seed we i j = we j
  | 0, _, _ => rfl
  | i + 1, j, h => by rw [weM, pk_un (by omega)]; exact weM_o seed we i j (by omega)
def wwM (we ww : Nat → Int32) (i : Nat) : Nat → Int32 := fun j => if j < i then we j else ww j
theorem wwM_s (we ww : Nat → Int32) (i : Nat) : upd (wwM we ww i) i (we i) = wwM we ww (i + 1) := by
  funext j
  unfold wwM upd
  by_cases h : j = i
  · rw [if_pos h, if_pos (by omega), h]
  · rw [if_neg h]
    show (if j < i then we j else ww j) = _
    by_cases h2 : j < i
    · rw [if_pos h2, if_pos (by omega)]
    · rw [if_neg h2, if_neg (by omega)]
theorem wwM_0 (we ww : Nat → Int32) : wwM we ww 0 = ww := by
  funext j
  unfold wwM
  rw [if_neg (by omega)]
theorem wbk {seed : Int32} {we : Nat → Int32} : wwM we (weM seed we 8) 8 = we := by
  funext j
  unfold wwM
  by_cases h : j < 8
  · rw [if_pos h]
  · rw [if_neg h]; exact weM_o seed we 8 j (by omega)
set_option maxRecDepth 100000 in
set_option maxHeartbeats 4000000 in
theorem c_X10_year {X : Nat × (Nat → Int32)} {S : CS} {tl : pc_W} {T : MT} {ru : Int32} {ou : (Nat → Int32)} {we : (Nat → Int32)} {me : Int32} {ki : (Nat → Int32)} {ro : (Nat → Int32)} {ma : Int32} {Λ : ML} {C : MC} {K : MK} {H : MH} {τ : TV} {r z : Nat} (hX : TXm τ T.1 T.2.1 r) (hru : ru = nI r) (hz : ma = nI z) (hz6 : z ≤ 6) (hnu : ∀ i, i < z → ∃ m, m < 10 ∧ ro (2 * i) = nI m): Mt X 50 0 0 yX10_year cX10_year 1 (some .int) [.ref 42] (cst S ++ (mw T (ru, ou, we, me, ki, ro, ma) Λ C K H ++ tl)) (fun v w' => ∃ (Λ' : ML) (ou' : Nat → Int32), v = some (.int (yeM τ (mO (ru, ou, we, me, ki, ro, ma)) r z)) ∧ w' = cst S ++ (mw T (ru, ou', we, me, ki, ro, ma) Λ' C K H ++ tl) ∧ mO (ru, ou', we, me, ki, ro, ma) = (if o_ye (mO (ru, ou, we, me, ki, ro, ma)) = 99 then (mO (ru, ou, we, me, ki, ro, ma)) else yrF τ (mO (ru, ou, we, me, ki, ro, ma)) r z)) := by
  refine Mt.of (by decide +kernel) (fun _ _ => Nat.le_of_ble_eq_true rfl) ?_
  show Ex X mX10_year _ _ _ _ _ _ _ _
  refine x_aload_n dX10_year_0 rfl ?_
  refine mg_23 dX10_year_1 ?_
  refine x_iconst 0 dX10_year_4 ?_
  refine maK_46 0 dX10_year_5 rfl (by decide) ?_
  refine x_bipush 99 dX10_year_6 ?_
  refine x_icmp_ne 14 dX10_year_8 (fun h_8 => ?_) (fun h_8 => ?_)
  · refine x_aload_n dX10_year_14 rfl ?_
    refine x_aload_n dX10_year_15 rfl ?_
    refine ii_X10_369 dX10_year_16 (c_X10_paysAll hz hz6) mw_o (by decide) (Nat.le_of_ble_eq_true rfl) ?_
    refine iv_X10_372 dX10_year_19 (c_X10_passes hX hru hz hz6 hnu) mw_o (by decide) (Nat.le_of_ble_eq_true rfl) (fun v_19 w_19 hw_19 => ?_)
    obtain ⟨Λ1, rfl, rfl⟩ := hw_19
    refine x_aload_n dX10_year_22 rfl ?_
    refine mg_23 dX10_year_23 ?_
    refine x_iconst 2 dX10_year_26 ?_
    refine maK_46 2 dX10_year_27 rfl (by decide) ?_
    have e := oyr_mO ru ou we me ki ro ma (sumI (o_pr (mO (ru, ou, we, me, ki, ro, ma))) z) (duF τ (mO (ru, ou, we, me, ki, ro, ma)) r z)
    exact Ex.ret (v := some (.int _)) ⟨dX10_year_28, _, rfl, by first | rfl | decide⟩ ⟨_, _, congrArg (fun z => some (Value.int z)) (by unfold yeM; rw [if_neg (show ¬ o_ye (mO (ru, ou, we, me, ki, ro, ma)) = 99 from h_8)]; exact congrArg o_pu e), rfl, by rw [if_neg (show ¬ o_ye (mO (ru, ou, we, me, ki, ro, ma)) = 99 from h_8)]; exact e⟩
  · refine x_ldc dX10_year_11 kk_X10_104 ?_
    exact Ex.ret (v := some (.int _)) ⟨dX10_year_13, _, rfl, by first | rfl | decide⟩ ⟨_, ou, congrArg (fun z => some (Value.int z)) (by unfold yeM; rw [if_pos (show o_ye (mO (ru, ou, we, me, ki, ro, ma)) = 99 from h_8)]), rfl, (if_pos (show o_ye (mO (ru, ou, we, me, ki, ro, ma)) = 99 from h_8)).symm⟩
set_option maxRecDepth 100000 in
set_option maxHeartbeats 4000000 in
theorem c_X10_right {X : Nat × (Nat → Int32)} {S : CS} {tl : pc_W} {T : MT} {ru : Int32} {ou : (Nat → Int32)} {we : (Nat → Int32)} {me : Int32} {ki : (Nat → Int32)} {ro : (Nat → Int32)} {ma : Int32} {Λ : ML} {C : MC} {K : MK} {H : MH} {τ : TV} {r z : Nat} {x : Int32} (hX : TXm τ T.1 T.2.1 r) (hru : ru = nI r) (hz : ma = nI z) (hz6 : z ≤ 6): Mt X 46 0 0 yX10_right cX10_right 3 (some .int) [.ref 42, .int x] (cst S ++ (mw T (ru, ou, we, me, ki, ro, ma) Λ C K H ++ tl)) (fun v w' => ∃ (Λ' : ML) (ou' : Nat → Int32) (me' : Int32), v = some (.int (riF τ (mO (ru, ou, we, me, ki, ro, ma)) r z x)) ∧ w' = cst S ++ (mw T (ru, ou', we, me', ki, ro, ma) Λ' C K H ++ tl) ∧ mO (ru, ou', we, me', ki, ro, ma) = riO τ (mO (ru, ou, we, me, ki, ro, ma)) r z x) := by
  refine Mt.of (by decide +kernel) (fun _ _ => Nat.le_of_ble_eq_true rfl) ?_
  show Ex X mX10_right _ _ _ _ _ _ _ _
  refine x_iload_n dX10_right_0 rfl ?_
  refine ii_X10_82 dX10_right_1 c_X10_isHour (by decide) (Nat.le_of_ble_eq_true rfl) ?_
  refine x_if_ne 10 dX10_right_4 (fun h_4 => ?_) (fun h_4 => ?_)
  · refine x_aload_n dX10_right_10 rfl ?_
    refine mg_113 dX10_right_11 ?_
    refine x_iload_n dX10_right_14 rfl ?_
    refine x_ishr dX10_right_15 ?_
    refine x_iconst 1 dX10_right_16 ?_
    refine x_iand dX10_right_17 ?_
    refine x_iconst 1 dX10_right_18 ?_
    refine x_icmp_ne 25 dX10_right_19 (fun h_19 => ?_) (fun h_19 => ?_)
    · have hx8 := bi1.mp h_4
      have hm1 : ¬ o_mAt (mO (ru, ou, we, me, ki, ro, ma)) x = 1 := h_19
      obtain ⟨h, hh, rfl⟩ := nat_of hx8.1 (show x < nI 8 from hx8.2) (by omega)
      have hcl : (nI h).toNatClampNeg = h := nI_clamp (by omega)
      refine x_aload_n dX10_right_25 rfl ?_
      refine x_iload_n dX10_right_26 rfl ?_
      refine iv_X10_148 dX10_right_27 (c_X10_costOf hX hru hz hz6 hh) mw_o (by decide) (Nat.le_of_ble_eq_true rfl) (fun v_27 w_27 hw_27 => ?_)
      obtain ⟨Λ1, rfl, rfl⟩ := hw_27
      refine x_istore_n dX10_right_30 (by decide) ?_
      refine x_aload_n dX10_right_31 rfl ?_
      refine mg_23 dX10_right_32 ?_
      refine x_iconst 2 dX10_right_35 ?_
      refine x_aload_n dX10_right_36 rfl ?_
      refine mg_23 dX10_right_37 ?_
      refine x_iconst 2 dX10_right_40 ?_
      refine maK_46 2 dX10_right_41 rfl (by decide) ?_
      refine x_iload_n dX10_right_42 rfl ?_
      refine x_isub dX10_right_43 ?_
      refine x_ldc dX10_right_44 kk_X10_89 ?_
      refine x_ldc dX10_right_46 kk_X10_90 ?_
      refine ii_X10_359 dX10_right_48 c_X10_within (by decide) (Nat.le_of_ble_eq_true rfl) ?_
      refine msK_46 2 dX10_right_51 rfl (by decide) ?_
      refine x_aload_n dX10_right_52 rfl ?_
      refine x_dup dX10_right_53 ?_
      refine mg_113 dX10_right_54 ?_
      refine x_iconst 1 dX10_right_57 ?_
      refine x_iload_n dX10_right_58 rfl ?_
      refine x_ishl dX10_right_59 ?_
      refine x_ior dX10_right_60 ?_
      refine mp_113 dX10_right_61 ?_
      refine x_iload_n dX10_right_64 rfl ?_
      exact Ex.ret (v := some (.int _)) ⟨dX10_right_65, _, rfl, by first | rfl | decide⟩ ⟨_, _, _, congrArg (fun z => some (Value.int z)) (by unfold riF; rw [if_pos hx8, if_neg hm1, hcl]), rfl, by
          unfold riO rtO
          rw [if_pos ⟨hx8, hm1⟩, hcl]
          show _ = (we, _, ou 0, ou 1, clp (-99999) (ou 2 + -(coF τ (mO (ru, ou, we, me, ki, ro, ma)) r z h)) 99999, ru, ma, ki, _, _)
          rw [← sub_neg]
          rfl⟩
    · refine x_bipush (-3) dX10_right_22 ?_
      exact Ex.ret (v := some (.int _)) ⟨dX10_right_24, _, rfl, by first | rfl | decide⟩ ⟨_, ou, me, congrArg (fun z => some (Value.int z)) (by unfold riF; rw [if_pos (bi1.mp h_4), if_pos (show o_mAt (mO (ru, ou, we, me, ki, ro, ma)) x = 1 from h_19)]), rfl, by unfold riO; rw [if_neg (fun q => q.2 (show o_mAt (mO (ru, ou, we, me, ki, ro, ma)) x = 1 from h_19))]⟩
  · refine x_bipush (-2) dX10_right_7 ?_
    exact Ex.ret (v := some (.int _)) ⟨dX10_right_9, _, rfl, by first | rfl | decide⟩ ⟨_, ou, me, congrArg (fun z => some (Value.int z)) (by unfold riF; rw [if_neg (bi0.mp h_4)]), rfl, by unfold riO; rw [if_neg (fun q => bi0.mp h_4 q.1)]⟩
set_option maxRecDepth 100000 in
set_option maxHeartbeats 4000000 in
theorem c_X10_run {X : Nat × (Nat → Int32)} {S : CS} {tl : pc_W} {T : MT} {ru : Int32} {ou : (Nat → Int32)} {we : (Nat → Int32)} {me : Int32} {ki : (Nat → Int32)} {ro : (Nat → Int32)} {ma : Int32} {Λ : ML} {C : MC} {K : MK} {H : MH} {τ : TV} {r z : Nat} {n what : Int32} (hX : TXm τ T.1 T.2.1 r) (hru : ru = nI r) (hz : ma = nI z) (hz6 : z ≤ 6) (hnu : ∀ i, i < z → ∃ m, m < 10 ∧ ro (2 * i) = nI m): Mt X 50 0 0 yX10_run cX10_run 7 (some .int) [.ref 42, .int n, .int what] (cst S ++ (mw T (ru, ou, we, me, ki, ro, ma) Λ C K H ++ tl)) (fun v w' => ∃ (Λ' : ML), v = some (.int (ruF τ r z (mO (ru, ou, we, me, ki, ro, ma)) n what)) ∧ w' = cst S ++ (mw T (ru, ou, we, me, ki, ro, ma) Λ' C K H ++ tl)) := by
  refine Mt.of (by decide +kernel) (fun _ _ => Nat.le_of_ble_eq_true rfl) ?_
  show Ex X mX10_run _ _ _ _ _ _ _ _
  obtain ⟨x0, hx0⟩ : ∃ x0, x0 = ruF τ r z (mO (ru, ou, we, me, ki, ro, ma)) n what := ⟨_, rfl⟩
  rw [← hx0]
  refine x_iload_n dX10_run_0 rfl ?_
  refine x_i2l dX10_run_1 ?_
  refine x_lconst 0 dX10_run_2 ?_
  refine x_ldc2_w dX10_run_3 kk_X10_376 ?_
  refine ii_X10_76 dX10_run_6 (c_X10_inC (a := 0) (b := 40) (by first | rfl | decide) (by first | rfl | decide)) (by decide) (Nat.le_of_ble_eq_true rfl) ?_
  refine x_if_eq 24 dX10_run_9 (fun h_9 => ?_) (fun h_9 => ?_)
  · refine x_ldc dX10_run_24 kk_X10_104 ?_
    exact Ex.ret (v := some (.int _)) ⟨dX10_run_26, _, rfl, by first | rfl | decide⟩ ⟨_, congrArg (fun z => some (Value.int z)) (by rw [hx0]; unfold ruF; rw [if_neg (fun q => bi0.mp h_9 q.1)]), rfl⟩
  · refine x_iload_n dX10_run_12 rfl ?_
    refine x_i2l dX10_run_13 ?_
    refine x_lconst 0 dX10_run_14 ?_
    refine x_ldc2_w dX10_run_15 kk_X10_378 ?_
    refine ii_X10_76 dX10_run_18 (c_X10_inC (a := 0) (b := 2) (by first | rfl | decide) (by first | rfl | decide)) (by decide) (Nat.le_of_ble_eq_true rfl) ?_
    refine x_if_ne 27 dX10_run_21 (fun h_21 => ?_) (fun h_21 => ?_)
    · have hn40 := bi1.mp h_9
      obtain ⟨n, hn, rfl⟩ := nat_of hn40.1 (show n < nI 41 from Int32.lt_of_le_of_lt hn40.2 (by decide)) (by omega)
      have hcl : (nI n).toNatClampNeg = n := nI_clamp (by omega)
      refine x_aload_n dX10_run_27 rfl ?_
      refine mg_23 dX10_run_28 ?_
      refine x_iconst 0 dX10_run_31 ?_
      refine maK_46 0 dX10_run_32 rfl (by decide) ?_
      refine x_istore_n dX10_run_33 (by decide) ?_
      refine x_aload_n dX10_run_34 rfl ?_
      refine mg_23 dX10_run_35 ?_
      refine x_iconst 2 dX10_run_38 ?_
      refine maK_46 2 dX10_run_39 rfl (by decide) ?_
      refine x_istore dX10_run_40 (by decide) ?_
      refine x_iconst (-1) dX10_run_42 ?_
      refine x_istore dX10_run_43 (by decide) ?_
      refine x_iconst 0 dX10_run_45 ?_
      refine x_istore dX10_run_46 (by decide) ?_
      refine for_up (P := fun i => ∀ Λ : ML, Ex X mX10_run 50 (fun v w' => ∃ (Λ' : ML), v = some (.int (x0)) ∧ w' = cst S ++ (mw T (ru, ou, we, me, ki, ro, ma) Λ' C K H ++ tl)) 0 0 48 [some (.ref 42), some (.int (nI n)), some (.int what), some (.int (ou 0)), some (.int (ou 2)), some (.int (rnB τ r z (mO (ru, ou, we, me, ki, ro, ma)) i)), some (.int (nI i))] [] (cst S ++ (mw T (ru, (orn τ (ru, ou, we, me, ki, ro, ma) r z i), we, me, ki, ro, ma) Λ C K H ++ tl))) (n) ?_ (fun i hi ih => ?_) (0) (Nat.zero_le _) Λ
      · intro Λ
        refine x_iload dX10_run_48 rfl ?_
        refine x_iload_n dX10_run_50 rfl ?_
        refine x_icmp_ge 92 dX10_run_51 (fun _ => ?_) (fun hx => absurd (Int32.le_refl _) hx)
        refine x_iload_n dX10_run_92 rfl ?_
        refine x_if_ne 105 dX10_run_93 (fun h_93 => ?_) (fun h_93 => ?_)
        · refine x_iload_n dX10_run_105 rfl ?_
          refine x_iconst 1 dX10_run_106 ?_
          refine x_icmp_ne 117 dX10_run_107 (fun h_107 => ?_) (fun h_107 => ?_)
          · refine x_iload dX10_run_117 rfl ?_
            refine x_istore dX10_run_119 (by decide) ?_
            refine x_aload_n dX10_run_121 rfl ?_
            refine mg_23 dX10_run_122 ?_
            refine x_iconst 0 dX10_run_125 ?_
            refine x_iload_n dX10_run_126 rfl ?_
            refine msK_46 0 dX10_run_127 rfl (by decide) ?_
            refine x_aload_n dX10_run_128 rfl ?_
            refine mg_23 dX10_run_129 ?_
            refine x_iconst 2 dX10_run_132 ?_
            refine x_iload dX10_run_133 rfl ?_
            refine msK_46 2 dX10_run_135 rfl (by decide) ?_
            refine x_iload dX10_run_136 rfl ?_
            have eou := ou_back (f := (orn τ (ru, ou, we, me, ki, ro, ma) r z n)) (g := ou) (fun j h0 h2 => orn_o τ (ru, ou, we, me, ki, ro, ma) r z h0 h2 n)
            exact Ex.ret (v := some (.int _)) ⟨dX10_run_138, _, rfl, by first | rfl | decide⟩ ⟨_, congrArg (fun z => some (Value.int z)) (by rw [hx0]; unfold ruF; rw [if_pos ⟨hn40, bi1.mp h_21⟩, if_neg h_93, if_neg h_107, hcl]), by rw [eou]⟩
          · refine x_aload_n dX10_run_110 rfl ?_
            refine iv_X10_380 dX10_run_111 (c_X10_hazyMany (ou := (orn τ (ru, ou, we, me, ki, ro, ma) r z n)) hX hru hz hz6) mw_o (by decide) (Nat.le_of_ble_eq_true rfl) (fun v_111 w_111 hw_111 => ?_)
            obtain ⟨Λ2, rfl, rfl⟩ := hw_111
            refine x_goto 119 dX10_run_114 ?_
            refine x_istore dX10_run_119 (by decide) ?_
            refine x_aload_n dX10_run_121 rfl ?_
            refine mg_23 dX10_run_122 ?_
            refine x_iconst 0 dX10_run_125 ?_
            refine x_iload_n dX10_run_126 rfl ?_
            refine msK_46 0 dX10_run_127 rfl (by decide) ?_
            refine x_aload_n dX10_run_128 rfl ?_
            refine mg_23 dX10_run_129 ?_
            refine x_iconst 2 dX10_run_132 ?_
            refine x_iload dX10_run_133 rfl ?_
            refine msK_46 2 dX10_run_135 rfl (by decide) ?_
            refine x_iload dX10_run_136 rfl ?_
            have eou := ou_back (f := (orn τ (ru, ou, we, me, ki, ro, ma) r z n)) (g := ou) (fun j h0 h2 => orn_o τ (ru, ou, we, me, ki, ro, ma) r z h0 h2 n)
            exact Ex.ret (v := some (.int _)) ⟨dX10_run_138, _, rfl, by first | rfl | decide⟩ ⟨_, congrArg (fun z => some (Value.int z)) (by rw [hx0]; unfold ruF; rw [if_pos ⟨hn40, bi1.mp h_21⟩, if_neg h_93, if_pos h_107, hcl]; rw [← orn_mO]), by rw [eou]⟩
        · refine x_aload_n dX10_run_96 rfl ?_
          refine mg_23 dX10_run_97 ?_
          refine x_iconst 2 dX10_run_100 ?_
          refine maK_46 2 dX10_run_101 rfl (by decide) ?_
          refine x_goto 119 dX10_run_102 ?_
          refine x_istore dX10_run_119 (by decide) ?_
          refine x_aload_n dX10_run_121 rfl ?_
          refine mg_23 dX10_run_122 ?_
          refine x_iconst 0 dX10_run_125 ?_
          refine x_iload_n dX10_run_126 rfl ?_
          refine msK_46 0 dX10_run_127 rfl (by decide) ?_
          refine x_aload_n dX10_run_128 rfl ?_
          refine mg_23 dX10_run_129 ?_
          refine x_iconst 2 dX10_run_132 ?_
          refine x_iload dX10_run_133 rfl ?_
          refine msK_46 2 dX10_run_135 rfl (by decide) ?_
          refine x_iload dX10_run_136 rfl ?_
          have eou := ou_back (f := (orn τ (ru, ou, we, me, ki, ro, ma) r z n)) (g := ou) (fun j h0 h2 => orn_o τ (ru, ou, we, me, ki, ro, ma) r z h0 h2 n)
          exact Ex.ret (v := some (.int _)) ⟨dX10_run_138, _, rfl, by first | rfl | decide⟩ ⟨_, congrArg (fun z => some (Value.int z)) (by rw [hx0]; unfold ruF; rw [if_pos ⟨hn40, bi1.mp h_21⟩, if_pos h_93, hcl]; rw [← orn_mO]; rfl), by rw [eou]⟩
      · intro Λ
        refine x_iload dX10_run_48 rfl ?_
        refine x_iload_n dX10_run_50 rfl ?_
        refine x_icmp_ge 92 dX10_run_51 (fun hx => absurd hx (nI_ge hi (by omega))) (fun _ => ?_)
        refine x_aload_n dX10_run_54 rfl ?_
        refine x_aload_n dX10_run_55 rfl ?_
        refine ii_X10_369 dX10_run_56 (c_X10_paysAll (ou := (orn τ (ru, ou, we, me, ki, ro, ma) r z i)) hz hz6) mw_o (by decide) (Nat.le_of_ble_eq_true rfl) ?_
        refine iv_X10_372 dX10_run_59 (c_X10_passes (ou := (orn τ (ru, ou, we, me, ki, ro, ma) r z i)) hX hru hz hz6 hnu) mw_o (by decide) (Nat.le_of_ble_eq_true rfl) (fun v_59 w_59 hw_59 => ?_)
        obtain ⟨Λ1, rfl, rfl⟩ := hw_59
        refine x_iload dX10_run_62 rfl ?_
        refine x_iconst (-1) dX10_run_64 ?_
        refine x_icmp_ne 82 dX10_run_65 (fun h_65 => ?_) (fun h_65 => ?_)
        · refine x_iload dX10_run_82 rfl ?_
          refine x_istore dX10_run_84 (by decide) ?_
          refine x_iincN dX10_run_86 rfl (by decide) ?_
          refine x_goto 48 dX10_run_89 ?_
          refine Ex.forget (L' := [some (.ref 42), some (.int (nI n)), some (.int what), some (.int (ou 0)), some (.int (ou 2)), some (.int (rnB τ r z (mO (ru, ou, we, me, ki, ro, ma)) (i + 1))), some (.int (nI (i + 1)))]) ⟨rfl, rfl, rfl, rfl, rfl, by rw [rnB, if_neg (fun q => h_65 q.2)] <;> rfl, rfl, trivial⟩ ?_
          exact ih _
        · refine x_aload_n dX10_run_68 rfl ?_
          refine mg_23 dX10_run_69 ?_
          refine x_iconst 2 dX10_run_72 ?_
          refine maK_46 2 dX10_run_73 rfl (by decide) ?_
          refine x_if_ge 82 dX10_run_74 (fun h_74 => ?_) (fun h_74 => ?_)
          · refine x_iload dX10_run_82 rfl ?_
            refine x_istore dX10_run_84 (by decide) ?_
            refine x_iincN dX10_run_86 rfl (by decide) ?_
            refine x_goto 48 dX10_run_89 ?_
            have hp2 : ¬ o_pu (rnT τ r z (mO (ru, ou, we, me, ki, ro, ma)) (i + 1)) < 0 := by rw [← orn_mO]; exact Int32.not_lt.mpr h_74
            refine Ex.forget (L' := [some (.ref 42), some (.int (nI n)), some (.int what), some (.int (ou 0)), some (.int (ou 2)), some (.int (rnB τ r z (mO (ru, ou, we, me, ki, ro, ma)) (i + 1))), some (.int (nI (i + 1)))]) ⟨rfl, rfl, rfl, rfl, rfl, by rw [rnB, if_neg (fun q => hp2 q.1)] <;> rfl, rfl, trivial⟩ ?_
            exact ih _
          · refine x_iload dX10_run_77 rfl ?_
            refine x_goto 84 dX10_run_79 ?_
            refine x_istore dX10_run_84 (by decide) ?_
            refine x_iincN dX10_run_86 rfl (by decide) ?_
            refine x_goto 48 dX10_run_89 ?_
            have hp2 : o_pu (rnT τ r z (mO (ru, ou, we, me, ki, ro, ma)) (i + 1)) < 0 := by rw [← orn_mO]; exact Int32.not_le.mp h_74
            refine Ex.forget (L' := [some (.ref 42), some (.int (nI n)), some (.int what), some (.int (ou 0)), some (.int (ou 2)), some (.int (rnB τ r z (mO (ru, ou, we, me, ki, ro, ma)) (i + 1))), some (.int (nI (i + 1)))]) ⟨rfl, rfl, rfl, rfl, rfl, by rw [rnB, if_pos ⟨hp2, h_65⟩] <;> rfl, rfl, trivial⟩ ?_
            exact ih _
    · refine x_ldc dX10_run_24 kk_X10_104 ?_
      exact Ex.ret (v := some (.int _)) ⟨dX10_run_26, _, rfl, by first | rfl | decide⟩ ⟨_, congrArg (fun z => some (Value.int z)) (by rw [hx0]; unfold ruF; rw [if_neg (fun q => bi0.mp h_21 q.2)]), rfl⟩
set_option maxRecDepth 100000 in
set_option maxHeartbeats 4000000 in
theorem c_X10_haze {X : Nat × (Nat → Int32)} {S : CS} {tl : pc_W} {T : MT} {ru : Int32} {ou : (Nat → Int32)} {we : (Nat → Int32)} {me : Int32} {ki : (Nat → Int32)} {ro : (Nat → Int32)} {ma : Int32} {Λ : ML} {C : MC} {K : MK} {H : MH} {τ : TV} {r z : Nat} {one : Int32} (hX : TXm τ T.1 T.2.1 r) (hru : ru = nI r) (hz : ma = nI z) (hz6 : z ≤ 6): Mt X 47 0 0 yX10_haze cX10_haze 4 (some .int) [.ref 42, .int one] (cst S ++ (mw T (ru, ou, we, me, ki, ro, ma) Λ C K H ++ tl)) (fun v w' => ∃ (Λ' : ML), v = some (.int (hyA τ (mO (ru, ou, we, me, ki, ro, ma)) (ou 0) r z one)) ∧ w' = cst S ++ (mw T (ru, ou, we, me, ki, ro, ma) Λ' C K H ++ tl)) := by
  refine Mt.of (by decide +kernel) (fun _ _ => Nat.le_of_ble_eq_true rfl) ?_
  show Ex X mX10_haze _ _ _ _ _ _ _ _
  obtain ⟨x0, hx0⟩ : ∃ x0, x0 = hyA τ (mO (ru, ou, we, me, ki, ro, ma)) (ou 0) r z one := ⟨_, rfl⟩
  rw [← hx0]
  refine x_aload_n dX10_haze_0 rfl ?_
  refine x_iload_n dX10_haze_1 rfl ?_
  refine ii_X10_86 dX10_haze_2 (c_X10_isOne hz hz6) mw_o (by decide) (Nat.le_of_ble_eq_true rfl) ?_
  refine x_if_ne 11 dX10_haze_5 (fun h_5 => ?_) (fun h_5 => ?_)
  · have ho := bi1.mp h_5
    obtain ⟨p, hpz, rfl⟩ := nat_of ho.1 ho.2 (by omega)
    have hp : p < 6 := by omega
    have hxp : hyF τ (mO (ru, ou, we, me, ki, ro, ma)) (ou 0) r p (41 - 0) 0 = x0 := by rw [hx0]; unfold hyA; rw [if_pos ho, nI_clamp (by omega)]
    refine x_aload_n dX10_haze_11 rfl ?_
    refine mg_23 dX10_haze_12 ?_
    refine x_iconst 0 dX10_haze_15 ?_
    refine maK_46 0 dX10_haze_16 rfl (by decide) ?_
    refine x_istore_n dX10_haze_17 (by decide) ?_
    refine x_iconst 0 dX10_haze_18 ?_
    refine x_istore_n dX10_haze_19 (by decide) ?_
    refine Ex.eqW (w' := (cst S ++ (mw T (ru, (hou ou 0), we, me, ki, ro, ma) Λ C K H ++ tl))) (by rw [hou_0]) ?_
    refine for_up (P := fun i => hyF τ (mO (ru, ou, we, me, ki, ro, ma)) (ou 0) r p (41 - i) i = x0 → ∀ Λ : ML, Ex X mX10_haze 47 (fun v w' => ∃ (Λ' : ML), v = some (.int (x0)) ∧ w' = cst S ++ (mw T (ru, ou, we, me, ki, ro, ma) Λ' C K H ++ tl)) 0 0 20 [some (.ref 42), some (.int (nI p)), some (.int (ou 0)), some (.int (nI i))] [] (cst S ++ (mw T (ru, (hou ou i), we, me, ki, ro, ma) Λ C K H ++ tl))) (41) ?_ (fun i hi ih => ?_) (0) (by decide) hxp Λ
    · intro hx Λ
      refine x_iload_n dX10_haze_20 rfl ?_
      refine x_bipush 40 dX10_haze_21 ?_
      refine x_icmp_gt 50 dX10_haze_23 (fun _ => ?_) (fun hx => absurd (by decide) hx)
      refine x_aload_n dX10_haze_50 rfl ?_
      refine mg_23 dX10_haze_51 ?_
      refine x_iconst 0 dX10_haze_54 ?_
      refine x_iload_n dX10_haze_55 rfl ?_
      refine msK_46 0 dX10_haze_56 rfl (by decide) ?_
      refine x_iload_n dX10_haze_57 rfl ?_
      refine x_bipush 40 dX10_haze_58 ?_
      refine x_icmp_le 67 dX10_haze_60 (fun hx => absurd hx (by decide)) (fun _ => ?_)
      refine x_iconst (-1) dX10_haze_63 ?_
      refine x_goto 68 dX10_haze_64 ?_
      exact Ex.ret (v := some (.int _)) ⟨dX10_haze_68, _, rfl, by first | rfl | decide⟩ ⟨_, congrArg (fun z => some (Value.int z)) (hx), by rw [show upd (hou ou 41) 0 (ou 0) = ou from hou_r ou 41]⟩
    · intro hx Λ
      rw [show 41 - i = (41 - (i + 1)) + 1 by omega, hyF] at hx
      refine x_iload_n dX10_haze_20 rfl ?_
      refine x_bipush 40 dX10_haze_21 ?_
      refine x_icmp_gt 50 dX10_haze_23 (fun hx => absurd hx (nI_nlt (a := 40) (b := i) (by omega) (by decide))) (fun _ => ?_)
      refine x_aload_n dX10_haze_26 rfl ?_
      refine x_iload_n dX10_haze_27 rfl ?_
      refine iv_X10_142 dX10_haze_28 (c_X10_isHazy (ou := hou ou i) hX hru hp) mw_o (by decide) (Nat.le_of_ble_eq_true rfl) (fun v_28 w_28 hw_28 => ?_)
      obtain ⟨Λ1, rfl, rfl⟩ := hw_28
      refine x_if_ne 50 dX10_haze_31 (fun h_31 => ?_) (fun h_31 => ?_)
      · refine x_aload_n dX10_haze_50 rfl ?_
        refine mg_23 dX10_haze_51 ?_
        refine x_iconst 0 dX10_haze_54 ?_
        refine x_iload_n dX10_haze_55 rfl ?_
        refine msK_46 0 dX10_haze_56 rfl (by decide) ?_
        refine x_iload_n dX10_haze_57 rfl ?_
        refine x_bipush 40 dX10_haze_58 ?_
        refine x_icmp_le 67 dX10_haze_60 (fun _ => ?_) (fun hx => absurd (nI_le (b := 40) (by omega) (by decide)) hx)
        refine x_iload_n dX10_haze_67 rfl ?_
        exact Ex.ret (v := some (.int _)) ⟨dX10_haze_68, _, rfl, by first | rfl | decide⟩ ⟨_, congrArg (fun z => some (Value.int z)) (by rw [← hx, if_neg (show ¬ hzF τ (uo_ye (mO (ru, ou, we, me, ki, ro, ma)) (ou 0 + nI i)) r p = 0 from h_31)]), by rw [show upd (hou ou i) 0 (ou 0) = ou from hou_r ou i]⟩
      · refine x_aload_n dX10_haze_34 rfl ?_
        refine mg_23 dX10_haze_35 ?_
        refine x_iconst 0 dX10_haze_38 ?_
        refine x_dup2 dX10_haze_39 ?_
        refine maK_46 0 dX10_haze_40 rfl (by decide) ?_
        refine x_iconst 1 dX10_haze_41 ?_
        refine x_iadd dX10_haze_42 ?_
        refine msK_46 0 dX10_haze_43 rfl (by decide) ?_
        refine x_iincN dX10_haze_44 rfl (by decide) ?_
        refine Ex.eqW (w' := (cst S ++ (mw T (ru, (hou ou (i + 1)), we, me, ki, ro, ma) Λ1 C K H ++ tl))) (by rw [← hou_s]) ?_
        refine x_goto 20 dX10_haze_47 ?_
        exact ih (by rw [← hx, if_pos (show hzF τ (uo_ye (mO (ru, ou, we, me, ki, ro, ma)) (ou 0 + nI i)) r p = 0 from h_31)]) _
  · refine x_bipush (-2) dX10_haze_8 ?_
    exact Ex.ret (v := some (.int _)) ⟨dX10_haze_10, _, rfl, by first | rfl | decide⟩ ⟨_, congrArg (fun z => some (Value.int z)) (by rw [hx0]; unfold hyA; rw [if_neg (bi0.mp h_5)]), rfl⟩
set_option maxRecDepth 100000 in
set_option maxHeartbeats 4000000 in
theorem c_X10_hazyDrawn {X : Nat × (Nat → Int32)} {S : CS} {tl : pc_W} {T : MT} {ru : Int32} {ou : (Nat → Int32)} {we : (Nat → Int32)} {me : Int32} {ki : (Nat → Int32)} {ro : (Nat → Int32)} {ma : Int32} {Λ : ML} {K : MK} {H : MH} {τ : TV} {r z : Nat} {co ww : Nat → Int32} {seed : Int32} (hX : TXm τ T.1 T.2.1 r) (hru : ru = nI r) (hz : ma = nI z) (hz6 : z ≤ 6): Mt X 48 0 0 yX10_hazyDrawn cX10_hazyDrawn 5 (some .int) [.ref 42, .int seed] (cst S ++ (mw T (ru, ou, we, me, ki, ro, ma) Λ (co, ww) K H ++ tl)) (fun v w' => ∃ (Λ' : ML) (ww' : Nat → Int32), v = some (.int (hpF τ (mO (ru, ou, (weM seed we 8), me, ki, ro, ma)) r z)) ∧ w' = cst S ++ (mw T (ru, ou, we, me, ki, ro, ma) Λ' (co, ww') K H ++ tl)) := by
  refine Mt.of (by decide +kernel) (fun _ _ => Nat.le_of_ble_eq_true rfl) ?_
  show Ex X mX10_hazyDrawn _ _ _ _ _ _ _ _
  refine x_iload_n dX10_hazyDrawn_0 rfl ?_
  refine x_istore_n dX10_hazyDrawn_1 (by decide) ?_
  refine x_iconst 0 dX10_hazyDrawn_2 ?_
  refine x_istore_n dX10_hazyDrawn_3 (by decide) ?_
  refine Ex.eqW (w' := (cst S ++ (mw T (ru, ou, (weM seed we 0), me, ki, ro, ma) Λ (co, (wwM we ww 0)) K H ++ tl))) (by rw [wwM_0]; rfl) ?_
  refine Ex.forget (L' := [some (.ref 42), some (.int seed), some (.int (zzM seed 0)), some (.int (nI 0)), none]) ⟨rfl, rfl, rfl, rfl, trivial⟩ ?_
  refine for_up (P := fun i => Ex X mX10_hazyDrawn 48 (fun v w' => ∃ (Λ' : ML) (ww' : Nat → Int32), v = some (.int (hpF τ (mO (ru, ou, (weM seed we 8), me, ki, ro, ma)) r z)) ∧ w' = cst S ++ (mw T (ru, ou, we, me, ki, ro, ma) Λ' (co, ww') K H ++ tl)) 0 0 4 [some (.ref 42), some (.int seed), some (.int (zzM seed i)), some (.int (nI i)), none] [] (cst S ++ (mw T (ru, ou, (weM seed we i), me, ki, ro, ma) Λ (co, (wwM we ww i)) K H ++ tl))) (8) ?_ (fun i hi ih => ?_) (0) (by decide)
  · refine x_iload_n dX10_hazyDrawn_4 rfl ?_
    refine x_bipush 8 dX10_hazyDrawn_5 ?_
    refine x_icmp_ge 54 dX10_hazyDrawn_7 (fun _ => ?_) (fun hx => absurd (by decide) hx)
    refine x_aload_n dX10_hazyDrawn_54 rfl ?_
    refine iv_X10_380 dX10_hazyDrawn_55 (c_X10_hazyMany hX hru hz hz6) mw_o (by decide) (Nat.le_of_ble_eq_true rfl) (fun v_55 w_55 hw_55 => ?_)
    obtain ⟨Λ1, rfl, rfl⟩ := hw_55
    refine x_istore_n dX10_hazyDrawn_58 (by decide) ?_
    refine x_iconst 0 dX10_hazyDrawn_59 ?_
    refine x_istore dX10_hazyDrawn_60 (by decide) ?_
    refine Ex.eqW (w' := (cst S ++ (mw T (ru, ou, (wwM we (weM seed we 8) 0), me, ki, ro, ma) Λ1 (co, (wwM we ww 8)) K H ++ tl))) (by rw [wwM_0]) ?_
    refine for_up (P := fun j => Ex X mX10_hazyDrawn 48 (fun v w' => ∃ (Λ' : ML) (ww' : Nat → Int32), v = some (.int (hpF τ (mO (ru, ou, (weM seed we 8), me, ki, ro, ma)) r z)) ∧ w' = cst S ++ (mw T (ru, ou, we, me, ki, ro, ma) Λ' (co, ww') K H ++ tl)) 0 0 62 [some (.ref 42), some (.int seed), some (.int (zzM seed 8)), some (.int (hpF τ (mO (ru, ou, (weM seed we 8), me, ki, ro, ma)) r z)), some (.int (nI j))] [] (cst S ++ (mw T (ru, ou, (wwM we (weM seed we 8) j), me, ki, ro, ma) Λ1 (co, (wwM we ww 8)) K H ++ tl))) 8 ?_ (fun j hj ih2 => ?_) 0 (by decide)
    · skip
      refine x_iload dX10_hazyDrawn_62 rfl ?_
      refine x_bipush 8 dX10_hazyDrawn_64 ?_
      refine x_icmp_ge 89 dX10_hazyDrawn_66 (fun _ => ?_) (fun hx => absurd (by decide) hx)
      refine x_iload_n dX10_hazyDrawn_89 rfl ?_
      exact Ex.ret (v := some (.int _)) ⟨dX10_hazyDrawn_90, _, rfl, by first | rfl | decide⟩ ⟨_, _, rfl, by rw [wbk]⟩
    · skip
      refine x_iload dX10_hazyDrawn_62 rfl ?_
      refine x_bipush 8 dX10_hazyDrawn_64 ?_
      refine x_icmp_ge 89 dX10_hazyDrawn_66 (fun hx => absurd hx (nI_ge hj (by decide))) (fun _ => ?_)
      refine x_aload_n dX10_hazyDrawn_69 rfl ?_
      refine mg_26 dX10_hazyDrawn_70 ?_
      refine x_iload dX10_hazyDrawn_73 rfl ?_
      refine x_aload_n dX10_hazyDrawn_75 rfl ?_
      refine mg_38 dX10_hazyDrawn_76 ?_
      refine x_iload dX10_hazyDrawn_79 rfl ?_
      refine maN_51 dX10_hazyDrawn_81 hj ?_
      refine msN_47 dX10_hazyDrawn_82 hj ?_
      refine x_iincN dX10_hazyDrawn_83 rfl (by decide) ?_
      refine x_goto 62 dX10_hazyDrawn_86 ?_
      refine Ex.eqW (w' := (cst S ++ (mw T (ru, ou, (wwM we (weM seed we 8) (j + 1)), me, ki, ro, ma) Λ1 (co, (wwM we ww 8)) K H ++ tl))) (by rw [← wwM_s we (weM seed we 8) j, show wwM we ww 8 j = we j from if_pos hj]) ?_
      exact ih2
  · refine x_iload_n dX10_hazyDrawn_4 rfl ?_
    refine x_bipush 8 dX10_hazyDrawn_5 ?_
    refine x_icmp_ge 54 dX10_hazyDrawn_7 (fun hx => absurd hx (nI_ge hi (by decide))) (fun _ => ?_)
    refine x_aload_n dX10_hazyDrawn_10 rfl ?_
    refine mg_38 dX10_hazyDrawn_11 ?_
    refine x_iload_n dX10_hazyDrawn_14 rfl ?_
    refine x_aload_n dX10_hazyDrawn_15 rfl ?_
    refine mg_26 dX10_hazyDrawn_16 ?_
    refine x_iload_n dX10_hazyDrawn_19 rfl ?_
    refine maN_47 dX10_hazyDrawn_20 hi ?_
    refine msN_51 dX10_hazyDrawn_21 hi ?_
    refine x_iload_n dX10_hazyDrawn_22 rfl ?_
    refine x_ldc_w dX10_hazyDrawn_23 kk_X10_418 ?_
    refine x_imul dX10_hazyDrawn_26 ?_
    refine x_sipush 12345 dX10_hazyDrawn_27 ?_
    refine x_iadd dX10_hazyDrawn_30 ?_
    refine x_istore_n dX10_hazyDrawn_31 (by decide) ?_
    refine x_aload_n dX10_hazyDrawn_32 rfl ?_
    refine mg_26 dX10_hazyDrawn_33 ?_
    refine x_iload_n dX10_hazyDrawn_36 rfl ?_
    refine x_iload_n dX10_hazyDrawn_37 rfl ?_
    refine x_bipush 9 dX10_hazyDrawn_38 ?_
    refine x_iushr dX10_hazyDrawn_40 ?_
    refine x_bipush 19 dX10_hazyDrawn_41 ?_
    refine x_irem dX10_hazyDrawn_43 (by decide) ?_
    refine x_bipush 9 dX10_hazyDrawn_44 ?_
    refine x_isub dX10_hazyDrawn_46 ?_
    refine msN_47 dX10_hazyDrawn_47 hi ?_
    refine x_iincN dX10_hazyDrawn_48 rfl (by decide) ?_
    refine x_goto 4 dX10_hazyDrawn_51 ?_
    refine Ex.eqW (w' := (cst S ++ (mw T (ru, ou, (weM seed we (i + 1)), me, ki, ro, ma) Λ (co, (wwM we ww (i + 1))) K H ++ tl))) (by rw [← wwM_s we ww i, weM_o seed we i i (Nat.le_refl _)]; rfl) ?_
    exact ih
set_option maxRecDepth 100000 in
set_option maxHeartbeats 4000000 in
theorem c_X10_drawn {X : Nat × (Nat → Int32)} {S : CS} {tl : pc_W} {T : MT} {ru : Int32} {ou : (Nat → Int32)} {we : (Nat → Int32)} {me : Int32} {ki : (Nat → Int32)} {ro : (Nat → Int32)} {ma : Int32} {Λ : ML} {K : MK} {H : MH} {τ : TV} {r z : Nat} {co ww : Nat → Int32} {seed : Int32} (hX : TXm τ T.1 T.2.1 r) (hru : ru = nI r) (hz : ma = nI z) (hz6 : z ≤ 6): Mt X 49 0 0 yX10_drawn cX10_drawn 2 (some .int) [.ref 42, .int seed] (cst S ++ (mw T (ru, ou, we, me, ki, ro, ma) Λ (co, ww) K H ++ tl)) (fun v w' => ∃ (Λ' : ML) (ww' : Nat → Int32), v = some (.int (hpF τ (mO (ru, ou, (weM seed we 8), me, ki, ro, ma)) r z)) ∧ w' = cst S ++ (mw T (ru, ou, we, me, ki, ro, ma) Λ' (co, ww') K H ++ tl)) := by
  refine Mt.of (by decide +kernel) (fun _ _ => Nat.le_of_ble_eq_true rfl) ?_
  show Ex X mX10_drawn _ _ _ _ _ _ _ _
  refine x_aload_n dX10_drawn_0 rfl ?_
  refine x_iload_n dX10_drawn_1 rfl ?_
  refine iv_X10_419 dX10_drawn_2 (c_X10_hazyDrawn hX hru hz hz6) mw_o (by decide) (Nat.le_of_ble_eq_true rfl) (fun v_2 w_2 hw_2 => ?_)
  obtain ⟨Λ1, ww1, rfl, rfl⟩ := hw_2
  exact Ex.ret (v := some (.int _)) ⟨dX10_drawn_5, _, rfl, by first | rfl | decide⟩ ⟨_, _, rfl, rfl⟩
