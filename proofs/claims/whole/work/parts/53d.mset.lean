theorem ro_nu (ro : Nat → Int32) (p : Nat) (v : Int32) : (fun i => upd ro (2 * p) v (2 * i)) = upd (fun i => ro (2 * i)) p v := by
  funext i
  by_cases h : i = p
  · rw [h, pk_us, pk_us]
  · rw [pk_un (by omega), pk_un h]
theorem ro_nu1 (ro : Nat → Int32) (p : Nat) (v : Int32) : (fun i => upd ro (2 * p + 1) v (2 * i)) = fun i => ro (2 * i) := by
  funext i
  rw [pk_un (by omega)]
theorem ro_pr (ro : Nat → Int32) (p : Nat) (v : Int32) : (fun i => upd ro (2 * p + 1) v (2 * i + 1)) = upd (fun i => ro (2 * i + 1)) p v := by
  funext i
  by_cases h : i = p
  · rw [h, pk_us, pk_us]
  · rw [pk_un (by omega), pk_un h]
theorem ro_pr0 (ro : Nat → Int32) (p : Nat) (v : Int32) : (fun i => upd ro (2 * p) v (2 * i + 1)) = fun i => ro (2 * i + 1) := by
  funext i
  rw [pk_un (by omega)]
theorem tb_at : ∀ k, k < 7 → tabLow (nI k).toNatClampNeg = leF (nI k) ∧ tabHigh (nI k).toNatClampNeg = hiF (nI k) := by decide +kernel
theorem pl_06 {z : Nat} {what of : Int32} (h : isPl z what of) : 0 ≤ what ∧ what ≤ 6 := by
  rcases h with (q | q | q) | ⟨q | q, -⟩ | ⟨q | q, -⟩ <;> (rw [q]; decide)
theorem pl_of {z : Nat} {what of : Int32} (h : isPl z what of) : ofP z what of := by
  rcases h with (q | q | q) | ⟨q | q, h⟩ | ⟨q | q, h⟩
  · exact Or.inl (by rw [q]; decide)
  · exact Or.inl (by rw [q]; decide)
  · exact Or.inl (by rw [q]; decide)
  · exact (of_h (Or.inl q)).mpr h
  · exact (of_h (Or.inr (Or.inl q))).mpr h
  · exact (of_p (by rw [q]; decide) (by rw [q]; decide)).mpr h
  · exact (of_p (by rw [q]; decide) (by rw [q]; decide)).mpr h
theorem se_lh {z : Nat} {what of v : Int32} (h : seC z what of v) : leF what ≤ v ∧ v ≤ hiF what := by
  obtain ⟨h1, h2, h3⟩ := h
  have e : tabLow what.toNatClampNeg = leF what ∧ tabHigh what.toNatClampNeg = hiF what := by
    rcases le6 (pl_06 h1) with q | q | q | q | q | q | q <;> (rw [q]; decide)
  rw [e.1] at h2
  rw [e.2] at h3
  exact ⟨h2, h3⟩
set_option maxRecDepth 100000 in
set_option maxHeartbeats 4000000 in
theorem c_X10_set {X : Nat × (Nat → Int32)} {S : CS} {tl : pc_W} {T : MT} {ru : Int32} {ou : (Nat → Int32)} {we : (Nat → Int32)} {me : Int32} {ki : (Nat → Int32)} {ro : (Nat → Int32)} {ma : Int32} {Λ : ML} {C : MC} {K : MK} {H : MH} {τ : TV} {r z : Nat} {what of v : Int32} (hX : TXm τ T.1 T.2.1 r) (hru : ru = nI r) (hz : ma = nI z) (hz6 : z ≤ 6) (hnu : ∀ i, i < z → ∃ m, m < 10 ∧ ro (2 * i) = nI m): Mt X 49 0 0 yX10_set cX10_set 5 (some .int) [.ref 42, .int what, .int of, .int v] (cst S ++ (mw T (ru, ou, we, me, ki, ro, ma) Λ C K H ++ tl)) (fun w0 w' => ∃ (Λ' : ML) (U' : MU), w0 = some (.int (if seC z what of v then plF (mO (ru, ou, we, me, ki, ro, ma)) what of else -1000000)) ∧ w' = cst S ++ (mw T U' Λ' C K H ++ tl) ∧ mO U' = (if seC z what of v then puF (mO (ru, ou, we, me, ki, ro, ma)) what of v else (mO (ru, ou, we, me, ki, ro, ma)))) := by
  refine Mt.of (by decide +kernel) (fun _ _ => Nat.le_of_ble_eq_true rfl) ?_
  show Ex X mX10_set _ _ _ _ _ _ _ _
  refine x_iload_n dX10_set_0 rfl ?_
  refine x_i2l dX10_set_1 ?_
  refine x_lconst 0 dX10_set_2 ?_
  refine x_ldc2_w dX10_set_3 kk_X10_91 ?_
  refine ii_X10_76 dX10_set_6 (c_X10_inC (a := 0) (b := 6) (by first | rfl | decide) (by first | rfl | decide)) (by decide) (Nat.le_of_ble_eq_true rfl) ?_
  refine x_if_eq 39 dX10_set_9 (fun h_9 => ?_) (fun h_9 => ?_)
  · refine x_ldc dX10_set_39 kk_X10_104 ?_
    have hno : ¬ seC z what of v := fun q => bi0.mp h_9 (pl_06 q.1)
    exact Ex.ret (v := some (.int _)) ⟨dX10_set_41, _, rfl, by first | rfl | decide⟩ ⟨_, (ru, ou, we, me, ki, ro, ma), congrArg (fun z => some (Value.int z)) (by rw [if_neg hno]), rfl, by rw [if_neg hno]⟩
  · refine x_aload_n dX10_set_12 rfl ?_
    refine x_iload_n dX10_set_13 rfl ?_
    refine x_iload_n dX10_set_14 rfl ?_
    refine ii_X10_93 dX10_set_15 (c_X10_isOf hz hz6) mw_o (by decide) (Nat.le_of_ble_eq_true rfl) ?_
    refine x_if_eq 39 dX10_set_18 (fun h_18 => ?_) (fun h_18 => ?_)
    · refine x_ldc dX10_set_39 kk_X10_104 ?_
      have hno : ¬ seC z what of v := fun q => bi0.mp h_18 (pl_of q.1)
      exact Ex.ret (v := some (.int _)) ⟨dX10_set_41, _, rfl, by first | rfl | decide⟩ ⟨_, (ru, ou, we, me, ki, ro, ma), congrArg (fun z => some (Value.int z)) (by rw [if_neg hno]), rfl, by rw [if_neg hno]⟩
    · refine x_iload_n dX10_set_21 rfl ?_
      refine x_i2l dX10_set_22 ?_
      refine x_iload_n dX10_set_23 rfl ?_
      refine ii_X10_97 dX10_set_24 c_X10_leastOf (by decide) (Nat.le_of_ble_eq_true rfl) ?_
      refine x_i2l dX10_set_27 ?_
      refine x_iload_n dX10_set_28 rfl ?_
      refine ii_X10_101 dX10_set_29 c_X10_mostOf (by decide) (Nat.le_of_ble_eq_true rfl) ?_
      refine x_i2l dX10_set_32 ?_
      refine ii_X10_76 dX10_set_33 (c_X10_inC (a := leF what) (b := hiF what) (by first | rfl | decide) (by first | rfl | decide)) (by decide) (Nat.le_of_ble_eq_true rfl) ?_
      refine x_if_ne 42 dX10_set_36 (fun h_36 => ?_) (fun h_36 => ?_)
      · have h06 := bi1.mp h_9
        have hof := bi1.mp h_18
        have hlh := bi1.mp h_36
        rcases le6 h06 with rfl | rfl | rfl | rfl | rfl | rfl | rfl
        · skip
          have hpl : isPl z 0 of := Or.inl (by decide)
          have hse : seC z 0 of v := ⟨hpl, by rw [show tabLow (Int32.toNatClampNeg 0) = leF 0 from (tb_at 0 (by decide)).1]; exact hlh.1, by rw [show tabHigh (Int32.toNatClampNeg 0) = hiF 0 from (tb_at 0 (by decide)).2]; exact hlh.2⟩
          have htd : tdF τ (mO (ru, ou, we, me, ki, ro, ma)) r z of 0 = plF (mO (ru, ou, we, me, ki, ro, ma)) 0 of := by unfold tdF; rw [if_pos (by decide), if_pos hpl]
          refine x_aload_n dX10_set_42 rfl ?_
          refine x_iload_n dX10_set_43 rfl ?_
          refine x_iload_n dX10_set_44 rfl ?_
          refine iv_X10_105 dX10_set_45 (c_X10_told hX hru hz hz6 hnu) mw_o (by decide) (Nat.le_of_ble_eq_true rfl) (fun v_45 w_45 hw_45 => ?_)
          obtain ⟨Λ1, rfl, rfl⟩ := hw_45
          rw [htd]
          refine x_istore dX10_set_48 (by decide) ?_
          refine x_aload_n dX10_set_50 rfl ?_
          refine x_iload_n dX10_set_51 rfl ?_
          refine x_iload_n dX10_set_52 rfl ?_
          refine x_iload_n dX10_set_53 rfl ?_
          refine ii_X10_109 dX10_set_54 c_X10_lays_0 mw_o (by decide) (Nat.le_of_ble_eq_true rfl) ?_
          refine x_iload dX10_set_57 rfl ?_
          exact Ex.ret (v := some (.int _)) ⟨dX10_set_59, _, rfl, by first | rfl | decide⟩ ⟨_, (ru, upd ou 0 v, we, me, ki, ro, ma), congrArg (fun z => some (Value.int z)) (by rw [if_pos hse]), rfl, by rw [if_pos hse]; rfl⟩
        · skip
          have hpl : isPl z 1 of := Or.inl (by decide)
          have hse : seC z 1 of v := ⟨hpl, by rw [show tabLow (Int32.toNatClampNeg 1) = leF 1 from (tb_at 1 (by decide)).1]; exact hlh.1, by rw [show tabHigh (Int32.toNatClampNeg 1) = hiF 1 from (tb_at 1 (by decide)).2]; exact hlh.2⟩
          have htd : tdF τ (mO (ru, ou, we, me, ki, ro, ma)) r z of 1 = plF (mO (ru, ou, we, me, ki, ro, ma)) 1 of := by unfold tdF; rw [if_pos (by decide), if_pos hpl]
          refine x_aload_n dX10_set_42 rfl ?_
          refine x_iload_n dX10_set_43 rfl ?_
          refine x_iload_n dX10_set_44 rfl ?_
          refine iv_X10_105 dX10_set_45 (c_X10_told hX hru hz hz6 hnu) mw_o (by decide) (Nat.le_of_ble_eq_true rfl) (fun v_45 w_45 hw_45 => ?_)
          obtain ⟨Λ1, rfl, rfl⟩ := hw_45
          rw [htd]
          refine x_istore dX10_set_48 (by decide) ?_
          refine x_aload_n dX10_set_50 rfl ?_
          refine x_iload_n dX10_set_51 rfl ?_
          refine x_iload_n dX10_set_52 rfl ?_
          refine x_iload_n dX10_set_53 rfl ?_
          refine ii_X10_109 dX10_set_54 c_X10_lays_1 mw_o (by decide) (Nat.le_of_ble_eq_true rfl) ?_
          refine x_iload dX10_set_57 rfl ?_
          exact Ex.ret (v := some (.int _)) ⟨dX10_set_59, _, rfl, by first | rfl | decide⟩ ⟨_, (ru, upd ou 1 v, we, me, ki, ro, ma), congrArg (fun z => some (Value.int z)) (by rw [if_pos hse]), rfl, by rw [if_pos hse]; rfl⟩
        · skip
          have hpl : isPl z 2 of := Or.inl (by decide)
          have hse : seC z 2 of v := ⟨hpl, by rw [show tabLow (Int32.toNatClampNeg 2) = leF 2 from (tb_at 2 (by decide)).1]; exact hlh.1, by rw [show tabHigh (Int32.toNatClampNeg 2) = hiF 2 from (tb_at 2 (by decide)).2]; exact hlh.2⟩
          have htd : tdF τ (mO (ru, ou, we, me, ki, ro, ma)) r z of 2 = plF (mO (ru, ou, we, me, ki, ro, ma)) 2 of := by unfold tdF; rw [if_pos (by decide), if_pos hpl]
          refine x_aload_n dX10_set_42 rfl ?_
          refine x_iload_n dX10_set_43 rfl ?_
          refine x_iload_n dX10_set_44 rfl ?_
          refine iv_X10_105 dX10_set_45 (c_X10_told hX hru hz hz6 hnu) mw_o (by decide) (Nat.le_of_ble_eq_true rfl) (fun v_45 w_45 hw_45 => ?_)
          obtain ⟨Λ1, rfl, rfl⟩ := hw_45
          rw [htd]
          refine x_istore dX10_set_48 (by decide) ?_
          refine x_aload_n dX10_set_50 rfl ?_
          refine x_iload_n dX10_set_51 rfl ?_
          refine x_iload_n dX10_set_52 rfl ?_
          refine x_iload_n dX10_set_53 rfl ?_
          refine ii_X10_109 dX10_set_54 c_X10_lays_2 mw_o (by decide) (Nat.le_of_ble_eq_true rfl) ?_
          refine x_iload dX10_set_57 rfl ?_
          exact Ex.ret (v := some (.int _)) ⟨dX10_set_59, _, rfl, by first | rfl | decide⟩ ⟨_, (ru, upd ou 2 v, we, me, ki, ro, ma), congrArg (fun z => some (Value.int z)) (by rw [if_pos hse]), rfl, by rw [if_pos hse]; rfl⟩
        · skip
          have ho := (of_h (by decide)).mp hof
          obtain ⟨i, hi, rfl⟩ := nat_of ho.1 (show of < nI 8 from ho.2) (by omega)
          have hcl : (nI i).toNatClampNeg = i := nI_clamp (by omega)
          have hpl : isPl z 3 (nI i) := Or.inr (Or.inl ⟨by decide, ho⟩)
          have hse : seC z 3 (nI i) v := ⟨hpl, by rw [show tabLow (Int32.toNatClampNeg 3) = leF 3 from (tb_at 3 (by decide)).1]; exact hlh.1, by rw [show tabHigh (Int32.toNatClampNeg 3) = hiF 3 from (tb_at 3 (by decide)).2]; exact hlh.2⟩
          have htd : tdF τ (mO (ru, ou, we, me, ki, ro, ma)) r z (nI i) 3 = plF (mO (ru, ou, we, me, ki, ro, ma)) 3 (nI i) := by unfold tdF; rw [if_pos (by decide), if_pos hpl]
          refine x_aload_n dX10_set_42 rfl ?_
          refine x_iload_n dX10_set_43 rfl ?_
          refine x_iload_n dX10_set_44 rfl ?_
          refine iv_X10_105 dX10_set_45 (c_X10_told hX hru hz hz6 hnu) mw_o (by decide) (Nat.le_of_ble_eq_true rfl) (fun v_45 w_45 hw_45 => ?_)
          obtain ⟨Λ1, rfl, rfl⟩ := hw_45
          rw [htd]
          refine x_istore dX10_set_48 (by decide) ?_
          refine x_aload_n dX10_set_50 rfl ?_
          refine x_iload_n dX10_set_51 rfl ?_
          refine x_iload_n dX10_set_52 rfl ?_
          refine x_iload_n dX10_set_53 rfl ?_
          refine ii_X10_109 dX10_set_54 (c_X10_lays_3 hi) mw_o (by decide) (Nat.le_of_ble_eq_true rfl) ?_
          refine x_iload dX10_set_57 rfl ?_
          exact Ex.ret (v := some (.int _)) ⟨dX10_set_59, _, rfl, by first | rfl | decide⟩ ⟨_, (ru, ou, upd we i v, me, ki, ro, ma), congrArg (fun z => some (Value.int z)) (by rw [if_pos hse]), rfl, by rw [if_pos hse]; unfold puF; rw [if_neg (by decide), if_neg (by decide), if_neg (by decide), if_pos rfl, hcl]; rfl⟩
        · skip
          have ho := (of_h (by decide)).mp hof
          have hpl : isPl z 4 of := Or.inr (Or.inl ⟨by decide, ho⟩)
          have hse : seC z 4 of v := ⟨hpl, by rw [show tabLow (Int32.toNatClampNeg 4) = leF 4 from (tb_at 4 (by decide)).1]; exact hlh.1, by rw [show tabHigh (Int32.toNatClampNeg 4) = hiF 4 from (tb_at 4 (by decide)).2]; exact hlh.2⟩
          have htd : tdF τ (mO (ru, ou, we, me, ki, ro, ma)) r z of 4 = plF (mO (ru, ou, we, me, ki, ro, ma)) 4 of := by unfold tdF; rw [if_pos (by decide), if_pos hpl]
          refine x_aload_n dX10_set_42 rfl ?_
          refine x_iload_n dX10_set_43 rfl ?_
          refine x_iload_n dX10_set_44 rfl ?_
          refine iv_X10_105 dX10_set_45 (c_X10_told hX hru hz hz6 hnu) mw_o (by decide) (Nat.le_of_ble_eq_true rfl) (fun v_45 w_45 hw_45 => ?_)
          obtain ⟨Λ1, rfl, rfl⟩ := hw_45
          rw [htd]
          refine x_istore dX10_set_48 (by decide) ?_
          refine x_aload_n dX10_set_50 rfl ?_
          refine x_iload_n dX10_set_51 rfl ?_
          refine x_iload_n dX10_set_52 rfl ?_
          refine x_iload_n dX10_set_53 rfl ?_
          refine ii_X10_109 dX10_set_54 c_X10_lays_4 mw_o (by decide) (Nat.le_of_ble_eq_true rfl) ?_
          refine x_iload dX10_set_57 rfl ?_
          exact Ex.ret (v := some (.int _)) ⟨dX10_set_59, _, rfl, by first | rfl | decide⟩ ⟨_, (ru, ou, we, meU me of v, ki, ro, ma), congrArg (fun z => some (Value.int z)) (by rw [if_pos hse]), rfl, by rw [if_pos hse]; rfl⟩
        · skip
          have ho := (of_p (by decide) (by decide)).mp hof
          obtain ⟨p, hpz, rfl⟩ := nat_of ho.1 ho.2 (by omega)
          have hcl : (nI p).toNatClampNeg = p := nI_clamp (by omega)
          have hpl : isPl z 5 (nI p) := Or.inr (Or.inr ⟨by decide, ho⟩)
          have hse : seC z 5 (nI p) v := ⟨hpl, by rw [show tabLow (Int32.toNatClampNeg 5) = leF 5 from (tb_at 5 (by decide)).1]; exact hlh.1, by rw [show tabHigh (Int32.toNatClampNeg 5) = hiF 5 from (tb_at 5 (by decide)).2]; exact hlh.2⟩
          have htd : tdF τ (mO (ru, ou, we, me, ki, ro, ma)) r z (nI p) 5 = plF (mO (ru, ou, we, me, ki, ro, ma)) 5 (nI p) := by unfold tdF; rw [if_pos (by decide), if_pos hpl]
          refine x_aload_n dX10_set_42 rfl ?_
          refine x_iload_n dX10_set_43 rfl ?_
          refine x_iload_n dX10_set_44 rfl ?_
          refine iv_X10_105 dX10_set_45 (c_X10_told hX hru hz hz6 hnu) mw_o (by decide) (Nat.le_of_ble_eq_true rfl) (fun v_45 w_45 hw_45 => ?_)
          obtain ⟨Λ1, rfl, rfl⟩ := hw_45
          rw [htd]
          refine x_istore dX10_set_48 (by decide) ?_
          refine x_aload_n dX10_set_50 rfl ?_
          refine x_iload_n dX10_set_51 rfl ?_
          refine x_iload_n dX10_set_52 rfl ?_
          refine x_iload_n dX10_set_53 rfl ?_
          refine ii_X10_109 dX10_set_54 (c_X10_lays_5 (by omega)) mw_o (by decide) (Nat.le_of_ble_eq_true rfl) ?_
          refine x_iload dX10_set_57 rfl ?_
          exact Ex.ret (v := some (.int _)) ⟨dX10_set_59, _, rfl, by first | rfl | decide⟩ ⟨_, (ru, ou, we, me, ki, upd ro (2 * p) v, ma), congrArg (fun z => some (Value.int z)) (by rw [if_pos hse]), rfl, by rw [if_pos hse]; unfold puF; rw [if_neg (by decide), if_neg (by decide), if_neg (by decide), if_neg (by decide), if_neg (by decide), if_pos rfl, hcl]; unfold mO; simp only [ro_nu, ro_pr0]⟩
        · skip
          have ho := (of_p (by decide) (by decide)).mp hof
          obtain ⟨p, hpz, rfl⟩ := nat_of ho.1 ho.2 (by omega)
          have hcl : (nI p).toNatClampNeg = p := nI_clamp (by omega)
          have hpl : isPl z 6 (nI p) := Or.inr (Or.inr ⟨by decide, ho⟩)
          have hse : seC z 6 (nI p) v := ⟨hpl, by rw [show tabLow (Int32.toNatClampNeg 6) = leF 6 from (tb_at 6 (by decide)).1]; exact hlh.1, by rw [show tabHigh (Int32.toNatClampNeg 6) = hiF 6 from (tb_at 6 (by decide)).2]; exact hlh.2⟩
          have htd : tdF τ (mO (ru, ou, we, me, ki, ro, ma)) r z (nI p) 6 = plF (mO (ru, ou, we, me, ki, ro, ma)) 6 (nI p) := by unfold tdF; rw [if_pos (by decide), if_pos hpl]
          refine x_aload_n dX10_set_42 rfl ?_
          refine x_iload_n dX10_set_43 rfl ?_
          refine x_iload_n dX10_set_44 rfl ?_
          refine iv_X10_105 dX10_set_45 (c_X10_told hX hru hz hz6 hnu) mw_o (by decide) (Nat.le_of_ble_eq_true rfl) (fun v_45 w_45 hw_45 => ?_)
          obtain ⟨Λ1, rfl, rfl⟩ := hw_45
          rw [htd]
          refine x_istore dX10_set_48 (by decide) ?_
          refine x_aload_n dX10_set_50 rfl ?_
          refine x_iload_n dX10_set_51 rfl ?_
          refine x_iload_n dX10_set_52 rfl ?_
          refine x_iload_n dX10_set_53 rfl ?_
          refine ii_X10_109 dX10_set_54 (c_X10_lays_6 (by omega)) mw_o (by decide) (Nat.le_of_ble_eq_true rfl) ?_
          refine x_iload dX10_set_57 rfl ?_
          exact Ex.ret (v := some (.int _)) ⟨dX10_set_59, _, rfl, by first | rfl | decide⟩ ⟨_, (ru, ou, we, me, ki, upd ro (2 * p + 1) v, ma), congrArg (fun z => some (Value.int z)) (by rw [if_pos hse]), rfl, by rw [if_pos hse]; unfold puF; rw [if_neg (by decide), if_neg (by decide), if_neg (by decide), if_neg (by decide), if_neg (by decide), if_neg (by decide), hcl]; unfold mO; simp only [ro_pr, ro_nu1]⟩
      · refine x_ldc dX10_set_39 kk_X10_104 ?_
        have hno : ¬ seC z what of v := fun q => bi0.mp h_36 (se_lh q)
        exact Ex.ret (v := some (.int _)) ⟨dX10_set_41, _, rfl, by first | rfl | decide⟩ ⟨_, (ru, ou, we, me, ki, ro, ma), congrArg (fun z => some (Value.int z)) (by rw [if_neg hno]), rfl, by rw [if_neg hno]⟩
def cprM (co cf : Nat → Int32) : Nat → (Nat → Int32)
  | 0 => co
  | i + 1 => upd (cprM co cf i) i (cf i)
theorem cprM_at (co cf : Nat → Int32) : ∀ i j, j < i → cprM co cf i j = cf j
  | 0, j, h => absurd h (by omega)
  | i + 1, j, h => by
    rw [cprM]
    by_cases q : j = i
    · rw [q, pk_us]
    · rw [pk_un q, cprM_at co cf i j (by omega)]
def prM (co : Nat → Int32) (set : Int32) (h : Nat) : Int32 := if (set >>> (nI h &&& 31)) &&& 1 = 1 then co h else 0
def PRF (co : Nat → Int32) (s : Nat) : Int32 := sumI (prM co (nI s)) 8
theorem PRF_0 (co : Nat → Int32) : PRF co 0 = 0 := by
  have h : ∀ h, h < 8 → ¬ ((nI 0 >>> (nI h &&& 31)) &&& 1 = 1) := by decide +kernel
  unfold PRF
  rw [sumI_cong (f := prM co (nI 0)) (g := fun _ => 0) (fun i hi => if_neg (h i hi))]
  rfl
def HBF (τ : TV) (O : OT) (r z : Nat) (s : Nat) : Int32 := hpF τ (uo_me O (o_me O ||| nI s)) r z
set_option maxRecDepth 100000 in
set_option maxHeartbeats 4000000 in
theorem c_X10_prices {X : Nat × (Nat → Int32)} {S : CS} {tl : pc_W} {T : MT} {ru : Int32} {ou : (Nat → Int32)} {we : (Nat → Int32)} {me : Int32} {ki : (Nat → Int32)} {ro : (Nat → Int32)} {ma : Int32} {Λ : ML} {K : MK} {H : MH} {τ : TV} {r z : Nat} {co ww : Nat → Int32}  (hX : TXm τ T.1 T.2.1 r) (hru : ru = nI r) (hz : ma = nI z) (hz6 : z ≤ 6): Mt X 46 0 0 yX10_prices cX10_prices 2 none [.ref 42] (cst S ++ (mw T (ru, ou, we, me, ki, ro, ma) Λ (co, ww) K H ++ tl)) (fun v w' => ∃ Λ' : ML, v = none ∧ w' = cst S ++ (mw T (ru, ou, we, me, ki, ro, ma) Λ' (cprM co (fun j => coF τ (mO (ru, ou, we, me, ki, ro, ma)) r z j) 8, ww) K H ++ tl)) := by
  refine Mt.of (by decide +kernel) (fun _ _ => Nat.le_of_ble_eq_true rfl) ?_
  show Ex X mX10_prices _ _ _ _ _ _ _ _
  refine x_iconst 0 dX10_prices_0 ?_
  refine x_istore_n dX10_prices_1 (by decide) ?_
  refine for_up (P := fun i => ∀ Λ : ML, Ex X mX10_prices 46 (fun v w' => ∃ Λ' : ML, v = none ∧ w' = cst S ++ (mw T (ru, ou, we, me, ki, ro, ma) Λ' (cprM co (fun j => coF τ (mO (ru, ou, we, me, ki, ro, ma)) r z j) 8, ww) K H ++ tl)) 0 0 2 [some (.ref 42), some (.int (nI i))] [] (cst S ++ (mw T (ru, ou, we, me, ki, ro, ma) Λ (cprM co (fun j => coF τ (mO (ru, ou, we, me, ki, ro, ma)) r z j) i, ww) K H ++ tl))) (8) ?_ (fun i hi ih => ?_) (0) (by decide) Λ
  · intro Λ
    refine x_iload_n dX10_prices_2 rfl ?_
    refine x_bipush 8 dX10_prices_3 ?_
    refine x_icmp_ge 25 dX10_prices_5 (fun _ => ?_) (fun hx => absurd (by decide) hx)
    exact Ex.ret (v := none) ⟨rfl, dX10_prices_25⟩ ⟨_, rfl, rfl⟩
  · intro Λ
    refine x_iload_n dX10_prices_2 rfl ?_
    refine x_bipush 8 dX10_prices_3 ?_
    refine x_icmp_ge 25 dX10_prices_5 (fun hx => absurd hx (nI_ge hi (by decide))) (fun _ => ?_)
    refine x_aload_n dX10_prices_8 rfl ?_
    refine mg_35 dX10_prices_9 ?_
    refine x_iload_n dX10_prices_12 rfl ?_
    refine x_aload_n dX10_prices_13 rfl ?_
    refine x_iload_n dX10_prices_14 rfl ?_
    refine iv_X10_148 dX10_prices_15 (c_X10_costOf hX hru hz hz6 hi) mw_o (by decide) (Nat.le_of_ble_eq_true rfl) (fun v_15 w_15 hw_15 => ?_)
    obtain ⟨Λ1, rfl, rfl⟩ := hw_15
    refine msN_50 dX10_prices_18 hi ?_
    refine x_iincN dX10_prices_19 rfl (by decide) ?_
    refine x_goto 2 dX10_prices_22 ?_
    exact ih _
set_option maxRecDepth 100000 in
set_option maxHeartbeats 4000000 in
theorem c_X10_priceOf {X : Nat × (Nat → Int32)} {S : CS} {tl : pc_W} {T : MT} {U : MU} {Λ : ML} {co : (Nat → Int32)} {ww : (Nat → Int32)} {K : MK} {H : MH} {set : Int32} : Mt X 0 0 0 yX10_priceOf cX10_priceOf 4 (some .int) [.ref 42, .int set] (cst S ++ (mw T U Λ (co, ww) K H ++ tl)) (RI (sumI (prM co set) 8) (cst S ++ (mw T U Λ (co, ww) K H ++ tl))) := by
  refine Mt.of (by decide +kernel) (fun _ _ => Nat.le_of_ble_eq_true rfl) ?_
  show Ex X mX10_priceOf _ _ _ _ _ _ _ _
  refine x_iconst 0 dX10_priceOf_0 ?_
  refine x_istore_n dX10_priceOf_1 (by decide) ?_
  refine x_iconst 0 dX10_priceOf_2 ?_
  refine x_istore_n dX10_priceOf_3 (by decide) ?_
  refine for_up (P := fun i => Ex X mX10_priceOf 0 (RI (sumI (prM co set) 8) (cst S ++ (mw T U Λ (co, ww) K H ++ tl))) 0 0 4 [some (.ref 42), some (.int set), some (.int (sumI (prM co set) i)), some (.int (nI i))] [] (cst S ++ (mw T U Λ (co, ww) K H ++ tl))) (8) ?_ (fun i hi ih => ?_) (0) (by decide)
  · refine x_iload_n dX10_priceOf_4 rfl ?_
    refine x_bipush 8 dX10_priceOf_5 ?_
    refine x_icmp_ge 38 dX10_priceOf_7 (fun _ => ?_) (fun hx => absurd (by decide) hx)
    refine x_iload_n dX10_priceOf_38 rfl ?_
    exact Ex.ret (v := some (.int _)) ⟨dX10_priceOf_39, _, rfl, by first | rfl | decide⟩ ⟨congrArg (fun z => some (Value.int z)) (by rfl), rfl⟩
  · refine x_iload_n dX10_priceOf_4 rfl ?_
    refine x_bipush 8 dX10_priceOf_5 ?_
    refine x_icmp_ge 38 dX10_priceOf_7 (fun hx => absurd hx (nI_ge hi (by decide))) (fun _ => ?_)
    refine x_iload_n dX10_priceOf_10 rfl ?_
    refine x_iload_n dX10_priceOf_11 rfl ?_
    refine x_iload_n dX10_priceOf_12 rfl ?_
    refine x_ishr dX10_priceOf_13 ?_
    refine x_iconst 1 dX10_priceOf_14 ?_
    refine x_iand dX10_priceOf_15 ?_
    refine x_iconst 1 dX10_priceOf_16 ?_
    refine x_icmp_ne 29 dX10_priceOf_17 (fun h_17 => ?_) (fun h_17 => ?_)
    · refine x_iconst 0 dX10_priceOf_29 ?_
      refine x_iadd dX10_priceOf_30 ?_
      refine x_istore_n dX10_priceOf_31 (by decide) ?_
      refine x_iincN dX10_priceOf_32 rfl (by decide) ?_
      refine x_goto 4 dX10_priceOf_35 ?_
      have e : sumI (prM co set) i + 0 = sumI (prM co set) (i + 1) := by show _ = sumI (prM co set) i + prM co set i; rw [show prM co set i = 0 from if_neg h_17]
      rw [e]
      exact ih
    · refine x_aload_n dX10_priceOf_20 rfl ?_
      refine mg_35 dX10_priceOf_21 ?_
      refine x_iload_n dX10_priceOf_24 rfl ?_
      refine maN_50 dX10_priceOf_25 hi ?_
      refine x_goto 30 dX10_priceOf_26 ?_
      refine x_iadd dX10_priceOf_30 ?_
      refine x_istore_n dX10_priceOf_31 (by decide) ?_
      refine x_iincN dX10_priceOf_32 rfl (by decide) ?_
      refine x_goto 4 dX10_priceOf_35 ?_
      have e : sumI (prM co set) i + co i = sumI (prM co set) (i + 1) := by show _ = sumI (prM co set) i + prM co set i; rw [show prM co set i = co i from if_pos h_17]
      rw [e]
      exact ih
set_option maxRecDepth 100000 in
set_option maxHeartbeats 4000000 in
theorem c_X10_hazyBy {X : Nat × (Nat → Int32)} {S : CS} {tl : pc_W} {T : MT} {ru : Int32} {ou : (Nat → Int32)} {we : (Nat → Int32)} {me : Int32} {ki : (Nat → Int32)} {ro : (Nat → Int32)} {ma : Int32} {Λ : ML} {C : MC} {K : MK} {H : MH} {τ : TV} {r z : Nat} {s : Nat} (hX : TXm τ T.1 T.2.1 r) (hru : ru = nI r) (hz : ma = nI z) (hz6 : z ≤ 6): Mt X 48 0 0 yX10_hazyBy cX10_hazyBy 4 (some .int) [.ref 42, .int (nI s)] (cst S ++ (mw T (ru, ou, we, me, ki, ro, ma) Λ C K H ++ tl)) (fun v w' => ∃ Λ' : ML, v = some (.int (HBF τ (mO (ru, ou, we, me, ki, ro, ma)) r z s)) ∧ w' = cst S ++ (mw T (ru, ou, we, me, ki, ro, ma) Λ' C K H ++ tl)) := by
  refine Mt.of (by decide +kernel) (fun _ _ => Nat.le_of_ble_eq_true rfl) ?_
  show Ex X mX10_hazyBy _ _ _ _ _ _ _ _
  refine x_aload_n dX10_hazyBy_0 rfl ?_
  refine mg_113 dX10_hazyBy_1 ?_
  refine x_istore_n dX10_hazyBy_4 (by decide) ?_
  refine x_aload_n dX10_hazyBy_5 rfl ?_
  refine x_dup dX10_hazyBy_6 ?_
  refine mg_113 dX10_hazyBy_7 ?_
  refine x_iload_n dX10_hazyBy_10 rfl ?_
  refine x_ior dX10_hazyBy_11 ?_
  refine mp_113 dX10_hazyBy_12 ?_
  refine x_aload_n dX10_hazyBy_15 rfl ?_
  refine iv_X10_380 dX10_hazyBy_16 (c_X10_hazyMany (me := me ||| nI s) hX hru hz hz6) mw_o (by decide) (Nat.le_of_ble_eq_true rfl) (fun v_16 w_16 hw_16 => ?_)
  obtain ⟨Λ1, rfl, rfl⟩ := hw_16
  refine x_istore_n dX10_hazyBy_19 (by decide) ?_
  refine x_aload_n dX10_hazyBy_20 rfl ?_
  refine x_iload_n dX10_hazyBy_21 rfl ?_
  refine mp_113 dX10_hazyBy_22 ?_
  refine x_iload_n dX10_hazyBy_25 rfl ?_
  exact Ex.ret (v := some (.int _)) ⟨dX10_hazyBy_26, _, rfl, by first | rfl | decide⟩ ⟨_, congrArg (fun z => some (Value.int z)) (rfl), rfl⟩
theorem or_lt {a b c d x y : Int32} (h : ¬ (a ≤ x ∧ x ≤ b)) : x < a ∨ b < x ∨ y < c ∨ d < y := by
  by_cases q : a ≤ x
  · exact Or.inr (Or.inl (Int32.not_le.mp (fun z => h ⟨q, z⟩)))
  · exact Or.inl (Int32.not_le.mp q)
theorem or_lt2 {a b c d x y : Int32} (h : ¬ (c ≤ y ∧ y ≤ d)) : x < a ∨ b < x ∨ y < c ∨ d < y := by
  by_cases q : c ≤ y
  · exact Or.inr (Or.inr (Or.inr (Int32.not_le.mp (fun z => h ⟨q, z⟩))))
  · exact Or.inr (Or.inr (Or.inl (Int32.not_le.mp q)))
set_option maxRecDepth 100000 in
set_option maxHeartbeats 4000000 in
theorem c_X10_cheapest {X : Nat × (Nat → Int32)} {S : CS} {tl : pc_W} {T : MT} {ru : Int32} {ou : (Nat → Int32)} {we : (Nat → Int32)} {me : Int32} {ki : (Nat → Int32)} {ro : (Nat → Int32)} {ma : Int32} {Λ : ML} {K : MK} {H : MH} {τ : TV} {r z : Nat} {co ww : Nat → Int32} {m what : Int32} (hX : TXm τ T.1 T.2.1 r) (hru : ru = nI r) (hz : ma = nI z) (hz6 : z ≤ 6): Mt X 49 0 0 yX10_cheapest cX10_cheapest 5 (some .int) [.ref 42, .int m, .int what] (cst S ++ (mw T (ru, ou, we, me, ki, ro, ma) Λ (co, ww) K H ++ tl)) (fun v w' => ∃ (Λ' : ML) (C' : MC), v = some (.int (if (m < 0 ∨ 6 < m ∨ what < 0 ∨ 1 < what) then -2 else chV (PRF (cprM co (fun j => coF τ (mO (ru, ou, we, me, ki, ro, ma)) r z j) 8)) what (cpF (PRF (cprM co (fun j => coF τ (mO (ru, ou, we, me, ki, ro, ma)) r z j) 8)) (HBF τ (mO (ru, ou, we, me, ki, ro, ma)) r z) m me 256))) ∧ w' = cst S ++ (mw T (ru, ou, we, me, ki, ro, ma) Λ' C' K H ++ tl)) := by
  refine Mt.of (by decide +kernel) (fun _ _ => Nat.le_of_ble_eq_true rfl) ?_
  show Ex X mX10_cheapest _ _ _ _ _ _ _ _
  refine x_iload_n dX10_cheapest_0 rfl ?_
  refine x_i2l dX10_cheapest_1 ?_
  refine x_lconst 0 dX10_cheapest_2 ?_
  refine x_ldc2_w dX10_cheapest_3 kk_X10_91 ?_
  refine ii_X10_76 dX10_cheapest_6 (c_X10_inC (a := 0) (b := 6) (by first | rfl | decide) (by first | rfl | decide)) (by decide) (Nat.le_of_ble_eq_true rfl) ?_
  refine x_if_eq 22 dX10_cheapest_9 (fun h_9 => ?_) (fun h_9 => ?_)
  · refine x_bipush (-2) dX10_cheapest_22 ?_
    exact Ex.ret (v := some (.int _)) ⟨dX10_cheapest_24, _, rfl, by first | rfl | decide⟩ ⟨_, _, congrArg (fun z => some (Value.int z)) (by rw [if_pos (or_lt (fun q => bi0.mp h_9 q))]), rfl⟩
  · refine x_iload_n dX10_cheapest_12 rfl ?_
    refine x_i2l dX10_cheapest_13 ?_
    refine x_lconst 0 dX10_cheapest_14 ?_
    refine x_lconst 1 dX10_cheapest_15 ?_
    refine ii_X10_76 dX10_cheapest_16 (c_X10_inC (a := 0) (b := 1) (by first | rfl | decide) (by first | rfl | decide)) (by decide) (Nat.le_of_ble_eq_true rfl) ?_
    refine x_if_ne 25 dX10_cheapest_19 (fun h_19 => ?_) (fun h_19 => ?_)
    · refine x_aload_n dX10_cheapest_25 rfl ?_
      refine iv_X10_388 dX10_cheapest_26 (c_X10_prices hX hru hz hz6) mw_o (by decide) (Nat.le_of_ble_eq_true rfl) (fun v_26 w_26 hw_26 => ?_)
      obtain ⟨Λ9, rfl, rfl⟩ := hw_26
      rw [if_neg (fun q => q.elim (fun y => Int32.not_lt.mpr (bi1.mp h_9).1 y) (fun q => q.elim (fun y => Int32.not_lt.mpr (bi1.mp h_9).2 y) (fun q => q.elim (fun y => Int32.not_lt.mpr (bi1.mp h_19).1 y) (fun y => Int32.not_lt.mpr (bi1.mp h_19).2 y))))]
      refine x_iconst (-1) dX10_cheapest_29 ?_
      refine x_istore_n dX10_cheapest_30 (by decide) ?_
      refine x_iconst 0 dX10_cheapest_31 ?_
      refine x_istore dX10_cheapest_32 (by decide) ?_
      refine for_up (P := fun i => ∀ Λ : ML, Ex X mX10_cheapest 49 (fun v w' => ∃ (Λ' : ML) (C' : MC), v = some (.int (chV (PRF (cprM co (fun j => coF τ (mO (ru, ou, we, me, ki, ro, ma)) r z j) 8)) what (cpF (PRF (cprM co (fun j => coF τ (mO (ru, ou, we, me, ki, ro, ma)) r z j) 8)) (HBF τ (mO (ru, ou, we, me, ki, ro, ma)) r z) m me 256))) ∧ w' = cst S ++ (mw T (ru, ou, we, me, ki, ro, ma) Λ' C' K H ++ tl)) 0 0 34 [some (.ref 42), some (.int m), some (.int what), some (.int (ov (cpF (PRF (cprM co (fun j => coF τ (mO (ru, ou, we, me, ki, ro, ma)) r z j) 8)) (HBF τ (mO (ru, ou, we, me, ki, ro, ma)) r z) m me i))), some (.int (nI i))] [] (cst S ++ (mw T (ru, ou, we, me, ki, ro, ma) Λ (cprM co (fun j => coF τ (mO (ru, ou, we, me, ki, ro, ma)) r z j) 8, ww) K H ++ tl))) (256) ?_ (fun i hi ih => ?_) (0) (Nat.zero_le _) _
      · intro Λ
        refine x_iload dX10_cheapest_34 rfl ?_
        refine x_sipush 256 dX10_cheapest_36 ?_
        refine x_icmp_ge 90 dX10_cheapest_39 (fun _ => ?_) (fun hx => absurd (by decide) hx)
        rcases hcp : (cpF (PRF (cprM co (fun j => coF τ (mO (ru, ou, we, me, ki, ro, ma)) r z j) 8)) (HBF τ (mO (ru, ou, we, me, ki, ro, ma)) r z) m me 256) with _ | k0
        · skip
          refine x_iload_n dX10_cheapest_90 rfl ?_
          refine x_iconst (-1) dX10_cheapest_91 ?_
          refine x_icmp_eq 99 dX10_cheapest_92 (fun _ => ?_) (fun hx => absurd (rfl) hx)
          refine x_iload_n dX10_cheapest_99 rfl ?_
          refine x_goto 108 dX10_cheapest_100 ?_
          exact Ex.ret (v := some (.int _)) ⟨dX10_cheapest_108, _, rfl, by first | rfl | decide⟩ ⟨_, _, rfl, rfl⟩
        · have hk0 : k0 < 256 := cpF_lt (PRF (cprM co (fun j => coF τ (mO (ru, ou, we, me, ki, ro, ma)) r z j) 8)) (HBF τ (mO (ru, ou, we, me, ki, ro, ma)) r z) m me 256 k0 hcp
          refine x_iload_n dX10_cheapest_90 rfl ?_
          refine x_iconst (-1) dX10_cheapest_91 ?_
          refine x_icmp_eq 99 dX10_cheapest_92 (fun hx => absurd hx (nI_n1 hk0)) (fun _ => ?_)
          refine x_iload_n dX10_cheapest_95 rfl ?_
          refine x_if_ne 103 dX10_cheapest_96 (fun h_96 => ?_) (fun h_96 => ?_)
          · refine x_aload_n dX10_cheapest_103 rfl ?_
            refine x_iload_n dX10_cheapest_104 rfl ?_
            refine ii_X10_391 dX10_cheapest_105 (c_X10_priceOf (set := nI k0)) mw_o (by decide) (Nat.le_of_ble_eq_true rfl) ?_
            exact Ex.ret (v := some (.int _)) ⟨dX10_cheapest_108, _, rfl, by first | rfl | decide⟩ ⟨_, _, congrArg (fun z => some (Value.int z)) (by show _ = (if what = 0 then nI k0 else PRF (cprM co (fun j => coF τ (mO (ru, ou, we, me, ki, ro, ma)) r z j) 8) k0); rw [if_neg h_96]; rfl), rfl⟩
          · refine x_iload_n dX10_cheapest_99 rfl ?_
            refine x_goto 108 dX10_cheapest_100 ?_
            exact Ex.ret (v := some (.int _)) ⟨dX10_cheapest_108, _, rfl, by first | rfl | decide⟩ ⟨_, _, congrArg (fun z => some (Value.int z)) (by show _ = (if what = 0 then nI k0 else PRF (cprM co (fun j => coF τ (mO (ru, ou, we, me, ki, ro, ma)) r z j) 8) k0); rw [if_pos h_96]; rfl), rfl⟩
      · intro Λ
        refine x_iload dX10_cheapest_34 rfl ?_
        refine x_sipush 256 dX10_cheapest_36 ?_
        refine x_icmp_ge 90 dX10_cheapest_39 (fun hx => absurd hx (nI_ge hi (by decide))) (fun _ => ?_)
        refine x_iload dX10_cheapest_42 rfl ?_
        refine x_aload_n dX10_cheapest_44 rfl ?_
        refine mg_113 dX10_cheapest_45 ?_
        refine x_iand dX10_cheapest_48 ?_
        refine x_if_ne 84 dX10_cheapest_49 (fun h_49 => ?_) (fun h_49 => ?_)
        · refine x_iincN dX10_cheapest_84 rfl (by decide) ?_
          refine x_goto 34 dX10_cheapest_87 ?_
          have e : ov (cpF (PRF (cprM co (fun j => coF τ (mO (ru, ou, we, me, ki, ro, ma)) r z j) 8)) (HBF τ (mO (ru, ou, we, me, ki, ro, ma)) r z) m me (i + 1)) = ov (cpF (PRF (cprM co (fun j => coF τ (mO (ru, ou, we, me, ki, ro, ma)) r z j) 8)) (HBF τ (mO (ru, ou, we, me, ki, ro, ma)) r z) m me i) := by rw [cpF, if_neg (fun q => h_49 q.1)]
          refine Ex.forget (L' := [some (.ref 42), some (.int m), some (.int what), some (.int (ov (cpF (PRF (cprM co (fun j => coF τ (mO (ru, ou, we, me, ki, ro, ma)) r z j) 8)) (HBF τ (mO (ru, ou, we, me, ki, ro, ma)) r z) m me (i + 1)))), some (.int (nI (i + 1)))]) ⟨rfl, rfl, rfl, by rw [e] <;> rfl, rfl, trivial⟩ ?_
          exact ih _
        · rcases hcp : (cpF (PRF (cprM co (fun j => coF τ (mO (ru, ou, we, me, ki, ro, ma)) r z j) 8)) (HBF τ (mO (ru, ou, we, me, ki, ro, ma)) r z) m me i) with _ | k0
          · skip
            refine x_iload_n dX10_cheapest_52 rfl ?_
            refine x_iconst (-1) dX10_cheapest_53 ?_
            refine x_icmp_eq 71 dX10_cheapest_54 (fun _ => ?_) (fun hx => absurd (rfl) hx)
            refine x_aload_n dX10_cheapest_71 rfl ?_
            refine x_iload dX10_cheapest_72 rfl ?_
            refine iv_X10_394 dX10_cheapest_74 (c_X10_hazyBy (s := i) hX hru hz hz6) mw_o (by decide) (Nat.le_of_ble_eq_true rfl) (fun v_74 w_74 hw_74 => ?_)
            obtain ⟨Λ1, rfl, rfl⟩ := hw_74
            refine x_iload_n dX10_cheapest_77 rfl ?_
            refine x_icmp_lt 84 dX10_cheapest_78 (fun h_78 => ?_) (fun h_78 => ?_)
            · refine x_iincN dX10_cheapest_84 rfl (by decide) ?_
              refine x_goto 34 dX10_cheapest_87 ?_
              have e : ov (cpF (PRF (cprM co (fun j => coF τ (mO (ru, ou, we, me, ki, ro, ma)) r z j) 8)) (HBF τ (mO (ru, ou, we, me, ki, ro, ma)) r z) m me (i + 1)) = ov none := by rw [cpF, if_neg (fun q => Int32.not_lt.mpr q.2.1 h_78)]; rw [hcp]
              refine Ex.forget (L' := [some (.ref 42), some (.int m), some (.int what), some (.int (ov (cpF (PRF (cprM co (fun j => coF τ (mO (ru, ou, we, me, ki, ro, ma)) r z j) 8)) (HBF τ (mO (ru, ou, we, me, ki, ro, ma)) r z) m me (i + 1)))), some (.int (nI (i + 1)))]) ⟨rfl, rfl, rfl, by rw [e] <;> rfl, rfl, trivial⟩ ?_
              exact ih _
            · refine x_iload dX10_cheapest_81 rfl ?_
              refine x_istore_n dX10_cheapest_83 (by decide) ?_
              refine x_iincN dX10_cheapest_84 rfl (by decide) ?_
              refine x_goto 34 dX10_cheapest_87 ?_
              have e : ov (cpF (PRF (cprM co (fun j => coF τ (mO (ru, ou, we, me, ki, ro, ma)) r z j) 8)) (HBF τ (mO (ru, ou, we, me, ki, ro, ma)) r z) m me (i + 1)) = nI i := by rw [cpF, if_pos ⟨h_49, Int32.not_lt.mp h_78, by rw [hcp]; rfl⟩]; rfl
              refine Ex.forget (L' := [some (.ref 42), some (.int m), some (.int what), some (.int (ov (cpF (PRF (cprM co (fun j => coF τ (mO (ru, ou, we, me, ki, ro, ma)) r z j) 8)) (HBF τ (mO (ru, ou, we, me, ki, ro, ma)) r z) m me (i + 1)))), some (.int (nI (i + 1)))]) ⟨rfl, rfl, rfl, by rw [e] <;> rfl, rfl, trivial⟩ ?_
              exact ih _
          · have hk0 : k0 < 256 := by have := cpF_lt (PRF (cprM co (fun j => coF τ (mO (ru, ou, we, me, ki, ro, ma)) r z j) 8)) (HBF τ (mO (ru, ou, we, me, ki, ro, ma)) r z) m me i k0 hcp; omega
            refine x_iload_n dX10_cheapest_52 rfl ?_
            refine x_iconst (-1) dX10_cheapest_53 ?_
            refine x_icmp_eq 71 dX10_cheapest_54 (fun hx => absurd hx (nI_n1 hk0)) (fun _ => ?_)
            refine x_aload_n dX10_cheapest_57 rfl ?_
            refine x_iload dX10_cheapest_58 rfl ?_
            refine ii_X10_391 dX10_cheapest_60 (c_X10_priceOf (set := nI i)) mw_o (by decide) (Nat.le_of_ble_eq_true rfl) ?_
            refine x_aload_n dX10_cheapest_63 rfl ?_
            refine x_iload_n dX10_cheapest_64 rfl ?_
            refine ii_X10_391 dX10_cheapest_65 (c_X10_priceOf (set := nI k0)) mw_o (by decide) (Nat.le_of_ble_eq_true rfl) ?_
            refine x_icmp_ge 84 dX10_cheapest_68 (fun h_68 => ?_) (fun h_68 => ?_)
            · refine x_iincN dX10_cheapest_84 rfl (by decide) ?_
              refine x_goto 34 dX10_cheapest_87 ?_
              have e : ov (cpF (PRF (cprM co (fun j => coF τ (mO (ru, ou, we, me, ki, ro, ma)) r z j) 8)) (HBF τ (mO (ru, ou, we, me, ki, ro, ma)) r z) m me (i + 1)) = ov (some k0) := by rw [cpF, if_neg (fun q => by have := q.2.2; rw [hcp] at this; exact Int32.not_lt.mpr h_68 (of_decide_eq_true this))]; rw [hcp]
              refine Ex.forget (L' := [some (.ref 42), some (.int m), some (.int what), some (.int (ov (cpF (PRF (cprM co (fun j => coF τ (mO (ru, ou, we, me, ki, ro, ma)) r z j) 8)) (HBF τ (mO (ru, ou, we, me, ki, ro, ma)) r z) m me (i + 1)))), some (.int (nI (i + 1)))]) ⟨rfl, rfl, rfl, by rw [e] <;> rfl, rfl, trivial⟩ ?_
              exact ih _
            · refine x_aload_n dX10_cheapest_71 rfl ?_
              refine x_iload dX10_cheapest_72 rfl ?_
              refine iv_X10_394 dX10_cheapest_74 (c_X10_hazyBy (s := i) hX hru hz hz6) mw_o (by decide) (Nat.le_of_ble_eq_true rfl) (fun v_74 w_74 hw_74 => ?_)
              obtain ⟨Λ1, rfl, rfl⟩ := hw_74
              refine x_iload_n dX10_cheapest_77 rfl ?_
              refine x_icmp_lt 84 dX10_cheapest_78 (fun h_78 => ?_) (fun h_78 => ?_)
              · refine x_iincN dX10_cheapest_84 rfl (by decide) ?_
                refine x_goto 34 dX10_cheapest_87 ?_
                have e : ov (cpF (PRF (cprM co (fun j => coF τ (mO (ru, ou, we, me, ki, ro, ma)) r z j) 8)) (HBF τ (mO (ru, ou, we, me, ki, ro, ma)) r z) m me (i + 1)) = ov (some k0) := by rw [cpF, if_neg (fun q => Int32.not_lt.mpr q.2.1 h_78)]; rw [hcp]
                refine Ex.forget (L' := [some (.ref 42), some (.int m), some (.int what), some (.int (ov (cpF (PRF (cprM co (fun j => coF τ (mO (ru, ou, we, me, ki, ro, ma)) r z j) 8)) (HBF τ (mO (ru, ou, we, me, ki, ro, ma)) r z) m me (i + 1)))), some (.int (nI (i + 1)))]) ⟨rfl, rfl, rfl, by rw [e] <;> rfl, rfl, trivial⟩ ?_
                exact ih _
              · refine x_iload dX10_cheapest_81 rfl ?_
                refine x_istore_n dX10_cheapest_83 (by decide) ?_
                refine x_iincN dX10_cheapest_84 rfl (by decide) ?_
                refine x_goto 34 dX10_cheapest_87 ?_
                have e : ov (cpF (PRF (cprM co (fun j => coF τ (mO (ru, ou, we, me, ki, ro, ma)) r z j) 8)) (HBF τ (mO (ru, ou, we, me, ki, ro, ma)) r z) m me (i + 1)) = nI i := by rw [cpF, if_pos ⟨h_49, Int32.not_lt.mp h_78, by rw [hcp]; exact decide_eq_true (Int32.not_le.mp h_68)⟩]; rfl
                refine Ex.forget (L' := [some (.ref 42), some (.int m), some (.int what), some (.int (ov (cpF (PRF (cprM co (fun j => coF τ (mO (ru, ou, we, me, ki, ro, ma)) r z j) 8)) (HBF τ (mO (ru, ou, we, me, ki, ro, ma)) r z) m me (i + 1)))), some (.int (nI (i + 1)))]) ⟨rfl, rfl, rfl, by rw [e] <;> rfl, rfl, trivial⟩ ?_
                exact ih _
    · refine x_bipush (-2) dX10_cheapest_22 ?_
      exact Ex.ret (v := some (.int _)) ⟨dX10_cheapest_24, _, rfl, by first | rfl | decide⟩ ⟨_, _, congrArg (fun z => some (Value.int z)) (by rw [if_pos (or_lt2 (fun q => bi0.mp h_19 q))]), rfl⟩
theorem and_0 (me : Int32) : nI 0 &&& me = 0 := by
  rw [nI_0]
  exact Int32.zero_and
set_option maxRecDepth 100000 in
set_option maxHeartbeats 4000000 in
theorem c_X10_most {X : Nat × (Nat → Int32)} {S : CS} {tl : pc_W} {T : MT} {ru : Int32} {ou : (Nat → Int32)} {we : (Nat → Int32)} {me : Int32} {ki : (Nat → Int32)} {ro : (Nat → Int32)} {ma : Int32} {Λ : ML} {K : MK} {H : MH} {τ : TV} {r z : Nat} {co ww : Nat → Int32} {x what : Int32} (hX : TXm τ T.1 T.2.1 r) (hru : ru = nI r) (hz : ma = nI z) (hz6 : z ≤ 6): Mt X 49 0 0 yX10_most cX10_most 7 (some .int) [.ref 42, .int x, .int what] (cst S ++ (mw T (ru, ou, we, me, ki, ro, ma) Λ (co, ww) K H ++ tl)) (fun v w' => ∃ (Λ' : ML) (C' : MC), v = some (.int (if (x < 0 ∨ 999 < x ∨ what < 0 ∨ 2 < what) then -2 else moV (PRF (cprM co (fun j => coF τ (mO (ru, ou, we, me, ki, ro, ma)) r z j) 8)) (HBF τ (mO (ru, ou, we, me, ki, ro, ma)) r z) what (mwF (PRF (cprM co (fun j => coF τ (mO (ru, ou, we, me, ki, ro, ma)) r z j) 8)) (HBF τ (mO (ru, ou, we, me, ki, ro, ma)) r z) x me 255))) ∧ w' = cst S ++ (mw T (ru, ou, we, me, ki, ro, ma) Λ' C' K H ++ tl)) := by
  refine Mt.of (by decide +kernel) (fun _ _ => Nat.le_of_ble_eq_true rfl) ?_
  show Ex X mX10_most _ _ _ _ _ _ _ _
  refine x_iload_n dX10_most_0 rfl ?_
  refine x_i2l dX10_most_1 ?_
  refine x_lconst 0 dX10_most_2 ?_
  refine x_ldc2_w dX10_most_3 kk_X10_397 ?_
  refine ii_X10_76 dX10_most_6 (c_X10_inC (a := 0) (b := 999) (by first | rfl | decide) (by first | rfl | decide)) (by decide) (Nat.le_of_ble_eq_true rfl) ?_
  refine x_if_eq 24 dX10_most_9 (fun h_9 => ?_) (fun h_9 => ?_)
  · refine x_bipush (-2) dX10_most_24 ?_
    exact Ex.ret (v := some (.int _)) ⟨dX10_most_26, _, rfl, by first | rfl | decide⟩ ⟨_, _, congrArg (fun z => some (Value.int z)) (by rw [if_pos (or_lt (fun q => bi0.mp h_9 q))]), rfl⟩
  · refine x_iload_n dX10_most_12 rfl ?_
    refine x_i2l dX10_most_13 ?_
    refine x_lconst 0 dX10_most_14 ?_
    refine x_ldc2_w dX10_most_15 kk_X10_378 ?_
    refine ii_X10_76 dX10_most_18 (c_X10_inC (a := 0) (b := 2) (by first | rfl | decide) (by first | rfl | decide)) (by decide) (Nat.le_of_ble_eq_true rfl) ?_
    refine x_if_ne 27 dX10_most_21 (fun h_21 => ?_) (fun h_21 => ?_)
    · refine x_aload_n dX10_most_27 rfl ?_
      refine iv_X10_388 dX10_most_28 (c_X10_prices hX hru hz hz6) mw_o (by decide) (Nat.le_of_ble_eq_true rfl) (fun v_28 w_28 hw_28 => ?_)
      obtain ⟨Λ9, rfl, rfl⟩ := hw_28
      rw [if_neg (fun q => q.elim (fun y => Int32.not_lt.mpr (bi1.mp h_9).1 y) (fun q => q.elim (fun y => Int32.not_lt.mpr (bi1.mp h_9).2 y) (fun q => q.elim (fun y => Int32.not_lt.mpr (bi1.mp h_21).1 y) (fun y => Int32.not_lt.mpr (bi1.mp h_21).2 y))))]
      refine x_iconst (-1) dX10_most_31 ?_
      refine x_istore_n dX10_most_32 (by decide) ?_
      refine x_iconst 0 dX10_most_33 ?_
      refine x_istore dX10_most_34 (by decide) ?_
      refine x_iconst 0 dX10_most_36 ?_
      refine x_istore dX10_most_37 (by decide) ?_
      refine Ex.forget (L' := [some (.ref 42), some (.int x), some (.int what), some (.int (-1)), some (.int (0)), some (.int (nI 0)), none]) ⟨rfl, rfl, rfl, rfl, rfl, rfl, trivial⟩ ?_
      refine x_iload dX10_most_39 rfl ?_
      refine x_sipush 256 dX10_most_41 ?_
      refine x_icmp_ge 121 dX10_most_44 (fun hx => absurd hx (by decide)) (fun _ => ?_)
      refine x_iload dX10_most_47 rfl ?_
      refine x_aload_n dX10_most_49 rfl ?_
      refine mg_113 dX10_most_50 ?_
      refine x_iand dX10_most_53 ?_
      refine x_if_ne 115 dX10_most_54 (fun hx => absurd (and_0 me) hx) (fun _ => ?_)
      refine x_aload_n dX10_most_57 rfl ?_
      refine x_iload dX10_most_58 rfl ?_
      refine ii_X10_391 dX10_most_60 (c_X10_priceOf (set := nI 0)) mw_o (by decide) (Nat.le_of_ble_eq_true rfl) ?_
      refine x_iload_n dX10_most_63 rfl ?_
      refine x_icmp_gt 115 dX10_most_64 (fun hx => absurd hx (Int32.not_lt.mpr (by rw [show sumI (prM (cprM co (fun j => coF τ (mO (ru, ou, we, me, ki, ro, ma)) r z j) 8) (nI 0)) 8 = 0 from PRF_0 _]; exact (bi1.mp h_9).1))) (fun _ => ?_)
      refine x_aload_n dX10_most_67 rfl ?_
      refine x_iload dX10_most_68 rfl ?_
      refine iv_X10_394 dX10_most_70 (c_X10_hazyBy (s := 0) hX hru hz hz6) mw_o (by decide) (Nat.le_of_ble_eq_true rfl) (fun v_70 w_70 hw_70 => ?_)
      obtain ⟨Λ8, rfl, rfl⟩ := hw_70
      refine x_istore dX10_most_73 (by decide) ?_
      refine x_iload_n dX10_most_75 rfl ?_
      refine x_iconst (-1) dX10_most_76 ?_
      refine x_icmp_eq 108 dX10_most_77 (fun _ => ?_) (fun hx => absurd (rfl) hx)
      refine x_iload dX10_most_108 rfl ?_
      refine x_istore_n dX10_most_110 (by decide) ?_
      refine x_iload dX10_most_111 rfl ?_
      refine x_istore dX10_most_113 (by decide) ?_
      refine x_iincN dX10_most_115 rfl (by decide) ?_
      refine x_goto 39 dX10_most_118 ?_
      refine Ex.forget (L' := [some (.ref 42), some (.int x), some (.int what), some (.int (nI (mwF (PRF (cprM co (fun j => coF τ (mO (ru, ou, we, me, ki, ro, ma)) r z j) 8)) (HBF τ (mO (ru, ou, we, me, ki, ro, ma)) r z) x me 0))), some (.int ((HBF τ (mO (ru, ou, we, me, ki, ro, ma)) r z) (mwF (PRF (cprM co (fun j => coF τ (mO (ru, ou, we, me, ki, ro, ma)) r z j) 8)) (HBF τ (mO (ru, ou, we, me, ki, ro, ma)) r z) x me 0))), some (.int (nI (0 + 1))), none]) ⟨rfl, rfl, rfl, rfl, rfl, rfl, trivial⟩ ?_
      refine for_up (P := fun i => ∀ Λ : ML, Ex X mX10_most 49 (fun v w' => ∃ (Λ' : ML) (C' : MC), v = some (.int (moV (PRF (cprM co (fun j => coF τ (mO (ru, ou, we, me, ki, ro, ma)) r z j) 8)) (HBF τ (mO (ru, ou, we, me, ki, ro, ma)) r z) what (mwF (PRF (cprM co (fun j => coF τ (mO (ru, ou, we, me, ki, ro, ma)) r z j) 8)) (HBF τ (mO (ru, ou, we, me, ki, ro, ma)) r z) x me 255))) ∧ w' = cst S ++ (mw T (ru, ou, we, me, ki, ro, ma) Λ' C' K H ++ tl)) 0 0 39 [some (.ref 42), some (.int x), some (.int what), some (.int (nI (mwF (PRF (cprM co (fun j => coF τ (mO (ru, ou, we, me, ki, ro, ma)) r z j) 8)) (HBF τ (mO (ru, ou, we, me, ki, ro, ma)) r z) x me i))), some (.int ((HBF τ (mO (ru, ou, we, me, ki, ro, ma)) r z) (mwF (PRF (cprM co (fun j => coF τ (mO (ru, ou, we, me, ki, ro, ma)) r z j) 8)) (HBF τ (mO (ru, ou, we, me, ki, ro, ma)) r z) x me i))), some (.int (nI (i + 1))), none] [] (cst S ++ (mw T (ru, ou, we, me, ki, ro, ma) Λ (cprM co (fun j => coF τ (mO (ru, ou, we, me, ki, ro, ma)) r z j) 8, ww) K H ++ tl))) (255) ?_ (fun i hi ih => ?_) (0) (Nat.zero_le _) _
      · intro Λ
        refine x_iload dX10_most_39 rfl ?_
        refine x_sipush 256 dX10_most_41 ?_
        refine x_icmp_ge 121 dX10_most_44 (fun _ => ?_) (fun hx => absurd (by decide) hx)
        refine x_iload_n dX10_most_121 rfl ?_
        refine x_if_ne 129 dX10_most_122 (fun h_122 => ?_) (fun h_122 => ?_)
        · refine x_iload_n dX10_most_129 rfl ?_
          refine x_iconst 1 dX10_most_130 ?_
          refine x_icmp_ne 139 dX10_most_131 (fun h_131 => ?_) (fun h_131 => ?_)
          · refine x_aload_n dX10_most_139 rfl ?_
            refine x_iload_n dX10_most_140 rfl ?_
            refine ii_X10_391 dX10_most_141 (c_X10_priceOf (set := nI (mwF (PRF (cprM co (fun j => coF τ (mO (ru, ou, we, me, ki, ro, ma)) r z j) 8)) (HBF τ (mO (ru, ou, we, me, ki, ro, ma)) r z) x me 255))) mw_o (by decide) (Nat.le_of_ble_eq_true rfl) ?_
            exact Ex.ret (v := some (.int _)) ⟨dX10_most_144, _, rfl, by first | rfl | decide⟩ ⟨_, _, congrArg (fun z => some (Value.int z)) (by unfold moV; rw [if_neg h_122, if_neg h_131]; rfl), rfl⟩
          · refine x_iload dX10_most_134 rfl ?_
            refine x_goto 144 dX10_most_136 ?_
            exact Ex.ret (v := some (.int _)) ⟨dX10_most_144, _, rfl, by first | rfl | decide⟩ ⟨_, _, congrArg (fun z => some (Value.int z)) (by unfold moV; rw [if_neg h_122, if_pos h_131]), rfl⟩
        · refine x_iload_n dX10_most_125 rfl ?_
          refine x_goto 144 dX10_most_126 ?_
          exact Ex.ret (v := some (.int _)) ⟨dX10_most_144, _, rfl, by first | rfl | decide⟩ ⟨_, _, congrArg (fun z => some (Value.int z)) (by unfold moV; rw [if_pos h_122]), rfl⟩
      · intro Λ
        have hmw := mwF_le (PRF (cprM co (fun j => coF τ (mO (ru, ou, we, me, ki, ro, ma)) r z j) 8)) (HBF τ (mO (ru, ou, we, me, ki, ro, ma)) r z) x me i
        refine x_iload dX10_most_39 rfl ?_
        refine x_sipush 256 dX10_most_41 ?_
        refine x_icmp_ge 121 dX10_most_44 (fun hx => absurd hx (nI_ge (a := i + 1) (b := 256) (by omega) (by decide))) (fun _ => ?_)
        refine x_iload dX10_most_47 rfl ?_
        refine x_aload_n dX10_most_49 rfl ?_
        refine mg_113 dX10_most_50 ?_
        refine x_iand dX10_most_53 ?_
        refine x_if_ne 115 dX10_most_54 (fun h_54 => ?_) (fun h_54 => ?_)
        · refine x_iincN dX10_most_115 rfl (by decide) ?_
          refine x_goto 39 dX10_most_118 ?_
          have e : (mwF (PRF (cprM co (fun j => coF τ (mO (ru, ou, we, me, ki, ro, ma)) r z j) 8)) (HBF τ (mO (ru, ou, we, me, ki, ro, ma)) r z) x me (i + 1)) = (mwF (PRF (cprM co (fun j => coF τ (mO (ru, ou, we, me, ki, ro, ma)) r z j) 8)) (HBF τ (mO (ru, ou, we, me, ki, ro, ma)) r z) x me i) := by rw [mwF, if_neg (fun q => h_54 q.1)]
          refine Ex.forget (L' := [some (.ref 42), some (.int x), some (.int what), some (.int (nI (mwF (PRF (cprM co (fun j => coF τ (mO (ru, ou, we, me, ki, ro, ma)) r z j) 8)) (HBF τ (mO (ru, ou, we, me, ki, ro, ma)) r z) x me (i + 1)))), some (.int ((HBF τ (mO (ru, ou, we, me, ki, ro, ma)) r z) (mwF (PRF (cprM co (fun j => coF τ (mO (ru, ou, we, me, ki, ro, ma)) r z j) 8)) (HBF τ (mO (ru, ou, we, me, ki, ro, ma)) r z) x me (i + 1)))), some (.int (nI (i + 1 + 1))), none]) ⟨rfl, rfl, rfl, by rw [e] <;> rfl, by rw [e] <;> rfl, rfl, trivial⟩ ?_
          exact ih _
        · refine x_aload_n dX10_most_57 rfl ?_
          refine x_iload dX10_most_58 rfl ?_
          refine ii_X10_391 dX10_most_60 (c_X10_priceOf (set := nI (i + 1))) mw_o (by decide) (Nat.le_of_ble_eq_true rfl) ?_
          refine x_iload_n dX10_most_63 rfl ?_
          refine x_icmp_gt 115 dX10_most_64 (fun h_64 => ?_) (fun h_64 => ?_)
          · refine x_iincN dX10_most_115 rfl (by decide) ?_
            refine x_goto 39 dX10_most_118 ?_
            have e : (mwF (PRF (cprM co (fun j => coF τ (mO (ru, ou, we, me, ki, ro, ma)) r z j) 8)) (HBF τ (mO (ru, ou, we, me, ki, ro, ma)) r z) x me (i + 1)) = (mwF (PRF (cprM co (fun j => coF τ (mO (ru, ou, we, me, ki, ro, ma)) r z j) 8)) (HBF τ (mO (ru, ou, we, me, ki, ro, ma)) r z) x me i) := by rw [mwF, if_neg (fun q => Int32.not_lt.mpr q.2.1 h_64)]
            refine Ex.forget (L' := [some (.ref 42), some (.int x), some (.int what), some (.int (nI (mwF (PRF (cprM co (fun j => coF τ (mO (ru, ou, we, me, ki, ro, ma)) r z j) 8)) (HBF τ (mO (ru, ou, we, me, ki, ro, ma)) r z) x me (i + 1)))), some (.int ((HBF τ (mO (ru, ou, we, me, ki, ro, ma)) r z) (mwF (PRF (cprM co (fun j => coF τ (mO (ru, ou, we, me, ki, ro, ma)) r z j) 8)) (HBF τ (mO (ru, ou, we, me, ki, ro, ma)) r z) x me (i + 1)))), some (.int (nI (i + 1 + 1))), none]) ⟨rfl, rfl, rfl, by rw [e] <;> rfl, by rw [e] <;> rfl, rfl, trivial⟩ ?_
            exact ih _
          · refine x_aload_n dX10_most_67 rfl ?_
            refine x_iload dX10_most_68 rfl ?_
            refine iv_X10_394 dX10_most_70 (c_X10_hazyBy (s := i + 1) hX hru hz hz6) mw_o (by decide) (Nat.le_of_ble_eq_true rfl) (fun v_70 w_70 hw_70 => ?_)
            obtain ⟨Λ1, rfl, rfl⟩ := hw_70
            refine x_istore dX10_most_73 (by decide) ?_
            refine x_iload_n dX10_most_75 rfl ?_
            refine x_iconst (-1) dX10_most_76 ?_
            refine x_icmp_eq 108 dX10_most_77 (fun hx => absurd hx (nI_n1 (by omega))) (fun _ => ?_)
            refine x_iload dX10_most_80 rfl ?_
            refine x_iload dX10_most_82 rfl ?_
            refine x_icmp_gt 108 dX10_most_84 (fun h_84 => ?_) (fun h_84 => ?_)
            · refine x_iload dX10_most_108 rfl ?_
              refine x_istore_n dX10_most_110 (by decide) ?_
              refine x_iload dX10_most_111 rfl ?_
              refine x_istore dX10_most_113 (by decide) ?_
              refine x_iincN dX10_most_115 rfl (by decide) ?_
              refine x_goto 39 dX10_most_118 ?_
              have e : (mwF (PRF (cprM co (fun j => coF τ (mO (ru, ou, we, me, ki, ro, ma)) r z j) 8)) (HBF τ (mO (ru, ou, we, me, ki, ro, ma)) r z) x me (i + 1)) = i + 1 := by rw [mwF, if_pos ⟨h_54, Int32.not_lt.mp h_64, Or.inl h_84⟩]
              refine Ex.forget (L' := [some (.ref 42), some (.int x), some (.int what), some (.int (nI (mwF (PRF (cprM co (fun j => coF τ (mO (ru, ou, we, me, ki, ro, ma)) r z j) 8)) (HBF τ (mO (ru, ou, we, me, ki, ro, ma)) r z) x me (i + 1)))), some (.int ((HBF τ (mO (ru, ou, we, me, ki, ro, ma)) r z) (mwF (PRF (cprM co (fun j => coF τ (mO (ru, ou, we, me, ki, ro, ma)) r z j) 8)) (HBF τ (mO (ru, ou, we, me, ki, ro, ma)) r z) x me (i + 1)))), some (.int (nI (i + 1 + 1))), none]) ⟨rfl, rfl, rfl, by rw [e] <;> rfl, by rw [e] <;> rfl, rfl, trivial⟩ ?_
              exact ih _
            · refine x_iload dX10_most_87 rfl ?_
              refine x_iload dX10_most_89 rfl ?_
              refine x_icmp_ne 115 dX10_most_91 (fun h_91 => ?_) (fun h_91 => ?_)
              · refine x_iincN dX10_most_115 rfl (by decide) ?_
                refine x_goto 39 dX10_most_118 ?_
                have e : (mwF (PRF (cprM co (fun j => coF τ (mO (ru, ou, we, me, ki, ro, ma)) r z j) 8)) (HBF τ (mO (ru, ou, we, me, ki, ro, ma)) r z) x me (i + 1)) = (mwF (PRF (cprM co (fun j => coF τ (mO (ru, ou, we, me, ki, ro, ma)) r z j) 8)) (HBF τ (mO (ru, ou, we, me, ki, ro, ma)) r z) x me i) := by rw [mwF, if_neg (fun q => q.2.2.elim (fun y => h_84 y) (fun y => h_91 y.1))]
                refine Ex.forget (L' := [some (.ref 42), some (.int x), some (.int what), some (.int (nI (mwF (PRF (cprM co (fun j => coF τ (mO (ru, ou, we, me, ki, ro, ma)) r z j) 8)) (HBF τ (mO (ru, ou, we, me, ki, ro, ma)) r z) x me (i + 1)))), some (.int ((HBF τ (mO (ru, ou, we, me, ki, ro, ma)) r z) (mwF (PRF (cprM co (fun j => coF τ (mO (ru, ou, we, me, ki, ro, ma)) r z j) 8)) (HBF τ (mO (ru, ou, we, me, ki, ro, ma)) r z) x me (i + 1)))), some (.int (nI (i + 1 + 1))), none]) ⟨rfl, rfl, rfl, by rw [e] <;> rfl, by rw [e] <;> rfl, rfl, trivial⟩ ?_
                exact ih _
              · refine x_aload_n dX10_most_94 rfl ?_
                refine x_iload dX10_most_95 rfl ?_
                refine ii_X10_391 dX10_most_97 (c_X10_priceOf (set := nI (i + 1))) mw_o (by decide) (Nat.le_of_ble_eq_true rfl) ?_
                refine x_aload_n dX10_most_100 rfl ?_
                refine x_iload_n dX10_most_101 rfl ?_
                refine ii_X10_391 dX10_most_102 (c_X10_priceOf (set := nI (mwF (PRF (cprM co (fun j => coF τ (mO (ru, ou, we, me, ki, ro, ma)) r z j) 8)) (HBF τ (mO (ru, ou, we, me, ki, ro, ma)) r z) x me i))) mw_o (by decide) (Nat.le_of_ble_eq_true rfl) ?_
                refine x_icmp_ge 115 dX10_most_105 (fun h_105 => ?_) (fun h_105 => ?_)
                · refine x_iincN dX10_most_115 rfl (by decide) ?_
                  refine x_goto 39 dX10_most_118 ?_
                  have e : (mwF (PRF (cprM co (fun j => coF τ (mO (ru, ou, we, me, ki, ro, ma)) r z j) 8)) (HBF τ (mO (ru, ou, we, me, ki, ro, ma)) r z) x me (i + 1)) = (mwF (PRF (cprM co (fun j => coF τ (mO (ru, ou, we, me, ki, ro, ma)) r z j) 8)) (HBF τ (mO (ru, ou, we, me, ki, ro, ma)) r z) x me i) := by rw [mwF, if_neg (fun q => q.2.2.elim (fun y => h_84 y) (fun y => Int32.not_lt.mpr h_105 y.2))]
                  refine Ex.forget (L' := [some (.ref 42), some (.int x), some (.int what), some (.int (nI (mwF (PRF (cprM co (fun j => coF τ (mO (ru, ou, we, me, ki, ro, ma)) r z j) 8)) (HBF τ (mO (ru, ou, we, me, ki, ro, ma)) r z) x me (i + 1)))), some (.int ((HBF τ (mO (ru, ou, we, me, ki, ro, ma)) r z) (mwF (PRF (cprM co (fun j => coF τ (mO (ru, ou, we, me, ki, ro, ma)) r z j) 8)) (HBF τ (mO (ru, ou, we, me, ki, ro, ma)) r z) x me (i + 1)))), some (.int (nI (i + 1 + 1))), none]) ⟨rfl, rfl, rfl, by rw [e] <;> rfl, by rw [e] <;> rfl, rfl, trivial⟩ ?_
                  exact ih _
                · refine x_iload dX10_most_108 rfl ?_
                  refine x_istore_n dX10_most_110 (by decide) ?_
                  refine x_iload dX10_most_111 rfl ?_
                  refine x_istore dX10_most_113 (by decide) ?_
                  refine x_iincN dX10_most_115 rfl (by decide) ?_
                  refine x_goto 39 dX10_most_118 ?_
                  have e : (mwF (PRF (cprM co (fun j => coF τ (mO (ru, ou, we, me, ki, ro, ma)) r z j) 8)) (HBF τ (mO (ru, ou, we, me, ki, ro, ma)) r z) x me (i + 1)) = i + 1 := by rw [mwF, if_pos ⟨h_54, Int32.not_lt.mp h_64, Or.inr ⟨h_91, Int32.not_le.mp h_105⟩⟩]
                  refine Ex.forget (L' := [some (.ref 42), some (.int x), some (.int what), some (.int (nI (mwF (PRF (cprM co (fun j => coF τ (mO (ru, ou, we, me, ki, ro, ma)) r z j) 8)) (HBF τ (mO (ru, ou, we, me, ki, ro, ma)) r z) x me (i + 1)))), some (.int ((HBF τ (mO (ru, ou, we, me, ki, ro, ma)) r z) (mwF (PRF (cprM co (fun j => coF τ (mO (ru, ou, we, me, ki, ro, ma)) r z j) 8)) (HBF τ (mO (ru, ou, we, me, ki, ro, ma)) r z) x me (i + 1)))), some (.int (nI (i + 1 + 1))), none]) ⟨rfl, rfl, rfl, by rw [e] <;> rfl, by rw [e] <;> rfl, rfl, trivial⟩ ?_
                  exact ih _
    · refine x_bipush (-2) dX10_most_24 ?_
      exact Ex.ret (v := some (.int _)) ⟨dX10_most_26, _, rfl, by first | rfl | decide⟩ ⟨_, _, congrArg (fun z => some (Value.int z)) (by rw [if_pos (or_lt2 (fun q => bi0.mp h_21 q))]), rfl⟩
