def tdF (τ : TV) (O : OT) (r z : Nat) (of what : Int32) : Int32 := if what ≤ 6 then (if isPl z what of then plF O what of else -1000000) else if what = 11 then (if 0 ≤ of ∧ of < 8 then coF τ O r z of.toNatClampNeg else -1000000) else if ¬ onC z of then -1000000 else if 20 ≤ what ∧ what ≤ 27 then thF τ O r of.toNatClampNeg (what - 20).toNatClampNeg else if 30 ≤ what ∧ what ≤ 37 then meF τ O r of.toNatClampNeg (what - 30).toNatClampNeg else if what = 7 then o_ki O of.toNatClampNeg else if what = 8 then moF τ O r of.toNatClampNeg else if what = 9 then hzF τ O r of.toNatClampNeg else if what = 10 then clF τ O r of.toNatClampNeg else -1000000
theorem of_h {z : Nat} {what of : Int32} (h : what = 3 ∨ what = 4 ∨ what = 11) : ofP z what of ↔ (0 ≤ of ∧ of < 8) := by
  have h3 : ¬ what < 3 := by rcases h with h | h | h <;> (rw [h]; decide)
  constructor
  · rintro (q | ⟨-, q | q⟩)
    · exact absurd q h3
    · exact q.2
    · exact absurd h q.1
  · intro q; exact Or.inr ⟨h3, Or.inl ⟨h, q⟩⟩
theorem of_p {z : Nat} {what of : Int32} (h3 : ¬ what < 3) (h : ¬ (what = 3 ∨ what = 4 ∨ what = 11)) : ofP z what of ↔ onC z of := by
  constructor
  · rintro (q | ⟨-, q | q⟩)
    · exact absurd q h3
    · exact absurd q.1 h
    · exact q.2
  · intro q; exact Or.inr ⟨h3, Or.inr ⟨h, q⟩⟩
theorem le11 {x : Int32} (h : 0 ≤ x ∧ x ≤ 11) : x = 0 ∨ x = 1 ∨ x = 2 ∨ x = 3 ∨ x = 4 ∨ x = 5 ∨ x = 6 ∨ x = 7 ∨ x = 8 ∨ x = 9 ∨ x = 10 ∨ x = 11 := by
  simp only [Int32.le_iff_toInt_le, ← Int32.toInt_inj, tI_0, tI_1, tI_2, tI_3, tI_4, tI_5, tI_6, tI_7, tI_8, tI_9, tI_10, tI_11] at *
  omega
theorem le6 {x : Int32} (h : 0 ≤ x ∧ x ≤ 6) : x = 0 ∨ x = 1 ∨ x = 2 ∨ x = 3 ∨ x = 4 ∨ x = 5 ∨ x = 6 := by
  simp only [Int32.le_iff_toInt_le, ← Int32.toInt_inj, tI_0, tI_1, tI_2, tI_3, tI_4, tI_5, tI_6] at *
  omega
theorem tI_27 : Int32.toInt 27 = 27 := by decide
theorem big20 {x : Int32} (h : 20 ≤ x) : ¬ x ≤ 6 ∧ ¬ x = 11 ∧ ¬ x < 3 ∧ ¬ (x = 3 ∨ x = 4 ∨ x = 11) ∧ ¬ (0 ≤ x ∧ x ≤ 11) := by
  simp only [Int32.le_iff_toInt_le, Int32.lt_iff_toInt_lt, ← Int32.toInt_inj, tI_0, tI_3, tI_4, tI_6, tI_11, tI_20] at *
  omega
theorem sub_hr {x a : Int32} {c : Nat} (hc : c < 100) (ha : a = nI c) (h1 : a ≤ x) (h2 : x ≤ nI (c + 7)) : ∃ h, h < 8 ∧ x - a = nI h := by
  have h0 : (0 : Int32) ≤ x := Int32.le_trans (by rw [ha]; exact nI_le (a := 0) (by omega) (by omega)) h1
  obtain ⟨m, hm, rfl⟩ := nat_of h0 (Int32.lt_of_le_of_lt h2 (nI_lt (b := c + 8) (by omega) (by omega))) (by omega)
  rw [ha] at h1
  have := (nI_leI (by omega) (by omega)).mp h1
  exact ⟨m - c, by omega, by rw [ha, pk_sub this]⟩
theorem td_no {τ : TV} {O : OT} {r z : Nat} {of what : Int32} (h1 : ¬ (20 ≤ what ∧ what ≤ 27)) (h2 : ¬ (30 ≤ what ∧ what ≤ 37)) (h3 : ¬ (0 ≤ what ∧ what ≤ 11)) : tdF τ O r z of what = -1000000 := by
  have a7 : ¬ what = 7 := fun q => h3 (by rw [q]; decide)
  have a8 : ¬ what = 8 := fun q => h3 (by rw [q]; decide)
  have a9 : ¬ what = 9 := fun q => h3 (by rw [q]; decide)
  have a10 : ¬ what = 10 := fun q => h3 (by rw [q]; decide)
  have a11 : ¬ what = 11 := fun q => h3 (by rw [q]; decide)
  unfold tdF
  by_cases h6 : what ≤ 6
  · rw [if_pos h6, if_neg]
    intro q
    have : (0 : Int32) ≤ what := by
      rcases q with (q | q | q) | ⟨q | q, -⟩ | ⟨q | q, -⟩ <;> (rw [q]; decide)
    exact h3 ⟨this, Int32.le_trans h6 (by decide)⟩
  · rw [if_neg h6, if_neg a11]
    by_cases ho : ¬ onC z of
    · rw [if_pos ho]
    · rw [if_neg ho, if_neg h1, if_neg h2, if_neg a7, if_neg a8, if_neg a9, if_neg a10]
set_option maxRecDepth 100000 in
set_option maxHeartbeats 4000000 in
theorem c_X10_told {X : Nat × (Nat → Int32)} {S : CS} {tl : pc_W} {T : MT} {ru : Int32} {ou : (Nat → Int32)} {we : (Nat → Int32)} {me : Int32} {ki : (Nat → Int32)} {ro : (Nat → Int32)} {ma : Int32} {Λ : ML} {C : MC} {K : MK} {H : MH} {τ : TV} {r z : Nat} {of what : Int32} (hX : TXm τ T.1 T.2.1 r) (hru : ru = nI r) (hz : ma = nI z) (hz6 : z ≤ 6) (hnu : ∀ i, i < z → ∃ m, m < 10 ∧ ro (2 * i) = nI m): Mt X 48 0 0 yX10_told cX10_told 4 (some .int) [.ref 42, .int of, .int what] (cst S ++ (mw T (ru, ou, we, me, ki, ro, ma) Λ C K H ++ tl)) (fun v w' => ∃ Λ' : ML, v = some (.int (tdF τ (mO (ru, ou, we, me, ki, ro, ma)) r z of what)) ∧ w' = cst S ++ (mw T (ru, ou, we, me, ki, ro, ma) Λ' C K H ++ tl)) := by
  refine Mt.of (by decide +kernel) (fun _ _ => Nat.le_of_ble_eq_true rfl) ?_
  show Ex X mX10_told _ _ _ _ _ _ _ _
  obtain ⟨x0, hx0⟩ : ∃ x0, x0 = tdF τ (mO (ru, ou, we, me, ki, ro, ma)) r z of what := ⟨_, rfl⟩
  rw [← hx0]
  by_cases hA : 20 ≤ what ∧ what ≤ 27
  · obtain ⟨b1, b2, b3, b4, b5⟩ := big20 (Int32.le_trans (by decide : (20 : Int32) ≤ 20) hA.1)
    obtain ⟨h, hh, eh⟩ := sub_hr (c := 20) (a := 20) (by decide) rfl hA.1 hA.2
    refine x_iload_n dX10_told_0 rfl ?_
    refine x_i2l dX10_told_1 ?_
    refine x_ldc2_w dX10_told_2 kk_X10_123 ?_
    refine x_ldc2_w dX10_told_5 kk_X10_125 ?_
    refine ii_X10_76 dX10_told_8 (c_X10_inC (a := 20) (b := 27) (by first | rfl | decide) (by first | rfl | decide)) (by decide) (Nat.le_of_ble_eq_true rfl) ?_
    refine x_if_ne 28 dX10_told_11 (fun _ => ?_) (fun hx => absurd hx (bi1.mpr hA))
    refine x_iconst 1 dX10_told_28 ?_
    refine x_goto 33 dX10_told_29 ?_
    refine x_istore_n dX10_told_33 (by decide) ?_
    refine x_iload_n dX10_told_34 rfl ?_
    refine x_i2l dX10_told_35 ?_
    refine x_lconst 0 dX10_told_36 ?_
    refine x_ldc2_w dX10_told_37 kk_X10_131 ?_
    refine ii_X10_76 dX10_told_40 (c_X10_inC (a := 0) (b := 11) (by first | rfl | decide) (by first | rfl | decide)) (by decide) (Nat.le_of_ble_eq_true rfl) ?_
    refine x_if_ne 50 dX10_told_43 (fun hx => absurd (bi0.mpr b5) hx) (fun _ => ?_)
    refine x_iload_n dX10_told_46 rfl ?_
    refine x_if_eq 59 dX10_told_47 (fun hx => absurd hx (by decide)) (fun _ => ?_)
    refine x_aload_n dX10_told_50 rfl ?_
    refine x_iload_n dX10_told_51 rfl ?_
    refine x_iload_n dX10_told_52 rfl ?_
    refine ii_X10_93 dX10_told_53 (c_X10_isOf hz hz6) mw_o (by decide) (Nat.le_of_ble_eq_true rfl) ?_
    refine x_if_ne 62 dX10_told_56 (fun h_56 => ?_) (fun h_56 => ?_)
    · have ho := (of_p b3 b4).mp (bi1.mp h_56)
      obtain ⟨p, hpz, rfl⟩ := nat_of ho.1 ho.2 (by omega)
      have hcl : (nI p).toNatClampNeg = p := nI_clamp (by omega)
      have hp : p < 6 := by omega
      refine x_iload_n dX10_told_62 rfl ?_
      refine x_if_eq 94 dX10_told_63 (fun hx => absurd hx (by decide)) (fun _ => ?_)
      refine x_iload_n dX10_told_66 rfl ?_
      refine x_bipush 30 dX10_told_67 ?_
      refine x_icmp_ge 84 dX10_told_69 (fun hx => absurd hx (Int32.not_le.mpr (Int32.lt_of_le_of_lt hA.2 (by decide)))) (fun _ => ?_)
      refine x_aload_n dX10_told_72 rfl ?_
      refine x_iload_n dX10_told_73 rfl ?_
      refine x_iload_n dX10_told_74 rfl ?_
      refine x_bipush 20 dX10_told_75 ?_
      refine x_isub dX10_told_77 ?_
      rw [eh]
      refine iv_X10_133 dX10_told_78 (c_X10_thinksOf hX hru hp hh) mw_o (by decide) (Nat.le_of_ble_eq_true rfl) (fun v_78 w_78 hw_78 => ?_)
      obtain ⟨Λ1, rfl, rfl⟩ := hw_78
      refine x_goto 93 dX10_told_81 ?_
      exact Ex.ret (v := some (.int _)) ⟨dX10_told_93, _, rfl, by first | rfl | decide⟩ ⟨_, congrArg (fun z => some (Value.int z)) (by rw [hx0]; unfold tdF; rw [if_neg b1, if_neg b2, if_neg (fun q => q ho), if_pos hA, hcl, eh, nI_clamp (show h < 2 ^ 31 by omega)]), rfl⟩
    · refine x_ldc dX10_told_59 kk_X10_104 ?_
      exact Ex.ret (v := some (.int _)) ⟨dX10_told_61, _, rfl, by first | rfl | decide⟩ ⟨_, congrArg (fun z => some (Value.int z)) (by rw [hx0]; unfold tdF; rw [if_neg b1, if_neg b2, if_pos (fun q => bi0.mp h_56 ((of_p b3 b4).mpr q))]), rfl⟩
  by_cases hB : 30 ≤ what ∧ what ≤ 37
  · obtain ⟨b1, b2, b3, b4, b5⟩ := big20 (Int32.le_trans (by decide : (20 : Int32) ≤ 30) hB.1)
    obtain ⟨h, hh, eh⟩ := sub_hr (c := 30) (a := 30) (by decide) rfl hB.1 hB.2
    refine x_iload_n dX10_told_0 rfl ?_
    refine x_i2l dX10_told_1 ?_
    refine x_ldc2_w dX10_told_2 kk_X10_123 ?_
    refine x_ldc2_w dX10_told_5 kk_X10_125 ?_
    refine ii_X10_76 dX10_told_8 (c_X10_inC (a := 20) (b := 27) (by first | rfl | decide) (by first | rfl | decide)) (by decide) (Nat.le_of_ble_eq_true rfl) ?_
    refine x_if_ne 28 dX10_told_11 (fun hx => absurd (bi0.mpr hA) hx) (fun _ => ?_)
    refine x_iload_n dX10_told_14 rfl ?_
    refine x_i2l dX10_told_15 ?_
    refine x_ldc2_w dX10_told_16 kk_X10_127 ?_
    refine x_ldc2_w dX10_told_19 kk_X10_129 ?_
    refine ii_X10_76 dX10_told_22 (c_X10_inC (a := 30) (b := 37) (by first | rfl | decide) (by first | rfl | decide)) (by decide) (Nat.le_of_ble_eq_true rfl) ?_
    refine x_if_eq 32 dX10_told_25 (fun hx => absurd hx (bi1.mpr hB)) (fun _ => ?_)
    refine x_iconst 1 dX10_told_28 ?_
    refine x_goto 33 dX10_told_29 ?_
    refine x_istore_n dX10_told_33 (by decide) ?_
    refine x_iload_n dX10_told_34 rfl ?_
    refine x_i2l dX10_told_35 ?_
    refine x_lconst 0 dX10_told_36 ?_
    refine x_ldc2_w dX10_told_37 kk_X10_131 ?_
    refine ii_X10_76 dX10_told_40 (c_X10_inC (a := 0) (b := 11) (by first | rfl | decide) (by first | rfl | decide)) (by decide) (Nat.le_of_ble_eq_true rfl) ?_
    refine x_if_ne 50 dX10_told_43 (fun hx => absurd (bi0.mpr b5) hx) (fun _ => ?_)
    refine x_iload_n dX10_told_46 rfl ?_
    refine x_if_eq 59 dX10_told_47 (fun hx => absurd hx (by decide)) (fun _ => ?_)
    refine x_aload_n dX10_told_50 rfl ?_
    refine x_iload_n dX10_told_51 rfl ?_
    refine x_iload_n dX10_told_52 rfl ?_
    refine ii_X10_93 dX10_told_53 (c_X10_isOf hz hz6) mw_o (by decide) (Nat.le_of_ble_eq_true rfl) ?_
    refine x_if_ne 62 dX10_told_56 (fun h_56 => ?_) (fun h_56 => ?_)
    · have ho := (of_p b3 b4).mp (bi1.mp h_56)
      obtain ⟨p, hpz, rfl⟩ := nat_of ho.1 ho.2 (by omega)
      have hcl : (nI p).toNatClampNeg = p := nI_clamp (by omega)
      have hp : p < 6 := by omega
      refine x_iload_n dX10_told_62 rfl ?_
      refine x_if_eq 94 dX10_told_63 (fun hx => absurd hx (by decide)) (fun _ => ?_)
      refine x_iload_n dX10_told_66 rfl ?_
      refine x_bipush 30 dX10_told_67 ?_
      refine x_icmp_ge 84 dX10_told_69 (fun _ => ?_) (fun hx => absurd (hB.1) hx)
      refine x_aload_n dX10_told_84 rfl ?_
      refine x_iload_n dX10_told_85 rfl ?_
      refine x_iload_n dX10_told_86 rfl ?_
      refine x_bipush 30 dX10_told_87 ?_
      refine x_isub dX10_told_89 ?_
      rw [eh]
      refine iv_X10_136 dX10_told_90 (c_X10_mendingOf hX hru hp hh) mw_o (by decide) (Nat.le_of_ble_eq_true rfl) (fun v_90 w_90 hw_90 => ?_)
      obtain ⟨Λ1, rfl, rfl⟩ := hw_90
      exact Ex.ret (v := some (.int _)) ⟨dX10_told_93, _, rfl, by first | rfl | decide⟩ ⟨_, congrArg (fun z => some (Value.int z)) (by rw [hx0]; unfold tdF; rw [if_neg b1, if_neg b2, if_neg (fun q => q ho), if_neg hA, if_pos hB, hcl, eh, nI_clamp (show h < 2 ^ 31 by omega)]), rfl⟩
    · refine x_ldc dX10_told_59 kk_X10_104 ?_
      exact Ex.ret (v := some (.int _)) ⟨dX10_told_61, _, rfl, by first | rfl | decide⟩ ⟨_, congrArg (fun z => some (Value.int z)) (by rw [hx0]; unfold tdF; rw [if_neg b1, if_neg b2, if_pos (fun q => bi0.mp h_56 ((of_p b3 b4).mpr q))]), rfl⟩
  by_cases hC : 0 ≤ what ∧ what ≤ 11
  · rcases le11 hC with rfl | rfl | rfl | rfl | rfl | rfl | rfl | rfl | rfl | rfl | rfl | rfl
    · skip
      refine x_iload_n dX10_told_0 rfl ?_
      refine x_i2l dX10_told_1 ?_
      refine x_ldc2_w dX10_told_2 kk_X10_123 ?_
      refine x_ldc2_w dX10_told_5 kk_X10_125 ?_
      refine ii_X10_76 dX10_told_8 (c_X10_inC (a := 20) (b := 27) (by first | rfl | decide) (by first | rfl | decide)) (by decide) (Nat.le_of_ble_eq_true rfl) ?_
      refine x_if_ne 28 dX10_told_11 (fun hx => absurd (bi0.mpr hA) hx) (fun _ => ?_)
      refine x_iload_n dX10_told_14 rfl ?_
      refine x_i2l dX10_told_15 ?_
      refine x_ldc2_w dX10_told_16 kk_X10_127 ?_
      refine x_ldc2_w dX10_told_19 kk_X10_129 ?_
      refine ii_X10_76 dX10_told_22 (c_X10_inC (a := 30) (b := 37) (by first | rfl | decide) (by first | rfl | decide)) (by decide) (Nat.le_of_ble_eq_true rfl) ?_
      refine x_if_eq 32 dX10_told_25 (fun _ => ?_) (fun hx => absurd (bi0.mpr hB) hx)
      refine x_iconst 0 dX10_told_32 ?_
      refine x_istore_n dX10_told_33 (by decide) ?_
      refine x_iload_n dX10_told_34 rfl ?_
      refine x_i2l dX10_told_35 ?_
      refine x_lconst 0 dX10_told_36 ?_
      refine x_ldc2_w dX10_told_37 kk_X10_131 ?_
      refine ii_X10_76 dX10_told_40 (c_X10_inC (a := 0) (b := 11) (by first | rfl | decide) (by first | rfl | decide)) (by decide) (Nat.le_of_ble_eq_true rfl) ?_
      refine x_if_ne 50 dX10_told_43 (fun _ => ?_) (fun hx => absurd hx (bi1.mpr hC))
      refine x_aload_n dX10_told_50 rfl ?_
      refine x_iload_n dX10_told_51 rfl ?_
      refine x_iload_n dX10_told_52 rfl ?_
      refine ii_X10_93 dX10_told_53 (c_X10_isOf hz hz6) mw_o (by decide) (Nat.le_of_ble_eq_true rfl) ?_
      refine x_if_ne 62 dX10_told_56 (fun _ => ?_) (fun hx => absurd hx (bi1.mpr (Or.inl (by decide))))
      refine x_iload_n dX10_told_62 rfl ?_
      refine x_if_eq 94 dX10_told_63 (fun _ => ?_) (fun hx => absurd (rfl) hx)
      refine x_iload_n dX10_told_94 rfl ?_
      refine x_iconst 5 dX10_told_95 ?_
      refine x_icmp_ge 136 dX10_told_96 (fun hx => absurd hx (by decide)) (fun _ => ?_)
      refine x_iload_n dX10_told_99 rfl ?_
      refine x_iconst 3 dX10_told_100 ?_
      refine x_icmp_ge 113 dX10_told_101 (fun hx => absurd hx (by decide)) (fun _ => ?_)
      refine x_aload_n dX10_told_104 rfl ?_
      refine mg_23 dX10_told_105 ?_
      refine x_iload_n dX10_told_108 rfl ?_
      refine maK_46 0 dX10_told_109 rfl (by decide) ?_
      refine x_goto 135 dX10_told_110 ?_
      exact Ex.ret (v := some (.int _)) ⟨dX10_told_135, _, rfl, by first | rfl | decide⟩ ⟨_, congrArg (fun z => some (Value.int z)) (by rw [hx0]; unfold tdF; rw [if_pos (by decide), if_pos (Or.inl (by decide))]; rfl), rfl⟩
    · skip
      refine x_iload_n dX10_told_0 rfl ?_
      refine x_i2l dX10_told_1 ?_
      refine x_ldc2_w dX10_told_2 kk_X10_123 ?_
      refine x_ldc2_w dX10_told_5 kk_X10_125 ?_
      refine ii_X10_76 dX10_told_8 (c_X10_inC (a := 20) (b := 27) (by first | rfl | decide) (by first | rfl | decide)) (by decide) (Nat.le_of_ble_eq_true rfl) ?_
      refine x_if_ne 28 dX10_told_11 (fun hx => absurd (bi0.mpr hA) hx) (fun _ => ?_)
      refine x_iload_n dX10_told_14 rfl ?_
      refine x_i2l dX10_told_15 ?_
      refine x_ldc2_w dX10_told_16 kk_X10_127 ?_
      refine x_ldc2_w dX10_told_19 kk_X10_129 ?_
      refine ii_X10_76 dX10_told_22 (c_X10_inC (a := 30) (b := 37) (by first | rfl | decide) (by first | rfl | decide)) (by decide) (Nat.le_of_ble_eq_true rfl) ?_
      refine x_if_eq 32 dX10_told_25 (fun _ => ?_) (fun hx => absurd (bi0.mpr hB) hx)
      refine x_iconst 0 dX10_told_32 ?_
      refine x_istore_n dX10_told_33 (by decide) ?_
      refine x_iload_n dX10_told_34 rfl ?_
      refine x_i2l dX10_told_35 ?_
      refine x_lconst 0 dX10_told_36 ?_
      refine x_ldc2_w dX10_told_37 kk_X10_131 ?_
      refine ii_X10_76 dX10_told_40 (c_X10_inC (a := 0) (b := 11) (by first | rfl | decide) (by first | rfl | decide)) (by decide) (Nat.le_of_ble_eq_true rfl) ?_
      refine x_if_ne 50 dX10_told_43 (fun _ => ?_) (fun hx => absurd hx (bi1.mpr hC))
      refine x_aload_n dX10_told_50 rfl ?_
      refine x_iload_n dX10_told_51 rfl ?_
      refine x_iload_n dX10_told_52 rfl ?_
      refine ii_X10_93 dX10_told_53 (c_X10_isOf hz hz6) mw_o (by decide) (Nat.le_of_ble_eq_true rfl) ?_
      refine x_if_ne 62 dX10_told_56 (fun _ => ?_) (fun hx => absurd hx (bi1.mpr (Or.inl (by decide))))
      refine x_iload_n dX10_told_62 rfl ?_
      refine x_if_eq 94 dX10_told_63 (fun _ => ?_) (fun hx => absurd (rfl) hx)
      refine x_iload_n dX10_told_94 rfl ?_
      refine x_iconst 5 dX10_told_95 ?_
      refine x_icmp_ge 136 dX10_told_96 (fun hx => absurd hx (by decide)) (fun _ => ?_)
      refine x_iload_n dX10_told_99 rfl ?_
      refine x_iconst 3 dX10_told_100 ?_
      refine x_icmp_ge 113 dX10_told_101 (fun hx => absurd hx (by decide)) (fun _ => ?_)
      refine x_aload_n dX10_told_104 rfl ?_
      refine mg_23 dX10_told_105 ?_
      refine x_iload_n dX10_told_108 rfl ?_
      refine maK_46 1 dX10_told_109 rfl (by decide) ?_
      refine x_goto 135 dX10_told_110 ?_
      exact Ex.ret (v := some (.int _)) ⟨dX10_told_135, _, rfl, by first | rfl | decide⟩ ⟨_, congrArg (fun z => some (Value.int z)) (by rw [hx0]; unfold tdF; rw [if_pos (by decide), if_pos (Or.inl (by decide))]; rfl), rfl⟩
    · skip
      refine x_iload_n dX10_told_0 rfl ?_
      refine x_i2l dX10_told_1 ?_
      refine x_ldc2_w dX10_told_2 kk_X10_123 ?_
      refine x_ldc2_w dX10_told_5 kk_X10_125 ?_
      refine ii_X10_76 dX10_told_8 (c_X10_inC (a := 20) (b := 27) (by first | rfl | decide) (by first | rfl | decide)) (by decide) (Nat.le_of_ble_eq_true rfl) ?_
      refine x_if_ne 28 dX10_told_11 (fun hx => absurd (bi0.mpr hA) hx) (fun _ => ?_)
      refine x_iload_n dX10_told_14 rfl ?_
      refine x_i2l dX10_told_15 ?_
      refine x_ldc2_w dX10_told_16 kk_X10_127 ?_
      refine x_ldc2_w dX10_told_19 kk_X10_129 ?_
      refine ii_X10_76 dX10_told_22 (c_X10_inC (a := 30) (b := 37) (by first | rfl | decide) (by first | rfl | decide)) (by decide) (Nat.le_of_ble_eq_true rfl) ?_
      refine x_if_eq 32 dX10_told_25 (fun _ => ?_) (fun hx => absurd (bi0.mpr hB) hx)
      refine x_iconst 0 dX10_told_32 ?_
      refine x_istore_n dX10_told_33 (by decide) ?_
      refine x_iload_n dX10_told_34 rfl ?_
      refine x_i2l dX10_told_35 ?_
      refine x_lconst 0 dX10_told_36 ?_
      refine x_ldc2_w dX10_told_37 kk_X10_131 ?_
      refine ii_X10_76 dX10_told_40 (c_X10_inC (a := 0) (b := 11) (by first | rfl | decide) (by first | rfl | decide)) (by decide) (Nat.le_of_ble_eq_true rfl) ?_
      refine x_if_ne 50 dX10_told_43 (fun _ => ?_) (fun hx => absurd hx (bi1.mpr hC))
      refine x_aload_n dX10_told_50 rfl ?_
      refine x_iload_n dX10_told_51 rfl ?_
      refine x_iload_n dX10_told_52 rfl ?_
      refine ii_X10_93 dX10_told_53 (c_X10_isOf hz hz6) mw_o (by decide) (Nat.le_of_ble_eq_true rfl) ?_
      refine x_if_ne 62 dX10_told_56 (fun _ => ?_) (fun hx => absurd hx (bi1.mpr (Or.inl (by decide))))
      refine x_iload_n dX10_told_62 rfl ?_
      refine x_if_eq 94 dX10_told_63 (fun _ => ?_) (fun hx => absurd (rfl) hx)
      refine x_iload_n dX10_told_94 rfl ?_
      refine x_iconst 5 dX10_told_95 ?_
      refine x_icmp_ge 136 dX10_told_96 (fun hx => absurd hx (by decide)) (fun _ => ?_)
      refine x_iload_n dX10_told_99 rfl ?_
      refine x_iconst 3 dX10_told_100 ?_
      refine x_icmp_ge 113 dX10_told_101 (fun hx => absurd hx (by decide)) (fun _ => ?_)
      refine x_aload_n dX10_told_104 rfl ?_
      refine mg_23 dX10_told_105 ?_
      refine x_iload_n dX10_told_108 rfl ?_
      refine maK_46 2 dX10_told_109 rfl (by decide) ?_
      refine x_goto 135 dX10_told_110 ?_
      exact Ex.ret (v := some (.int _)) ⟨dX10_told_135, _, rfl, by first | rfl | decide⟩ ⟨_, congrArg (fun z => some (Value.int z)) (by rw [hx0]; unfold tdF; rw [if_pos (by decide), if_pos (Or.inl (by decide))]; rfl), rfl⟩
    · skip
      refine x_iload_n dX10_told_0 rfl ?_
      refine x_i2l dX10_told_1 ?_
      refine x_ldc2_w dX10_told_2 kk_X10_123 ?_
      refine x_ldc2_w dX10_told_5 kk_X10_125 ?_
      refine ii_X10_76 dX10_told_8 (c_X10_inC (a := 20) (b := 27) (by first | rfl | decide) (by first | rfl | decide)) (by decide) (Nat.le_of_ble_eq_true rfl) ?_
      refine x_if_ne 28 dX10_told_11 (fun hx => absurd (bi0.mpr hA) hx) (fun _ => ?_)
      refine x_iload_n dX10_told_14 rfl ?_
      refine x_i2l dX10_told_15 ?_
      refine x_ldc2_w dX10_told_16 kk_X10_127 ?_
      refine x_ldc2_w dX10_told_19 kk_X10_129 ?_
      refine ii_X10_76 dX10_told_22 (c_X10_inC (a := 30) (b := 37) (by first | rfl | decide) (by first | rfl | decide)) (by decide) (Nat.le_of_ble_eq_true rfl) ?_
      refine x_if_eq 32 dX10_told_25 (fun _ => ?_) (fun hx => absurd (bi0.mpr hB) hx)
      refine x_iconst 0 dX10_told_32 ?_
      refine x_istore_n dX10_told_33 (by decide) ?_
      refine x_iload_n dX10_told_34 rfl ?_
      refine x_i2l dX10_told_35 ?_
      refine x_lconst 0 dX10_told_36 ?_
      refine x_ldc2_w dX10_told_37 kk_X10_131 ?_
      refine ii_X10_76 dX10_told_40 (c_X10_inC (a := 0) (b := 11) (by first | rfl | decide) (by first | rfl | decide)) (by decide) (Nat.le_of_ble_eq_true rfl) ?_
      refine x_if_ne 50 dX10_told_43 (fun _ => ?_) (fun hx => absurd hx (bi1.mpr hC))
      refine x_aload_n dX10_told_50 rfl ?_
      refine x_iload_n dX10_told_51 rfl ?_
      refine x_iload_n dX10_told_52 rfl ?_
      refine ii_X10_93 dX10_told_53 (c_X10_isOf hz hz6) mw_o (by decide) (Nat.le_of_ble_eq_true rfl) ?_
      refine x_if_ne 62 dX10_told_56 (fun h_56 => ?_) (fun h_56 => ?_)
      · have ho := (of_h (by decide)).mp (bi1.mp h_56)
        obtain ⟨i, hi, rfl⟩ := nat_of ho.1 (show of < nI 8 from ho.2) (by omega)
        have hcl : (nI i).toNatClampNeg = i := nI_clamp (by omega)
        refine x_iload_n dX10_told_62 rfl ?_
        refine x_if_eq 94 dX10_told_63 (fun _ => ?_) (fun hx => absurd (rfl) hx)
        refine x_iload_n dX10_told_94 rfl ?_
        refine x_iconst 5 dX10_told_95 ?_
        refine x_icmp_ge 136 dX10_told_96 (fun hx => absurd hx (by decide)) (fun _ => ?_)
        refine x_iload_n dX10_told_99 rfl ?_
        refine x_iconst 3 dX10_told_100 ?_
        refine x_icmp_ge 113 dX10_told_101 (fun _ => ?_) (fun hx => absurd (by decide) hx)
        refine x_iload_n dX10_told_113 rfl ?_
        refine x_iconst 3 dX10_told_114 ?_
        refine x_icmp_ne 127 dX10_told_115 (fun hx => absurd (rfl) hx) (fun _ => ?_)
        refine x_aload_n dX10_told_118 rfl ?_
        refine mg_26 dX10_told_119 ?_
        refine x_iload_n dX10_told_122 rfl ?_
        refine maN_47 dX10_told_123 hi ?_
        refine x_goto 135 dX10_told_124 ?_
        exact Ex.ret (v := some (.int _)) ⟨dX10_told_135, _, rfl, by first | rfl | decide⟩ ⟨_, congrArg (fun z => some (Value.int z)) (by rw [hx0]; unfold tdF; rw [if_pos (by decide), if_pos (Or.inr (Or.inl ⟨by decide, ho⟩))]; unfold plF; rw [if_neg (by decide), if_neg (by decide), if_neg (by decide), if_pos rfl, hcl]; rfl), rfl⟩
      · refine x_ldc dX10_told_59 kk_X10_104 ?_
        exact Ex.ret (v := some (.int _)) ⟨dX10_told_61, _, rfl, by first | rfl | decide⟩ ⟨_, congrArg (fun z => some (Value.int z)) (by rw [hx0]; unfold tdF; rw [if_pos (by decide), if_neg (fun q => q.elim (fun y => absurd y (by decide)) (fun y => y.elim (fun x => bi0.mp h_56 ((of_h (by decide)).mpr x.2)) (fun x => absurd x.1 (by decide))))]), rfl⟩
    · skip
      refine x_iload_n dX10_told_0 rfl ?_
      refine x_i2l dX10_told_1 ?_
      refine x_ldc2_w dX10_told_2 kk_X10_123 ?_
      refine x_ldc2_w dX10_told_5 kk_X10_125 ?_
      refine ii_X10_76 dX10_told_8 (c_X10_inC (a := 20) (b := 27) (by first | rfl | decide) (by first | rfl | decide)) (by decide) (Nat.le_of_ble_eq_true rfl) ?_
      refine x_if_ne 28 dX10_told_11 (fun hx => absurd (bi0.mpr hA) hx) (fun _ => ?_)
      refine x_iload_n dX10_told_14 rfl ?_
      refine x_i2l dX10_told_15 ?_
      refine x_ldc2_w dX10_told_16 kk_X10_127 ?_
      refine x_ldc2_w dX10_told_19 kk_X10_129 ?_
      refine ii_X10_76 dX10_told_22 (c_X10_inC (a := 30) (b := 37) (by first | rfl | decide) (by first | rfl | decide)) (by decide) (Nat.le_of_ble_eq_true rfl) ?_
      refine x_if_eq 32 dX10_told_25 (fun _ => ?_) (fun hx => absurd (bi0.mpr hB) hx)
      refine x_iconst 0 dX10_told_32 ?_
      refine x_istore_n dX10_told_33 (by decide) ?_
      refine x_iload_n dX10_told_34 rfl ?_
      refine x_i2l dX10_told_35 ?_
      refine x_lconst 0 dX10_told_36 ?_
      refine x_ldc2_w dX10_told_37 kk_X10_131 ?_
      refine ii_X10_76 dX10_told_40 (c_X10_inC (a := 0) (b := 11) (by first | rfl | decide) (by first | rfl | decide)) (by decide) (Nat.le_of_ble_eq_true rfl) ?_
      refine x_if_ne 50 dX10_told_43 (fun _ => ?_) (fun hx => absurd hx (bi1.mpr hC))
      refine x_aload_n dX10_told_50 rfl ?_
      refine x_iload_n dX10_told_51 rfl ?_
      refine x_iload_n dX10_told_52 rfl ?_
      refine ii_X10_93 dX10_told_53 (c_X10_isOf hz hz6) mw_o (by decide) (Nat.le_of_ble_eq_true rfl) ?_
      refine x_if_ne 62 dX10_told_56 (fun h_56 => ?_) (fun h_56 => ?_)
      · have ho := (of_h (by decide)).mp (bi1.mp h_56)
        refine x_iload_n dX10_told_62 rfl ?_
        refine x_if_eq 94 dX10_told_63 (fun _ => ?_) (fun hx => absurd (rfl) hx)
        refine x_iload_n dX10_told_94 rfl ?_
        refine x_iconst 5 dX10_told_95 ?_
        refine x_icmp_ge 136 dX10_told_96 (fun hx => absurd hx (by decide)) (fun _ => ?_)
        refine x_iload_n dX10_told_99 rfl ?_
        refine x_iconst 3 dX10_told_100 ?_
        refine x_icmp_ge 113 dX10_told_101 (fun _ => ?_) (fun hx => absurd (by decide) hx)
        refine x_iload_n dX10_told_113 rfl ?_
        refine x_iconst 3 dX10_told_114 ?_
        refine x_icmp_ne 127 dX10_told_115 (fun _ => ?_) (fun hx => absurd hx (by decide))
        refine x_aload_n dX10_told_127 rfl ?_
        refine mg_113 dX10_told_128 ?_
        refine x_iload_n dX10_told_131 rfl ?_
        refine x_ishr dX10_told_132 ?_
        refine x_iconst 1 dX10_told_133 ?_
        refine x_iand dX10_told_134 ?_
        exact Ex.ret (v := some (.int _)) ⟨dX10_told_135, _, rfl, by first | rfl | decide⟩ ⟨_, congrArg (fun z => some (Value.int z)) (by rw [hx0]; unfold tdF; rw [if_pos (by decide), if_pos (Or.inr (Or.inl ⟨by decide, ho⟩))]; rfl), rfl⟩
      · refine x_ldc dX10_told_59 kk_X10_104 ?_
        exact Ex.ret (v := some (.int _)) ⟨dX10_told_61, _, rfl, by first | rfl | decide⟩ ⟨_, congrArg (fun z => some (Value.int z)) (by rw [hx0]; unfold tdF; rw [if_pos (by decide), if_neg (fun q => q.elim (fun y => absurd y (by decide)) (fun y => y.elim (fun x => bi0.mp h_56 ((of_h (by decide)).mpr x.2)) (fun x => absurd x.1 (by decide))))]), rfl⟩
    · skip
      refine x_iload_n dX10_told_0 rfl ?_
      refine x_i2l dX10_told_1 ?_
      refine x_ldc2_w dX10_told_2 kk_X10_123 ?_
      refine x_ldc2_w dX10_told_5 kk_X10_125 ?_
      refine ii_X10_76 dX10_told_8 (c_X10_inC (a := 20) (b := 27) (by first | rfl | decide) (by first | rfl | decide)) (by decide) (Nat.le_of_ble_eq_true rfl) ?_
      refine x_if_ne 28 dX10_told_11 (fun hx => absurd (bi0.mpr hA) hx) (fun _ => ?_)
      refine x_iload_n dX10_told_14 rfl ?_
      refine x_i2l dX10_told_15 ?_
      refine x_ldc2_w dX10_told_16 kk_X10_127 ?_
      refine x_ldc2_w dX10_told_19 kk_X10_129 ?_
      refine ii_X10_76 dX10_told_22 (c_X10_inC (a := 30) (b := 37) (by first | rfl | decide) (by first | rfl | decide)) (by decide) (Nat.le_of_ble_eq_true rfl) ?_
      refine x_if_eq 32 dX10_told_25 (fun _ => ?_) (fun hx => absurd (bi0.mpr hB) hx)
      refine x_iconst 0 dX10_told_32 ?_
      refine x_istore_n dX10_told_33 (by decide) ?_
      refine x_iload_n dX10_told_34 rfl ?_
      refine x_i2l dX10_told_35 ?_
      refine x_lconst 0 dX10_told_36 ?_
      refine x_ldc2_w dX10_told_37 kk_X10_131 ?_
      refine ii_X10_76 dX10_told_40 (c_X10_inC (a := 0) (b := 11) (by first | rfl | decide) (by first | rfl | decide)) (by decide) (Nat.le_of_ble_eq_true rfl) ?_
      refine x_if_ne 50 dX10_told_43 (fun _ => ?_) (fun hx => absurd hx (bi1.mpr hC))
      refine x_aload_n dX10_told_50 rfl ?_
      refine x_iload_n dX10_told_51 rfl ?_
      refine x_iload_n dX10_told_52 rfl ?_
      refine ii_X10_93 dX10_told_53 (c_X10_isOf hz hz6) mw_o (by decide) (Nat.le_of_ble_eq_true rfl) ?_
      refine x_if_ne 62 dX10_told_56 (fun h_56 => ?_) (fun h_56 => ?_)
      · have ho := (of_p (by decide) (by decide)).mp (bi1.mp h_56)
        obtain ⟨p, hpz, rfl⟩ := nat_of ho.1 ho.2 (by omega)
        have hcl : (nI p).toNatClampNeg = p := nI_clamp (by omega)
        have hp : p < 6 := by omega
        refine x_iload_n dX10_told_62 rfl ?_
        refine x_if_eq 94 dX10_told_63 (fun _ => ?_) (fun hx => absurd (rfl) hx)
        refine x_iload_n dX10_told_94 rfl ?_
        refine x_iconst 5 dX10_told_95 ?_
        refine x_icmp_ge 136 dX10_told_96 (fun _ => ?_) (fun hx => absurd (by decide) hx)
        refine x_iload_n dX10_told_136 rfl ?_
        refine x_bipush 8 dX10_told_137 ?_
        refine x_icmp_ge 170 dX10_told_139 (fun hx => absurd hx (by decide)) (fun _ => ?_)
        refine x_iload_n dX10_told_142 rfl ?_
        refine x_bipush 7 dX10_told_143 ?_
        refine x_icmp_ne 157 dX10_told_145 (fun _ => ?_) (fun hx => absurd hx (by decide))
        refine x_aload_n dX10_told_157 rfl ?_
        refine mg_32 dX10_told_158 ?_
        refine x_iconst 2 dX10_told_161 ?_
        refine x_iload_n dX10_told_162 rfl ?_
        refine x_imul dX10_told_163 ?_
        refine x_iload_n dX10_told_164 rfl ?_
        refine x_iadd dX10_told_165 ?_
        refine x_iconst 5 dX10_told_166 ?_
        refine x_isub dX10_told_167 ?_
        rw [show (2 : Int32) * nI p + 5 - 5 = nI (2 * p) from by rw [show (2 : Int32) * nI p = nI (2 * p) from pk_mul 2 p, show nI (2 * p) + 5 = nI (2 * p + 5) from nI_add (2 * p) 5, show nI (2 * p + 5) - 5 = nI (2 * p + 5 - 5) from pk_sub (b := 5) (by omega), show 2 * p + 5 - 5 = 2 * p by omega]]
        refine maN_49 dX10_told_168 (show 2 * p < 12 by omega) ?_
        exact Ex.ret (v := some (.int _)) ⟨dX10_told_169, _, rfl, by first | rfl | decide⟩ ⟨_, congrArg (fun z => some (Value.int z)) (by rw [hx0]; unfold tdF; rw [if_pos (by decide), if_pos (Or.inr (Or.inr ⟨by decide, ho⟩))]; unfold plF; rw [if_neg (by decide), if_neg (by decide), if_neg (by decide), if_neg (by decide), if_neg (by decide), if_pos rfl, hcl]; rfl), rfl⟩
      · refine x_ldc dX10_told_59 kk_X10_104 ?_
        exact Ex.ret (v := some (.int _)) ⟨dX10_told_61, _, rfl, by first | rfl | decide⟩ ⟨_, congrArg (fun z => some (Value.int z)) (by rw [hx0]; unfold tdF; rw [if_pos (by decide), if_neg (fun q => q.elim (fun y => absurd y (by decide)) (fun y => y.elim (fun x => absurd x.1 (by decide)) (fun x => bi0.mp h_56 ((of_p (by decide) (by decide)).mpr x.2))))]), rfl⟩
    · skip
      refine x_iload_n dX10_told_0 rfl ?_
      refine x_i2l dX10_told_1 ?_
      refine x_ldc2_w dX10_told_2 kk_X10_123 ?_
      refine x_ldc2_w dX10_told_5 kk_X10_125 ?_
      refine ii_X10_76 dX10_told_8 (c_X10_inC (a := 20) (b := 27) (by first | rfl | decide) (by first | rfl | decide)) (by decide) (Nat.le_of_ble_eq_true rfl) ?_
      refine x_if_ne 28 dX10_told_11 (fun hx => absurd (bi0.mpr hA) hx) (fun _ => ?_)
      refine x_iload_n dX10_told_14 rfl ?_
      refine x_i2l dX10_told_15 ?_
      refine x_ldc2_w dX10_told_16 kk_X10_127 ?_
      refine x_ldc2_w dX10_told_19 kk_X10_129 ?_
      refine ii_X10_76 dX10_told_22 (c_X10_inC (a := 30) (b := 37) (by first | rfl | decide) (by first | rfl | decide)) (by decide) (Nat.le_of_ble_eq_true rfl) ?_
      refine x_if_eq 32 dX10_told_25 (fun _ => ?_) (fun hx => absurd (bi0.mpr hB) hx)
      refine x_iconst 0 dX10_told_32 ?_
      refine x_istore_n dX10_told_33 (by decide) ?_
      refine x_iload_n dX10_told_34 rfl ?_
      refine x_i2l dX10_told_35 ?_
      refine x_lconst 0 dX10_told_36 ?_
      refine x_ldc2_w dX10_told_37 kk_X10_131 ?_
      refine ii_X10_76 dX10_told_40 (c_X10_inC (a := 0) (b := 11) (by first | rfl | decide) (by first | rfl | decide)) (by decide) (Nat.le_of_ble_eq_true rfl) ?_
      refine x_if_ne 50 dX10_told_43 (fun _ => ?_) (fun hx => absurd hx (bi1.mpr hC))
      refine x_aload_n dX10_told_50 rfl ?_
      refine x_iload_n dX10_told_51 rfl ?_
      refine x_iload_n dX10_told_52 rfl ?_
      refine ii_X10_93 dX10_told_53 (c_X10_isOf hz hz6) mw_o (by decide) (Nat.le_of_ble_eq_true rfl) ?_
      refine x_if_ne 62 dX10_told_56 (fun h_56 => ?_) (fun h_56 => ?_)
      · have ho := (of_p (by decide) (by decide)).mp (bi1.mp h_56)
        obtain ⟨p, hpz, rfl⟩ := nat_of ho.1 ho.2 (by omega)
        have hcl : (nI p).toNatClampNeg = p := nI_clamp (by omega)
        have hp : p < 6 := by omega
        refine x_iload_n dX10_told_62 rfl ?_
        refine x_if_eq 94 dX10_told_63 (fun _ => ?_) (fun hx => absurd (rfl) hx)
        refine x_iload_n dX10_told_94 rfl ?_
        refine x_iconst 5 dX10_told_95 ?_
        refine x_icmp_ge 136 dX10_told_96 (fun _ => ?_) (fun hx => absurd (by decide) hx)
        refine x_iload_n dX10_told_136 rfl ?_
        refine x_bipush 8 dX10_told_137 ?_
        refine x_icmp_ge 170 dX10_told_139 (fun hx => absurd hx (by decide)) (fun _ => ?_)
        refine x_iload_n dX10_told_142 rfl ?_
        refine x_bipush 7 dX10_told_143 ?_
        refine x_icmp_ne 157 dX10_told_145 (fun _ => ?_) (fun hx => absurd hx (by decide))
        refine x_aload_n dX10_told_157 rfl ?_
        refine mg_32 dX10_told_158 ?_
        refine x_iconst 2 dX10_told_161 ?_
        refine x_iload_n dX10_told_162 rfl ?_
        refine x_imul dX10_told_163 ?_
        refine x_iload_n dX10_told_164 rfl ?_
        refine x_iadd dX10_told_165 ?_
        refine x_iconst 5 dX10_told_166 ?_
        refine x_isub dX10_told_167 ?_
        rw [show (2 : Int32) * nI p + 6 - 5 = nI (2 * p + 1) from by rw [show (2 : Int32) * nI p = nI (2 * p) from pk_mul 2 p, show nI (2 * p) + 6 = nI (2 * p + 6) from nI_add (2 * p) 6, show nI (2 * p + 6) - 5 = nI (2 * p + 6 - 5) from pk_sub (b := 5) (by omega), show 2 * p + 6 - 5 = 2 * p + 1 by omega]]
        refine maN_49 dX10_told_168 (show 2 * p + 1 < 12 by omega) ?_
        exact Ex.ret (v := some (.int _)) ⟨dX10_told_169, _, rfl, by first | rfl | decide⟩ ⟨_, congrArg (fun z => some (Value.int z)) (by rw [hx0]; unfold tdF; rw [if_pos (by decide), if_pos (Or.inr (Or.inr ⟨by decide, ho⟩))]; unfold plF; rw [if_neg (by decide), if_neg (by decide), if_neg (by decide), if_neg (by decide), if_neg (by decide), if_neg (by decide), hcl]; rfl), rfl⟩
      · refine x_ldc dX10_told_59 kk_X10_104 ?_
        exact Ex.ret (v := some (.int _)) ⟨dX10_told_61, _, rfl, by first | rfl | decide⟩ ⟨_, congrArg (fun z => some (Value.int z)) (by rw [hx0]; unfold tdF; rw [if_pos (by decide), if_neg (fun q => q.elim (fun y => absurd y (by decide)) (fun y => y.elim (fun x => absurd x.1 (by decide)) (fun x => bi0.mp h_56 ((of_p (by decide) (by decide)).mpr x.2))))]), rfl⟩
    · skip
      refine x_iload_n dX10_told_0 rfl ?_
      refine x_i2l dX10_told_1 ?_
      refine x_ldc2_w dX10_told_2 kk_X10_123 ?_
      refine x_ldc2_w dX10_told_5 kk_X10_125 ?_
      refine ii_X10_76 dX10_told_8 (c_X10_inC (a := 20) (b := 27) (by first | rfl | decide) (by first | rfl | decide)) (by decide) (Nat.le_of_ble_eq_true rfl) ?_
      refine x_if_ne 28 dX10_told_11 (fun hx => absurd (bi0.mpr hA) hx) (fun _ => ?_)
      refine x_iload_n dX10_told_14 rfl ?_
      refine x_i2l dX10_told_15 ?_
      refine x_ldc2_w dX10_told_16 kk_X10_127 ?_
      refine x_ldc2_w dX10_told_19 kk_X10_129 ?_
      refine ii_X10_76 dX10_told_22 (c_X10_inC (a := 30) (b := 37) (by first | rfl | decide) (by first | rfl | decide)) (by decide) (Nat.le_of_ble_eq_true rfl) ?_
      refine x_if_eq 32 dX10_told_25 (fun _ => ?_) (fun hx => absurd (bi0.mpr hB) hx)
      refine x_iconst 0 dX10_told_32 ?_
      refine x_istore_n dX10_told_33 (by decide) ?_
      refine x_iload_n dX10_told_34 rfl ?_
      refine x_i2l dX10_told_35 ?_
      refine x_lconst 0 dX10_told_36 ?_
      refine x_ldc2_w dX10_told_37 kk_X10_131 ?_
      refine ii_X10_76 dX10_told_40 (c_X10_inC (a := 0) (b := 11) (by first | rfl | decide) (by first | rfl | decide)) (by decide) (Nat.le_of_ble_eq_true rfl) ?_
      refine x_if_ne 50 dX10_told_43 (fun _ => ?_) (fun hx => absurd hx (bi1.mpr hC))
      refine x_aload_n dX10_told_50 rfl ?_
      refine x_iload_n dX10_told_51 rfl ?_
      refine x_iload_n dX10_told_52 rfl ?_
      refine ii_X10_93 dX10_told_53 (c_X10_isOf hz hz6) mw_o (by decide) (Nat.le_of_ble_eq_true rfl) ?_
      refine x_if_ne 62 dX10_told_56 (fun h_56 => ?_) (fun h_56 => ?_)
      · have ho := (of_p (by decide) (by decide)).mp (bi1.mp h_56)
        obtain ⟨p, hpz, rfl⟩ := nat_of ho.1 ho.2 (by omega)
        have hcl : (nI p).toNatClampNeg = p := nI_clamp (by omega)
        have hp : p < 6 := by omega
        refine x_iload_n dX10_told_62 rfl ?_
        refine x_if_eq 94 dX10_told_63 (fun _ => ?_) (fun hx => absurd (rfl) hx)
        refine x_iload_n dX10_told_94 rfl ?_
        refine x_iconst 5 dX10_told_95 ?_
        refine x_icmp_ge 136 dX10_told_96 (fun _ => ?_) (fun hx => absurd (by decide) hx)
        refine x_iload_n dX10_told_136 rfl ?_
        refine x_bipush 8 dX10_told_137 ?_
        refine x_icmp_ge 170 dX10_told_139 (fun hx => absurd hx (by decide)) (fun _ => ?_)
        refine x_iload_n dX10_told_142 rfl ?_
        refine x_bipush 7 dX10_told_143 ?_
        refine x_icmp_ne 157 dX10_told_145 (fun hx => absurd (rfl) hx) (fun _ => ?_)
        refine x_aload_n dX10_told_148 rfl ?_
        refine mg_29 dX10_told_149 ?_
        refine x_iload_n dX10_told_152 rfl ?_
        refine maN_48 dX10_told_153 hp ?_
        refine x_goto 169 dX10_told_154 ?_
        exact Ex.ret (v := some (.int _)) ⟨dX10_told_169, _, rfl, by first | rfl | decide⟩ ⟨_, congrArg (fun z => some (Value.int z)) (by rw [hx0]; unfold tdF; rw [if_neg (by decide), if_neg (by decide), if_neg (fun q => q ho), if_neg (by decide), if_neg (by decide), if_pos rfl, hcl]; rfl), rfl⟩
      · refine x_ldc dX10_told_59 kk_X10_104 ?_
        exact Ex.ret (v := some (.int _)) ⟨dX10_told_61, _, rfl, by first | rfl | decide⟩ ⟨_, congrArg (fun z => some (Value.int z)) (by rw [hx0]; unfold tdF; rw [if_neg (by decide), if_neg (by decide), if_pos (fun q => bi0.mp h_56 ((of_p (by decide) (by decide)).mpr q))]), rfl⟩
    · skip
      refine x_iload_n dX10_told_0 rfl ?_
      refine x_i2l dX10_told_1 ?_
      refine x_ldc2_w dX10_told_2 kk_X10_123 ?_
      refine x_ldc2_w dX10_told_5 kk_X10_125 ?_
      refine ii_X10_76 dX10_told_8 (c_X10_inC (a := 20) (b := 27) (by first | rfl | decide) (by first | rfl | decide)) (by decide) (Nat.le_of_ble_eq_true rfl) ?_
      refine x_if_ne 28 dX10_told_11 (fun hx => absurd (bi0.mpr hA) hx) (fun _ => ?_)
      refine x_iload_n dX10_told_14 rfl ?_
      refine x_i2l dX10_told_15 ?_
      refine x_ldc2_w dX10_told_16 kk_X10_127 ?_
      refine x_ldc2_w dX10_told_19 kk_X10_129 ?_
      refine ii_X10_76 dX10_told_22 (c_X10_inC (a := 30) (b := 37) (by first | rfl | decide) (by first | rfl | decide)) (by decide) (Nat.le_of_ble_eq_true rfl) ?_
      refine x_if_eq 32 dX10_told_25 (fun _ => ?_) (fun hx => absurd (bi0.mpr hB) hx)
      refine x_iconst 0 dX10_told_32 ?_
      refine x_istore_n dX10_told_33 (by decide) ?_
      refine x_iload_n dX10_told_34 rfl ?_
      refine x_i2l dX10_told_35 ?_
      refine x_lconst 0 dX10_told_36 ?_
      refine x_ldc2_w dX10_told_37 kk_X10_131 ?_
      refine ii_X10_76 dX10_told_40 (c_X10_inC (a := 0) (b := 11) (by first | rfl | decide) (by first | rfl | decide)) (by decide) (Nat.le_of_ble_eq_true rfl) ?_
      refine x_if_ne 50 dX10_told_43 (fun _ => ?_) (fun hx => absurd hx (bi1.mpr hC))
      refine x_aload_n dX10_told_50 rfl ?_
      refine x_iload_n dX10_told_51 rfl ?_
      refine x_iload_n dX10_told_52 rfl ?_
      refine ii_X10_93 dX10_told_53 (c_X10_isOf hz hz6) mw_o (by decide) (Nat.le_of_ble_eq_true rfl) ?_
      refine x_if_ne 62 dX10_told_56 (fun h_56 => ?_) (fun h_56 => ?_)
      · have ho := (of_p (by decide) (by decide)).mp (bi1.mp h_56)
        obtain ⟨p, hpz, rfl⟩ := nat_of ho.1 ho.2 (by omega)
        have hcl : (nI p).toNatClampNeg = p := nI_clamp (by omega)
        have hp : p < 6 := by omega
        refine x_iload_n dX10_told_62 rfl ?_
        refine x_if_eq 94 dX10_told_63 (fun _ => ?_) (fun hx => absurd (rfl) hx)
        refine x_iload_n dX10_told_94 rfl ?_
        refine x_iconst 5 dX10_told_95 ?_
        refine x_icmp_ge 136 dX10_told_96 (fun _ => ?_) (fun hx => absurd (by decide) hx)
        refine x_iload_n dX10_told_136 rfl ?_
        refine x_bipush 8 dX10_told_137 ?_
        refine x_icmp_ge 170 dX10_told_139 (fun _ => ?_) (fun hx => absurd (by decide) hx)
        refine x_iload_n dX10_told_170 rfl ?_
        refine x_bipush 8 dX10_told_171 ?_
        refine x_icmp_ne 184 dX10_told_173 (fun hx => absurd (rfl) hx) (fun _ => ?_)
        refine x_aload_n dX10_told_176 rfl ?_
        refine x_iload_n dX10_told_177 rfl ?_
        refine iv_X10_139 dX10_told_178 (c_X10_memoryOf hX hru hp) mw_o (by decide) (Nat.le_of_ble_eq_true rfl) (fun v_178 w_178 hw_178 => ?_)
        obtain ⟨Λ1, rfl, rfl⟩ := hw_178
        refine x_goto 225 dX10_told_181 ?_
        exact Ex.ret (v := some (.int _)) ⟨dX10_told_225, _, rfl, by first | rfl | decide⟩ ⟨_, congrArg (fun z => some (Value.int z)) (by rw [hx0]; unfold tdF; rw [if_neg (by decide), if_neg (by decide), if_neg (fun q => q ho), if_neg (by decide), if_neg (by decide), if_neg (by decide), if_pos rfl, hcl]), rfl⟩
      · refine x_ldc dX10_told_59 kk_X10_104 ?_
        exact Ex.ret (v := some (.int _)) ⟨dX10_told_61, _, rfl, by first | rfl | decide⟩ ⟨_, congrArg (fun z => some (Value.int z)) (by rw [hx0]; unfold tdF; rw [if_neg (by decide), if_neg (by decide), if_pos (fun q => bi0.mp h_56 ((of_p (by decide) (by decide)).mpr q))]), rfl⟩
    · skip
      refine x_iload_n dX10_told_0 rfl ?_
      refine x_i2l dX10_told_1 ?_
      refine x_ldc2_w dX10_told_2 kk_X10_123 ?_
      refine x_ldc2_w dX10_told_5 kk_X10_125 ?_
      refine ii_X10_76 dX10_told_8 (c_X10_inC (a := 20) (b := 27) (by first | rfl | decide) (by first | rfl | decide)) (by decide) (Nat.le_of_ble_eq_true rfl) ?_
      refine x_if_ne 28 dX10_told_11 (fun hx => absurd (bi0.mpr hA) hx) (fun _ => ?_)
      refine x_iload_n dX10_told_14 rfl ?_
      refine x_i2l dX10_told_15 ?_
      refine x_ldc2_w dX10_told_16 kk_X10_127 ?_
      refine x_ldc2_w dX10_told_19 kk_X10_129 ?_
      refine ii_X10_76 dX10_told_22 (c_X10_inC (a := 30) (b := 37) (by first | rfl | decide) (by first | rfl | decide)) (by decide) (Nat.le_of_ble_eq_true rfl) ?_
      refine x_if_eq 32 dX10_told_25 (fun _ => ?_) (fun hx => absurd (bi0.mpr hB) hx)
      refine x_iconst 0 dX10_told_32 ?_
      refine x_istore_n dX10_told_33 (by decide) ?_
      refine x_iload_n dX10_told_34 rfl ?_
      refine x_i2l dX10_told_35 ?_
      refine x_lconst 0 dX10_told_36 ?_
      refine x_ldc2_w dX10_told_37 kk_X10_131 ?_
      refine ii_X10_76 dX10_told_40 (c_X10_inC (a := 0) (b := 11) (by first | rfl | decide) (by first | rfl | decide)) (by decide) (Nat.le_of_ble_eq_true rfl) ?_
      refine x_if_ne 50 dX10_told_43 (fun _ => ?_) (fun hx => absurd hx (bi1.mpr hC))
      refine x_aload_n dX10_told_50 rfl ?_
      refine x_iload_n dX10_told_51 rfl ?_
      refine x_iload_n dX10_told_52 rfl ?_
      refine ii_X10_93 dX10_told_53 (c_X10_isOf hz hz6) mw_o (by decide) (Nat.le_of_ble_eq_true rfl) ?_
      refine x_if_ne 62 dX10_told_56 (fun h_56 => ?_) (fun h_56 => ?_)
      · have ho := (of_p (by decide) (by decide)).mp (bi1.mp h_56)
        obtain ⟨p, hpz, rfl⟩ := nat_of ho.1 ho.2 (by omega)
        have hcl : (nI p).toNatClampNeg = p := nI_clamp (by omega)
        have hp : p < 6 := by omega
        refine x_iload_n dX10_told_62 rfl ?_
        refine x_if_eq 94 dX10_told_63 (fun _ => ?_) (fun hx => absurd (rfl) hx)
        refine x_iload_n dX10_told_94 rfl ?_
        refine x_iconst 5 dX10_told_95 ?_
        refine x_icmp_ge 136 dX10_told_96 (fun _ => ?_) (fun hx => absurd (by decide) hx)
        refine x_iload_n dX10_told_136 rfl ?_
        refine x_bipush 8 dX10_told_137 ?_
        refine x_icmp_ge 170 dX10_told_139 (fun _ => ?_) (fun hx => absurd (by decide) hx)
        refine x_iload_n dX10_told_170 rfl ?_
        refine x_bipush 8 dX10_told_171 ?_
        refine x_icmp_ne 184 dX10_told_173 (fun _ => ?_) (fun hx => absurd hx (by decide))
        refine x_iload_n dX10_told_184 rfl ?_
        refine x_bipush 9 dX10_told_185 ?_
        refine x_icmp_ne 206 dX10_told_187 (fun hx => absurd (rfl) hx) (fun _ => ?_)
        refine x_aload_n dX10_told_190 rfl ?_
        refine x_iload_n dX10_told_191 rfl ?_
        refine iv_X10_142 dX10_told_192 (c_X10_isHazy hX hru hp) mw_o (by decide) (Nat.le_of_ble_eq_true rfl) (fun v_192 w_192 hw_192 => ?_)
        obtain ⟨Λ1, rfl, rfl⟩ := hw_192
        refine x_if_eq 202 dX10_told_195 (fun h_195 => ?_) (fun h_195 => ?_)
        · refine x_iconst 0 dX10_told_202 ?_
          refine x_goto 225 dX10_told_203 ?_
          exact Ex.ret (v := some (.int _)) ⟨dX10_told_225, _, rfl, by first | rfl | decide⟩ ⟨_, congrArg (fun z => some (Value.int z)) (by rw [hx0]; unfold tdF; rw [if_neg (by decide), if_neg (by decide), if_neg (fun q => q ho), if_neg (by decide), if_neg (by decide), if_neg (by decide), if_neg (by decide), if_pos rfl, hcl]; exact h_195.symm), rfl⟩
        · refine x_iconst 1 dX10_told_198 ?_
          refine x_goto 225 dX10_told_199 ?_
          exact Ex.ret (v := some (.int _)) ⟨dX10_told_225, _, rfl, by first | rfl | decide⟩ ⟨_, congrArg (fun z => some (Value.int z)) (by rw [hx0]; unfold tdF; rw [if_neg (by decide), if_neg (by decide), if_neg (fun q => q ho), if_neg (by decide), if_neg (by decide), if_neg (by decide), if_neg (by decide), if_pos rfl, hcl]; exact (bi_t (bi1.mp h_195)).symm), rfl⟩
      · refine x_ldc dX10_told_59 kk_X10_104 ?_
        exact Ex.ret (v := some (.int _)) ⟨dX10_told_61, _, rfl, by first | rfl | decide⟩ ⟨_, congrArg (fun z => some (Value.int z)) (by rw [hx0]; unfold tdF; rw [if_neg (by decide), if_neg (by decide), if_pos (fun q => bi0.mp h_56 ((of_p (by decide) (by decide)).mpr q))]), rfl⟩
    · skip
      refine x_iload_n dX10_told_0 rfl ?_
      refine x_i2l dX10_told_1 ?_
      refine x_ldc2_w dX10_told_2 kk_X10_123 ?_
      refine x_ldc2_w dX10_told_5 kk_X10_125 ?_
      refine ii_X10_76 dX10_told_8 (c_X10_inC (a := 20) (b := 27) (by first | rfl | decide) (by first | rfl | decide)) (by decide) (Nat.le_of_ble_eq_true rfl) ?_
      refine x_if_ne 28 dX10_told_11 (fun hx => absurd (bi0.mpr hA) hx) (fun _ => ?_)
      refine x_iload_n dX10_told_14 rfl ?_
      refine x_i2l dX10_told_15 ?_
      refine x_ldc2_w dX10_told_16 kk_X10_127 ?_
      refine x_ldc2_w dX10_told_19 kk_X10_129 ?_
      refine ii_X10_76 dX10_told_22 (c_X10_inC (a := 30) (b := 37) (by first | rfl | decide) (by first | rfl | decide)) (by decide) (Nat.le_of_ble_eq_true rfl) ?_
      refine x_if_eq 32 dX10_told_25 (fun _ => ?_) (fun hx => absurd (bi0.mpr hB) hx)
      refine x_iconst 0 dX10_told_32 ?_
      refine x_istore_n dX10_told_33 (by decide) ?_
      refine x_iload_n dX10_told_34 rfl ?_
      refine x_i2l dX10_told_35 ?_
      refine x_lconst 0 dX10_told_36 ?_
      refine x_ldc2_w dX10_told_37 kk_X10_131 ?_
      refine ii_X10_76 dX10_told_40 (c_X10_inC (a := 0) (b := 11) (by first | rfl | decide) (by first | rfl | decide)) (by decide) (Nat.le_of_ble_eq_true rfl) ?_
      refine x_if_ne 50 dX10_told_43 (fun _ => ?_) (fun hx => absurd hx (bi1.mpr hC))
      refine x_aload_n dX10_told_50 rfl ?_
      refine x_iload_n dX10_told_51 rfl ?_
      refine x_iload_n dX10_told_52 rfl ?_
      refine ii_X10_93 dX10_told_53 (c_X10_isOf hz hz6) mw_o (by decide) (Nat.le_of_ble_eq_true rfl) ?_
      refine x_if_ne 62 dX10_told_56 (fun h_56 => ?_) (fun h_56 => ?_)
      · have ho := (of_p (by decide) (by decide)).mp (bi1.mp h_56)
        obtain ⟨p, hpz, rfl⟩ := nat_of ho.1 ho.2 (by omega)
        have hcl : (nI p).toNatClampNeg = p := nI_clamp (by omega)
        have hp : p < 6 := by omega
        refine x_iload_n dX10_told_62 rfl ?_
        refine x_if_eq 94 dX10_told_63 (fun _ => ?_) (fun hx => absurd (rfl) hx)
        refine x_iload_n dX10_told_94 rfl ?_
        refine x_iconst 5 dX10_told_95 ?_
        refine x_icmp_ge 136 dX10_told_96 (fun _ => ?_) (fun hx => absurd (by decide) hx)
        refine x_iload_n dX10_told_136 rfl ?_
        refine x_bipush 8 dX10_told_137 ?_
        refine x_icmp_ge 170 dX10_told_139 (fun _ => ?_) (fun hx => absurd (by decide) hx)
        refine x_iload_n dX10_told_170 rfl ?_
        refine x_bipush 8 dX10_told_171 ?_
        refine x_icmp_ne 184 dX10_told_173 (fun _ => ?_) (fun hx => absurd hx (by decide))
        refine x_iload_n dX10_told_184 rfl ?_
        refine x_bipush 9 dX10_told_185 ?_
        refine x_icmp_ne 206 dX10_told_187 (fun _ => ?_) (fun hx => absurd hx (by decide))
        refine x_iload_n dX10_told_206 rfl ?_
        refine x_bipush 10 dX10_told_207 ?_
        refine x_icmp_ne 220 dX10_told_209 (fun hx => absurd (rfl) hx) (fun _ => ?_)
        refine x_aload_n dX10_told_212 rfl ?_
        refine x_iload_n dX10_told_213 rfl ?_
        refine iv_X10_145 dX10_told_214 (c_X10_claimsOf hX hru hp (hnu p hpz)) mw_o (by decide) (Nat.le_of_ble_eq_true rfl) (fun v_214 w_214 hw_214 => ?_)
        obtain ⟨Λ1, rfl, rfl⟩ := hw_214
        refine x_goto 225 dX10_told_217 ?_
        exact Ex.ret (v := some (.int _)) ⟨dX10_told_225, _, rfl, by first | rfl | decide⟩ ⟨_, congrArg (fun z => some (Value.int z)) (by rw [hx0]; unfold tdF; rw [if_neg (by decide), if_neg (by decide), if_neg (fun q => q ho), if_neg (by decide), if_neg (by decide), if_neg (by decide), if_neg (by decide), if_neg (by decide), if_pos rfl, hcl]), rfl⟩
      · refine x_ldc dX10_told_59 kk_X10_104 ?_
        exact Ex.ret (v := some (.int _)) ⟨dX10_told_61, _, rfl, by first | rfl | decide⟩ ⟨_, congrArg (fun z => some (Value.int z)) (by rw [hx0]; unfold tdF; rw [if_neg (by decide), if_neg (by decide), if_pos (fun q => bi0.mp h_56 ((of_p (by decide) (by decide)).mpr q))]), rfl⟩
    · skip
      refine x_iload_n dX10_told_0 rfl ?_
      refine x_i2l dX10_told_1 ?_
      refine x_ldc2_w dX10_told_2 kk_X10_123 ?_
      refine x_ldc2_w dX10_told_5 kk_X10_125 ?_
      refine ii_X10_76 dX10_told_8 (c_X10_inC (a := 20) (b := 27) (by first | rfl | decide) (by first | rfl | decide)) (by decide) (Nat.le_of_ble_eq_true rfl) ?_
      refine x_if_ne 28 dX10_told_11 (fun hx => absurd (bi0.mpr hA) hx) (fun _ => ?_)
      refine x_iload_n dX10_told_14 rfl ?_
      refine x_i2l dX10_told_15 ?_
      refine x_ldc2_w dX10_told_16 kk_X10_127 ?_
      refine x_ldc2_w dX10_told_19 kk_X10_129 ?_
      refine ii_X10_76 dX10_told_22 (c_X10_inC (a := 30) (b := 37) (by first | rfl | decide) (by first | rfl | decide)) (by decide) (Nat.le_of_ble_eq_true rfl) ?_
      refine x_if_eq 32 dX10_told_25 (fun _ => ?_) (fun hx => absurd (bi0.mpr hB) hx)
      refine x_iconst 0 dX10_told_32 ?_
      refine x_istore_n dX10_told_33 (by decide) ?_
      refine x_iload_n dX10_told_34 rfl ?_
      refine x_i2l dX10_told_35 ?_
      refine x_lconst 0 dX10_told_36 ?_
      refine x_ldc2_w dX10_told_37 kk_X10_131 ?_
      refine ii_X10_76 dX10_told_40 (c_X10_inC (a := 0) (b := 11) (by first | rfl | decide) (by first | rfl | decide)) (by decide) (Nat.le_of_ble_eq_true rfl) ?_
      refine x_if_ne 50 dX10_told_43 (fun _ => ?_) (fun hx => absurd hx (bi1.mpr hC))
      refine x_aload_n dX10_told_50 rfl ?_
      refine x_iload_n dX10_told_51 rfl ?_
      refine x_iload_n dX10_told_52 rfl ?_
      refine ii_X10_93 dX10_told_53 (c_X10_isOf hz hz6) mw_o (by decide) (Nat.le_of_ble_eq_true rfl) ?_
      refine x_if_ne 62 dX10_told_56 (fun h_56 => ?_) (fun h_56 => ?_)
      · have ho := (of_h (by decide)).mp (bi1.mp h_56)
        obtain ⟨i, hi, rfl⟩ := nat_of ho.1 (show of < nI 8 from ho.2) (by omega)
        have hcl : (nI i).toNatClampNeg = i := nI_clamp (by omega)
        refine x_iload_n dX10_told_62 rfl ?_
        refine x_if_eq 94 dX10_told_63 (fun _ => ?_) (fun hx => absurd (rfl) hx)
        refine x_iload_n dX10_told_94 rfl ?_
        refine x_iconst 5 dX10_told_95 ?_
        refine x_icmp_ge 136 dX10_told_96 (fun _ => ?_) (fun hx => absurd (by decide) hx)
        refine x_iload_n dX10_told_136 rfl ?_
        refine x_bipush 8 dX10_told_137 ?_
        refine x_icmp_ge 170 dX10_told_139 (fun _ => ?_) (fun hx => absurd (by decide) hx)
        refine x_iload_n dX10_told_170 rfl ?_
        refine x_bipush 8 dX10_told_171 ?_
        refine x_icmp_ne 184 dX10_told_173 (fun _ => ?_) (fun hx => absurd hx (by decide))
        refine x_iload_n dX10_told_184 rfl ?_
        refine x_bipush 9 dX10_told_185 ?_
        refine x_icmp_ne 206 dX10_told_187 (fun _ => ?_) (fun hx => absurd hx (by decide))
        refine x_iload_n dX10_told_206 rfl ?_
        refine x_bipush 10 dX10_told_207 ?_
        refine x_icmp_ne 220 dX10_told_209 (fun _ => ?_) (fun hx => absurd hx (by decide))
        refine x_aload_n dX10_told_220 rfl ?_
        refine x_iload_n dX10_told_221 rfl ?_
        refine iv_X10_148 dX10_told_222 (c_X10_costOf hX hru hz hz6 hi) mw_o (by decide) (Nat.le_of_ble_eq_true rfl) (fun v_222 w_222 hw_222 => ?_)
        obtain ⟨Λ1, rfl, rfl⟩ := hw_222
        exact Ex.ret (v := some (.int _)) ⟨dX10_told_225, _, rfl, by first | rfl | decide⟩ ⟨_, congrArg (fun z => some (Value.int z)) (by rw [hx0]; unfold tdF; rw [if_neg (by decide), if_pos rfl, if_pos ho, hcl]), rfl⟩
      · refine x_ldc dX10_told_59 kk_X10_104 ?_
        exact Ex.ret (v := some (.int _)) ⟨dX10_told_61, _, rfl, by first | rfl | decide⟩ ⟨_, congrArg (fun z => some (Value.int z)) (by rw [hx0]; unfold tdF; rw [if_neg (by decide), if_pos rfl, if_neg (fun q => bi0.mp h_56 ((of_h (by decide)).mpr q))]), rfl⟩
  · skip
    refine x_iload_n dX10_told_0 rfl ?_
    refine x_i2l dX10_told_1 ?_
    refine x_ldc2_w dX10_told_2 kk_X10_123 ?_
    refine x_ldc2_w dX10_told_5 kk_X10_125 ?_
    refine ii_X10_76 dX10_told_8 (c_X10_inC (a := 20) (b := 27) (by first | rfl | decide) (by first | rfl | decide)) (by decide) (Nat.le_of_ble_eq_true rfl) ?_
    refine x_if_ne 28 dX10_told_11 (fun hx => absurd (bi0.mpr hA) hx) (fun _ => ?_)
    refine x_iload_n dX10_told_14 rfl ?_
    refine x_i2l dX10_told_15 ?_
    refine x_ldc2_w dX10_told_16 kk_X10_127 ?_
    refine x_ldc2_w dX10_told_19 kk_X10_129 ?_
    refine ii_X10_76 dX10_told_22 (c_X10_inC (a := 30) (b := 37) (by first | rfl | decide) (by first | rfl | decide)) (by decide) (Nat.le_of_ble_eq_true rfl) ?_
    refine x_if_eq 32 dX10_told_25 (fun _ => ?_) (fun hx => absurd (bi0.mpr hB) hx)
    refine x_iconst 0 dX10_told_32 ?_
    refine x_istore_n dX10_told_33 (by decide) ?_
    refine x_iload_n dX10_told_34 rfl ?_
    refine x_i2l dX10_told_35 ?_
    refine x_lconst 0 dX10_told_36 ?_
    refine x_ldc2_w dX10_told_37 kk_X10_131 ?_
    refine ii_X10_76 dX10_told_40 (c_X10_inC (a := 0) (b := 11) (by first | rfl | decide) (by first | rfl | decide)) (by decide) (Nat.le_of_ble_eq_true rfl) ?_
    refine x_if_ne 50 dX10_told_43 (fun hx => absurd (bi0.mpr hC) hx) (fun _ => ?_)
    refine x_iload_n dX10_told_46 rfl ?_
    refine x_if_eq 59 dX10_told_47 (fun _ => ?_) (fun hx => absurd (rfl) hx)
    refine x_ldc dX10_told_59 kk_X10_104 ?_
    exact Ex.ret (v := some (.int _)) ⟨dX10_told_61, _, rfl, by first | rfl | decide⟩ ⟨_, congrArg (fun z => some (Value.int z)) (by rw [hx0]; exact (td_no hA hB hC).symm), rfl⟩
