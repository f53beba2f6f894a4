theorem hr_iff {x a : Int32} {c : Nat} (hc : c < 100) (ha : a = nI c) : (0 ≤ x - a ∧ x - a < 8) ↔ (a ≤ x ∧ x ≤ nI (c + 7)) := by
  constructor
  · intro q
    obtain ⟨h, hh, e⟩ := nat_of q.1 (show x - a < nI 8 from q.2) (by omega)
    have e2 : x = nI (h + c) := by rw [← nI_add, ← e, ha, Int32.sub_add_cancel]
    rw [e2, ha]
    exact ⟨nI_le (by omega) (by omega), nI_le (by omega) (by omega)⟩
  · intro q
    obtain ⟨h, hh, e⟩ := sub_hr hc ha q.1 q.2
    rw [e]
    exact ⟨nI_le (a := 0) (by omega) (by omega), nI_lt (b := 8) hh (by decide)⟩
theorem hr20 {x : Int32} : (0 ≤ x - 20 ∧ x - 20 < 8) ↔ (20 ≤ x ∧ x ≤ 27) := hr_iff (c := 20) (by decide) rfl
theorem hr30 {x : Int32} : (0 ≤ x - 30 ∧ x - 30 < 8) ↔ (30 ≤ x ∧ x ≤ 37) := hr_iff (c := 30) (by decide) rfl
theorem hz_b {τ : TV} {O : OT} {r p : Nat} : hzF τ O r p = 0 ∨ hzF τ O r p = 1 := by
  unfold hzF
  by_cases h : o_li O ≤ moF τ O r p
  · right; exact bi_t h
  · left; exact bi_f h
set_option maxRecDepth 100000 in
set_option maxHeartbeats 4000000 in
theorem c_X9_told {X : Nat × (Nat → Int32)} {S : CS} {tl : pc_W} {τ : TV} {r z : Nat} {of what : Int32} (hX : TXr τ S tl r) (hr : o_ru (s_now S) = nI r) (hz : o_sz (s_now S) = nI z) (hz6 : z ≤ 6): Mt X 6 0 0 yX9_told cX9_told 3 (some .int) [.ref 0, .int of, .int what] (cst S ++ tl) (RS (tdF τ (s_now S) r z of what) S tl) := by
  refine Mt.of (by decide +kernel) (fun _ _ => Nat.le_of_ble_eq_true rfl) ?_
  show Ex X mX9_told _ _ _ _ _ _ _ _
  refine x_iload_n dX9_told_0 rfl ?_
  refine x_bipush 6 dX9_told_1 ?_
  refine x_icmp_gt 27 dX9_told_3 (fun h_3 => ?_) (fun h_3 => ?_)
  · refine x_iload_n dX9_told_27 rfl ?_
    refine x_bipush 11 dX9_told_28 ?_
    refine x_icmp_ne 58 dX9_told_30 (fun h_30 => ?_) (fun h_30 => ?_)
    · refine x_aload_n dX9_told_58 rfl ?_
      refine gf_X9_10 dX9_told_59 rfl rfl ?_
      refine x_iload_n dX9_told_62 rfl ?_
      refine ii_X9_107 dX9_told_63 c_X3_has rfl (by decide) (Nat.le_of_ble_eq_true rfl) ?_
      refine x_if_ne 72 dX9_told_66 (fun h_66 => ?_) (fun h_66 => ?_)
      · obtain ⟨p, hpz, rfl⟩ := nat_of (bi1.mp (show ¬ bi (0 ≤ of ∧ of < o_sz (s_now S)) = 0 from h_66)).1 (show of < nI z from by rw [← hz]; exact (bi1.mp h_66).2) (by omega)
        have hp : p < 6 := by omega
        have hcl : (nI p).toNatClampNeg = p := nI_clamp (by omega)
        have ho : onC z (nI p) := ⟨nI_le (a := 0) (by omega) (by omega), nI_lt hpz (by omega)⟩
        refine x_iload_n dX9_told_72 rfl ?_
        refine x_bipush 20 dX9_told_73 ?_
        refine x_isub dX9_told_75 ?_
        refine ii_X9_99 dX9_told_76 c_X9_isHour (by decide) (Nat.le_of_ble_eq_true rfl) ?_
        refine x_if_eq 99 dX9_told_79 (fun h_79 => ?_) (fun h_79 => ?_)
        · refine x_iload_n dX9_told_99 rfl ?_
          refine x_bipush 30 dX9_told_100 ?_
          refine x_isub dX9_told_102 ?_
          refine ii_X9_99 dX9_told_103 c_X9_isHour (by decide) (Nat.le_of_ble_eq_true rfl) ?_
          refine x_if_eq 126 dX9_told_106 (fun h_106 => ?_) (fun h_106 => ?_)
          · refine x_iload_n dX9_told_126 rfl ?_
            refine x_swC 7 (fun s_127_0 => ?_) (fun s_127_0 => ?_)
            · refine x_tswIn 156 dX9_told_127 (by decide) (by decide) rfl ?_
              refine x_aload_n dX9_told_156 rfl ?_
              refine gf_X9_10 dX9_told_157 rfl rfl ?_
              refine gf_X9_117 dX9_told_160 rfl rfl ?_
              refine x_iload_n dX9_told_163 rfl ?_
              refine x_ialoadN (n := 6) dX9_told_164 rfl hp (by decide) ?_
              exact Ex.ret (v := some (.int _)) ⟨dX9_told_165, _, rfl, by first | rfl | decide⟩ ⟨s_nm S, s_sk S, congrArg (fun z => some (Value.int z)) (by unfold tdF; rw [if_neg (Int32.not_le.mpr h_3), if_neg h_30, if_neg (fun y => y ho), if_neg (fun y => bi0.mp h_79 (hr20.mpr y)), if_neg (fun y => bi0.mp h_106 (hr30.mpr y)), if_pos s_127_0, hcl]), rfl⟩
            refine x_swC 8 (fun s_127_1 => ?_) (fun s_127_1 => ?_)
            · refine x_tswIn 166 dX9_told_127 (by decide) (by decide) rfl ?_
              refine x_aload_n dX9_told_166 rfl ?_
              refine gf_X9_36 dX9_told_167 rfl rfl ?_
              refine x_aload_n dX9_told_170 rfl ?_
              refine gf_X9_10 dX9_told_171 rfl rfl ?_
              refine x_iload_n dX9_told_174 rfl ?_
              refine iv_X9_120 dX9_told_175 (c_X2_memory_n hX hr hp) rfl (by decide) (Nat.le_of_ble_eq_true rfl) (fun v_175 w_175 hw_175 => ?_)
              obtain ⟨nm, sk, rfl, rfl⟩ := hw_175
              exact Ex.ret (v := some (.int _)) ⟨dX9_told_178, _, rfl, by first | rfl | decide⟩ ⟨nm, sk, congrArg (fun z => some (Value.int z)) (by unfold tdF; rw [if_neg (Int32.not_le.mpr h_3), if_neg h_30, if_neg (fun y => y ho), if_neg (fun y => bi0.mp h_79 (hr20.mpr y)), if_neg (fun y => bi0.mp h_106 (hr30.mpr y)), if_neg s_127_0, if_pos s_127_1, hcl]), rfl⟩
            refine x_swC 9 (fun s_127_2 => ?_) (fun s_127_2 => ?_)
            · refine x_tswIn 179 dX9_told_127 (by decide) (by decide) rfl ?_
              refine x_aload_n dX9_told_179 rfl ?_
              refine gf_X9_36 dX9_told_180 rfl rfl ?_
              refine x_aload_n dX9_told_183 rfl ?_
              refine gf_X9_10 dX9_told_184 rfl rfl ?_
              refine x_iload_n dX9_told_187 rfl ?_
              refine iv_X9_123 dX9_told_188 (c_X2_isHazy_n hX hr hp) rfl (by decide) (Nat.le_of_ble_eq_true rfl) (fun v_188 w_188 hw_188 => ?_)
              obtain ⟨nm, sk, rfl, rfl⟩ := hw_188
              refine x_if_eq 198 dX9_told_191 (fun h_191 => ?_) (fun h_191 => ?_)
              · refine x_iconst 0 dX9_told_198 ?_
                exact Ex.ret (v := some (.int _)) ⟨dX9_told_199, _, rfl, by first | rfl | decide⟩ ⟨nm, sk, congrArg (fun z => some (Value.int z)) (by unfold tdF; rw [if_neg (Int32.not_le.mpr h_3), if_neg h_30, if_neg (fun y => y ho), if_neg (fun y => bi0.mp h_79 (hr20.mpr y)), if_neg (fun y => bi0.mp h_106 (hr30.mpr y)), if_neg s_127_0, if_neg s_127_1, if_pos s_127_2, hcl]; exact h_191.symm), rfl⟩
              · refine x_iconst 1 dX9_told_194 ?_
                refine x_goto 199 dX9_told_195 ?_
                exact Ex.ret (v := some (.int _)) ⟨dX9_told_199, _, rfl, by first | rfl | decide⟩ ⟨nm, sk, congrArg (fun z => some (Value.int z)) (by unfold tdF; rw [if_neg (Int32.not_le.mpr h_3), if_neg h_30, if_neg (fun y => y ho), if_neg (fun y => bi0.mp h_79 (hr20.mpr y)), if_neg (fun y => bi0.mp h_106 (hr30.mpr y)), if_neg s_127_0, if_neg s_127_1, if_pos s_127_2, hcl]; exact (hz_b.resolve_left h_191).symm), rfl⟩
            refine x_swC 10 (fun s_127_3 => ?_) (fun s_127_3 => ?_)
            · refine x_tswIn 200 dX9_told_127 (by decide) (by decide) rfl ?_
              refine x_aload_n dX9_told_200 rfl ?_
              refine gf_X9_36 dX9_told_201 rfl rfl ?_
              refine x_aload_n dX9_told_204 rfl ?_
              refine gf_X9_10 dX9_told_205 rfl rfl ?_
              refine x_iload_n dX9_told_208 rfl ?_
              refine iv_X9_127 dX9_told_209 (c_X2_claimed_n hX hr hp) rfl (by decide) (Nat.le_of_ble_eq_true rfl) (fun v_209 w_209 hw_209 => ?_)
              obtain ⟨nm, sk, rfl, rfl⟩ := hw_209
              exact Ex.ret (v := some (.int _)) ⟨dX9_told_212, _, rfl, by first | rfl | decide⟩ ⟨nm, sk, congrArg (fun z => some (Value.int z)) (by unfold tdF; rw [if_neg (Int32.not_le.mpr h_3), if_neg h_30, if_neg (fun y => y ho), if_neg (fun y => bi0.mp h_79 (hr20.mpr y)), if_neg (fun y => bi0.mp h_106 (hr30.mpr y)), if_neg s_127_0, if_neg s_127_1, if_neg s_127_2, if_pos s_127_3, hcl]), rfl⟩
            refine x_tswOut 213 dX9_told_127 (by have e0 := lv_neT (a := 7) s_127_0 (by decide); have e1 := lv_neT (a := 8) s_127_1 (by decide); have e2 := lv_neT (a := 9) s_127_2 (by decide); have e3 := lv_neT (a := 10) s_127_3 (by decide); omega) ?_
            refine x_ldc dX9_told_213 kk_X9_87 ?_
            exact Ex.ret (v := some (.int _)) ⟨dX9_told_215, _, rfl, by first | rfl | decide⟩ ⟨s_nm S, s_sk S, congrArg (fun z => some (Value.int z)) (by unfold tdF; rw [if_neg (Int32.not_le.mpr h_3), if_neg h_30, if_neg (fun y => y ho), if_neg (fun y => bi0.mp h_79 (hr20.mpr y)), if_neg (fun y => bi0.mp h_106 (hr30.mpr y)), if_neg s_127_0, if_neg s_127_1, if_neg s_127_2, if_neg s_127_3]), rfl⟩
          · obtain ⟨h, hh, eh⟩ := nat_of (bi1.mp h_106).1 (show what - 30 < nI 8 from (bi1.mp h_106).2) (by omega)
            refine x_aload_n dX9_told_109 rfl ?_
            refine gf_X9_36 dX9_told_110 rfl rfl ?_
            refine x_aload_n dX9_told_113 rfl ?_
            refine gf_X9_10 dX9_told_114 rfl rfl ?_
            refine x_iload_n dX9_told_117 rfl ?_
            refine x_iload_n dX9_told_118 rfl ?_
            refine x_bipush 30 dX9_told_119 ?_
            refine x_isub dX9_told_121 ?_
            rw [eh]
            refine iv_X9_114 dX9_told_122 (c_X2_mending_n hX hr hp hh) rfl (by decide) (Nat.le_of_ble_eq_true rfl) (fun v_122 w_122 hw_122 => ?_)
            obtain ⟨nm, sk, rfl, rfl⟩ := hw_122
            exact Ex.ret (v := some (.int _)) ⟨dX9_told_125, _, rfl, by first | rfl | decide⟩ ⟨nm, sk, congrArg (fun z => some (Value.int z)) (by unfold tdF; rw [if_neg (Int32.not_le.mpr h_3), if_neg h_30, if_neg (fun y => y ho), if_neg (fun y => bi0.mp h_79 (hr20.mpr y)), if_pos (hr30.mp (bi1.mp h_106)), hcl, eh, nI_clamp (by omega)]), rfl⟩
        · obtain ⟨h, hh, eh⟩ := nat_of (bi1.mp h_79).1 (show what - 20 < nI 8 from (bi1.mp h_79).2) (by omega)
          refine x_aload_n dX9_told_82 rfl ?_
          refine gf_X9_36 dX9_told_83 rfl rfl ?_
          refine x_aload_n dX9_told_86 rfl ?_
          refine gf_X9_10 dX9_told_87 rfl rfl ?_
          refine x_iload_n dX9_told_90 rfl ?_
          refine x_iload_n dX9_told_91 rfl ?_
          refine x_bipush 20 dX9_told_92 ?_
          refine x_isub dX9_told_94 ?_
          rw [eh]
          refine iv_X9_110 dX9_told_95 (c_X2_thinks_n hX hr hp hh) rfl (by decide) (Nat.le_of_ble_eq_true rfl) (fun v_95 w_95 hw_95 => ?_)
          obtain ⟨nm, sk, rfl, rfl⟩ := hw_95
          exact Ex.ret (v := some (.int _)) ⟨dX9_told_98, _, rfl, by first | rfl | decide⟩ ⟨nm, sk, congrArg (fun z => some (Value.int z)) (by unfold tdF; rw [if_neg (Int32.not_le.mpr h_3), if_neg h_30, if_neg (fun y => y ho), if_pos (hr20.mp (bi1.mp h_79)), hcl, eh, nI_clamp (by omega)]), rfl⟩
      · refine x_ldc dX9_told_69 kk_X9_87 ?_
        exact Ex.ret (v := some (.int _)) ⟨dX9_told_71, _, rfl, by first | rfl | decide⟩ ⟨s_nm S, s_sk S, congrArg (fun z => some (Value.int z)) (by unfold tdF; rw [if_neg (Int32.not_le.mpr h_3), if_neg h_30, if_pos (fun y : onC z of => bi0.mp h_66 ⟨y.1, by rw [hz]; exact y.2⟩)]), rfl⟩
    · refine x_iload_n dX9_told_33 rfl ?_
      refine ii_X9_99 dX9_told_34 c_X9_isHour (by decide) (Nat.le_of_ble_eq_true rfl) ?_
      refine x_if_eq 55 dX9_told_37 (fun h_37 => ?_) (fun h_37 => ?_)
      · refine x_ldc dX9_told_55 kk_X9_87 ?_
        exact Ex.ret (v := some (.int _)) ⟨dX9_told_57, _, rfl, by first | rfl | decide⟩ ⟨s_nm S, s_sk S, congrArg (fun z => some (Value.int z)) (by unfold tdF; rw [if_neg (Int32.not_le.mpr h_3), if_pos h_30, if_neg (bi0.mp h_37)]), rfl⟩
      · obtain ⟨h, hh, rfl⟩ := nat_of (bi1.mp h_37).1 (show of < nI 8 from (bi1.mp h_37).2) (by omega)
        refine x_aload_n dX9_told_40 rfl ?_
        refine gf_X9_36 dX9_told_41 rfl rfl ?_
        refine x_aload_n dX9_told_44 rfl ?_
        refine gf_X9_10 dX9_told_45 rfl rfl ?_
        refine x_iload_n dX9_told_48 rfl ?_
        refine iv_X9_103 dX9_told_49 (c_X2_cost_n hX hr hz hz6 hh) rfl (by decide) (Nat.le_of_ble_eq_true rfl) (fun v_49 w_49 hw_49 => ?_)
        obtain ⟨nm, sk, rfl, rfl⟩ := hw_49
        refine x_goto 57 dX9_told_52 ?_
        exact Ex.ret (v := some (.int _)) ⟨dX9_told_57, _, rfl, by first | rfl | decide⟩ ⟨nm, sk, congrArg (fun z => some (Value.int z)) (by unfold tdF; rw [if_neg (Int32.not_le.mpr h_3), if_pos h_30, if_pos ⟨nI_le (a := 0) (by omega) (by omega), nI_lt (b := 8) hh (by decide)⟩, nI_clamp (by omega)]), rfl⟩
  · refine x_aload_n dX9_told_6 rfl ?_
    refine x_iload_n dX9_told_7 rfl ?_
    refine x_iload_n dX9_told_8 rfl ?_
    refine ii_X9_77 dX9_told_9 (c_X9_isPlain hz) rfl (by decide) (Nat.le_of_ble_eq_true rfl) ?_
    refine x_if_eq 24 dX9_told_12 (fun h_12 => ?_) (fun h_12 => ?_)
    · refine x_ldc dX9_told_24 kk_X9_87 ?_
      exact Ex.ret (v := some (.int _)) ⟨dX9_told_26, _, rfl, by first | rfl | decide⟩ ⟨s_nm S, s_sk S, congrArg (fun z => some (Value.int z)) (by unfold tdF; rw [if_pos (Int32.not_lt.mp h_3), if_neg (bi0.mp h_12)]), rfl⟩
    · refine x_aload_n dX9_told_15 rfl ?_
      refine x_iload_n dX9_told_16 rfl ?_
      refine x_iload_n dX9_told_17 rfl ?_
      refine ii_X9_88 dX9_told_18 (c_X9_plain hz6 (bi1.mp h_12)) rfl (by decide) (Nat.le_of_ble_eq_true rfl) ?_
      refine x_goto 26 dX9_told_21 ?_
      exact Ex.ret (v := some (.int _)) ⟨dX9_told_26, _, rfl, by first | rfl | decide⟩ ⟨s_nm S, s_sk S, congrArg (fun z => some (Value.int z)) (by unfold tdF; rw [if_pos (Int32.not_lt.mp h_3), if_pos (bi1.mp h_12)]), rfl⟩
def coCF (S : CS) (of : Int32) : Int32 := if of = 0 then o_sz (s_now S) else if of = 1 then pcF (o_me (s_now S)) else if of = 2 then o_ye (s_now S) else if of = 3 then s_mz S else if of = 4 then s_tn S else if of = 5 then o_ru (s_now S) else -2
set_option maxRecDepth 100000 in
set_option maxHeartbeats 4000000 in
theorem c_X9_count {X : Nat × (Nat → Int32)} {S : CS} {tl : pc_W} {of : Int32} : Mt X 1 0 0 yX9_count cX9_count 2 (some .int) [.ref 0, .int of] (cst S ++ tl) (RI (coCF S of) (cst S ++ tl)) := by
  refine Mt.of (by decide +kernel) (fun _ _ => Nat.le_of_ble_eq_true rfl) ?_
  show Ex X mX9_count _ _ _ _ _ _ _ _
  refine x_iload_n dX9_count_0 rfl ?_
  refine x_swC 0 (fun s_1_0 => ?_) (fun s_1_0 => ?_)
  · refine x_tswIn 40 dX9_count_1 (by decide) (by decide) rfl ?_
    refine x_aload_n dX9_count_40 rfl ?_
    refine gf_X9_10 dX9_count_41 rfl rfl ?_
    refine gf_X9_203 dX9_count_44 rfl rfl ?_
    exact Ex.ret (v := some (.int _)) ⟨dX9_count_47, _, rfl, by first | rfl | decide⟩ ⟨congrArg (fun z => some (Value.int z)) (by unfold coCF; rw [if_pos s_1_0]), rfl⟩
  refine x_swC 1 (fun s_1_1 => ?_) (fun s_1_1 => ?_)
  · refine x_tswIn 48 dX9_count_1 (by decide) (by decide) rfl ?_
    refine x_aload_n dX9_count_48 rfl ?_
    refine gf_X9_10 dX9_count_49 rfl rfl ?_
    refine gf_X9_152 dX9_count_52 rfl rfl ?_
    refine ii_X9_289 dX9_count_55 c_J6_bitCount_0f7a4 (by decide) (Nat.le_of_ble_eq_true rfl) ?_
    exact Ex.ret (v := some (.int _)) ⟨dX9_count_58, _, rfl, by first | rfl | decide⟩ ⟨congrArg (fun z => some (Value.int z)) (by unfold coCF; rw [if_neg s_1_0, if_pos s_1_1]), rfl⟩
  refine x_swC 2 (fun s_1_2 => ?_) (fun s_1_2 => ?_)
  · refine x_tswIn 59 dX9_count_1 (by decide) (by decide) rfl ?_
    refine x_aload_n dX9_count_59 rfl ?_
    refine gf_X9_10 dX9_count_60 rfl rfl ?_
    refine gf_X9_130 dX9_count_63 rfl rfl ?_
    exact Ex.ret (v := some (.int _)) ⟨dX9_count_66, _, rfl, by first | rfl | decide⟩ ⟨congrArg (fun z => some (Value.int z)) (by unfold coCF; rw [if_neg s_1_0, if_neg s_1_1, if_pos s_1_2]), rfl⟩
  refine x_swC 3 (fun s_1_3 => ?_) (fun s_1_3 => ?_)
  · refine x_tswIn 67 dX9_count_1 (by decide) (by decide) rfl ?_
    refine x_aload_n dX9_count_67 rfl ?_
    refine gf_X9_36 dX9_count_68 rfl rfl ?_
    refine gf_X9_158 dX9_count_71 rfl rfl ?_
    exact Ex.ret (v := some (.int _)) ⟨dX9_count_74, _, rfl, by first | rfl | decide⟩ ⟨congrArg (fun z => some (Value.int z)) (by unfold coCF; rw [if_neg s_1_0, if_neg s_1_1, if_neg s_1_2, if_pos s_1_3]), rfl⟩
  refine x_swC 4 (fun s_1_4 => ?_) (fun s_1_4 => ?_)
  · refine x_tswIn 75 dX9_count_1 (by decide) (by decide) rfl ?_
    refine x_aload_n dX9_count_75 rfl ?_
    refine gf_X9_29 dX9_count_76 rfl rfl ?_
    refine gf_X9_165 dX9_count_79 rfl rfl ?_
    exact Ex.ret (v := some (.int _)) ⟨dX9_count_82, _, rfl, by first | rfl | decide⟩ ⟨congrArg (fun z => some (Value.int z)) (by unfold coCF; rw [if_neg s_1_0, if_neg s_1_1, if_neg s_1_2, if_neg s_1_3, if_pos s_1_4]), rfl⟩
  refine x_swC 5 (fun s_1_5 => ?_) (fun s_1_5 => ?_)
  · refine x_tswIn 83 dX9_count_1 (by decide) (by decide) rfl ?_
    refine x_aload_n dX9_count_83 rfl ?_
    refine gf_X9_10 dX9_count_84 rfl rfl ?_
    refine gf_X9_173 dX9_count_87 rfl rfl ?_
    exact Ex.ret (v := some (.int _)) ⟨dX9_count_90, _, rfl, by first | rfl | decide⟩ ⟨congrArg (fun z => some (Value.int z)) (by unfold coCF; rw [if_neg s_1_0, if_neg s_1_1, if_neg s_1_2, if_neg s_1_3, if_neg s_1_4, if_pos s_1_5]), rfl⟩
  refine x_tswOut 91 dX9_count_1 (by have e0 := lv_neT (a := 0) s_1_0 (by decide); have e1 := lv_neT (a := 1) s_1_1 (by decide); have e2 := lv_neT (a := 2) s_1_2 (by decide); have e3 := lv_neT (a := 3) s_1_3 (by decide); have e4 := lv_neT (a := 4) s_1_4 (by decide); have e5 := lv_neT (a := 5) s_1_5 (by decide); omega) ?_
  refine x_bipush (-2) dX9_count_91 ?_
  exact Ex.ret (v := some (.int _)) ⟨dX9_count_93, _, rfl, by first | rfl | decide⟩ ⟨congrArg (fun z => some (Value.int z)) (by unfold coCF; rw [if_neg s_1_0, if_neg s_1_1, if_neg s_1_2, if_neg s_1_3, if_neg s_1_4, if_neg s_1_5]), rfl⟩
