/-! what the calls answer: pure words -/
theorem bi_cong {c c' : Prop} [Decidable c] [Decidable c'] (h : c ↔ c') : bi c = bi c' := by
  by_cases hc : c
  · rw [bi_t hc, bi_t (h.mp hc)]
  · rw [bi_f hc, bi_f (fun q => hc (h.mpr q))]
abbrev isPl (z : Nat) (what of : Int32) : Prop := (what = 0 ∨ what = 1 ∨ what = 2) ∨ ((what = 3 ∨ what = 4) ∧ 0 ≤ of ∧ of < 8) ∨ ((what = 5 ∨ what = 6) ∧ 0 ≤ of ∧ of < nI z)
def plF (O : OT) (what of : Int32) : Int32 := if what = 0 then o_ye O else if what = 1 then o_li O else if what = 2 then o_pu O else if what = 3 then o_we O of.toNatClampNeg else if what = 4 then o_mAt O of else if what = 5 then o_nu O of.toNatClampNeg else o_pr O of.toNatClampNeg
def meU (m of v : Int32) : Int32 := (m &&& ((1 <<< (of &&& 31)) ^^^ (-1))) ||| (v <<< (of &&& 31))
def puF (O : OT) (what of v : Int32) : OT := if what = 0 then uo_ye O v else if what = 1 then uo_li O v else if what = 2 then uo_pu O v else if what = 3 then uo_we O (upd (o_we O) of.toNatClampNeg v) else if what = 4 then uo_me O (meU (o_me O) of v) else if what = 5 then uo_nu O (upd (o_nu O) of.toNatClampNeg v) else uo_pr O (upd (o_pr O) of.toNatClampNeg v)
abbrev seC (z : Nat) (what of v : Int32) : Prop := isPl z what of ∧ tabLow what.toNatClampNeg ≤ v ∧ v ≤ tabHigh what.toNatClampNeg
theorem vp_lt {x : Int32} {n : Nat} (h0 : 0 ≤ x) (h : x < nI n) (hn : n < 2 ^ 31) : vp_in x n := by
  rw [vp_in_iff]
  rw [Int32.le_iff_toInt_le] at h0
  rw [Int32.lt_iff_toInt_lt, nI_toInt hn] at h
  exact ⟨h0, h⟩
theorem vp_up {x : Int32} {n m : Nat} (h : vp_in x n) (hm : n ≤ m) : vp_in x m := by
  rw [vp_in_iff] at h ⊢
  omega
/-- a number in range is a count -/
theorem nat_of {x : Int32} {n : Nat} (h0 : 0 ≤ x) (h : x < nI n) (hn : n < 2 ^ 31) : ∃ p, p < n ∧ x = nI p := vp_in_of (vp_lt h0 h hn) hn
set_option maxRecDepth 100000 in
set_option maxHeartbeats 4000000 in
theorem c_X9_isPlain {X : Nat × (Nat → Int32)} {S : CS} {tl : pc_W} {z : Nat} {what of : Int32} (hz : o_sz (s_now S) = nI z): Mt X 1 0 0 yX9_isPlain cX9_isPlain 3 (some .boolean) [.ref 0, .int what, .int of] (cst S ++ tl) (RI (bi (isPl z what of)) (cst S ++ tl)) := by
  refine Mt.of (by decide +kernel) (fun _ _ => Nat.le_of_ble_eq_true rfl) ?_
  show Ex X mX9_isPlain _ _ _ _ _ _ _ _
  refine x_iload_n dX9_isPlain_0 rfl ?_
  refine x_swC 0 (fun s_1_0 => ?_) (fun s_1_0 => ?_)
  · refine x_tswIn 44 dX9_isPlain_1 (by decide) (by decide) rfl ?_
    refine x_iconst 1 dX9_isPlain_44 ?_
    exact Ex.ret (v := some (.int _)) ⟨dX9_isPlain_45, _, rfl, by decide⟩ ⟨congrArg (fun z => some (Value.int z)) (by first | exact (bi_t (by simp_all [isPl])).symm | exact (bi_f (by simp_all [isPl])).symm), rfl⟩
  refine x_swC 1 (fun s_1_1 => ?_) (fun s_1_1 => ?_)
  · refine x_tswIn 44 dX9_isPlain_1 (by decide) (by decide) rfl ?_
    refine x_iconst 1 dX9_isPlain_44 ?_
    exact Ex.ret (v := some (.int _)) ⟨dX9_isPlain_45, _, rfl, by decide⟩ ⟨congrArg (fun z => some (Value.int z)) (by first | exact (bi_t (by simp_all [isPl])).symm | exact (bi_f (by simp_all [isPl])).symm), rfl⟩
  refine x_swC 2 (fun s_1_2 => ?_) (fun s_1_2 => ?_)
  · refine x_tswIn 44 dX9_isPlain_1 (by decide) (by decide) rfl ?_
    refine x_iconst 1 dX9_isPlain_44 ?_
    exact Ex.ret (v := some (.int _)) ⟨dX9_isPlain_45, _, rfl, by decide⟩ ⟨congrArg (fun z => some (Value.int z)) (by first | exact (bi_t (by simp_all [isPl])).symm | exact (bi_f (by simp_all [isPl])).symm), rfl⟩
  refine x_swC 3 (fun s_1_3 => ?_) (fun s_1_3 => ?_)
  · refine x_tswIn 46 dX9_isPlain_1 (by decide) (by decide) rfl ?_
    refine x_iload_n dX9_isPlain_46 rfl ?_
    refine ii_X9_99 dX9_isPlain_47 c_X9_isHour (by decide) (Nat.le_of_ble_eq_true rfl) ?_
    exact Ex.ret (v := some (.int _)) ⟨dX9_isPlain_50, _, rfl, bi_z⟩ ⟨congrArg (fun z => some (Value.int z)) (bi_cong (by simp_all [isPl])), rfl⟩
  refine x_swC 4 (fun s_1_4 => ?_) (fun s_1_4 => ?_)
  · refine x_tswIn 46 dX9_isPlain_1 (by decide) (by decide) rfl ?_
    refine x_iload_n dX9_isPlain_46 rfl ?_
    refine ii_X9_99 dX9_isPlain_47 c_X9_isHour (by decide) (Nat.le_of_ble_eq_true rfl) ?_
    exact Ex.ret (v := some (.int _)) ⟨dX9_isPlain_50, _, rfl, bi_z⟩ ⟨congrArg (fun z => some (Value.int z)) (bi_cong (by simp_all [isPl])), rfl⟩
  refine x_swC 5 (fun s_1_5 => ?_) (fun s_1_5 => ?_)
  · refine x_tswIn 51 dX9_isPlain_1 (by decide) (by decide) rfl ?_
    refine x_aload_n dX9_isPlain_51 rfl ?_
    refine gf_X9_10 dX9_isPlain_52 rfl rfl ?_
    refine x_iload_n dX9_isPlain_55 rfl ?_
    refine ii_X9_107 dX9_isPlain_56 c_X3_has rfl (by decide) (Nat.le_of_ble_eq_true rfl) ?_
    exact Ex.ret (v := some (.int _)) ⟨dX9_isPlain_59, _, rfl, bi_z⟩ ⟨congrArg (fun z => some (Value.int z)) (bi_cong (by simp_all [isPl])), rfl⟩
  refine x_swC 6 (fun s_1_6 => ?_) (fun s_1_6 => ?_)
  · refine x_tswIn 51 dX9_isPlain_1 (by decide) (by decide) rfl ?_
    refine x_aload_n dX9_isPlain_51 rfl ?_
    refine gf_X9_10 dX9_isPlain_52 rfl rfl ?_
    refine x_iload_n dX9_isPlain_55 rfl ?_
    refine ii_X9_107 dX9_isPlain_56 c_X3_has rfl (by decide) (Nat.le_of_ble_eq_true rfl) ?_
    exact Ex.ret (v := some (.int _)) ⟨dX9_isPlain_59, _, rfl, bi_z⟩ ⟨congrArg (fun z => some (Value.int z)) (bi_cong (by simp_all [isPl])), rfl⟩
  refine x_tswOut 60 dX9_isPlain_1 (by have e0 := lv_neT (a := 0) s_1_0 (by decide); have e1 := lv_neT (a := 1) s_1_1 (by decide); have e2 := lv_neT (a := 2) s_1_2 (by decide); have e3 := lv_neT (a := 3) s_1_3 (by decide); have e4 := lv_neT (a := 4) s_1_4 (by decide); have e5 := lv_neT (a := 5) s_1_5 (by decide); have e6 := lv_neT (a := 6) s_1_6 (by decide); omega) ?_
  refine x_iconst 0 dX9_isPlain_60 ?_
  exact Ex.ret (v := some (.int _)) ⟨dX9_isPlain_61, _, rfl, by decide⟩ ⟨congrArg (fun z => some (Value.int z)) (by first | exact (bi_t (by simp_all [isPl])).symm | exact (bi_f (by simp_all [isPl])).symm), rfl⟩
theorem pl_h {z : Nat} {what of : Int32} (h : isPl z what of) (hw : what = 3 ∨ what = 4) : 0 ≤ of ∧ of < 8 := by
  rcases h with h | h | h
  · rcases hw with rfl | rfl <;> simp at h
  · exact h.2
  · rcases hw with rfl | rfl <;> simp at h
theorem pl_p {z : Nat} {what of : Int32} (h : isPl z what of) (h0 : ¬ what = 0) (h1 : ¬ what = 1) (h2 : ¬ what = 2) (h3 : ¬ what = 3) (h4 : ¬ what = 4) : (what = 5 ∨ what = 6) ∧ 0 ≤ of ∧ of < nI z := by
  rcases h with h | h | h
  · simp_all
  · simp_all
  · exact h
theorem pl_8 {z : Nat} {what of : Int32} (h : isPl z what of) (hw : what = 3 ∨ what = 4) : vp_in of 8 := vp_lt (n := 8) (pl_h h hw).1 (pl_h h hw).2 (by decide)
theorem pl_6 {z : Nat} {what of : Int32} (hz : z ≤ 6) (h : isPl z what of) (h0 : ¬ what = 0) (h1 : ¬ what = 1) (h2 : ¬ what = 2) (h3 : ¬ what = 3) (h4 : ¬ what = 4) : vp_in of 6 := vp_up (vp_lt (pl_p h h0 h1 h2 h3 h4).2.1 (pl_p h h0 h1 h2 h3 h4).2.2 (by omega)) hz
theorem pl_7 {z : Nat} {what of : Int32} (h : isPl z what of) : vp_in what 7 := by
  have e : what = 0 ∨ what = 1 ∨ what = 2 ∨ what = 3 ∨ what = 4 ∨ what = 5 ∨ what = 6 := by
    rcases h with h | h | h
    · rcases h with h | h | h <;> simp [h]
    · rcases h.1 with h | h <;> simp [h]
    · rcases h.1 with h | h <;> simp [h]
  rcases e with rfl | rfl | rfl | rfl | rfl | rfl | rfl <;> (unfold vp_in; decide)
set_option maxRecDepth 100000 in
set_option maxHeartbeats 4000000 in
theorem c_X9_plain {X : Nat × (Nat → Int32)} {S : CS} {tl : pc_W} {z : Nat} {what of : Int32} (hz6 : z ≤ 6) (hpl : isPl z what of): Mt X 1 0 0 yX9_plain cX9_plain 3 (some .int) [.ref 0, .int what, .int of] (cst S ++ tl) (RI (plF (s_now S) what of) (cst S ++ tl)) := by
  refine Mt.of (by decide +kernel) (fun _ _ => Nat.le_of_ble_eq_true rfl) ?_
  show Ex X mX9_plain _ _ _ _ _ _ _ _
  refine x_iload_n dX9_plain_0 rfl ?_
  refine x_swC 0 (fun s_1_0 => ?_) (fun s_1_0 => ?_)
  · refine x_tswIn 40 dX9_plain_1 (by decide) (by decide) rfl ?_
    refine x_aload_n dX9_plain_40 rfl ?_
    refine gf_X9_10 dX9_plain_41 rfl rfl ?_
    refine gf_X9_130 dX9_plain_44 rfl rfl ?_
    exact Ex.ret (v := some (.int _)) ⟨dX9_plain_47, _, rfl, by first | rfl | decide⟩ ⟨congrArg (fun z => some (Value.int z)) (by unfold plF; simp_all; try rfl), rfl⟩
  refine x_swC 1 (fun s_1_1 => ?_) (fun s_1_1 => ?_)
  · refine x_tswIn 48 dX9_plain_1 (by decide) (by decide) rfl ?_
    refine x_aload_n dX9_plain_48 rfl ?_
    refine gf_X9_10 dX9_plain_49 rfl rfl ?_
    refine gf_X9_134 dX9_plain_52 rfl rfl ?_
    exact Ex.ret (v := some (.int _)) ⟨dX9_plain_55, _, rfl, by first | rfl | decide⟩ ⟨congrArg (fun z => some (Value.int z)) (by unfold plF; simp_all; try rfl), rfl⟩
  refine x_swC 2 (fun s_1_2 => ?_) (fun s_1_2 => ?_)
  · refine x_tswIn 56 dX9_plain_1 (by decide) (by decide) rfl ?_
    refine x_aload_n dX9_plain_56 rfl ?_
    refine gf_X9_10 dX9_plain_57 rfl rfl ?_
    refine gf_X9_137 dX9_plain_60 rfl rfl ?_
    exact Ex.ret (v := some (.int _)) ⟨dX9_plain_63, _, rfl, by first | rfl | decide⟩ ⟨congrArg (fun z => some (Value.int z)) (by unfold plF; simp_all; try rfl), rfl⟩
  refine x_swC 3 (fun s_1_3 => ?_) (fun s_1_3 => ?_)
  · refine x_tswIn 64 dX9_plain_1 (by decide) (by decide) rfl ?_
    refine x_aload_n dX9_plain_64 rfl ?_
    refine gf_X9_10 dX9_plain_65 rfl rfl ?_
    refine gf_X9_140 dX9_plain_68 rfl rfl ?_
    refine x_iload_n dX9_plain_71 rfl ?_
    refine x_iaload dX9_plain_72 rfl (by first | exact pl_8 hpl (Or.inl (by assumption)) | exact pl_6 hz6 hpl (by assumption) (by assumption) (by assumption) (by assumption) (by assumption) | (subst_vars; exact pl_6 hz6 hpl (by decide) (by decide) (by decide) (by decide) (by decide))) ?_
    exact Ex.ret (v := some (.int _)) ⟨dX9_plain_73, _, rfl, by first | rfl | decide⟩ ⟨congrArg (fun z => some (Value.int z)) (by unfold plF; simp_all; try rfl), rfl⟩
  refine x_swC 4 (fun s_1_4 => ?_) (fun s_1_4 => ?_)
  · refine x_tswIn 74 dX9_plain_1 (by decide) (by decide) rfl ?_
    refine x_aload_n dX9_plain_74 rfl ?_
    refine gf_X9_10 dX9_plain_75 rfl rfl ?_
    refine x_iload_n dX9_plain_78 rfl ?_
    refine ii_X9_143 dX9_plain_79 c_X3_mendedAt_n rfl (by decide) (Nat.le_of_ble_eq_true rfl) ?_
    exact Ex.ret (v := some (.int _)) ⟨dX9_plain_82, _, rfl, by first | rfl | decide⟩ ⟨congrArg (fun z => some (Value.int z)) (by unfold plF; simp_all; try rfl), rfl⟩
  refine x_swC 5 (fun s_1_5 => ?_) (fun s_1_5 => ?_)
  · refine x_tswIn 83 dX9_plain_1 (by decide) (by decide) rfl ?_
    refine x_aload_n dX9_plain_83 rfl ?_
    refine gf_X9_10 dX9_plain_84 rfl rfl ?_
    refine gf_X9_146 dX9_plain_87 rfl rfl ?_
    refine x_iload_n dX9_plain_90 rfl ?_
    refine x_iaload dX9_plain_91 rfl (by first | exact pl_8 hpl (Or.inl (by assumption)) | exact pl_6 hz6 hpl (by assumption) (by assumption) (by assumption) (by assumption) (by assumption) | (subst_vars; exact pl_6 hz6 hpl (by decide) (by decide) (by decide) (by decide) (by decide))) ?_
    exact Ex.ret (v := some (.int _)) ⟨dX9_plain_92, _, rfl, by first | rfl | decide⟩ ⟨congrArg (fun z => some (Value.int z)) (by unfold plF; simp_all; try rfl), rfl⟩
  refine x_tswOut 93 dX9_plain_1 (by have e0 := lv_neT (a := 0) s_1_0 (by decide); have e1 := lv_neT (a := 1) s_1_1 (by decide); have e2 := lv_neT (a := 2) s_1_2 (by decide); have e3 := lv_neT (a := 3) s_1_3 (by decide); have e4 := lv_neT (a := 4) s_1_4 (by decide); have e5 := lv_neT (a := 5) s_1_5 (by decide); omega) ?_
  refine x_aload_n dX9_plain_93 rfl ?_
  refine gf_X9_10 dX9_plain_94 rfl rfl ?_
  refine gf_X9_149 dX9_plain_97 rfl rfl ?_
  refine x_iload_n dX9_plain_100 rfl ?_
  refine x_iaload dX9_plain_101 rfl (by first | exact pl_8 hpl (Or.inl (by assumption)) | exact pl_6 hz6 hpl (by assumption) (by assumption) (by assumption) (by assumption) (by assumption) | (subst_vars; exact pl_6 hz6 hpl (by decide) (by decide) (by decide) (by decide) (by decide))) ?_
  exact Ex.ret (v := some (.int _)) ⟨dX9_plain_102, _, rfl, by first | rfl | decide⟩ ⟨congrArg (fun z => some (Value.int z)) (by unfold plF; simp_all; try rfl), rfl⟩
set_option maxRecDepth 100000 in
set_option maxHeartbeats 4000000 in
theorem c_X9_put {X : Nat × (Nat → Int32)} {S : CS} {tl : pc_W} {z : Nat} {what of v : Int32} (hz6 : z ≤ 6) (hpl : isPl z what of): Mt X 0 0 0 yX9_put cX9_put 4 none [.ref 0, .int what, .int of, .int v] (cst S ++ tl) (RV (cst (u_now S (puF (s_now S) what of v)) ++ tl)) := by
  refine Mt.of (by decide +kernel) (fun _ _ => Nat.le_of_ble_eq_true rfl) ?_
  show Ex X mX9_put _ _ _ _ _ _ _ _
  refine x_iload_n dX9_put_0 rfl ?_
  refine x_swC 0 (fun s_1_0 => ?_) (fun s_1_0 => ?_)
  · refine x_tswIn 40 dX9_put_1 (by decide) (by decide) rfl ?_
    refine x_aload_n dX9_put_40 rfl ?_
    refine gf_X9_10 dX9_put_41 rfl rfl ?_
    refine x_iload_n dX9_put_44 rfl ?_
    refine pf_X9_130 dX9_put_45 rfl (Nat.le_of_ble_eq_true rfl) (fun _ _ => ⟨rfl, rfl⟩) ?_
    refine x_goto 136 dX9_put_48 ?_
    exact Ex.ret (v := none) ⟨rfl, dX9_put_136⟩ ⟨rfl, by rw [show puF (s_now S) what of v = uo_ye (s_now S) v from by rw [s_1_0]; rfl]; rfl⟩
  refine x_swC 1 (fun s_1_1 => ?_) (fun s_1_1 => ?_)
  · refine x_tswIn 51 dX9_put_1 (by decide) (by decide) rfl ?_
    refine x_aload_n dX9_put_51 rfl ?_
    refine gf_X9_10 dX9_put_52 rfl rfl ?_
    refine x_iload_n dX9_put_55 rfl ?_
    refine pf_X9_134 dX9_put_56 rfl (Nat.le_of_ble_eq_true rfl) (fun _ _ => ⟨rfl, rfl⟩) ?_
    refine x_goto 136 dX9_put_59 ?_
    exact Ex.ret (v := none) ⟨rfl, dX9_put_136⟩ ⟨rfl, by rw [show puF (s_now S) what of v = uo_li (s_now S) v from by rw [s_1_1]; rfl]; rfl⟩
  refine x_swC 2 (fun s_1_2 => ?_) (fun s_1_2 => ?_)
  · refine x_tswIn 62 dX9_put_1 (by decide) (by decide) rfl ?_
    refine x_aload_n dX9_put_62 rfl ?_
    refine gf_X9_10 dX9_put_63 rfl rfl ?_
    refine x_iload_n dX9_put_66 rfl ?_
    refine pf_X9_137 dX9_put_67 rfl (Nat.le_of_ble_eq_true rfl) (fun _ _ => ⟨rfl, rfl⟩) ?_
    refine x_goto 136 dX9_put_70 ?_
    exact Ex.ret (v := none) ⟨rfl, dX9_put_136⟩ ⟨rfl, by rw [show puF (s_now S) what of v = uo_pu (s_now S) v from by rw [s_1_2]; rfl]; rfl⟩
  refine x_swC 3 (fun s_1_3 => ?_) (fun s_1_3 => ?_)
  · refine x_tswIn 73 dX9_put_1 (by decide) (by decide) rfl ?_
    refine x_aload_n dX9_put_73 rfl ?_
    refine gf_X9_10 dX9_put_74 rfl rfl ?_
    refine gf_X9_140 dX9_put_77 rfl rfl ?_
    refine x_iload_n dX9_put_80 rfl ?_
    refine x_iload_n dX9_put_81 rfl ?_
    refine x_iastore dX9_put_82 rfl (by first | exact pl_8 hpl (Or.inl (by assumption)) | exact pl_6 hz6 hpl (by assumption) (by assumption) (by assumption) (by assumption) (by assumption) | (subst_vars; exact pl_6 hz6 hpl (by decide) (by decide) (by decide) (by decide) (by decide))) ?_
    refine x_goto 136 dX9_put_83 ?_
    exact Ex.ret (v := none) ⟨rfl, dX9_put_136⟩ ⟨rfl, by rw [show puF (s_now S) what of v = uo_we (s_now S) (upd (o_we (s_now S)) of.toNatClampNeg v) from by rw [s_1_3]; rfl]; rfl⟩
  refine x_swC 4 (fun s_1_4 => ?_) (fun s_1_4 => ?_)
  · refine x_tswIn 86 dX9_put_1 (by decide) (by decide) rfl ?_
    refine x_aload_n dX9_put_86 rfl ?_
    refine gf_X9_10 dX9_put_87 rfl rfl ?_
    refine x_aload_n dX9_put_90 rfl ?_
    refine gf_X9_10 dX9_put_91 rfl rfl ?_
    refine gf_X9_152 dX9_put_94 rfl rfl ?_
    refine x_iconst 1 dX9_put_97 ?_
    refine x_iload_n dX9_put_98 rfl ?_
    refine x_ishl dX9_put_99 ?_
    refine x_iconst (-1) dX9_put_100 ?_
    refine x_ixor dX9_put_101 ?_
    refine x_iand dX9_put_102 ?_
    refine x_iload_n dX9_put_103 rfl ?_
    refine x_iload_n dX9_put_104 rfl ?_
    refine x_ishl dX9_put_105 ?_
    refine x_ior dX9_put_106 ?_
    refine pf_X9_152 dX9_put_107 rfl (Nat.le_of_ble_eq_true rfl) (fun _ _ => ⟨rfl, rfl⟩) ?_
    refine x_goto 136 dX9_put_110 ?_
    exact Ex.ret (v := none) ⟨rfl, dX9_put_136⟩ ⟨rfl, by rw [show puF (s_now S) what of v = uo_me (s_now S) (meU (o_me (s_now S)) of v) from by rw [s_1_4]; rfl]; rfl⟩
  refine x_swC 5 (fun s_1_5 => ?_) (fun s_1_5 => ?_)
  · refine x_tswIn 113 dX9_put_1 (by decide) (by decide) rfl ?_
    refine x_aload_n dX9_put_113 rfl ?_
    refine gf_X9_10 dX9_put_114 rfl rfl ?_
    refine gf_X9_146 dX9_put_117 rfl rfl ?_
    refine x_iload_n dX9_put_120 rfl ?_
    refine x_iload_n dX9_put_121 rfl ?_
    refine x_iastore dX9_put_122 rfl (by first | exact pl_8 hpl (Or.inl (by assumption)) | exact pl_6 hz6 hpl (by assumption) (by assumption) (by assumption) (by assumption) (by assumption) | (subst_vars; exact pl_6 hz6 hpl (by decide) (by decide) (by decide) (by decide) (by decide))) ?_
    refine x_goto 136 dX9_put_123 ?_
    exact Ex.ret (v := none) ⟨rfl, dX9_put_136⟩ ⟨rfl, by rw [show puF (s_now S) what of v = uo_nu (s_now S) (upd (o_nu (s_now S)) of.toNatClampNeg v) from by rw [s_1_5]; rfl]; rfl⟩
  refine x_tswOut 126 dX9_put_1 (by have e0 := lv_neT (a := 0) s_1_0 (by decide); have e1 := lv_neT (a := 1) s_1_1 (by decide); have e2 := lv_neT (a := 2) s_1_2 (by decide); have e3 := lv_neT (a := 3) s_1_3 (by decide); have e4 := lv_neT (a := 4) s_1_4 (by decide); have e5 := lv_neT (a := 5) s_1_5 (by decide); omega) ?_
  refine x_aload_n dX9_put_126 rfl ?_
  refine gf_X9_10 dX9_put_127 rfl rfl ?_
  refine gf_X9_149 dX9_put_130 rfl rfl ?_
  refine x_iload_n dX9_put_133 rfl ?_
  refine x_iload_n dX9_put_134 rfl ?_
  refine x_iastore dX9_put_135 rfl (by first | exact pl_8 hpl (Or.inl (by assumption)) | exact pl_6 hz6 hpl (by assumption) (by assumption) (by assumption) (by assumption) (by assumption) | (subst_vars; exact pl_6 hz6 hpl (by decide) (by decide) (by decide) (by decide) (by decide))) ?_
  exact Ex.ret (v := none) ⟨rfl, dX9_put_136⟩ ⟨rfl, by rw [show puF (s_now S) what of v = uo_pr (s_now S) (upd (o_pr (s_now S)) of.toNatClampNeg v) from by unfold puF; rw [if_neg s_1_0, if_neg s_1_1, if_neg s_1_2, if_neg s_1_3, if_neg s_1_4, if_neg s_1_5]]; rfl⟩
set_option maxRecDepth 100000 in
set_option maxHeartbeats 4000000 in
theorem c_X9_set {X : Nat × (Nat → Int32)} {S : CS} {tl : pc_W} {z : Nat} {what of v : Int32} (hz : o_sz (s_now S) = nI z) (hz6 : z ≤ 6): Mt X 2 0 0 yX9_set cX9_set 5 (some .int) [.ref 0, .int what, .int of, .int v] (cst S ++ tl) (RI (if seC z what of v then plF (s_now S) what of else -1000000) (cst (if seC z what of v then u_now S (puF (s_now S) what of v) else S) ++ tl)) := by
  refine Mt.of (by decide +kernel) (fun _ _ => Nat.le_of_ble_eq_true rfl) ?_
  show Ex X mX9_set _ _ _ _ _ _ _ _
  refine x_aload_n dX9_set_0 rfl ?_
  refine x_iload_n dX9_set_1 rfl ?_
  refine x_iload_n dX9_set_2 rfl ?_
  refine ii_X9_77 dX9_set_3 (c_X9_isPlain hz) rfl (by decide) (Nat.le_of_ble_eq_true rfl) ?_
  refine x_if_eq 27 dX9_set_6 (fun h_6 => ?_) (fun h_6 => ?_)
  · refine x_ldc dX9_set_27 kk_X9_87 ?_
    exact Ex.ret (v := some (.int _)) ⟨dX9_set_29, _, rfl, rfl⟩ ⟨congrArg (fun z => some (Value.int z)) (if_neg (show ¬ seC z what of v from fun q => bi0.mp h_6 q.1)).symm, by rw [if_neg (show ¬ seC z what of v from fun q => bi0.mp h_6 q.1)]⟩
  · have hpl := bi1.mp h_6
    refine x_iload_n dX9_set_9 rfl ?_
    refine x_getsA (ref := "RememberedAsSunny") (C := "RememberedAsSunny") (n := "LOWEST") 100 dX9_set_10 (fun _ _ _ _ h => h.2.1.1) kf_X9_81 ?_
    refine x_iload_n dX9_set_13 rfl ?_
    refine x_taload dX9_set_14 (Or.inl rfl) (pl_7 hpl) ?_
    refine x_icmp_lt 27 dX9_set_15 (fun h_15 => ?_) (fun h_15 => ?_)
    · refine x_ldc dX9_set_27 kk_X9_87 ?_
      exact Ex.ret (v := some (.int _)) ⟨dX9_set_29, _, rfl, rfl⟩ ⟨congrArg (fun z => some (Value.int z)) (if_neg (show ¬ seC z what of v from fun q => Int32.lt_irrefl (Int32.lt_of_lt_of_le h_15 q.2.1))).symm, by rw [if_neg (show ¬ seC z what of v from fun q => Int32.lt_irrefl (Int32.lt_of_lt_of_le h_15 q.2.1))]⟩
    · refine x_iload_n dX9_set_18 rfl ?_
      refine x_getsA (ref := "RememberedAsSunny") (C := "RememberedAsSunny") (n := "HIGHEST") 101 dX9_set_19 (fun _ _ _ _ h => h.2.1.2.1) kf_X9_84 ?_
      refine x_iload_n dX9_set_22 rfl ?_
      refine x_taload dX9_set_23 (Or.inr (Or.inl rfl)) (pl_7 hpl) ?_
      refine x_icmp_le 30 dX9_set_24 (fun h_24 => ?_) (fun h_24 => ?_)
      · refine x_aload_n dX9_set_30 rfl ?_
        refine x_iload_n dX9_set_31 rfl ?_
        refine x_iload_n dX9_set_32 rfl ?_
        refine ii_X9_88 dX9_set_33 (c_X9_plain hz6 hpl) rfl (by decide) (Nat.le_of_ble_eq_true rfl) ?_
        refine x_istore dX9_set_36 (by decide) ?_
        refine x_aload_n dX9_set_38 rfl ?_
        refine x_iload_n dX9_set_39 rfl ?_
        refine x_iload_n dX9_set_40 rfl ?_
        refine x_iload_n dX9_set_41 rfl ?_
        refine ii_X9_92 dX9_set_42 (c_X9_put hz6 hpl) rfl (by decide) (Nat.le_of_ble_eq_true rfl) ?_
        refine x_iload dX9_set_45 rfl ?_
        exact Ex.ret (v := some (.int _)) ⟨dX9_set_47, _, rfl, rfl⟩ ⟨congrArg (fun z => some (Value.int z)) (if_pos (show seC z what of v from ⟨hpl, Int32.not_lt.mp h_15, h_24⟩)).symm, by rw [if_pos (show seC z what of v from ⟨hpl, Int32.not_lt.mp h_15, h_24⟩)]⟩
      · refine x_ldc dX9_set_27 kk_X9_87 ?_
        exact Ex.ret (v := some (.int _)) ⟨dX9_set_29, _, rfl, rfl⟩ ⟨congrArg (fun z => some (Value.int z)) (if_neg (show ¬ seC z what of v from fun q => h_24 q.2.2)).symm, by rw [if_neg (show ¬ seC z what of v from fun q => h_24 q.2.2)]⟩
abbrev peC (k n : Int32) : Prop := 0 ≤ k ∧ k < 6 ∧ 0 ≤ n ∧ n < 10
def peF (z : Nat) (k n : Int32) : Int32 := if peC k n then (if z < 6 then nI z else -4) else -2
def peS (S : CS) (z : Nat) (k n : Int32) : CS := if peC k n ∧ z < 6 then u_now S (o_wel (s_now S) k n z) else S
set_option maxRecDepth 100000 in
set_option maxHeartbeats 4000000 in
theorem c_X9_person {X : Nat × (Nat → Int32)} {S : CS} {tl : pc_W} {z : Nat} {k n : Int32} (hz : o_sz (s_now S) = nI z) (hz6 : z ≤ 6): Mt X 1 0 0 yX9_person cX9_person 3 (some .int) [.ref 0, .int k, .int n] (cst S ++ tl) (RI (peF z k n) (cst (peS S z k n) ++ tl)) := by
  refine Mt.of (by decide +kernel) (fun _ _ => Nat.le_of_ble_eq_true rfl) ?_
  show Ex X mX9_person _ _ _ _ _ _ _ _
  refine x_iload_n dX9_person_0 rfl ?_
  refine x_if_lt 20 dX9_person_1 (fun h_1 => ?_) (fun h_1 => ?_)
  · refine x_bipush (-2) dX9_person_20 ?_
    exact Ex.ret (v := some (.int _)) ⟨dX9_person_22, _, rfl, rfl⟩ ⟨congrArg (fun z => some (Value.int z)) (if_neg (show ¬ peC k n from fun q => absurd q.1 (Int32.not_le.mpr h_1))).symm, by rw [peS, if_neg (fun q => (show ¬ peC k n from fun q => absurd q.1 (Int32.not_le.mpr h_1)) q.1)]⟩
  · refine x_iload_n dX9_person_4 rfl ?_
    refine x_bipush 6 dX9_person_5 ?_
    refine x_icmp_ge 20 dX9_person_7 (fun h_7 => ?_) (fun h_7 => ?_)
    · refine x_bipush (-2) dX9_person_20 ?_
      exact Ex.ret (v := some (.int _)) ⟨dX9_person_22, _, rfl, rfl⟩ ⟨congrArg (fun z => some (Value.int z)) (if_neg (show ¬ peC k n from fun q => absurd q.2.1 (Int32.not_lt.mpr h_7))).symm, by rw [peS, if_neg (fun q => (show ¬ peC k n from fun q => absurd q.2.1 (Int32.not_lt.mpr h_7)) q.1)]⟩
    · refine x_iload_n dX9_person_10 rfl ?_
      refine x_if_lt 20 dX9_person_11 (fun h_11 => ?_) (fun h_11 => ?_)
      · refine x_bipush (-2) dX9_person_20 ?_
        exact Ex.ret (v := some (.int _)) ⟨dX9_person_22, _, rfl, rfl⟩ ⟨congrArg (fun z => some (Value.int z)) (if_neg (show ¬ peC k n from fun q => absurd q.2.2.1 (Int32.not_le.mpr h_11))).symm, by rw [peS, if_neg (fun q => (show ¬ peC k n from fun q => absurd q.2.2.1 (Int32.not_le.mpr h_11)) q.1)]⟩
      · refine x_iload_n dX9_person_14 rfl ?_
        refine x_bipush 10 dX9_person_15 ?_
        refine x_icmp_lt 23 dX9_person_17 (fun h_17 => ?_) (fun h_17 => ?_)
        · have hpc : peC k n := ⟨Int32.not_lt.mp h_1, Int32.not_le.mp h_7, Int32.not_lt.mp h_11, h_17⟩
          refine x_aload_n dX9_person_23 rfl ?_
          refine gf_X9_10 dX9_person_24 rfl rfl ?_
          refine x_iload_n dX9_person_27 rfl ?_
          refine x_iload_n dX9_person_28 rfl ?_
          rcases Nat.lt_or_ge z 6 with hz5 | hz5
          · refine ii_X9_96 dX9_person_29 (c_X3_welcome hz5 hz) rfl (by decide) (Nat.le_of_ble_eq_true rfl) ?_
            exact Ex.ret (v := some (.int _)) ⟨dX9_person_32, _, rfl, rfl⟩ ⟨congrArg (fun z => some (Value.int z)) (show nI z = peF z k n from by rw [peF, if_pos hpc, if_pos hz5]), by rw [peS, if_pos ⟨hpc, hz5⟩]⟩
          · refine ii_X9_96 dX9_person_29 (c_X3_welcome_f hz5 hz6 hz) rfl (by decide) (Nat.le_of_ble_eq_true rfl) ?_
            exact Ex.ret (v := some (.int _)) ⟨dX9_person_32, _, rfl, rfl⟩ ⟨congrArg (fun z => some (Value.int z)) (show (-4 : Int32) = peF z k n from by rw [peF, if_pos hpc, if_neg (Nat.not_lt.mpr hz5)]), by rw [peS, if_neg (fun q => absurd q.2 (Nat.not_lt.mpr hz5))]⟩
        · refine x_bipush (-2) dX9_person_20 ?_
          exact Ex.ret (v := some (.int _)) ⟨dX9_person_22, _, rfl, rfl⟩ ⟨congrArg (fun z => some (Value.int z)) (if_neg (show ¬ peC k n from fun q => h_17 q.2.2.2)).symm, by rw [peS, if_neg (fun q => (show ¬ peC k n from fun q => h_17 q.2.2.2) q.1)]⟩
abbrev feC (x : Int32) : Prop := 0 ≤ x ∧ x ≤ 255
def feF (b : Nat) (x : Int32) : Int32 := if feC x then (if b < 160 then nI (b + 1) else -4) else -2
def feS (S : CS) (b : Nat) (x : Int32) : CS := if feC x ∧ b < 160 then u_tn (u_tp S (upd (s_tp S) b x)) (nI (b + 1)) else S
abbrev foC (m : Nat) (t : Int32) : Prop := 0 ≤ t ∧ t < nI m
set_option maxRecDepth 100000 in
set_option maxHeartbeats 4000000 in
theorem c_X9_force {X : Nat × (Nat → Int32)} {S : CS} {tl : pc_W} {m : Nat} {t : Int32} (hm : s_mz S = nI m): Mt X 0 0 0 yX9_force cX9_force 3 (some .int) [.ref 0, .int t] (cst S ++ tl) (RI (if foC m t then o_ru (s_now S) else -2) (cst (if foC m t then u_now S (uo_ru (s_now S) t) else S) ++ tl)) := by
  refine Mt.of (by decide +kernel) (fun _ _ => Nat.le_of_ble_eq_true rfl) ?_
  show Ex X mX9_force _ _ _ _ _ _ _ _
  refine x_iload_n dX9_force_0 rfl ?_
  refine x_if_lt 15 dX9_force_1 (fun h_1 => ?_) (fun h_1 => ?_)
  · refine x_bipush (-2) dX9_force_15 ?_
    exact Ex.ret (v := some (.int _)) ⟨dX9_force_17, _, rfl, rfl⟩ ⟨congrArg (fun z => some (Value.int z)) (if_neg (show ¬ foC m t from fun q => absurd q.1 (Int32.not_le.mpr h_1))).symm, by rw [if_neg (show ¬ foC m t from fun q => absurd q.1 (Int32.not_le.mpr h_1))]⟩
  · refine x_iload_n dX9_force_4 rfl ?_
    refine x_aload_n dX9_force_5 rfl ?_
    refine gf_X9_36 dX9_force_6 rfl rfl ?_
    refine gf_X9_158 dX9_force_9 rfl rfl ?_
    refine x_icmp_lt 18 dX9_force_12 (fun h_12 => ?_) (fun h_12 => ?_)
    · refine x_aload_n dX9_force_18 rfl ?_
      refine gf_X9_10 dX9_force_19 rfl rfl ?_
      refine gf_X9_173 dX9_force_22 rfl rfl ?_
      refine x_istore_n dX9_force_25 (by decide) ?_
      refine x_aload_n dX9_force_26 rfl ?_
      refine gf_X9_10 dX9_force_27 rfl rfl ?_
      refine x_iload_n dX9_force_30 rfl ?_
      refine pf_X9_173 dX9_force_31 rfl (Nat.le_of_ble_eq_true rfl) (fun _ _ => ⟨rfl, rfl⟩) ?_
      refine x_iload_n dX9_force_34 rfl ?_
      exact Ex.ret (v := some (.int _)) ⟨dX9_force_35, _, rfl, rfl⟩ ⟨congrArg (fun z => some (Value.int z)) (if_pos (show foC m t from ⟨Int32.not_lt.mp h_1, by rw [← hm]; exact h_12⟩)).symm, by rw [if_pos (show foC m t from ⟨Int32.not_lt.mp h_1, by rw [← hm]; exact h_12⟩)]; rfl⟩
    · refine x_bipush (-2) dX9_force_15 ?_
      exact Ex.ret (v := some (.int _)) ⟨dX9_force_17, _, rfl, rfl⟩ ⟨congrArg (fun z => some (Value.int z)) (if_neg (show ¬ foC m t from fun q => h_12 (by rw [hm]; exact q.2))).symm, by rw [if_neg (show ¬ foC m t from fun q => h_12 (by rw [hm]; exact q.2))]⟩
set_option maxRecDepth 100000 in
set_option maxHeartbeats 4000000 in
theorem c_X9_year {X : Nat × (Nat → Int32)} {S : CS} {tl : pc_W} {τ : TV} {r z : Nat} (hX : TXr τ S tl r) (hr : o_ru (s_now S) = nI r) (hz : o_sz (s_now S) = nI z) (hz6 : z ≤ 6): Mt X 8 0 0 yX9_year cX9_year 1 (some .int) [.ref 0] (cst S ++ tl) (RS (if 99 ≤ o_ye (s_now S) then -1000000 else o_pu (yrF τ (s_now S) r z)) (if 99 ≤ o_ye (s_now S) then S else u_now S (yrF τ (s_now S) r z)) tl) := by
  refine Mt.of (by decide +kernel) (fun _ _ => Nat.le_of_ble_eq_true rfl) ?_
  show Ex X mX9_year _ _ _ _ _ _ _ _
  refine x_aload_n dX9_year_0 rfl ?_
  refine gf_X9_10 dX9_year_1 rfl rfl ?_
  refine gf_X9_130 dX9_year_4 rfl rfl ?_
  refine x_bipush 99 dX9_year_7 ?_
  refine x_icmp_lt 15 dX9_year_9 (fun h_9 => ?_) (fun h_9 => ?_)
  · refine x_aload_n dX9_year_15 rfl ?_
    refine gf_X9_36 dX9_year_16 rfl rfl ?_
    refine x_aload_n dX9_year_19 rfl ?_
    refine gf_X9_10 dX9_year_20 rfl rfl ?_
    refine iv_X9_176 dX9_year_23 (c_X2_passYear_n hX hr hz hz6) rfl (by decide) (Nat.le_of_ble_eq_true rfl) (fun v w3 hw => ?_)
    obtain ⟨nm3, sk3, rfl, rfl⟩ := hw
    refine x_aload_n dX9_year_26 rfl ?_
    refine gf_X9_10 dX9_year_27 rfl rfl ?_
    refine gf_X9_137 dX9_year_30 rfl rfl ?_
    exact Ex.ret (v := some (.int _)) ⟨dX9_year_33, _, rfl, rfl⟩ ⟨nm3, sk3, congrArg (fun z => some (Value.int z)) (if_neg (Int32.not_le.mpr h_9)).symm, by rw [if_neg (Int32.not_le.mpr h_9)]⟩
  · refine x_ldc dX9_year_12 kk_X9_87 ?_
    exact Ex.ret (v := some (.int _)) ⟨dX9_year_14, _, rfl, rfl⟩ ⟨s_nm S, s_sk S, congrArg (fun z => some (Value.int z)) (if_pos (Int32.not_lt.mp h_9)).symm, by rw [if_pos (Int32.not_lt.mp h_9)]⟩
