/-- a memory of another: what is supposed of one -/
def suF (T : OT) (p : Nat) (what i : Int32) : OT := if what = 1 then uo_ki T (upd (o_ki T) p i) else if what = 2 then uo_nu T (upd (o_nu T) p i) else if what = 7 then uo_ru T i else uo_we T (upd (o_we T) (what - 10).toNatClampNeg (-9 + i))
set_option maxRecDepth 100000 in
set_option maxHeartbeats 4000000 in
theorem c_X9_suppose {X : Nat × (Nat → Int32)} {S : CS} {tl : pc_W} {p : Nat} {what i : Int32} (hp6 : p < 6) (hw : ¬ what = 1 → ¬ what = 2 → ¬ what = 7 → vp_in (what - 10) 8): Mt X 0 0 0 yX9_suppose cX9_suppose 4 none [.ref 0, .int (nI p), .int what, .int i] (cst S ++ tl) (RV (cst (u_tho S (suF (s_tho S) p what i)) ++ tl)) := by
  refine Mt.of (by decide +kernel) (fun _ _ => Nat.le_of_ble_eq_true rfl) ?_
  show Ex X mX9_suppose _ _ _ _ _ _ _ _
  refine x_iload_n dX9_suppose_0 rfl ?_
  refine x_swC 1 (fun s_1_0 => ?_) (fun s_1_0 => ?_)
  · refine x_lsw (off := 35) 36 dX9_suppose_1 (by decide) (by decide) ?_
    refine x_aload_n dX9_suppose_36 rfl ?_
    refine gf_X9_19 dX9_suppose_37 rfl rfl ?_
    refine gf_X9_117 dX9_suppose_40 rfl rfl ?_
    refine x_iload_n dX9_suppose_43 rfl ?_
    refine x_iload_n dX9_suppose_44 rfl ?_
    refine x_iastoreN (f := o_ki (s_tho S)) dX9_suppose_45 rfl hp6 (by decide) ?_
    refine x_goto 89 dX9_suppose_46 ?_
    refine Ex.eqW (w' := cst (u_tho S (uo_ki (s_tho S) (upd (o_ki (s_tho S)) p i))) ++ tl) rfl ?_
    exact Ex.ret (v := none) ⟨rfl, dX9_suppose_89⟩ ⟨rfl, by rw [suF, if_pos s_1_0]⟩
  refine x_swC 2 (fun s_1_1 => ?_) (fun s_1_1 => ?_)
  · refine x_lsw (off := 48) 49 dX9_suppose_1 (by decide) (by decide) ?_
    refine x_aload_n dX9_suppose_49 rfl ?_
    refine gf_X9_19 dX9_suppose_50 rfl rfl ?_
    refine gf_X9_146 dX9_suppose_53 rfl rfl ?_
    refine x_iload_n dX9_suppose_56 rfl ?_
    refine x_iload_n dX9_suppose_57 rfl ?_
    refine x_iastoreN (f := o_nu (s_tho S)) dX9_suppose_58 rfl hp6 (by decide) ?_
    refine x_goto 89 dX9_suppose_59 ?_
    refine Ex.eqW (w' := cst (u_tho S (uo_nu (s_tho S) (upd (o_nu (s_tho S)) p i))) ++ tl) rfl ?_
    exact Ex.ret (v := none) ⟨rfl, dX9_suppose_89⟩ ⟨rfl, by rw [suF, if_neg s_1_0, if_pos s_1_1]⟩
  refine x_swC 7 (fun s_1_2 => ?_) (fun s_1_2 => ?_)
  · refine x_lsw (off := 61) 62 dX9_suppose_1 (by decide) (by decide) ?_
    refine x_aload_n dX9_suppose_62 rfl ?_
    refine gf_X9_19 dX9_suppose_63 rfl rfl ?_
    refine x_iload_n dX9_suppose_66 rfl ?_
    refine pf_X9_173 dX9_suppose_67 rfl (Nat.le_of_ble_eq_true rfl) (fun _ _ => ⟨rfl, rfl⟩) ?_
    refine x_goto 89 dX9_suppose_70 ?_
    refine Ex.eqW (w' := cst (u_tho S (uo_ru (s_tho S) i)) ++ tl) rfl ?_
    exact Ex.ret (v := none) ⟨rfl, dX9_suppose_89⟩ ⟨rfl, by rw [suF, if_neg s_1_0, if_neg s_1_1, if_pos s_1_2]⟩
  refine x_lsw (off := 72) 73 dX9_suppose_1 (by decide) (by show lookupswitch.offset _ _ _ = _; simp only [List.toList_toArray]; rw [lv_osw (a := 1) s_1_0 (by decide), lv_osw (a := 2) s_1_1 (by decide), lv_osw (a := 7) s_1_2 (by decide)]; rfl) ?_
  refine x_aload_n dX9_suppose_73 rfl ?_
  refine gf_X9_19 dX9_suppose_74 rfl rfl ?_
  refine gf_X9_140 dX9_suppose_77 rfl rfl ?_
  refine x_iload_n dX9_suppose_80 rfl ?_
  refine x_bipush 10 dX9_suppose_81 ?_
  refine x_isub dX9_suppose_83 ?_
  refine x_bipush (-9) dX9_suppose_84 ?_
  refine x_iload_n dX9_suppose_86 rfl ?_
  refine x_iadd dX9_suppose_87 ?_
  refine x_iastore (f := o_we (s_tho S)) dX9_suppose_88 rfl (hw s_1_0 s_1_1 s_1_2) ?_
  refine Ex.eqW (w' := cst (u_tho S (uo_we (s_tho S) (upd (o_we (s_tho S)) (what - 10).toNatClampNeg (-9 + i)))) ++ tl) rfl ?_
  exact Ex.ret (v := none) ⟨rfl, dX9_suppose_89⟩ ⟨rfl, by rw [suF, if_neg s_1_0, if_neg s_1_1, if_neg s_1_2]⟩
