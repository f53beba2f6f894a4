def chV (co : Nat → Int32) (what : Int32) : Option Nat → Int32
  | none => -1
  | some k => if what = 0 then nI k else co k
def moV (co hz : Nat → Int32) (what : Int32) (s : Nat) : Int32 := if what = 0 then nI s else if what = 1 then hz s else co s
set_option maxRecDepth 100000 in
set_option maxHeartbeats 4000000 in
theorem c_X9_cheapest {X : Nat × (Nat → Int32)} {S : CS} {tl : pc_W} {τ : TV} {r z : Nat} {WC : Nat → Int32} {SF MF HF : Nat → Nat → Int32} {m what : Int32} {CP : Nat → Option Nat} (hX : TXr τ S tl r) (hr : o_ru (s_now S) = nI r) (hz : o_sz (s_now S) = nI z) (hz6 : z ≤ 6) (e1 : SF 0 = stA (fun h => coF τ (s_now S) r z h) (s_rm S).2.2.2) (e2 : MF 0 = (s_rm S).2.2.1) (e3 : HF 0 = zrA (s_rm S).2.1) (e4 : ∀ p, SF (p + 1) = stA (fun h => thF τ (uo_me (o_bec (s_tho S) (s_now S)) 255) r p h - thF τ (s_now S) r p h) (SF p)) (e5 : ∀ p, MF (p + 1) = ssA (SF (p + 1)) (moF τ (s_now S) r p) (MF p)) (e6 : ∀ p, HF (p + 1) = chA (o_li (s_now S)) (MF (p + 1)) (HF p)) (e7 : WC = ssA (SF 0) 0 (s_rm S).1) (q0 : CP 0 = none) (q1 : ∀ s, CP (s + 1) = if (nI s &&& o_me (s_now S)) = 0 ∧ m ≤ (HF z) s ∧ beO WC s (CP s) = true then some s else CP s) (ql : ∀ s k, CP s = some k → k < s): Mt X 6 0 0 yX9_cheapest cX9_cheapest 4 (some .int) [.ref 0, .int m, .int what] (cst S ++ tl) (RX (if (m < 0 ∨ 6 < m ∨ what < 0 ∨ 1 < what) then -2 else chV WC what (CP 256)) S tl) := by
  refine Mt.of (by decide +kernel) (fun _ _ => Nat.le_of_ble_eq_true rfl) ?_
  show Ex X mX9_cheapest _ _ _ _ _ _ _ _
  refine x_iload_n dX9_cheapest_0 rfl ?_
  refine x_if_lt 19 dX9_cheapest_1 (fun h_1 => ?_) (fun h_1 => ?_)
  · refine x_bipush (-2) dX9_cheapest_19 ?_
    exact Ex.ret (v := some (.int _)) ⟨dX9_cheapest_21, _, rfl, rfl⟩ ⟨s_tho S, s_nm S, s_sk S, s_rm S, s_du S, congrArg (fun z => some (Value.int z)) (by rw [if_pos (Or.inl h_1)]), rfl⟩
  · refine x_iload_n dX9_cheapest_4 rfl ?_
    refine x_bipush 6 dX9_cheapest_5 ?_
    refine x_icmp_gt 19 dX9_cheapest_7 (fun h_7 => ?_) (fun h_7 => ?_)
    · refine x_bipush (-2) dX9_cheapest_19 ?_
      exact Ex.ret (v := some (.int _)) ⟨dX9_cheapest_21, _, rfl, rfl⟩ ⟨s_tho S, s_nm S, s_sk S, s_rm S, s_du S, congrArg (fun z => some (Value.int z)) (by rw [if_pos (Or.inr (Or.inl h_7))]), rfl⟩
    · refine x_iload_n dX9_cheapest_10 rfl ?_
      refine x_if_lt 19 dX9_cheapest_11 (fun h_11 => ?_) (fun h_11 => ?_)
      · refine x_bipush (-2) dX9_cheapest_19 ?_
        exact Ex.ret (v := some (.int _)) ⟨dX9_cheapest_21, _, rfl, rfl⟩ ⟨s_tho S, s_nm S, s_sk S, s_rm S, s_du S, congrArg (fun z => some (Value.int z)) (by rw [if_pos (Or.inr (Or.inr (Or.inl h_11)))]), rfl⟩
      · refine x_iload_n dX9_cheapest_14 rfl ?_
        refine x_iconst 1 dX9_cheapest_15 ?_
        refine x_icmp_le 22 dX9_cheapest_16 (fun h_16 => ?_) (fun h_16 => ?_)
        · have hg : ¬ (m < 0 ∨ 6 < m ∨ what < 0 ∨ 1 < what) := (by rintro (q | q | q | q); exact h_1 q; exact h_7 q; exact h_11 q; exact absurd h_16 (Int32.not_le.mpr q))
          rw [if_neg hg]
          refine x_aload_n dX9_cheapest_22 rfl ?_
          refine iv_X9_204 dX9_cheapest_23 (c_X9_weighRemedies hX hr hz hz6 e1 e2 e3 e4 e5 e6 e7) rfl (by decide) (Nat.le_of_ble_eq_true rfl) (fun v w3 hw => ?_)
          obtain ⟨rfl, T, nm, sk, m5, st5, rfl⟩ := hw
          refine x_aload_n dX9_cheapest_26 rfl ?_
          refine gf_X9_43 dX9_cheapest_27 rfl rfl ?_
          refine x_iload_n dX9_cheapest_30 rfl ?_
          refine x_aload_n dX9_cheapest_31 rfl ?_
          refine gf_X9_10 dX9_cheapest_32 rfl rfl ?_
          refine gf_X9_152 dX9_cheapest_35 rfl rfl ?_
          refine ii_X9_207 dX9_cheapest_38 (c_X5_cheapestFor q0 q1 ql) rfl (by decide) (Nat.le_of_ble_eq_true rfl) ?_
          have hql := ql 256
          generalize CP 256 = c at hql ⊢
          rcases c with _ | k
          · rw [ov_n]
            refine x_istore_n dX9_cheapest_41 (by decide) ?_
            refine x_iload_n dX9_cheapest_42 rfl ?_
            refine x_if_eq 51 dX9_cheapest_43 (fun h_43 => ?_) (fun h_43 => ?_)
            · refine x_iload_n dX9_cheapest_51 rfl ?_
              refine x_goto 64 dX9_cheapest_52 ?_
              exact Ex.ret (v := some (.int _)) ⟨dX9_cheapest_64, _, rfl, rfl⟩ ⟨T, nm, sk, (WC, HF z, m5, st5), s_du S, congrArg (fun z => some (Value.int z)) (by rw [chV]), rfl⟩
            · refine x_iload_n dX9_cheapest_46 rfl ?_
              refine x_iconst (-1) dX9_cheapest_47 ?_
              refine x_icmp_ne 55 dX9_cheapest_48 (fun hx => absurd rfl hx) (fun _ => ?_)
              refine x_iload_n dX9_cheapest_51 rfl ?_
              refine x_goto 64 dX9_cheapest_52 ?_
              exact Ex.ret (v := some (.int _)) ⟨dX9_cheapest_64, _, rfl, rfl⟩ ⟨T, nm, sk, (WC, HF z, m5, st5), s_du S, congrArg (fun z => some (Value.int z)) (by rw [chV]), rfl⟩
          · rw [ov_s]
            have hk := hql k rfl
            refine x_istore_n dX9_cheapest_41 (by decide) ?_
            refine x_iload_n dX9_cheapest_42 rfl ?_
            refine x_if_eq 51 dX9_cheapest_43 (fun h_43 => ?_) (fun h_43 => ?_)
            · refine x_iload_n dX9_cheapest_51 rfl ?_
              refine x_goto 64 dX9_cheapest_52 ?_
              exact Ex.ret (v := some (.int _)) ⟨dX9_cheapest_64, _, rfl, rfl⟩ ⟨T, nm, sk, (WC, HF z, m5, st5), s_du S, congrArg (fun z => some (Value.int z)) (by rw [chV, if_pos h_43]), rfl⟩
            · refine x_iload_n dX9_cheapest_46 rfl ?_
              refine x_iconst (-1) dX9_cheapest_47 ?_
              refine x_icmp_ne 55 dX9_cheapest_48 (fun _ => ?_) (fun hx => absurd hx (nI_n1 (by omega)))
              refine x_aload_n dX9_cheapest_55 rfl ?_
              refine gf_X9_43 dX9_cheapest_56 rfl rfl ?_
              refine gf_X9_210 dX9_cheapest_59 rfl rfl ?_
              refine x_iload_n dX9_cheapest_62 rfl ?_
              refine x_ialoadN (f := WC) (i := k) dX9_cheapest_63 rfl (by omega) (by decide) ?_
              exact Ex.ret (v := some (.int _)) ⟨dX9_cheapest_64, _, rfl, rfl⟩ ⟨T, nm, sk, (WC, HF z, m5, st5), s_du S, congrArg (fun z => some (Value.int z)) (by rw [chV, if_neg h_43]), rfl⟩
        · refine x_bipush (-2) dX9_cheapest_19 ?_
          exact Ex.ret (v := some (.int _)) ⟨dX9_cheapest_21, _, rfl, rfl⟩ ⟨s_tho S, s_nm S, s_sk S, s_rm S, s_du S, congrArg (fun z => some (Value.int z)) (by rw [if_pos (Or.inr (Or.inr (Or.inr (Int32.not_le.mp h_16))))]), rfl⟩
set_option maxRecDepth 100000 in
set_option maxHeartbeats 4000000 in
theorem c_X9_most {X : Nat × (Nat → Int32)} {S : CS} {tl : pc_W} {τ : TV} {r z : Nat} {WC : Nat → Int32} {SF MF HF : Nat → Nat → Int32} {x what : Int32} {QF : Nat → Nat} (hX : TXr τ S tl r) (hr : o_ru (s_now S) = nI r) (hz : o_sz (s_now S) = nI z) (hz6 : z ≤ 6) (e1 : SF 0 = stA (fun h => coF τ (s_now S) r z h) (s_rm S).2.2.2) (e2 : MF 0 = (s_rm S).2.2.1) (e3 : HF 0 = zrA (s_rm S).2.1) (e4 : ∀ p, SF (p + 1) = stA (fun h => thF τ (uo_me (o_bec (s_tho S) (s_now S)) 255) r p h - thF τ (s_now S) r p h) (SF p)) (e5 : ∀ p, MF (p + 1) = ssA (SF (p + 1)) (moF τ (s_now S) r p) (MF p)) (e6 : ∀ p, HF (p + 1) = chA (o_li (s_now S)) (MF (p + 1)) (HF p)) (e7 : WC = ssA (SF 0) 0 (s_rm S).1) (m0 : QF 0 = 0) (m1 : ∀ s, QF (s + 1) = if (nI (s + 1) &&& o_me (s_now S)) = 0 ∧ WC (s + 1) ≤ x ∧ beC WC (HF z) (s + 1) (QF s) then s + 1 else QF s) (ql : QF 255 ≤ 255): Mt X 6 0 0 yX9_most cX9_most 4 (some .int) [.ref 0, .int x, .int what] (cst S ++ tl) (RX (if (x < 0 ∨ 999 < x ∨ what < 0 ∨ 2 < what) then -2 else moV WC (HF z) what (QF 255)) S tl) := by
  refine Mt.of (by decide +kernel) (fun _ _ => Nat.le_of_ble_eq_true rfl) ?_
  show Ex X mX9_most _ _ _ _ _ _ _ _
  refine x_iload_n dX9_most_0 rfl ?_
  refine x_if_lt 20 dX9_most_1 (fun h_1 => ?_) (fun h_1 => ?_)
  · refine x_bipush (-2) dX9_most_20 ?_
    exact Ex.ret (v := some (.int _)) ⟨dX9_most_22, _, rfl, rfl⟩ ⟨s_tho S, s_nm S, s_sk S, s_rm S, s_du S, congrArg (fun z => some (Value.int z)) (by rw [if_pos (Or.inl h_1)]), rfl⟩
  · refine x_iload_n dX9_most_4 rfl ?_
    refine x_sipush 999 dX9_most_5 ?_
    refine x_icmp_gt 20 dX9_most_8 (fun h_8 => ?_) (fun h_8 => ?_)
    · refine x_bipush (-2) dX9_most_20 ?_
      exact Ex.ret (v := some (.int _)) ⟨dX9_most_22, _, rfl, rfl⟩ ⟨s_tho S, s_nm S, s_sk S, s_rm S, s_du S, congrArg (fun z => some (Value.int z)) (by rw [if_pos (Or.inr (Or.inl h_8))]), rfl⟩
    · refine x_iload_n dX9_most_11 rfl ?_
      refine x_if_lt 20 dX9_most_12 (fun h_12 => ?_) (fun h_12 => ?_)
      · refine x_bipush (-2) dX9_most_20 ?_
        exact Ex.ret (v := some (.int _)) ⟨dX9_most_22, _, rfl, rfl⟩ ⟨s_tho S, s_nm S, s_sk S, s_rm S, s_du S, congrArg (fun z => some (Value.int z)) (by rw [if_pos (Or.inr (Or.inr (Or.inl h_12)))]), rfl⟩
      · refine x_iload_n dX9_most_15 rfl ?_
        refine x_iconst 2 dX9_most_16 ?_
        refine x_icmp_le 23 dX9_most_17 (fun h_17 => ?_) (fun h_17 => ?_)
        · have hg : ¬ (x < 0 ∨ 999 < x ∨ what < 0 ∨ 2 < what) := (by rintro (q | q | q | q); exact h_1 q; exact h_8 q; exact h_12 q; exact absurd h_17 (Int32.not_le.mpr q))
          rw [if_neg hg]
          refine x_aload_n dX9_most_23 rfl ?_
          refine iv_X9_204 dX9_most_24 (c_X9_weighRemedies hX hr hz hz6 e1 e2 e3 e4 e5 e6 e7) rfl (by decide) (Nat.le_of_ble_eq_true rfl) (fun v w3 hw => ?_)
          obtain ⟨rfl, T, nm, sk, m5, st5, rfl⟩ := hw
          refine x_aload_n dX9_most_27 rfl ?_
          refine gf_X9_43 dX9_most_28 rfl rfl ?_
          refine x_iload_n dX9_most_31 rfl ?_
          refine x_aload_n dX9_most_32 rfl ?_
          refine gf_X9_10 dX9_most_33 rfl rfl ?_
          refine gf_X9_152 dX9_most_36 rfl rfl ?_
          refine ii_X9_213 dX9_most_39 (c_X5_mostWithin m0 m1) rfl (by decide) (Nat.le_of_ble_eq_true rfl) ?_
          generalize QF 255 = s at ql ⊢
          refine x_istore_n dX9_most_42 (by decide) ?_
          refine x_iload_n dX9_most_43 rfl ?_
          refine x_swC 0 (fun s_44_0 => ?_) (fun s_44_0 => ?_)
          · refine x_lsw (off := 28) 72 dX9_most_44 (by decide) (by decide) ?_
            refine x_iload_n dX9_most_72 rfl ?_
            exact Ex.ret (v := some (.int _)) ⟨dX9_most_73, _, rfl, rfl⟩ ⟨T, nm, sk, (WC, HF z, m5, st5), s_du S, congrArg (fun z => some (Value.int z)) (by rw [moV, if_pos s_44_0]), rfl⟩
          refine x_swC 1 (fun s_44_1 => ?_) (fun s_44_1 => ?_)
          · refine x_lsw (off := 30) 74 dX9_most_44 (by decide) (by decide) ?_
            refine x_aload_n dX9_most_74 rfl ?_
            refine gf_X9_43 dX9_most_75 rfl rfl ?_
            refine gf_X9_216 dX9_most_78 rfl rfl ?_
            refine x_iload_n dX9_most_81 rfl ?_
            refine x_ialoadN (f := (HF z)) (i := s) dX9_most_82 rfl (by omega) (by decide) ?_
            exact Ex.ret (v := some (.int _)) ⟨dX9_most_83, _, rfl, rfl⟩ ⟨T, nm, sk, (WC, HF z, m5, st5), s_du S, congrArg (fun z => some (Value.int z)) (by rw [moV, if_neg s_44_0, if_pos s_44_1]), rfl⟩
          refine x_lsw (off := 40) 84 dX9_most_44 (by decide) (by show lookupswitch.offset _ _ _ = _; simp only [List.toList_toArray]; rw [lv_osw (a := 0) s_44_0 (by decide), lv_osw (a := 1) s_44_1 (by decide)]; rfl) ?_
          refine x_aload_n dX9_most_84 rfl ?_
          refine gf_X9_43 dX9_most_85 rfl rfl ?_
          refine gf_X9_210 dX9_most_88 rfl rfl ?_
          refine x_iload_n dX9_most_91 rfl ?_
          refine x_ialoadN (f := WC) (i := s) dX9_most_92 rfl (by omega) (by decide) ?_
          exact Ex.ret (v := some (.int _)) ⟨dX9_most_93, _, rfl, rfl⟩ ⟨T, nm, sk, (WC, HF z, m5, st5), s_du S, congrArg (fun z => some (Value.int z)) (by rw [moV, if_neg s_44_0, if_neg s_44_1]), rfl⟩
        · refine x_bipush (-2) dX9_most_20 ?_
          exact Ex.ret (v := some (.int _)) ⟨dX9_most_22, _, rfl, rfl⟩ ⟨s_tho S, s_nm S, s_sk S, s_rm S, s_du S, congrArg (fun z => some (Value.int z)) (by rw [if_pos (Or.inr (Or.inr (Or.inr (Int32.not_le.mp h_17))))]), rfl⟩
