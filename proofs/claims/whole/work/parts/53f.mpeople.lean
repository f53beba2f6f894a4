/-- people by a list, step by step, whatever the state is -/
def ppG {α : Type} (st : α → Nat → Int32 → Int32 → α) (c : Nat → Int32) (b sz : Nat) : Nat → Nat → α → Nat → Nat → Int32 × α × Nat
  | 0, _, u, z, cm => (nI cm, u, z)
  | m + 1, k, u, z, cm => if b + 2 * k + 2 ≤ sz then (if peC (c (b + 2 * k)) (c (b + 2 * k + 1)) ∧ z < 6 then ppG st c b sz m (k + 1) (st u z (c (b + 2 * k)) (c (b + 2 * k + 1))) (z + 1) (cm + 1) else ppG st c b sz m (k + 1) (st u z (c (b + 2 * k)) (c (b + 2 * k + 1))) z cm) else (-12, u, z)
def ppM (H : MH) (U : MU) (z : Nat) (s sr at0 n : Int32) : Int32 × MU × Nat := if ¬ (0 ≤ s ∧ s < 4) ∨ ¬ (0 ≤ sr ∧ sr ≤ 2) ∨ ¬ (0 ≤ n ∧ n ≤ 6) then (-2, U, z) else if H.1 s.toNatClampNeg = 0 then (-11, U, z) else if ¬ H.2.1 s.toNatClampNeg = sr then (-13, U, z) else if n = 0 then (0, U, z) else if at0 < 0 then (-12, U, z) else ppG peU (fun j => H.2.2.2 (40 * s.toNatClampNeg + j)) at0.toNatClampNeg (H.2.2.1 s.toNatClampNeg).toNatClampNeg n.toNatClampNeg 0 U z 0
theorem peF_ge {z : Nat} {k n : Int32} (hz : z ≤ 6) : (0 ≤ peF z k n ↔ (peC k n ∧ z < 6)) := by
  unfold peF
  by_cases h1 : peC k n
  · rw [if_pos h1]
    by_cases h2 : z < 6
    · rw [if_pos h2]; exact ⟨fun _ => ⟨h1, h2⟩, fun _ => nI_le (a := 0) (by omega) (by omega)⟩
    · rw [if_neg h2]; exact ⟨fun q => absurd q (by decide), fun q => absurd q.2 h2⟩
  · rw [if_neg h1]; exact ⟨fun q => absurd q (by decide), fun q => absurd q.1 h1⟩
theorem peU_ma {U : MU} {z : Nat} {k n : Int32} (hz : U.2.2.2.2.2.2 = nI z) : (peU U z k n).2.2.2.2.2.2 = nI (if peC k n ∧ z < 6 then z + 1 else z) := by
  unfold peU
  by_cases h : peC k n ∧ z < 6
  · rw [if_pos h, if_pos h]
  · rw [if_neg h, if_neg h]; exact hz
theorem at_iff {ss a : Int32} {m : Nat} (hs : ss = nI m) (hm : m ≤ 40) (ha : 0 ≤ a) {k : Nat} (hk : k < 6) : (a ≤ ss - nI (2 * k) - 2) ↔ (a.toNatClampNeg + 2 * k + 2 ≤ m) := by
  have e : (ss - nI (2 * k) - 2).toInt = (m : Int) - 2 * k - 2 := by
    rw [hs, Int32.toInt_sub, tI_2, pk_sub_toInt (by omega) (by omega), Int.bmod_eq_of_le (by omega) (by omega)]
    omega
  have ea : (a.toNatClampNeg : Int) = a.toInt := Int.toNat_of_nonneg (by rw [Int32.le_iff_toInt_le, tI_0] at ha; exact ha)
  rw [Int32.le_iff_toInt_le, e]
  omega
set_option maxRecDepth 100000 in
set_option maxHeartbeats 4000000 in
theorem c_X10_people {X : Nat × (Nat → Int32)} {S : CS} {tl : pc_W} {T : MT} {ru : Int32} {ou : (Nat → Int32)} {we : (Nat → Int32)} {me : Int32} {ki : (Nat → Int32)} {ro : (Nat → Int32)} {Λ : ML} {C : MC} {K : MK} {it : (Nat → Int32)} {so : (Nat → Int32)} {ss : (Nat → Int32)} {is : (Nat → Int32)} {z : Nat} {s sr at0 n : Int32} (hz6 : z ≤ 6) (hss : ∀ k, k < 4 → ¬ it k = 0 → ∃ m, m ≤ 40 ∧ ss k = nI m): Mt X 3 0 0 yX10_people cX10_people 8 (some .int) [.ref 42, .int s, .int sr, .int at0, .int n] (cst S ++ (mw T (ru, ou, we, me, ki, ro, nI z) Λ C K (it, so, ss, is) ++ tl)) (fun v w' => v = some (.int (ppM (it, so, ss, is) (ru, ou, we, me, ki, ro, nI z) z s sr at0 n).1) ∧ w' = cst S ++ (mw T (ppM (it, so, ss, is) (ru, ou, we, me, ki, ro, nI z) z s sr at0 n).2.1 Λ C K (it, so, ss, is) ++ tl)) := by
  refine Mt.of (by decide +kernel) (fun _ _ => Nat.le_of_ble_eq_true rfl) ?_
  show Ex X mX10_people _ _ _ _ _ _ _ _
  refine x_iload_n dX10_people_0 rfl ?_
  refine ii_X10_405 dX10_people_1 c_X10_isSheet (by decide) (Nat.le_of_ble_eq_true rfl) ?_
  refine x_if_eq 32 dX10_people_4 (fun h_4 => ?_) (fun h_4 => ?_)
  · refine x_bipush (-2) dX10_people_32 ?_
    have hP : ppM (it, so, ss, is) (ru, ou, we, me, ki, ro, nI z) z s sr at0 n = (-2, (ru, ou, we, me, ki, ro, nI z), z) := by unfold ppM; rw [if_pos (Or.inl (bi0.mp h_4))]
    exact Ex.ret (v := some (.int _)) ⟨dX10_people_34, _, rfl, by first | rfl | decide⟩ ⟨by rw [hP], by rw [hP]⟩
  · refine x_iload_n dX10_people_7 rfl ?_
    refine x_i2l dX10_people_8 ?_
    refine x_lconst 0 dX10_people_9 ?_
    refine x_ldc2_w dX10_people_10 kk_X10_378 ?_
    refine ii_X10_76 dX10_people_13 (c_X10_inC (a := 0) (b := 2) (by first | rfl | decide) (by first | rfl | decide)) (by decide) (Nat.le_of_ble_eq_true rfl) ?_
    refine x_if_eq 32 dX10_people_16 (fun h_16 => ?_) (fun h_16 => ?_)
    · refine x_bipush (-2) dX10_people_32 ?_
      have hP : ppM (it, so, ss, is) (ru, ou, we, me, ki, ro, nI z) z s sr at0 n = (-2, (ru, ou, we, me, ki, ro, nI z), z) := by unfold ppM; rw [if_pos (Or.inr (Or.inl (bi0.mp h_16)))]
      exact Ex.ret (v := some (.int _)) ⟨dX10_people_34, _, rfl, by first | rfl | decide⟩ ⟨by rw [hP], by rw [hP]⟩
    · refine x_iload dX10_people_19 rfl ?_
      refine x_i2l dX10_people_21 ?_
      refine x_lconst 0 dX10_people_22 ?_
      refine x_ldc2_w dX10_people_23 kk_X10_91 ?_
      refine ii_X10_76 dX10_people_26 (c_X10_inC (a := 0) (b := 6) (by first | rfl | decide) (by first | rfl | decide)) (by decide) (Nat.le_of_ble_eq_true rfl) ?_
      refine x_if_ne 35 dX10_people_29 (fun h_29 => ?_) (fun h_29 => ?_)
      · have hop := bi1.mp h_4
        have hosr := bi1.mp h_16
        have hon := bi1.mp h_29
        have hgd : ¬ (¬ (0 ≤ s ∧ s < 4) ∨ ¬ (0 ≤ sr ∧ sr ≤ 2) ∨ ¬ (0 ≤ n ∧ n ≤ 6)) := fun q => q.elim (fun y => y hop) (fun q => q.elim (fun y => y hosr) (fun y => y hon))
        obtain ⟨p, hp, rfl⟩ := nat_of hop.1 (show s < nI 4 from hop.2) (by omega)
        have hcl : (nI p).toNatClampNeg = p := nI_clamp (by omega)
        refine x_aload_n dX10_people_35 rfl ?_
        refine mg_53 dX10_people_36 ?_
        refine x_iload_n dX10_people_39 rfl ?_
        refine maN_55 dX10_people_40 hp ?_
        refine x_if_eq 57 dX10_people_41 (fun h_41 => ?_) (fun h_41 => ?_)
        · refine x_aload_n dX10_people_57 rfl ?_
          refine mg_53 dX10_people_58 ?_
          refine x_iload_n dX10_people_61 rfl ?_
          refine maN_55 dX10_people_62 hp ?_
          refine x_if_ne 69 dX10_people_63 (fun h_63 => ?_) (fun h_63 => ?_)
          · exact absurd h_41 h_63
          · refine x_bipush (-11) dX10_people_66 ?_
            have hP : ppM (it, so, ss, is) (ru, ou, we, me, ki, ro, nI z) z (nI p) sr at0 n = (-11, (ru, ou, we, me, ki, ro, nI z), z) := by unfold ppM; rw [if_neg hgd, hcl, if_pos h_63]
            exact Ex.ret (v := some (.int _)) ⟨dX10_people_68, _, rfl, by first | rfl | decide⟩ ⟨by rw [hP], by rw [hP]⟩
        · refine x_aload_n dX10_people_44 rfl ?_
          refine mg_57 dX10_people_45 ?_
          refine x_iload_n dX10_people_48 rfl ?_
          refine maN_56 dX10_people_49 hp ?_
          refine x_iload_n dX10_people_50 rfl ?_
          refine x_icmp_eq 57 dX10_people_51 (fun h_51 => ?_) (fun h_51 => ?_)
          · refine x_aload_n dX10_people_57 rfl ?_
            refine mg_53 dX10_people_58 ?_
            refine x_iload_n dX10_people_61 rfl ?_
            refine maN_55 dX10_people_62 hp ?_
            refine x_if_ne 69 dX10_people_63 (fun h_63 => ?_) (fun h_63 => ?_)
            · obtain ⟨mp, hmp, emp⟩ := hss p hp h_63
              obtain ⟨m, hm, rfl⟩ := nat_of (x := n) (n := 7) hon.1 (Int32.lt_of_le_of_lt hon.2 (by decide)) (by decide)
              have hclm : (nI m).toNatClampNeg = m := nI_clamp (by omega)
              obtain ⟨cc, hcc⟩ : ∃ cc : Nat → Int32, cc = fun j => is (40 * p + j) := ⟨_, rfl⟩
              obtain ⟨R0, hR0⟩ : ∃ R0, R0 = ppM (it, so, ss, is) (ru, ou, we, me, ki, ro, nI z) z (nI p) sr at0 (nI m) := ⟨_, rfl⟩
              suffices hS : Ex X mX10_people 3 (fun v w' => v = some (.int R0.1) ∧ w' = cst S ++ (mw T R0.2.1 Λ C K (it, so, ss, is) ++ tl)) 0 0 69 (lpad 8 [.ref 42, .int (nI p), .int sr, .int at0, .int (nI m)]) [] (cst S ++ (mw T (ru, ou, we, me, ki, ro, nI z) Λ C K (it, so, ss, is) ++ tl)) from by rw [hR0] at hS; exact hS
              refine x_iconst 0 dX10_people_69 ?_
              refine x_istore dX10_people_70 (by decide) ?_
              refine x_iconst 0 dX10_people_72 ?_
              refine x_istore dX10_people_73 (by decide) ?_
              suffices hL : ∀ (d k : Nat) (U : MU) (z cm : Nat), d = m - k → k ≤ m → z ≤ 6 → cm ≤ k → U.2.2.2.2.2.2 = nI z → ((at0 < 0 ∧ (if k = m then (nI cm, U, z) else (-12, U, z)) = R0) ∨ (0 ≤ at0 ∧ ppG peU cc at0.toNatClampNeg mp (m - k) k U z cm = R0)) → Ex X mX10_people 3 (fun v w' => v = some (.int R0.1) ∧ w' = cst S ++ (mw T R0.2.1 Λ C K (it, so, ss, is) ++ tl)) 0 0 75 [some (.ref 42), some (.int (nI p)), some (.int sr), some (.int at0), some (.int (nI m)), some (.int (nI cm)), some (.int (nI k)), none] [] (cst S ++ (mw T U Λ C K (it, so, ss, is) ++ tl)) from by
                refine Ex.forget (L' := [some (.ref 42), some (.int (nI p)), some (.int sr), some (.int at0), some (.int (nI m)), some (.int (nI 0)), some (.int (nI 0)), none]) ⟨rfl, rfl, rfl, rfl, rfl, rfl, rfl, trivial⟩ ?_
                refine hL m 0 (ru, ou, we, me, ki, ro, nI z) z 0 rfl (Nat.zero_le _) hz6 (Nat.le_refl _) rfl ?_
                by_cases ha : at0 < 0
                · refine Or.inl ⟨ha, ?_⟩
                  rw [hR0]
                  by_cases hm0 : m = 0
                  · rw [if_pos hm0.symm]; unfold ppM; rw [if_neg hgd, hcl, if_neg h_63, if_neg (fun q => q h_51), hclm, if_pos (by rw [hm0]; rfl)]; rfl
                  · rw [if_neg (fun q => hm0 q.symm)]; unfold ppM; rw [if_neg hgd, hcl, if_neg h_63, if_neg (fun q => q h_51), hclm, if_neg (show ¬ nI m = 0 from fun q => hm0 ((nI_eq (b := 0) (by omega) (by omega)).mp q)), if_pos ha]
                · refine Or.inr ⟨Int32.not_lt.mp ha, ?_⟩
                  rw [hR0]
                  by_cases hm0 : m = 0
                  · subst hm0; unfold ppM; rw [if_neg hgd, hcl, if_neg h_63, if_neg (fun q => q h_51), hclm, if_pos (show nI 0 = 0 from rfl)]; rfl
                  · unfold ppM; rw [if_neg hgd, hcl, if_neg h_63, if_neg (fun q => q h_51), hclm, if_neg (show ¬ nI m = 0 from fun q => hm0 ((nI_eq (b := 0) (by omega) (by omega)).mp q)), if_neg ha, hcc]; show _ = ppG peU (fun j => is (40 * p + j)) at0.toNatClampNeg (ss p).toNatClampNeg m 0 (ru, ou, we, me, ki, ro, nI z) z 0; rw [emp, nI_clamp (by omega)]; rfl
              intro d
              induction d with
              | zero =>
                intro k U z cm hd hk hz hcm hU hf
                have ekm : k = m := by omega
                subst ekm
                have hf2 : (nI cm, U, z) = R0 := hf.elim (fun q => by have := q.2; rw [if_pos rfl] at this; exact this) (fun q => by have := q.2; rw [Nat.sub_self] at this; exact this)
                refine x_iload dX10_people_75 rfl ?_
                refine x_iload dX10_people_77 rfl ?_
                refine x_icmp_ge 158 dX10_people_79 (fun _ => ?_) (fun hx => absurd (Int32.le_refl _) hx)
                refine x_iload dX10_people_158 rfl ?_
                exact Ex.ret (v := some (.int _)) ⟨dX10_people_160, _, rfl, by first | rfl | decide⟩ ⟨by rw [← hf2], by rw [← hf2]⟩
              | succ d ih =>
                intro k U z cm hd hk hz hcm hU hf
                have hkm : k < m := by omega
                rcases hf with ⟨ha, hf⟩ | ⟨ha, hf⟩
                · rw [if_neg (by omega)] at hf
                  refine x_iload dX10_people_75 rfl ?_
                  refine x_iload dX10_people_77 rfl ?_
                  refine x_icmp_ge 158 dX10_people_79 (fun hx => absurd hx (nI_ge hkm (by omega))) (fun _ => ?_)
                  refine x_iload_n dX10_people_82 rfl ?_
                  refine x_if_lt 103 dX10_people_83 (fun _ => ?_) (fun hx => absurd (ha) hx)
                  refine x_bipush (-12) dX10_people_103 ?_
                  exact Ex.ret (v := some (.int _)) ⟨dX10_people_105, _, rfl, by first | rfl | decide⟩ ⟨by rw [← hf], by rw [← hf]⟩
                · rw [show m - k = (m - (k + 1)) + 1 by omega, ppG] at hf
                  have hat := at_iff (k := k) emp hmp ha (by omega)
                  by_cases hfit : at0.toNatClampNeg + 2 * k + 2 ≤ mp
                  · rw [if_pos hfit] at hf
                    obtain ⟨a, haa, ea⟩ := nat_of (x := at0) (n := 41) ha (by rw [Int32.lt_iff_toInt_lt, nI_toInt (by omega), ← Int.toNat_of_nonneg (show 0 ≤ at0.toInt by rw [Int32.le_iff_toInt_le, tI_0] at ha; exact ha)]; have : at0.toInt.toNat = at0.toNatClampNeg := rfl; omega) (by omega)
                    have eat : at0.toNatClampNeg = a := by rw [ea]; exact nI_clamp (by omega)
                    rw [eat] at hf hfit
                    obtain ⟨ru, ou, we, me, ki, ro, ma⟩ := U
                    change ma = nI z at hU
                    subst hU
                    refine x_iload dX10_people_75 rfl ?_
                    refine x_iload dX10_people_77 rfl ?_
                    refine x_icmp_ge 158 dX10_people_79 (fun hx => absurd hx (nI_ge hkm (by omega))) (fun _ => ?_)
                    refine x_iload_n dX10_people_82 rfl ?_
                    refine x_if_lt 103 dX10_people_83 (fun hx => absurd hx (Int32.not_lt.mpr ha)) (fun _ => ?_)
                    refine x_iload_n dX10_people_86 rfl ?_
                    refine x_aload_n dX10_people_87 rfl ?_
                    refine mg_60 dX10_people_88 ?_
                    refine x_iload_n dX10_people_91 rfl ?_
                    refine maN_57 dX10_people_92 hp ?_
                    refine x_iconst 2 dX10_people_93 ?_
                    refine x_iload dX10_people_94 rfl ?_
                    refine x_imul dX10_people_96 ?_
                    rw [show (2 : Int32) * nI k = nI (2 * k) from pk_mul 2 k]
                    refine x_isub dX10_people_97 ?_
                    refine x_iconst 2 dX10_people_98 ?_
                    refine x_isub dX10_people_99 ?_
                    refine x_icmp_le 106 dX10_people_100 (fun _ => ?_) (fun hx => absurd (hat.mpr (by rw [eat]; exact hfit)) hx)
                    refine x_bipush 40 dX10_people_106 ?_
                    refine x_iload_n dX10_people_108 rfl ?_
                    refine x_imul dX10_people_109 ?_
                    refine x_iload_n dX10_people_110 rfl ?_
                    refine x_iadd dX10_people_111 ?_
                    refine x_iconst 2 dX10_people_112 ?_
                    refine x_iload dX10_people_113 rfl ?_
                    refine x_imul dX10_people_115 ?_
                    rw [show (2 : Int32) * nI k = nI (2 * k) from pk_mul 2 k]
                    refine x_iadd dX10_people_116 ?_
                    rw [show (40 : Int32) * nI p + at0 + nI (2 * k) = nI (40 * p + a + 2 * k) from by rw [ea, show (40 : Int32) * nI p = nI (40 * p) from pk_mul 40 p, nI_add, nI_add]]
                    refine x_istore dX10_people_117 (by decide) ?_
                    refine x_iload dX10_people_119 rfl ?_
                    refine x_aload_n dX10_people_121 rfl ?_
                    refine x_aload_n dX10_people_122 rfl ?_
                    refine mg_63 dX10_people_123 ?_
                    refine x_iload dX10_people_126 rfl ?_
                    refine maN_58 dX10_people_128 (show 40 * p + a + 2 * k < 160 by omega) ?_
                    refine x_aload_n dX10_people_129 rfl ?_
                    refine mg_63 dX10_people_130 ?_
                    refine x_iload dX10_people_133 rfl ?_
                    refine x_iconst 1 dX10_people_135 ?_
                    refine x_iadd dX10_people_136 ?_
                    rw [nI_1]
                    refine maN_58 dX10_people_137 (show 40 * p + a + 2 * k + 1 < 160 by omega) ?_
                    refine ii_X10_434 dX10_people_138 (c_X10_person hz) mw_o (by decide) (Nat.le_of_ble_eq_true rfl) ?_
                    refine x_if_lt 148 dX10_people_141 (fun h_141 => ?_) (fun h_141 => ?_)
                    · refine x_iconst 0 dX10_people_148 ?_
                      refine x_iadd dX10_people_149 ?_
                      first
                      | rw [nI_1]
                      | rw [Int32.add_zero]
                      refine x_istore dX10_people_150 (by decide) ?_
                      refine x_iincN dX10_people_152 rfl (by decide) ?_
                      refine x_goto 75 dX10_people_155 ?_
                      refine Ex.forget (L' := [some (.ref 42), some (.int (nI p)), some (.int sr), some (.int at0), some (.int (nI m)), some (.int (nI cm)), some (.int (nI (k + 1))), none]) ⟨rfl, rfl, rfl, rfl, rfl, rfl, rfl, trivial⟩ ?_
                      have ec0 : is (40 * p + a + 2 * k) = cc (a + 2 * k) := by rw [hcc]; show _ = is (40 * p + (a + 2 * k)); rw [Nat.add_assoc (40 * p)]
                      have ec1 : is (40 * p + a + 2 * k + 1) = cc (a + 2 * k + 1) := by rw [hcc]; show _ = is (40 * p + (a + 2 * k + 1)); rw [Nat.add_assoc (40 * p), Nat.add_assoc (40 * p)]
                      rw [ec0, ec1] at h_141 ⊢
                      have hpe : ¬ (peC (cc (a + 2 * k)) (cc (a + 2 * k + 1)) ∧ z < 6) := fun q => Int32.not_lt.mpr ((peF_ge hz).mpr q) h_141
                      rw [if_neg hpe] at hf
                      exact ih (k + 1) (peU (ru, ou, we, me, ki, ro, nI z) z (cc (a + 2 * k)) (cc (a + 2 * k + 1))) z cm (by omega) (by omega) hz (by omega) (by rw [peU_ma rfl, if_neg hpe]) (Or.inr ⟨ha, by rw [eat]; exact hf⟩)
                    · refine x_iconst 1 dX10_people_144 ?_
                      refine x_goto 149 dX10_people_145 ?_
                      refine x_iadd dX10_people_149 ?_
                      first
                      | rw [nI_1]
                      | rw [Int32.add_zero]
                      refine x_istore dX10_people_150 (by decide) ?_
                      refine x_iincN dX10_people_152 rfl (by decide) ?_
                      refine x_goto 75 dX10_people_155 ?_
                      refine Ex.forget (L' := [some (.ref 42), some (.int (nI p)), some (.int sr), some (.int at0), some (.int (nI m)), some (.int (nI (cm + 1))), some (.int (nI (k + 1))), none]) ⟨rfl, rfl, rfl, rfl, rfl, rfl, rfl, trivial⟩ ?_
                      have ec0 : is (40 * p + a + 2 * k) = cc (a + 2 * k) := by rw [hcc]; show _ = is (40 * p + (a + 2 * k)); rw [Nat.add_assoc (40 * p)]
                      have ec1 : is (40 * p + a + 2 * k + 1) = cc (a + 2 * k + 1) := by rw [hcc]; show _ = is (40 * p + (a + 2 * k + 1)); rw [Nat.add_assoc (40 * p), Nat.add_assoc (40 * p)]
                      rw [ec0, ec1] at h_141 ⊢
                      have hpe := (peF_ge hz).mp (Int32.not_lt.mp h_141)
                      rw [if_pos hpe] at hf
                      exact ih (k + 1) (peU (ru, ou, we, me, ki, ro, nI z) z (cc (a + 2 * k)) (cc (a + 2 * k + 1))) (z + 1) (cm + 1) (by omega) (by omega) (by omega) (by omega) (by rw [peU_ma rfl, if_pos hpe]) (Or.inr ⟨ha, by rw [eat]; exact hf⟩)
                  · rw [if_neg hfit] at hf
                    refine x_iload dX10_people_75 rfl ?_
                    refine x_iload dX10_people_77 rfl ?_
                    refine x_icmp_ge 158 dX10_people_79 (fun hx => absurd hx (nI_ge hkm (by omega))) (fun _ => ?_)
                    refine x_iload_n dX10_people_82 rfl ?_
                    refine x_if_lt 103 dX10_people_83 (fun hx => absurd hx (Int32.not_lt.mpr ha)) (fun _ => ?_)
                    refine x_iload_n dX10_people_86 rfl ?_
                    refine x_aload_n dX10_people_87 rfl ?_
                    refine mg_60 dX10_people_88 ?_
                    refine x_iload_n dX10_people_91 rfl ?_
                    refine maN_57 dX10_people_92 hp ?_
                    refine x_iconst 2 dX10_people_93 ?_
                    refine x_iload dX10_people_94 rfl ?_
                    refine x_imul dX10_people_96 ?_
                    rw [show (2 : Int32) * nI k = nI (2 * k) from pk_mul 2 k]
                    refine x_isub dX10_people_97 ?_
                    refine x_iconst 2 dX10_people_98 ?_
                    refine x_isub dX10_people_99 ?_
                    refine x_icmp_le 106 dX10_people_100 (fun hx => absurd hx (fun q => hfit (hat.mp q))) (fun _ => ?_)
                    refine x_bipush (-12) dX10_people_103 ?_
                    exact Ex.ret (v := some (.int _)) ⟨dX10_people_105, _, rfl, by first | rfl | decide⟩ ⟨by rw [← hf], by rw [← hf]⟩
            · refine x_bipush (-11) dX10_people_66 ?_
              have hP : ppM (it, so, ss, is) (ru, ou, we, me, ki, ro, nI z) z (nI p) sr at0 n = (-11, (ru, ou, we, me, ki, ro, nI z), z) := by unfold ppM; rw [if_neg hgd, hcl, if_pos h_63]
              exact Ex.ret (v := some (.int _)) ⟨dX10_people_68, _, rfl, by first | rfl | decide⟩ ⟨by rw [hP], by rw [hP]⟩
          · refine x_bipush (-13) dX10_people_54 ?_
            have hP : ppM (it, so, ss, is) (ru, ou, we, me, ki, ro, nI z) z (nI p) sr at0 n = (-13, (ru, ou, we, me, ki, ro, nI z), z) := by unfold ppM; rw [if_neg hgd, hcl, if_neg h_41, if_pos h_51]
            exact Ex.ret (v := some (.int _)) ⟨dX10_people_56, _, rfl, by first | rfl | decide⟩ ⟨by rw [hP], by rw [hP]⟩
      · refine x_bipush (-2) dX10_people_32 ?_
        have hP : ppM (it, so, ss, is) (ru, ou, we, me, ki, ro, nI z) z s sr at0 n = (-2, (ru, ou, we, me, ki, ro, nI z), z) := by unfold ppM; rw [if_pos (Or.inr (Or.inr (bi0.mp h_29)))]
        exact Ex.ret (v := some (.int _)) ⟨dX10_people_34, _, rfl, by first | rfl | decide⟩ ⟨by rw [hP], by rw [hP]⟩
