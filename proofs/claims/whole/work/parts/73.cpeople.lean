theorem has_iff {b a : Int32} {m : Nat} (hb : b = nI m) (hm : m ≤ 40) {k : Nat} (hk : k < 6) (h0 : 0 ≤ a ∧ a < b) : ((0 ≤ a + 2 * nI k ∧ a + 2 * nI k < b) ∧ (0 ≤ a + 2 * nI k + 1 ∧ a + 2 * nI k + 1 < b)) ↔ a.toNatClampNeg + 2 * k + 2 ≤ m := by
  obtain ⟨x, hx, rfl⟩ := nat_of h0.1 (show a < nI m by rw [← hb]; exact h0.2) (by omega)
  have e : nI x + 2 * nI k = nI (x + 2 * k) := by rw [show (2 : Int32) * nI k = nI (2 * k) from pk_mul 2 k, nI_add]
  rw [e, show nI (x + 2 * k) + 1 = nI (x + 2 * k + 1) from (nI_succ _).symm, hb, nI_clamp (by omega)]
  constructor
  · rintro ⟨_, _, h⟩
    exact Nat.succ_le_of_lt ((nI_ltI (by omega) (by omega)).mp h)
  · intro h
    exact ⟨⟨nI_le (a := 0) (by omega) (by omega), nI_lt (by omega) (by omega)⟩, nI_le (a := 0) (by omega) (by omega), nI_lt (by omega) (by omega)⟩
theorem peS_sh {S : CS} {z : Nat} {k n : Int32} : s_sh (peS S z k n) = s_sh S := by
  unfold peS; split <;> rfl
theorem peS_sz {S : CS} {z : Nat} {k n : Int32} (h : o_sz (s_now S) = nI z) : o_sz (s_now (peS S z k n)) = nI (if peC k n ∧ z < 6 then z + 1 else z) := by
  unfold peS
  by_cases q : peC k n ∧ z < 6
  · rw [if_pos q, if_pos q]
    show o_sz (s_now S) + 1 = _
    rw [h, nI_succ]
  · rw [if_neg q, if_neg q]; exact h
def ppC (S : CS) (z : Nat) (s sr at0 n : Int32) : Int32 × CS × Nat := if ¬ (0 ≤ s ∧ s < 4) ∨ ¬ (0 ≤ sr ∧ sr ≤ 2) ∨ ¬ (0 ≤ n ∧ n ≤ 6) then (-2, S, z) else if (s_sh S s.toNatClampNeg).1 = -1 then (-11, S, z) else if ¬ (s_sh S s.toNatClampNeg).1 = sr then (-13, S, z) else if n = 0 then (0, S, z) else if at0 < 0 then (-12, S, z) else ppG peS (s_sh S s.toNatClampNeg).2.2 at0.toNatClampNeg (s_sh S s.toNatClampNeg).2.1.toNatClampNeg n.toNatClampNeg 0 S z 0
set_option maxRecDepth 100000 in
set_option maxHeartbeats 4000000 in
theorem c_X9_people {X : Nat × (Nat → Int32)} {S : CS} {tl : pc_W} {z : Nat} {s sr at0 n : Int32} (hz : o_sz (s_now S) = nI z) (hz6 : z ≤ 6) (hss : ∀ k, k < 4 → ∃ m, m ≤ 40 ∧ (s_sh S k).2.1 = nI m) : Mt X 3 0 0 yX9_people cX9_people 8 (some .int) [.ref 0, .int s, .int sr, .int at0, .int n] (cst S ++ tl) (fun v w' => v = some (.int (ppC S z s sr at0 n).1) ∧ w' = cst (ppC S z s sr at0 n).2.1 ++ tl) := by
  refine Mt.of (by decide +kernel) (fun _ _ => Nat.le_of_ble_eq_true rfl) ?_
  show Ex X mX9_people _ _ _ _ _ _ _ _
  refine x_iload_n dX9_people_0 rfl ?_
  refine ii_X9_247 dX9_people_1 c_X9_isSheet (by decide) (Nat.le_of_ble_eq_true rfl) ?_
  refine x_if_eq 26 dX9_people_4 (fun h_4 => ?_) (fun h_4 => ?_)
  · refine x_bipush (-2) dX9_people_26 ?_
    have hP : ppC S z s sr at0 n = (-2, S, z) := by unfold ppC; rw [if_pos (Or.inl (bi0.mp h_4))]
    exact Ex.ret (v := some (.int _)) ⟨dX9_people_28, _, rfl, by first | rfl | decide⟩ ⟨by rw [hP], by rw [hP]⟩
  · refine x_iload_n dX9_people_7 rfl ?_
    refine ii_X9_308 dX9_people_8 c_X9_isSort (by decide) (Nat.le_of_ble_eq_true rfl) ?_
    refine x_if_eq 26 dX9_people_11 (fun h_11 => ?_) (fun h_11 => ?_)
    · refine x_bipush (-2) dX9_people_26 ?_
      have hP : ppC S z s sr at0 n = (-2, S, z) := by unfold ppC; rw [if_pos (Or.inr (Or.inl (bi0.mp h_11)))]
      exact Ex.ret (v := some (.int _)) ⟨dX9_people_28, _, rfl, by first | rfl | decide⟩ ⟨by rw [hP], by rw [hP]⟩
    · refine x_iload dX9_people_14 rfl ?_
      refine x_if_lt 26 dX9_people_16 (fun h_16 => ?_) (fun h_16 => ?_)
      · refine x_bipush (-2) dX9_people_26 ?_
        have hP : ppC S z s sr at0 n = (-2, S, z) := by unfold ppC; rw [if_pos (Or.inr (Or.inr (fun q => absurd q.1 (Int32.not_le.mpr h_16))))]
        exact Ex.ret (v := some (.int _)) ⟨dX9_people_28, _, rfl, by first | rfl | decide⟩ ⟨by rw [hP], by rw [hP]⟩
      · refine x_iload dX9_people_19 rfl ?_
        refine x_bipush 6 dX9_people_21 ?_
        refine x_icmp_le 29 dX9_people_23 (fun h_23 => ?_) (fun h_23 => ?_)
        · have hs := bi1.mp h_4
          have hsr := bi1.mp h_11
          have hn0 := Int32.not_lt.mp h_16
          have hgd : ¬ (¬ (0 ≤ s ∧ s < 4) ∨ ¬ (0 ≤ sr ∧ sr ≤ 2) ∨ ¬ (0 ≤ n ∧ n ≤ 6)) := fun q => q.elim (fun y => y hs) (fun q => q.elim (fun y => y hsr) (fun y => y ⟨hn0, h_23⟩))
          obtain ⟨k, hk, rfl⟩ := nat_of hs.1 (show s < nI 4 from hs.2) (by omega)
          have ck : (nI k).toNatClampNeg = k := nI_clamp (by omega)
          refine x_aload_n dX9_people_29 rfl ?_
          refine gf_X9_53 dX9_people_30 rfl rfl ?_
          refine x_iload_n dX9_people_33 rfl ?_
          refine x_aaloadN dX9_people_34 (fun _ => rfl) rfl hk (by decide) (shR_at hk) ?_
          refine x_astore dX9_people_35 (by decide) ?_
          refine x_aload dX9_people_37 rfl ?_
          refine ii_X9_250 dX9_people_39 (c_mis_s hk) (sh_obj hk) (by decide) (Nat.le_of_ble_eq_true rfl) ?_
          refine x_if_eq 48 dX9_people_42 (fun h_42 => ?_) (fun h_42 => ?_)
          · refine x_aload dX9_people_48 rfl ?_
            refine gf_X9_312 dX9_people_50 (sh_obj hk) rfl ?_
            refine x_iload_n dX9_people_53 rfl ?_
            refine x_icmp_eq 60 dX9_people_54 (fun h_54 => ?_) (fun h_54 => ?_)
            · obtain ⟨m, hm, rfl⟩ := nat_of (x := n) (n := 7) hn0 (Int32.lt_of_le_of_lt h_23 (by decide)) (by decide)
              have cm : (nI m).toNatClampNeg = m := nI_clamp (by omega)
              obtain ⟨M, hM, eM⟩ := hss k hk
              obtain ⟨cc, hcc⟩ : ∃ cc, cc = (s_sh S k).2.2 := ⟨_, rfl⟩
              obtain ⟨R0, hR0⟩ : ∃ R0, R0 = ppC S z (nI k) sr at0 (nI m) := ⟨_, rfl⟩
              suffices hS : Ex X mX9_people 3 (fun v w' => v = some (.int R0.1) ∧ w' = cst R0.2.1 ++ tl) 0 0 60 [some (.ref 0), some (.int (nI k)), some (.int sr), some (.int at0), some (.int (nI m)), some (.ref (shP k)), none, none] [] (cst S ++ tl) from by rw [hR0] at hS; exact hS
              refine x_iconst 0 dX9_people_60 ?_
              refine x_istore dX9_people_61 (by decide) ?_
              refine x_iconst 0 dX9_people_63 ?_
              refine x_istore dX9_people_64 (by decide) ?_
              suffices hL : ∀ (d i : Nat) (S' : CS) (z c : Nat), d = m - i → i ≤ m → z ≤ 6 → c ≤ i → s_sh S' = s_sh S → o_sz (s_now S') = nI z → ((at0 < 0 ∧ (if i = m then (nI c, S', z) else (-12, S', z)) = R0) ∨ (0 ≤ at0 ∧ ppG peS cc at0.toNatClampNeg M (m - i) i S' z c = R0)) → Ex X mX9_people 3 (fun v w' => v = some (.int R0.1) ∧ w' = cst R0.2.1 ++ tl) 0 0 66 [some (.ref 0), some (.int (nI k)), some (.int sr), some (.int at0), some (.int (nI m)), some (.ref (shP k)), some (.int (nI c)), some (.int (nI i))] [] (cst S' ++ tl) from by
                refine Ex.forget (L' := [some (.ref 0), some (.int (nI k)), some (.int sr), some (.int at0), some (.int (nI m)), some (.ref (shP k)), some (.int (nI 0)), some (.int (nI 0))]) ⟨rfl, rfl, rfl, rfl, rfl, rfl, rfl, rfl, trivial⟩ ?_
                refine hL m 0 S z 0 rfl (Nat.zero_le _) hz6 (Nat.le_refl _) rfl hz ?_
                by_cases ha : at0 < 0
                · refine Or.inl ⟨ha, ?_⟩
                  rw [hR0]
                  by_cases hm0 : m = 0
                  · rw [if_pos hm0.symm]; unfold ppC; rw [if_neg hgd, ck, if_neg (bi0.mp h_42), if_neg (fun q => q h_54), cm, if_pos (by rw [hm0]; rfl)]; rfl
                  · rw [if_neg (fun q => hm0 q.symm)]; unfold ppC; rw [if_neg hgd, ck, if_neg (bi0.mp h_42), if_neg (fun q => q h_54), cm, if_neg (show ¬ nI m = 0 from fun q => hm0 ((nI_eq (b := 0) (by omega) (by omega)).mp q)), if_pos ha]
                · refine Or.inr ⟨Int32.not_lt.mp ha, ?_⟩
                  rw [hR0]
                  by_cases hm0 : m = 0
                  · subst hm0; unfold ppC; rw [if_neg hgd, ck, if_neg (bi0.mp h_42), if_neg (fun q => q h_54), cm, if_pos (show nI 0 = 0 from rfl)]; rfl
                  · unfold ppC; rw [if_neg hgd, ck, if_neg (bi0.mp h_42), if_neg (fun q => q h_54), cm, if_neg (show ¬ nI m = 0 from fun q => hm0 ((nI_eq (b := 0) (by omega) (by omega)).mp q)), if_neg ha, hcc, eM, nI_clamp (n := M) (by omega)]; rfl
              intro d
              induction d with
              | zero =>
                intro i S' z c hd hi hz6 hci hsh hz hf
                have ekm : i = m := by omega
                subst ekm
                have hf2 : (nI c, S', z) = R0 := hf.elim (fun q => by have := q.2; rw [if_pos rfl] at this; exact this) (fun q => by have := q.2; rw [Nat.sub_self] at this; exact this)
                refine x_iload dX9_people_66 rfl ?_
                refine x_iload dX9_people_68 rfl ?_
                refine x_icmp_ge 157 dX9_people_70 (fun _ => ?_) (fun hx => absurd (Int32.le_refl _) hx)
                refine x_iload dX9_people_157 rfl ?_
                exact Ex.ret (v := some (.int _)) ⟨dX9_people_159, _, rfl, by first | rfl | decide⟩ ⟨by rw [← hf2], by rw [← hf2]⟩
              | succ d ih =>
                intro i S' z c hd hi hz6 hci hsh hz hf
                have him : i < m := by omega
                have eM' : (s_sh S' k).2.1 = nI M := by rw [hsh]; exact eM
                have ec : (s_sh S' k).2.2 = cc := by rw [hsh, hcc]
                rcases hf with ⟨ha, hf⟩ | ⟨ha, hf⟩
                · rw [if_neg (by omega)] at hf
                  refine x_iload dX9_people_66 rfl ?_
                  refine x_iload dX9_people_68 rfl ?_
                  refine x_icmp_ge 157 dX9_people_70 (fun hx => absurd hx (nI_ge him (by omega))) (fun _ => ?_)
                  refine x_aload dX9_people_73 rfl ?_
                  refine x_iload_n dX9_people_75 rfl ?_
                  refine ii_X9_311 dX9_people_76 (c_has_s hk) (sh_obj hk) (by decide) (Nat.le_of_ble_eq_true rfl) ?_
                  refine x_if_eq 112 dX9_people_79 (fun _ => ?_) (fun hx => absurd (bi_f (fun q => absurd q.1 (Int32.not_le.mpr ha))) hx)
                  refine x_bipush (-12) dX9_people_112 ?_
                  exact Ex.ret (v := some (.int _)) ⟨dX9_people_114, _, rfl, by first | rfl | decide⟩ ⟨by rw [← hf], by rw [← hf]⟩
                · rw [show m - i = (m - (i + 1)) + 1 by omega, ppG] at hf
                  by_cases h0 : 0 ≤ at0 ∧ at0 < (s_sh S' k).2.1
                  · have hat := has_iff (k := i) eM' hM (by omega) h0
                    by_cases hfit : at0.toNatClampNeg + 2 * i + 2 ≤ M
                    · rw [if_pos hfit] at hf
                      obtain ⟨a, haa, ea⟩ := nat_of (x := at0) (n := M) ha (by rw [← eM']; exact h0.2) (by omega)
                      have eat : at0.toNatClampNeg = a := by rw [ea]; exact nI_clamp (by omega)
                      rw [eat] at hf hfit
                      have hq2 := hat.mpr (by rw [eat]; exact hfit)
                      refine x_iload dX9_people_66 rfl ?_
                      refine x_iload dX9_people_68 rfl ?_
                      refine x_icmp_ge 157 dX9_people_70 (fun hx => absurd hx (nI_ge him (by omega))) (fun _ => ?_)
                      refine x_aload dX9_people_73 rfl ?_
                      refine x_iload_n dX9_people_75 rfl ?_
                      refine ii_X9_311 dX9_people_76 (c_has_s hk) (sh_obj hk) (by decide) (Nat.le_of_ble_eq_true rfl) ?_
                      refine x_if_eq 112 dX9_people_79 (fun hx => absurd hx (show ¬ bi _ = 0 from bi1.mpr h0)) (fun _ => ?_)
                      refine x_aload dX9_people_82 rfl ?_
                      refine x_iload_n dX9_people_84 rfl ?_
                      refine x_iconst 2 dX9_people_85 ?_
                      refine x_iload dX9_people_86 rfl ?_
                      refine x_imul dX9_people_88 ?_
                      refine x_iadd dX9_people_89 ?_
                      refine ii_X9_311 dX9_people_90 (c_has_s hk) (sh_obj hk) (by decide) (Nat.le_of_ble_eq_true rfl) ?_
                      refine x_if_eq 112 dX9_people_93 (fun hx => absurd hx (show ¬ bi _ = 0 from bi1.mpr hq2.1)) (fun _ => ?_)
                      refine x_aload dX9_people_96 rfl ?_
                      refine x_iload_n dX9_people_98 rfl ?_
                      refine x_iconst 2 dX9_people_99 ?_
                      refine x_iload dX9_people_100 rfl ?_
                      refine x_imul dX9_people_102 ?_
                      refine x_iadd dX9_people_103 ?_
                      refine x_iconst 1 dX9_people_104 ?_
                      refine x_iadd dX9_people_105 ?_
                      refine ii_X9_311 dX9_people_106 (c_has_s hk) (sh_obj hk) (by decide) (Nat.le_of_ble_eq_true rfl) ?_
                      refine x_if_ne 115 dX9_people_109 (fun _ => ?_) (fun hx => absurd hx (show ¬ bi _ = 0 from bi1.mpr hq2.2))
                      refine x_aload_n dX9_people_115 rfl ?_
                      refine x_aload dX9_people_116 rfl ?_
                      refine gf_X9_294 dX9_people_118 (sh_obj hk) rfl ?_
                      refine x_iload_n dX9_people_121 rfl ?_
                      refine x_iconst 2 dX9_people_122 ?_
                      refine x_iload dX9_people_123 rfl ?_
                      refine x_imul dX9_people_125 ?_
                      refine x_iadd dX9_people_126 ?_
                      rw [show at0 + (2 : Int32) * nI i = nI (a + 2 * i) from by rw [ea, show (2 : Int32) * nI i = nI (2 * i) from pk_mul 2 i, nI_add]]
                      refine x_ialoadN (n := 40) dX9_people_127 (sh_row hk) (show a + 2 * i < 40 by omega) (by decide) ?_
                      rw [ec]
                      refine x_aload dX9_people_128 rfl ?_
                      refine gf_X9_294 dX9_people_130 (sh_obj hk) rfl ?_
                      refine x_iload_n dX9_people_133 rfl ?_
                      refine x_iconst 2 dX9_people_134 ?_
                      refine x_iload dX9_people_135 rfl ?_
                      refine x_imul dX9_people_137 ?_
                      refine x_iadd dX9_people_138 ?_
                      refine x_iconst 1 dX9_people_139 ?_
                      refine x_iadd dX9_people_140 ?_
                      rw [show at0 + (2 : Int32) * nI i = nI (a + 2 * i) from by rw [ea, show (2 : Int32) * nI i = nI (2 * i) from pk_mul 2 i, nI_add]]
                      rw [show nI (a + 2 * i) + 1 = nI (a + 2 * i + 1) from (nI_succ _).symm]
                      refine x_ialoadN (n := 40) dX9_people_141 (sh_row hk) (show a + 2 * i + 1 < 40 by omega) (by decide) ?_
                      rw [ec]
                      refine ii_X9_324 dX9_people_142 (c_X9_person hz hz6) rfl (by decide) (Nat.le_of_ble_eq_true rfl) ?_
                      refine x_if_lt 151 dX9_people_145 (fun h_145 => ?_) (fun h_145 => ?_)
                      · refine x_iincN dX9_people_151 rfl (by decide) ?_
                        refine x_goto 66 dX9_people_154 ?_
                        refine Ex.forget (L' := [some (.ref 0), some (.int (nI k)), some (.int sr), some (.int at0), some (.int (nI m)), some (.ref (shP k)), some (.int (nI c)), some (.int (nI (i + 1)))]) ⟨rfl, rfl, rfl, rfl, rfl, rfl, rfl, rfl, trivial⟩ ?_
                        have hpe : ¬ (peC (cc (a + 2 * i)) (cc (a + 2 * i + 1)) ∧ z < 6) := fun q => Int32.not_lt.mpr ((peF_ge hz6).mpr q) h_145
                        rw [if_neg hpe] at hf
                        exact ih (i + 1) (peS S' z (cc (a + 2 * i)) (cc (a + 2 * i + 1))) z c (by omega) (by omega) hz6 (by omega) (by rw [peS_sh]; exact hsh) (by rw [peS_sz hz, if_neg hpe]) (Or.inr ⟨ha, by rw [eat]; exact hf⟩)
                      · refine x_iincN dX9_people_148 rfl (by decide) ?_
                        refine x_iincN dX9_people_151 rfl (by decide) ?_
                        refine x_goto 66 dX9_people_154 ?_
                        refine Ex.forget (L' := [some (.ref 0), some (.int (nI k)), some (.int sr), some (.int at0), some (.int (nI m)), some (.ref (shP k)), some (.int (nI (c + 1))), some (.int (nI (i + 1)))]) ⟨rfl, rfl, rfl, rfl, rfl, rfl, rfl, rfl, trivial⟩ ?_
                        have hpe := (peF_ge hz6).mp (Int32.not_lt.mp h_145)
                        rw [if_pos hpe] at hf
                        exact ih (i + 1) (peS S' z (cc (a + 2 * i)) (cc (a + 2 * i + 1))) (z + 1) (c + 1) (by omega) (by omega) (by omega) (by omega) (by rw [peS_sh]; exact hsh) (by rw [peS_sz hz, if_pos hpe]) (Or.inr ⟨ha, by rw [eat]; exact hf⟩)
                    · rw [if_neg hfit] at hf
                      by_cases hb2 : 0 ≤ at0 + 2 * nI i ∧ at0 + 2 * nI i < (s_sh S' k).2.1
                      · have hb3 : ¬ (0 ≤ at0 + 2 * nI i + 1 ∧ at0 + 2 * nI i + 1 < (s_sh S' k).2.1) := fun q => hfit (hat.mp ⟨hb2, q⟩)
                        refine x_iload dX9_people_66 rfl ?_
                        refine x_iload dX9_people_68 rfl ?_
                        refine x_icmp_ge 157 dX9_people_70 (fun hx => absurd hx (nI_ge him (by omega))) (fun _ => ?_)
                        refine x_aload dX9_people_73 rfl ?_
                        refine x_iload_n dX9_people_75 rfl ?_
                        refine ii_X9_311 dX9_people_76 (c_has_s hk) (sh_obj hk) (by decide) (Nat.le_of_ble_eq_true rfl) ?_
                        refine x_if_eq 112 dX9_people_79 (fun hx => absurd hx (show ¬ bi _ = 0 from bi1.mpr h0)) (fun _ => ?_)
                        refine x_aload dX9_people_82 rfl ?_
                        refine x_iload_n dX9_people_84 rfl ?_
                        refine x_iconst 2 dX9_people_85 ?_
                        refine x_iload dX9_people_86 rfl ?_
                        refine x_imul dX9_people_88 ?_
                        refine x_iadd dX9_people_89 ?_
                        refine ii_X9_311 dX9_people_90 (c_has_s hk) (sh_obj hk) (by decide) (Nat.le_of_ble_eq_true rfl) ?_
                        refine x_if_eq 112 dX9_people_93 (fun hx => absurd hx (show ¬ bi _ = 0 from bi1.mpr hb2)) (fun _ => ?_)
                        refine x_aload dX9_people_96 rfl ?_
                        refine x_iload_n dX9_people_98 rfl ?_
                        refine x_iconst 2 dX9_people_99 ?_
                        refine x_iload dX9_people_100 rfl ?_
                        refine x_imul dX9_people_102 ?_
                        refine x_iadd dX9_people_103 ?_
                        refine x_iconst 1 dX9_people_104 ?_
                        refine x_iadd dX9_people_105 ?_
                        refine ii_X9_311 dX9_people_106 (c_has_s hk) (sh_obj hk) (by decide) (Nat.le_of_ble_eq_true rfl) ?_
                        refine x_if_ne 115 dX9_people_109 (fun hx => absurd (show bi _ = 0 from bi_f hb3) hx) (fun _ => ?_)
                        refine x_bipush (-12) dX9_people_112 ?_
                        exact Ex.ret (v := some (.int _)) ⟨dX9_people_114, _, rfl, by first | rfl | decide⟩ ⟨by rw [← hf], by rw [← hf]⟩
                      · skip
                        refine x_iload dX9_people_66 rfl ?_
                        refine x_iload dX9_people_68 rfl ?_
                        refine x_icmp_ge 157 dX9_people_70 (fun hx => absurd hx (nI_ge him (by omega))) (fun _ => ?_)
                        refine x_aload dX9_people_73 rfl ?_
                        refine x_iload_n dX9_people_75 rfl ?_
                        refine ii_X9_311 dX9_people_76 (c_has_s hk) (sh_obj hk) (by decide) (Nat.le_of_ble_eq_true rfl) ?_
                        refine x_if_eq 112 dX9_people_79 (fun hx => absurd hx (show ¬ bi _ = 0 from bi1.mpr h0)) (fun _ => ?_)
                        refine x_aload dX9_people_82 rfl ?_
                        refine x_iload_n dX9_people_84 rfl ?_
                        refine x_iconst 2 dX9_people_85 ?_
                        refine x_iload dX9_people_86 rfl ?_
                        refine x_imul dX9_people_88 ?_
                        refine x_iadd dX9_people_89 ?_
                        refine ii_X9_311 dX9_people_90 (c_has_s hk) (sh_obj hk) (by decide) (Nat.le_of_ble_eq_true rfl) ?_
                        refine x_if_eq 112 dX9_people_93 (fun _ => ?_) (fun hx => absurd (show bi _ = 0 from bi_f hb2) hx)
                        refine x_bipush (-12) dX9_people_112 ?_
                        exact Ex.ret (v := some (.int _)) ⟨dX9_people_114, _, rfl, by first | rfl | decide⟩ ⟨by rw [← hf], by rw [← hf]⟩
                  · have hfit : ¬ at0.toNatClampNeg + 2 * i + 2 ≤ M := by
                      intro q
                      refine h0 ⟨ha, ?_⟩
                      rw [eM', Int32.lt_iff_toInt_lt, nI_toInt (by omega), ← tNat ha]
                      omega
                    rw [if_neg hfit] at hf
                    refine x_iload dX9_people_66 rfl ?_
                    refine x_iload dX9_people_68 rfl ?_
                    refine x_icmp_ge 157 dX9_people_70 (fun hx => absurd hx (nI_ge him (by omega))) (fun _ => ?_)
                    refine x_aload dX9_people_73 rfl ?_
                    refine x_iload_n dX9_people_75 rfl ?_
                    refine ii_X9_311 dX9_people_76 (c_has_s hk) (sh_obj hk) (by decide) (Nat.le_of_ble_eq_true rfl) ?_
                    refine x_if_eq 112 dX9_people_79 (fun _ => ?_) (fun hx => absurd (show bi _ = 0 from bi_f h0) hx)
                    refine x_bipush (-12) dX9_people_112 ?_
                    exact Ex.ret (v := some (.int _)) ⟨dX9_people_114, _, rfl, by first | rfl | decide⟩ ⟨by rw [← hf], by rw [← hf]⟩
            · refine x_bipush (-13) dX9_people_57 ?_
              have hP : ppC S z (nI k) sr at0 n = (-13, S, z) := by unfold ppC; rw [if_neg hgd, ck, if_neg (bi0.mp h_42), if_pos h_54]
              exact Ex.ret (v := some (.int _)) ⟨dX9_people_59, _, rfl, by first | rfl | decide⟩ ⟨by rw [hP], by rw [hP]⟩
          · refine x_bipush (-11) dX9_people_45 ?_
            have hP : ppC S z (nI k) sr at0 n = (-11, S, z) := by unfold ppC; rw [if_neg hgd, ck, if_pos (bi1.mp h_42)]
            exact Ex.ret (v := some (.int _)) ⟨dX9_people_47, _, rfl, by first | rfl | decide⟩ ⟨by rw [hP], by rw [hP]⟩
        · refine x_bipush (-2) dX9_people_26 ?_
          have hP : ppC S z s sr at0 n = (-2, S, z) := by unfold ppC; rw [if_pos (Or.inr (Or.inr (fun q => h_23 q.2)))]
          exact Ex.ret (v := some (.int _)) ⟨dX9_people_28, _, rfl, by first | rfl | decide⟩ ⟨by rw [hP], by rw [hP]⟩
