theorem c_mis_s {X : Nat × (Nat → Int32)} {S : CS} {tl : pc_W} {k : Nat} (hk : k < 4) : Mt X 0 0 0 yX6_isMissing cX6_isMissing 1 (some .boolean) [.ref (shP k)] (cst S ++ tl) (RI (bi ((s_sh S k).1 = -1)) (cst S ++ tl)) := by
  rw [sw_eta S tl hk]; exact c_X6_isMissing hk
theorem c_has_s {X : Nat × (Nat → Int32)} {S : CS} {tl : pc_W} {k : Nat} {i : Int32} (hk : k < 4) : Mt X 0 0 0 yX6_has cX6_has 2 (some .boolean) [.ref (shP k), .int i] (cst S ++ tl) (RI (bi (0 ≤ i ∧ i < (s_sh S k).2.1)) (cst S ++ tl)) := by
  rw [sw_eta S tl hk]; exact c_X6_has hk
abbrev rnC (b i n : Int32) : Prop := 0 ≤ i ∧ 0 ≤ n ∧ n ≤ b ∧ i ≤ b - n
theorem c_hasRun_s {X : Nat × (Nat → Int32)} {S : CS} {tl : pc_W} {k : Nat} {i n : Int32} (hk : k < 4) : Mt X 0 0 0 yX6_hasRun cX6_hasRun 3 (some .boolean) [.ref (shP k), .int i, .int n] (cst S ++ tl) (RI (bi (rnC (s_sh S k).2.1 i n)) (cst S ++ tl)) := by
  rw [sw_eta S tl hk]; exact c_X6_hasRun hk
theorem tNat {a : Int32} (ha : 0 ≤ a) : (a.toNatClampNeg : Int) = a.toInt := Int.toNat_of_nonneg (by rw [Int32.le_iff_toInt_le, tI_0] at ha; exact ha)
theorem rn_iff {b i n : Int32} {m : Nat} (hb : b = nI m) (hm : m ≤ 40) (hi : 0 ≤ i) (hn : 0 ≤ n) : (n ≤ b ∧ i ≤ b - n) ↔ (i.toNatClampNeg + n.toNatClampNeg ≤ m) := by
  have e1 := tNat hi
  have e2 := tNat hn
  have e3 : b.toInt = (m : Int) := by rw [hb]; exact nI_toInt (by omega)
  rw [Int32.le_iff_toInt_le, tI_0] at hi hn
  constructor
  · rintro ⟨h1, h2⟩
    rw [Int32.le_iff_toInt_le] at h1 h2
    rw [Int32.toInt_sub, Int.bmod_eq_of_le (by omega) (by omega)] at h2
    omega
  · intro h
    rw [Int32.le_iff_toInt_le, Int32.le_iff_toInt_le, Int32.toInt_sub, Int.bmod_eq_of_le (by omega) (by omega)]
    omega
abbrev cpB1 (s t : Int32) : Prop := ¬ (0 ≤ s ∧ s < 4) ∨ ¬ (0 ≤ t ∧ t < 4)
abbrev cpB2 (S : CS) (s t : Int32) : Prop := (s_sh S s.toNatClampNeg).1 = -1 ∨ (s_sh S t.toNatClampNeg).1 = -1
abbrev cpB3 (S : CS) (s t : Int32) : Prop := ¬ (s_sh S s.toNatClampNeg).1 = (s_sh S t.toNatClampNeg).1
abbrev cpB4 (S : CS) (s i t j n : Int32) : Prop := ¬ rnC (s_sh S s.toNatClampNeg).2.1 i n ∨ ¬ rnC (s_sh S t.toNatClampNeg).2.1 j n
def cpA (S : CS) (s i t j n : Int32) : Int32 := if cpB1 s t then -2 else if cpB2 S s t then -11 else if cpB3 S s t then -13 else if cpB4 S s i t j n then -12 else n
def cpW (S : CS) (s i t j n : Int32) : CS := if cpB1 s t ∨ cpB2 S s t ∨ cpB3 S s t ∨ cpB4 S s i t j n then S else u_sh S (shU (s_sh S) t.toNatClampNeg ((s_sh S t.toNatClampNeg).1, (s_sh S t.toNatClampNeg).2.1, va_cpy (s_sh S s.toNatClampNeg).2.2 (s_sh S t.toNatClampNeg).2.2 i.toNatClampNeg j.toNatClampNeg n.toNatClampNeg))
set_option maxRecDepth 100000 in
set_option maxHeartbeats 4000000 in
theorem c_X9_copy {X : Nat × (Nat → Int32)} {S : CS} {tl : pc_W} {s i t j n : Int32} (hss : ∀ k, k < 4 → ∃ m, m ≤ 40 ∧ (s_sh S k).2.1 = nI m) : Mt X 1 0 0 yX9_copy cX9_copy 8 (some .int) [.ref 0, .int s, .int i, .int t, .int j, .int n] (cst S ++ tl) (RI (cpA S s i t j n) (cst (cpW S s i t j n) ++ tl)) := by
  refine Mt.of (by decide +kernel) (fun _ _ => Nat.le_of_ble_eq_true rfl) ?_
  show Ex X mX9_copy _ _ _ _ _ _ _ _
  refine x_iload_n dX9_copy_0 rfl ?_
  refine ii_X9_247 dX9_copy_1 c_X9_isSheet (by decide) (Nat.le_of_ble_eq_true rfl) ?_
  refine x_if_eq 14 dX9_copy_4 (fun h_4 => ?_) (fun h_4 => ?_)
  · refine x_bipush (-2) dX9_copy_14 ?_
    have hB1 : cpB1 s t := Or.inl (bi0.mp h_4)
    exact Ex.ret (v := some (.int _)) ⟨dX9_copy_16, _, rfl, by first | rfl | decide⟩ ⟨congrArg (fun z => some (Value.int z)) (by rw [cpA, if_pos hB1]), congrArg (fun z => cst z ++ tl) (by rw [cpW, if_pos (Or.inl hB1)])⟩
  · refine x_iload_n dX9_copy_7 rfl ?_
    refine ii_X9_247 dX9_copy_8 c_X9_isSheet (by decide) (Nat.le_of_ble_eq_true rfl) ?_
    refine x_if_ne 17 dX9_copy_11 (fun h_11 => ?_) (fun h_11 => ?_)
    · have hs := bi1.mp h_4
      have ht := bi1.mp h_11
      obtain ⟨k, hk, rfl⟩ := nat_of hs.1 (show s < nI 4 from hs.2) (by omega)
      obtain ⟨q, hq, rfl⟩ := nat_of ht.1 (show t < nI 4 from ht.2) (by omega)
      have ck : (nI k).toNatClampNeg = k := nI_clamp (by omega)
      have cq : (nI q).toNatClampNeg = q := nI_clamp (by omega)
      have hB1 : ¬ cpB1 (nI k) (nI q) := fun y => y.elim (fun z => z hs) (fun z => z ht)
      refine x_aload_n dX9_copy_17 rfl ?_
      refine gf_X9_53 dX9_copy_18 rfl rfl ?_
      refine x_iload_n dX9_copy_21 rfl ?_
      refine x_aaloadN dX9_copy_22 (fun _ => rfl) rfl hk (by decide) (shR_at hk) ?_
      refine x_astore dX9_copy_23 (by decide) ?_
      refine x_aload_n dX9_copy_25 rfl ?_
      refine gf_X9_53 dX9_copy_26 rfl rfl ?_
      refine x_iload_n dX9_copy_29 rfl ?_
      refine x_aaloadN dX9_copy_30 (fun _ => rfl) rfl hq (by decide) (shR_at hq) ?_
      refine x_astore dX9_copy_31 (by decide) ?_
      refine x_aload dX9_copy_33 rfl ?_
      refine ii_X9_250 dX9_copy_35 (c_mis_s hk) (sh_obj hk) (by decide) (Nat.le_of_ble_eq_true rfl) ?_
      refine x_if_ne 49 dX9_copy_38 (fun h_38 => ?_) (fun h_38 => ?_)
      · refine x_bipush (-11) dX9_copy_49 ?_
        have hB2 : cpB2 S (nI k) (nI q) := Or.inl (by rw [ck]; exact bi1.mp h_38)
        exact Ex.ret (v := some (.int _)) ⟨dX9_copy_51, _, rfl, by first | rfl | decide⟩ ⟨congrArg (fun z => some (Value.int z)) (by rw [cpA, if_neg hB1, if_pos hB2]), congrArg (fun z => cst z ++ tl) (by rw [cpW, if_pos (Or.inr (Or.inl hB2))])⟩
      · refine x_aload dX9_copy_41 rfl ?_
        refine ii_X9_250 dX9_copy_43 (c_mis_s hq) (sh_obj hq) (by decide) (Nat.le_of_ble_eq_true rfl) ?_
        refine x_if_eq 52 dX9_copy_46 (fun h_46 => ?_) (fun h_46 => ?_)
        · refine x_aload dX9_copy_52 rfl ?_
          refine gf_X9_312 dX9_copy_54 (sh_obj hk) rfl ?_
          refine x_aload dX9_copy_57 rfl ?_
          refine gf_X9_312 dX9_copy_59 (sh_obj hq) rfl ?_
          refine x_icmp_eq 68 dX9_copy_62 (fun h_62 => ?_) (fun h_62 => ?_)
          · refine x_aload dX9_copy_68 rfl ?_
            refine x_iload_n dX9_copy_70 rfl ?_
            refine x_iload dX9_copy_71 rfl ?_
            refine ii_X9_315 dX9_copy_73 (c_hasRun_s hk) (sh_obj hk) (by decide) (Nat.le_of_ble_eq_true rfl) ?_
            refine x_if_eq 91 dX9_copy_76 (fun h_76 => ?_) (fun h_76 => ?_)
            · refine x_bipush (-12) dX9_copy_91 ?_
              have hB2 : ¬ cpB2 S (nI k) (nI q) := fun y => y.elim (fun z => bi0.mp h_38 (by rw [ck] at z; exact z)) (fun z => bi0.mp h_46 (by rw [cq] at z; exact z))
              have hB3 : ¬ cpB3 S (nI k) (nI q) := fun y => y (by rw [ck, cq]; exact h_62)
              have hB4 : cpB4 S (nI k) i (nI q) j n := Or.inl (by rw [ck]; exact bi0.mp h_76)
              exact Ex.ret (v := some (.int _)) ⟨dX9_copy_93, _, rfl, by first | rfl | decide⟩ ⟨congrArg (fun z => some (Value.int z)) (by rw [cpA, if_neg hB1, if_neg hB2, if_neg hB3, if_pos hB4]), congrArg (fun z => cst z ++ tl) (by rw [cpW, if_pos (Or.inr (Or.inr (Or.inr hB4)))])⟩
            · refine x_aload dX9_copy_79 rfl ?_
              refine x_iload dX9_copy_81 rfl ?_
              refine x_iload dX9_copy_83 rfl ?_
              refine ii_X9_315 dX9_copy_85 (c_hasRun_s hq) (sh_obj hq) (by decide) (Nat.le_of_ble_eq_true rfl) ?_
              refine x_if_ne 94 dX9_copy_88 (fun h_88 => ?_) (fun h_88 => ?_)
              · refine x_aload dX9_copy_94 rfl ?_
                refine gf_X9_294 dX9_copy_96 (sh_obj hk) rfl ?_
                refine x_iload_n dX9_copy_99 rfl ?_
                refine x_aload dX9_copy_100 rfl ?_
                refine gf_X9_294 dX9_copy_102 (sh_obj hq) rfl ?_
                refine x_iload dX9_copy_105 rfl ?_
                refine x_iload dX9_copy_107 rfl ?_
                obtain ⟨m1, hm1, e1⟩ := hss k hk
                obtain ⟨m2, hm2, e2⟩ := hss q hq
                have r1 := bi1.mp h_76
                have r2 := bi1.mp h_88
                refine x_arraycopy dX9_copy_109 ky_X9_318 kna_acopy kt_acopy ki_System (sh_row hk) (sh_row hq) (Int32.not_lt.mpr r1.1) (Int32.not_lt.mpr r2.1) (Int32.not_lt.mpr r1.2.1) (Nat.le_trans ((rn_iff e1 hm1 r1.1 r1.2.1).mp r1.2.2) hm1) (Nat.le_trans ((rn_iff e2 hm2 r2.1 r2.2.1).mp r2.2.2) hm2) (by decide) (by decide) ?_
                refine Ex.eqW (sh_ro _ hq) ?_
                refine x_iload dX9_copy_112 rfl ?_
                have hB2 : ¬ cpB2 S (nI k) (nI q) := fun y => y.elim (fun z => bi0.mp h_38 (by rw [ck] at z; exact z)) (fun z => bi0.mp h_46 (by rw [cq] at z; exact z))
                have hB3 : ¬ cpB3 S (nI k) (nI q) := fun y => y (by rw [ck, cq]; exact h_62)
                have hB4 : ¬ cpB4 S (nI k) i (nI q) j n := fun y => y.elim (fun z => z (by rw [ck]; exact r1)) (fun z => z (by rw [cq]; exact r2))
                exact Ex.ret (v := some (.int _)) ⟨dX9_copy_114, _, rfl, by first | rfl | decide⟩ ⟨congrArg (fun z => some (Value.int z)) (by rw [cpA, if_neg hB1, if_neg hB2, if_neg hB3, if_neg hB4]), congrArg (fun z => cst z ++ tl) (by rw [cpW, if_neg (fun y => y.elim hB1 (fun y => y.elim hB2 (fun y => y.elim hB3 hB4))), ck, cq])⟩
              · refine x_bipush (-12) dX9_copy_91 ?_
                have hB2 : ¬ cpB2 S (nI k) (nI q) := fun y => y.elim (fun z => bi0.mp h_38 (by rw [ck] at z; exact z)) (fun z => bi0.mp h_46 (by rw [cq] at z; exact z))
                have hB3 : ¬ cpB3 S (nI k) (nI q) := fun y => y (by rw [ck, cq]; exact h_62)
                have hB4 : cpB4 S (nI k) i (nI q) j n := Or.inr (by rw [cq]; exact bi0.mp h_88)
                exact Ex.ret (v := some (.int _)) ⟨dX9_copy_93, _, rfl, by first | rfl | decide⟩ ⟨congrArg (fun z => some (Value.int z)) (by rw [cpA, if_neg hB1, if_neg hB2, if_neg hB3, if_pos hB4]), congrArg (fun z => cst z ++ tl) (by rw [cpW, if_pos (Or.inr (Or.inr (Or.inr hB4)))])⟩
          · refine x_bipush (-13) dX9_copy_65 ?_
            have hB2 : ¬ cpB2 S (nI k) (nI q) := fun y => y.elim (fun z => bi0.mp h_38 (by rw [ck] at z; exact z)) (fun z => bi0.mp h_46 (by rw [cq] at z; exact z))
            have hB3 : cpB3 S (nI k) (nI q) := by show ¬ (s_sh S (nI k).toNatClampNeg).1 = (s_sh S (nI q).toNatClampNeg).1; rw [ck, cq]; exact h_62
            exact Ex.ret (v := some (.int _)) ⟨dX9_copy_67, _, rfl, by first | rfl | decide⟩ ⟨congrArg (fun z => some (Value.int z)) (by rw [cpA, if_neg hB1, if_neg hB2, if_pos hB3]), congrArg (fun z => cst z ++ tl) (by rw [cpW, if_pos (Or.inr (Or.inr (Or.inl hB3)))])⟩
        · refine x_bipush (-11) dX9_copy_49 ?_
          have hB2 : cpB2 S (nI k) (nI q) := Or.inr (by rw [cq]; exact bi1.mp h_46)
          exact Ex.ret (v := some (.int _)) ⟨dX9_copy_51, _, rfl, by first | rfl | decide⟩ ⟨congrArg (fun z => some (Value.int z)) (by rw [cpA, if_neg hB1, if_pos hB2]), congrArg (fun z => cst z ++ tl) (by rw [cpW, if_pos (Or.inr (Or.inl hB2))])⟩
    · refine x_bipush (-2) dX9_copy_14 ?_
      have hB1 : cpB1 s t := Or.inr (bi0.mp h_11)
      exact Ex.ret (v := some (.int _)) ⟨dX9_copy_16, _, rfl, by first | rfl | decide⟩ ⟨congrArg (fun z => some (Value.int z)) (by rw [cpA, if_pos hB1]), congrArg (fun z => cst z ++ tl) (by rw [cpW, if_pos (Or.inl hB1)])⟩
