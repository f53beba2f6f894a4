def chM (F : Nat → Int32) (kk : Int32) : Nat → Nat
  | 0 => 0
  | t + 1 => if kk ≤ F t then chM F kk t + 1 else chM F kk t
theorem chM_le (F : Nat → Int32) (kk : Int32) : ∀ t, chM F kk t ≤ t
  | 0 => Nat.le_refl _
  | t + 1 => by
    rw [chM]
    have := chM_le F kk t
    split <;> omega
abbrev chB (m kk part : Int32) : Prop := ¬ (1 ≤ m ∧ m ≤ 20) ∨ ¬ (0 ≤ kk ∧ kk ≤ 6) ∨ ¬ (0 ≤ part ∧ part ≤ 1)
def chZ (F : Nat → Int32) (m kk part : Int32) : Int64 := if chB m kk part then -4611686018427387904 else lN ((if part = 0 then chM F kk m.toNatClampNeg else m.toNatClampNeg) / Nat.gcd (chM F kk m.toNatClampNeg) m.toNatClampNeg)
theorem gcd_st (a b : Nat) : Nat.gcd b (a % b) = Nat.gcd a b := by rw [Nat.gcd_comm a b, Nat.gcd_rec b a, Nat.gcd_comm]
set_option maxRecDepth 100000 in
set_option maxHeartbeats 4000000 in
theorem c_X10_chance {X : Nat × (Nat → Int32)} {S : CS} {tl : pc_W} {T : MT} {ru : Int32} {ou : (Nat → Int32)} {we : (Nat → Int32)} {me : Int32} {ki : (Nat → Int32)} {ro : (Nat → Int32)} {ma : Int32} {Λ : ML} {K : MK} {H : MH} {τ : TV} {r z : Nat} {co ww : Nat → Int32} {seed m kk part : Int32} (hX : TXm τ T.1 T.2.1 r) (hru : ru = nI r) (hz : ma = nI z) (hz6 : z ≤ 6): Mt X 49 0 0 yX10_chance cX10_chance 13 (some .long) [.ref 42, .int seed, .int m, .int kk, .int part] (cst S ++ (mw T (ru, ou, we, me, ki, ro, ma) Λ (co, ww) K H ++ tl)) (fun v w' => ∃ (Λ' : ML) (ww' : Nat → Int32), v = some (.long (chZ (fun t => hpF τ (mO (ru, ou, (weM (seed + nI t) we 8), me, ki, ro, ma)) r z) m kk part)) ∧ w' = cst S ++ (mw T (ru, ou, we, me, ki, ro, ma) Λ' (co, ww') K H ++ tl)) := by
  refine Mt.of (by decide +kernel) (fun _ _ => Nat.le_of_ble_eq_true rfl) ?_
  show Ex X mX10_chance _ _ _ _ _ _ _ _
  obtain ⟨F, hF⟩ : ∃ F : Nat → Int32, F = (fun t => hpF τ (mO (ru, ou, (weM (seed + nI t) we 8), me, ki, ro, ma)) r z) := ⟨_, rfl⟩
  obtain ⟨x0, hx0⟩ : ∃ x0, x0 = chZ (fun t => hpF τ (mO (ru, ou, (weM (seed + nI t) we 8), me, ki, ro, ma)) r z) m kk part := ⟨_, rfl⟩
  rw [← hx0]
  rw [← hF] at hx0
  refine x_iload_n dX10_chance_0 rfl ?_
  refine x_i2l dX10_chance_1 ?_
  refine x_lconst 1 dX10_chance_2 ?_
  refine x_ldc2_w dX10_chance_3 kk_X10_123 ?_
  refine ii_X10_76 dX10_chance_6 (c_X10_inC (a := 1) (b := 20) (by first | rfl | decide) (by first | rfl | decide)) (by decide) (Nat.le_of_ble_eq_true rfl) ?_
  refine x_if_eq 35 dX10_chance_9 (fun h_9 => ?_) (fun h_9 => ?_)
  · refine x_ldc2_w dX10_chance_35 kk_X10_422 ?_
    exact Ex.ret (v := some (.long _)) ⟨rfl, dX10_chance_38⟩ ⟨_, _, by rw [hx0, chZ, if_pos (Or.inl (bi0.mp h_9))], rfl⟩
  · refine x_iload_n dX10_chance_12 rfl ?_
    refine x_i2l dX10_chance_13 ?_
    refine x_lconst 0 dX10_chance_14 ?_
    refine x_ldc2_w dX10_chance_15 kk_X10_91 ?_
    refine ii_X10_76 dX10_chance_18 (c_X10_inC (a := 0) (b := 6) (by first | rfl | decide) (by first | rfl | decide)) (by decide) (Nat.le_of_ble_eq_true rfl) ?_
    refine x_if_eq 35 dX10_chance_21 (fun h_21 => ?_) (fun h_21 => ?_)
    · refine x_ldc2_w dX10_chance_35 kk_X10_422 ?_
      exact Ex.ret (v := some (.long _)) ⟨rfl, dX10_chance_38⟩ ⟨_, _, by rw [hx0, chZ, if_pos (Or.inr (Or.inl (bi0.mp h_21)))], rfl⟩
    · refine x_iload dX10_chance_24 rfl ?_
      refine x_i2l dX10_chance_26 ?_
      refine x_lconst 0 dX10_chance_27 ?_
      refine x_lconst 1 dX10_chance_28 ?_
      refine ii_X10_76 dX10_chance_29 (c_X10_inC (a := 0) (b := 1) (by first | rfl | decide) (by first | rfl | decide)) (by decide) (Nat.le_of_ble_eq_true rfl) ?_
      refine x_if_ne 39 dX10_chance_32 (fun h_32 => ?_) (fun h_32 => ?_)
      · have hm1 := bi1.mp h_9
        obtain ⟨n, hn, rfl⟩ := nat_of (x := m) (n := 21) (Int32.le_trans (by decide) hm1.1) (Int32.lt_of_le_of_lt hm1.2 (by decide)) (by decide)
        have hn1 : 1 ≤ n := (nI_leI (a := 1) (by decide) (by omega)).mp hm1.1
        have hcl : (nI n).toNatClampNeg = n := nI_clamp (by omega)
        have hgd : ¬ chB (nI n) kk part := fun q => q.elim (fun y => y hm1) (fun q => q.elim (fun y => y (bi1.mp h_21)) (fun y => y (bi1.mp h_32)))
        have hcle := chM_le F kk n
        have hGp : 0 < Nat.gcd (chM F kk n) n := Nat.gcd_pos_of_pos_right _ (by omega)
        refine x_lconst (lN 0) dX10_chance_39 ?_
        refine x_lstore dX10_chance_40 (by decide) ?_
        refine x_iconst 0 dX10_chance_42 ?_
        refine x_istore dX10_chance_43 (by decide) ?_
        refine Ex.forget (L' := [some (.ref 42), some (.int seed), some (.int (nI n)), some (.int kk), some (.int part), some (.long (lN (chM F kk 0))), none, some (.int (nI 0)), none, none, none, none, none]) ⟨rfl, rfl, rfl, rfl, rfl, rfl, rfl, trivial⟩ ?_
        refine for_up (P := fun i => ∀ (Λ : ML) (ww : Nat → Int32), Ex X mX10_chance 49 (fun v w' => ∃ (Λ' : ML) (ww' : Nat → Int32), v = some (.long x0) ∧ w' = cst S ++ (mw T (ru, ou, we, me, ki, ro, ma) Λ' (co, ww') K H ++ tl)) 0 0 45 [some (.ref 42), some (.int seed), some (.int (nI n)), some (.int kk), some (.int part), some (.long (lN (chM F kk i))), none, some (.int (nI i)), none, none, none, none, none] [] (cst S ++ (mw T (ru, ou, we, me, ki, ro, ma) Λ (co, ww) K H ++ tl))) (n) ?_ (fun i hi ih => ?_) (0) (Nat.zero_le _) _ _
        · intro Λ ww
          refine x_iload dX10_chance_45 rfl ?_
          refine x_iload_n dX10_chance_47 rfl ?_
          refine x_icmp_ge 79 dX10_chance_48 (fun _ => ?_) (fun hx => absurd (Int32.le_refl _) hx)
          refine x_lload dX10_chance_79 rfl ?_
          refine x_lstore dX10_chance_81 (by decide) ?_
          refine x_iload_n dX10_chance_83 rfl ?_
          refine x_i2l dX10_chance_84 ?_
          rw [nI_l (show n < 2 ^ 31 by omega)]
          refine x_lstore dX10_chance_85 (by decide) ?_
          refine Ex.forget (L' := [some (.ref 42), some (.int seed), some (.int (nI n)), some (.int kk), some (.int part), some (.long (lN (chM F kk n))), none, some (.long (lN (chM F kk n))), none, some (.long (lN n)), none, none, none]) ⟨rfl, rfl, rfl, rfl, rfl, rfl, rfl, rfl, trivial⟩ ?_
          suffices hL : ∀ (d a b : Nat), b ≤ d → a ≤ 40 → b ≤ 40 → Nat.gcd a b = Nat.gcd (chM F kk n) n → Ex X mX10_chance 49 (fun v w' => ∃ (Λ' : ML) (ww' : Nat → Int32), v = some (.long x0) ∧ w' = cst S ++ (mw T (ru, ou, we, me, ki, ro, ma) Λ' (co, ww') K H ++ tl)) 0 0 87 [some (.ref 42), some (.int seed), some (.int (nI n)), some (.int kk), some (.int part), some (.long (lN (chM F kk n))), none, some (.long (lN a)), none, some (.long (lN b)), none, none, none] [] (cst S ++ (mw T (ru, ou, we, me, ki, ro, ma) Λ (co, ww) K H ++ tl)) from hL n _ _ (Nat.le_refl _) (by omega) (by omega) rfl
          intro d
          induction d with
          | zero =>
            intro a b hb ha hb2 hg
            have eb : b = 0 := by omega
            subst eb
            rw [Nat.gcd_zero_right] at hg
            have ha0 : 0 < a := by rw [hg]; exact hGp
            refine x_lload dX10_chance_87 rfl ?_
            refine x_lconst (lN 0) dX10_chance_89 ?_
            refine x_lcmp dX10_chance_90 ?_
            refine x_if_eq 112 dX10_chance_91 (fun _ => ?_) (fun hx => absurd ((lg_cmp_eq _ _).mpr rfl) hx)
            refine x_iload dX10_chance_112 rfl ?_
            refine x_if_ne 125 dX10_chance_114 (fun h_114 => ?_) (fun h_114 => ?_)
            · refine x_iload_n dX10_chance_125 rfl ?_
              refine x_i2l dX10_chance_126 ?_
              rw [nI_l (show n < 2 ^ 31 by omega)]
              refine x_lload dX10_chance_127 rfl ?_
              refine x_ldiv dX10_chance_129 (fun q => absurd ((pk_lEQ (b := 0) (show a < 2 ^ 63 by omega) (by omega)).mp q) (by omega)) ?_
              rw [pk_lDiv (by omega) (by omega) (by omega)]
              exact Ex.ret (v := some (.long _)) ⟨rfl, dX10_chance_130⟩ ⟨_, _, by rw [hx0, chZ, if_neg hgd, hcl, if_neg h_114, ← hg], rfl⟩
            · refine x_lload dX10_chance_117 rfl ?_
              refine x_lload dX10_chance_119 rfl ?_
              refine x_ldiv dX10_chance_121 (fun q => absurd ((pk_lEQ (b := 0) (show a < 2 ^ 63 by omega) (by omega)).mp q) (by omega)) ?_
              rw [pk_lDiv (by omega) (by omega) (by omega)]
              refine x_goto 130 dX10_chance_122 ?_
              exact Ex.ret (v := some (.long _)) ⟨rfl, dX10_chance_130⟩ ⟨_, _, by rw [hx0, chZ, if_neg hgd, hcl, if_pos h_114, ← hg], rfl⟩
          | succ d ih =>
            intro a b hb ha hb2 hg
            by_cases eb : b = 0
            · subst eb
              rw [Nat.gcd_zero_right] at hg
              have ha0 : 0 < a := by rw [hg]; exact hGp
              refine x_lload dX10_chance_87 rfl ?_
              refine x_lconst (lN 0) dX10_chance_89 ?_
              refine x_lcmp dX10_chance_90 ?_
              refine x_if_eq 112 dX10_chance_91 (fun _ => ?_) (fun hx => absurd ((lg_cmp_eq _ _).mpr rfl) hx)
              refine x_iload dX10_chance_112 rfl ?_
              refine x_if_ne 125 dX10_chance_114 (fun h_114 => ?_) (fun h_114 => ?_)
              · refine x_iload_n dX10_chance_125 rfl ?_
                refine x_i2l dX10_chance_126 ?_
                rw [nI_l (show n < 2 ^ 31 by omega)]
                refine x_lload dX10_chance_127 rfl ?_
                refine x_ldiv dX10_chance_129 (fun q => absurd ((pk_lEQ (b := 0) (show a < 2 ^ 63 by omega) (by omega)).mp q) (by omega)) ?_
                rw [pk_lDiv (by omega) (by omega) (by omega)]
                exact Ex.ret (v := some (.long _)) ⟨rfl, dX10_chance_130⟩ ⟨_, _, by rw [hx0, chZ, if_neg hgd, hcl, if_neg h_114, ← hg], rfl⟩
              · refine x_lload dX10_chance_117 rfl ?_
                refine x_lload dX10_chance_119 rfl ?_
                refine x_ldiv dX10_chance_121 (fun q => absurd ((pk_lEQ (b := 0) (show a < 2 ^ 63 by omega) (by omega)).mp q) (by omega)) ?_
                rw [pk_lDiv (by omega) (by omega) (by omega)]
                refine x_goto 130 dX10_chance_122 ?_
                exact Ex.ret (v := some (.long _)) ⟨rfl, dX10_chance_130⟩ ⟨_, _, by rw [hx0, chZ, if_neg hgd, hcl, if_pos h_114, ← hg], rfl⟩
            · have hne : ¬ lN b = lN 0 := fun q => eb ((pk_lEQ (by omega) (by omega)).mp q)
              refine x_lload dX10_chance_87 rfl ?_
              refine x_lconst (lN 0) dX10_chance_89 ?_
              refine x_lcmp dX10_chance_90 ?_
              refine x_if_eq 112 dX10_chance_91 (fun hx => absurd hx (fun q => hne ((lg_cmp_eq _ _).mp q))) (fun _ => ?_)
              refine x_lload dX10_chance_94 rfl ?_
              refine x_lload dX10_chance_96 rfl ?_
              refine x_lrem dX10_chance_98 hne ?_
              rw [pk_lRem (by omega) (by omega) (by omega)]
              refine x_lstore dX10_chance_99 (by decide) ?_
              refine x_lload dX10_chance_101 rfl ?_
              refine x_lstore dX10_chance_103 (by decide) ?_
              refine x_lload dX10_chance_105 rfl ?_
              refine x_lstore dX10_chance_107 (by decide) ?_
              refine x_goto 87 dX10_chance_109 ?_
              have hlt := Nat.mod_lt a (show 0 < b by omega)
              refine Ex.forget (L' := [some (.ref 42), some (.int seed), some (.int (nI n)), some (.int kk), some (.int part), some (.long (lN (chM F kk n))), none, some (.long (lN b)), none, some (.long (lN (a % b))), none, none, none]) ⟨rfl, rfl, rfl, rfl, rfl, rfl, rfl, rfl, trivial⟩ ?_
              exact ih b (a % b) (by omega) hb2 (by omega) (by rw [gcd_st]; exact hg)
        · intro Λ ww
          refine x_iload dX10_chance_45 rfl ?_
          refine x_iload_n dX10_chance_47 rfl ?_
          refine x_icmp_ge 79 dX10_chance_48 (fun hx => absurd hx (nI_ge hi (by omega))) (fun _ => ?_)
          refine x_lload dX10_chance_51 rfl ?_
          refine x_aload_n dX10_chance_53 rfl ?_
          refine x_iload_n dX10_chance_54 rfl ?_
          refine x_iload dX10_chance_55 rfl ?_
          refine x_iadd dX10_chance_57 ?_
          refine iv_X10_419 dX10_chance_58 (c_X10_hazyDrawn hX hru hz hz6) mw_o (by decide) (Nat.le_of_ble_eq_true rfl) (fun v_58 w_58 hw_58 => ?_)
          obtain ⟨Λ1, ww1, rfl, rfl⟩ := hw_58
          refine x_iload_n dX10_chance_61 rfl ?_
          refine x_icmp_lt 69 dX10_chance_62 (fun h_62 => ?_) (fun h_62 => ?_)
          · refine x_lconst (lN 0) dX10_chance_69 ?_
            refine x_ladd dX10_chance_70 ?_
            rw [lN_add]
            refine x_lstore dX10_chance_71 (by decide) ?_
            refine x_iincN dX10_chance_73 rfl (by decide) ?_
            refine x_goto 45 dX10_chance_76 ?_
            refine Ex.forget (L' := [some (.ref 42), some (.int seed), some (.int (nI n)), some (.int kk), some (.int part), some (.long (lN (chM F kk (i + 1)))), none, some (.int (nI (i + 1))), none, none, none, none, none]) ⟨rfl, rfl, rfl, rfl, rfl, by rw [chM, if_neg (by rw [hF]; exact Int32.not_le.mpr h_62)] <;> rfl, rfl, trivial⟩ ?_
            exact ih _ _
          · refine x_lconst (lN 1) dX10_chance_65 ?_
            refine x_goto 70 dX10_chance_66 ?_
            refine x_ladd dX10_chance_70 ?_
            rw [lN_add]
            refine x_lstore dX10_chance_71 (by decide) ?_
            refine x_iincN dX10_chance_73 rfl (by decide) ?_
            refine x_goto 45 dX10_chance_76 ?_
            refine Ex.forget (L' := [some (.ref 42), some (.int seed), some (.int (nI n)), some (.int kk), some (.int part), some (.long (lN (chM F kk (i + 1)))), none, some (.int (nI (i + 1))), none, none, none, none, none]) ⟨rfl, rfl, rfl, rfl, rfl, by rw [chM, if_pos (by rw [hF]; exact Int32.not_lt.mp h_62)] <;> rfl, rfl, trivial⟩ ?_
            exact ih _ _
      · refine x_ldc2_w dX10_chance_35 kk_X10_422 ?_
        exact Ex.ret (v := some (.long _)) ⟨rfl, dX10_chance_38⟩ ⟨_, _, by rw [hx0, chZ, if_pos (Or.inr (Or.inr (bi0.mp h_32)))], rfl⟩
