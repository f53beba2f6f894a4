/-- the same, shut: nothing may unfold them by accident -/
def zrA (f : Nat → Int32) : Nat → Int32 := zrow 256 f
theorem z_ex (f : Nat → Int32) : ∃ ZF : Nat → Nat → Int32, ZF 0 = f ∧ (∀ i, ZF (i + 1) = upd (ZF i) i 0) ∧ ZF 256 = zrA f := ⟨fun n => zrow n f, rfl, fun _ => rfl, by unfold zrA; rfl⟩
def stW (d : Nat → Int32) (g : Nat → Int32) : Nat → Nat → Int32
  | 0 => g
  | h + 1 => upd (stW d g h) h (d h)
def stA (d : Nat → Int32) (g : Nat → Int32) : Nat → Int32 := stW d g 8
theorem st_ex (d : Nat → Int32) (g : Nat → Int32) : ∃ SW : Nat → Nat → Int32, SW 0 = g ∧ (∀ h, SW (h + 1) = upd (SW h) h (d h)) ∧ SW 8 = stA d g := ⟨stW d g, rfl, fun _ => rfl, by unfold stA; rfl⟩
def ssA (st : Nat → Int32) (x : Int32) (g : Nat → Int32) : Nat → Int32 := ss1 st x g 8
theorem ss_ex (st : Nat → Int32) (x : Int32) (g : Nat → Int32) : ∃ (G1 : Nat → Nat → Int32) (G2 : Nat → Nat → Nat → Int32), G1 0 = upd g 0 x ∧ (∀ h, G2 h 0 = G1 h) ∧ (∀ h s, G2 h (s + 1) = upd (G2 h s) (2 ^ h + s) (G2 h s s + st h)) ∧ (∀ h, G1 (h + 1) = G2 h (2 ^ h)) ∧ G1 8 = ssA st x g := ⟨ss1 st x g, fun h => ss2 st h (ss1 st x g h), rfl, fun _ => rfl, fun _ _ => rfl, fun _ => rfl, by unfold ssA; rfl⟩
def chA (li : Int32) (me hz : Nat → Int32) : Nat → Int32 := chF li me hz 256
theorem ch_ex (li : Int32) (me hz : Nat → Int32) : ∃ CF : Nat → Nat → Int32, CF 0 = hz ∧ (∀ i, CF (i + 1) = if li ≤ me i then upd (CF i) i (CF i i + 1) else CF i) ∧ CF 256 = chA li me hz := ⟨chF li me hz, rfl, fun _ => rfl, by unfold chA; rfl⟩
theorem w28 {S : CS} {tl : pc_W} {T : OT} {nm sk a b c d d' : Nat → Int32} : (cst (u_tho (u_sk (u_nm (u_rm S (a, b, c, d)) nm) sk) T) ++ tl).set 28 (.inl (0, (8, .inl d'))) = cst (u_tho (u_sk (u_nm (u_rm S (a, b, c, d')) nm) sk) T) ++ tl := by
  simp only [cst, List.cons_append, List.set_cons_succ, List.set_cons_zero]
set_option maxRecDepth 100000 in
set_option maxHeartbeats 4000000 in
theorem c_X9_weighRemedies {X : Nat × (Nat → Int32)} {S : CS} {tl : pc_W} {τ : TV} {r z : Nat} {WC : Nat → Int32} {SF MF HF : Nat → Nat → Int32} (hX : TXr τ S tl r) (hr : o_ru (s_now S) = nI r) (hz : o_sz (s_now S) = nI z) (hz6 : z ≤ 6) (e1 : SF 0 = stA (fun h => coF τ (s_now S) r z h) (s_rm S).2.2.2) (e2 : MF 0 = (s_rm S).2.2.1) (e3 : HF 0 = zrA (s_rm S).2.1) (e4 : ∀ p, SF (p + 1) = stA (fun h => thF τ (uo_me (o_bec (s_tho S) (s_now S)) 255) r p h - thF τ (s_now S) r p h) (SF p)) (e5 : ∀ p, MF (p + 1) = ssA (SF (p + 1)) (moF τ (s_now S) r p) (MF p)) (e6 : ∀ p, HF (p + 1) = chA (o_li (s_now S)) (MF (p + 1)) (HF p)) (e7 : WC = ssA (SF 0) 0 (s_rm S).1): Mt X 5 0 0 yX9_weighRemedies cX9_weighRemedies 3 none [.ref 0] (cst S ++ tl) (fun v w' => v = none ∧ ∃ T nm sk m st, w' = cst (uX S T nm sk (WC, HF z, m, st) (s_du S)) ++ tl) := by
  refine Mt.of (by decide +kernel) (fun _ _ => Nat.le_of_ble_eq_true rfl) ?_
  show Ex X mX9_weighRemedies _ _ _ _ _ _ _ _
  obtain ⟨ZF, z0, z1, z8⟩ := z_ex (s_rm S).2.1
  obtain ⟨SW, s0, s1, s8⟩ := st_ex (fun h => coF τ (s_now S) r z h) (s_rm S).2.2.2
  refine x_aload_n dX9_weighRemedies_0 rfl ?_
  refine gf_X9_43 dX9_weighRemedies_1 rfl rfl ?_
  refine ii_X9_228 dX9_weighRemedies_4 (c_X5_clear z0 z1) rfl (by decide) (Nat.le_of_ble_eq_true rfl) ?_
  rw [show ZF 256 = HF 0 from z8.trans e3.symm]
  refine x_aload_n dX9_weighRemedies_7 rfl ?_
  refine gf_X9_19 dX9_weighRemedies_8 rfl rfl ?_
  refine x_aload_n dX9_weighRemedies_11 rfl ?_
  refine gf_X9_10 dX9_weighRemedies_12 rfl rfl ?_
  refine ii_X9_184 dX9_weighRemedies_15 c_X3_become_tn rfl (by decide) (Nat.le_of_ble_eq_true rfl) ?_
  generalize hT1 : o_bec (s_tho S) (s_now S) = T1 at e4 ⊢
  refine x_aload_n dX9_weighRemedies_18 rfl ?_
  refine gf_X9_19 dX9_weighRemedies_19 rfl rfl ?_
  refine x_sipush 255 dX9_weighRemedies_22 ?_
  refine pf_X9_152 dX9_weighRemedies_25 rfl (Nat.le_of_ble_eq_true rfl) (fun _ _ => ⟨rfl, rfl⟩) ?_
  refine Ex.eqW (w' := (cst (u_tho (u_sk (u_nm (u_rm S ((s_rm S).1, HF 0, (s_rm S).2.2.1, SW 0)) (s_nm S)) (s_sk S)) (uo_me T1 255)) ++ tl)) (by rw [s0]; try rfl) ?_
  have hrM : o_ru (uo_me T1 255) = nI r := (by rw [← hT1]; exact hr)
  generalize uo_me T1 255 = TM at e4 hrM ⊢
  refine x_iconst 0 dX9_weighRemedies_28 ?_
  refine x_istore_n dX9_weighRemedies_29 (by decide) ?_
  refine for_up (P := fun i => ∀ (nm : Nat → Int32) (sk : Nat → Int32), Ex X mX9_weighRemedies 5 (fun v w' => v = none ∧ ∃ T nm sk m st, w' = cst (uX S T nm sk (WC, HF z, m, st) (s_du S)) ++ tl) 0 0 30 [some (.ref 0), some (.int (nI i)), none] [] (cst (u_tho (u_sk (u_nm (u_rm S ((s_rm S).1, HF 0, (s_rm S).2.2.1, SW i)) nm) sk) TM) ++ tl)) 8 ?_ (fun i hii ihi => ?_) 0 (by omega) (s_nm S) (s_sk S)
  · intro nm sk
    refine x_iload_n dX9_weighRemedies_30 rfl ?_
    refine x_bipush 8 dX9_weighRemedies_31 ?_
    refine x_icmp_ge 63 dX9_weighRemedies_33 (fun _ => ?_) (fun hx => absurd (by decide) hx)
    rw [show SW 8 = SF 0 from s8.trans e1.symm]
    obtain ⟨G1, G2, g0, g1, g2, g3, g8⟩ := ss_ex (SF 0) 0 (s_rm S).1
    refine x_aload_n dX9_weighRemedies_63 rfl ?_
    refine gf_X9_43 dX9_weighRemedies_64 rfl rfl ?_
    refine x_iconst 0 dX9_weighRemedies_67 ?_
    refine x_aload_n dX9_weighRemedies_68 rfl ?_
    refine gf_X9_43 dX9_weighRemedies_69 rfl rfl ?_
    refine gf_X9_210 dX9_weighRemedies_72 rfl rfl ?_
    refine ii_X9_234 dX9_weighRemedies_75 (c_X5_sumSteps_c g0 g1 g2 g3) rfl (by decide) (Nat.le_of_ble_eq_true rfl) ?_
    refine Ex.eqW (w' := (cst (u_tho (u_sk (u_nm (u_rm S (G1 8, HF 0, (s_rm S).2.2.1, SF 0)) nm) sk) TM) ++ tl)) (rfl) ?_
    rw [show G1 8 = WC from g8.trans e7.symm]
    refine Ex.eqW (w' := (cst (u_tho (u_sk (u_nm (u_rm S (WC, HF 0, MF 0, SF 0)) nm) sk) TM) ++ tl)) (by rw [e2]) ?_
    refine x_iconst 0 dX9_weighRemedies_78 ?_
    refine x_istore_n dX9_weighRemedies_79 (by decide) ?_
    refine for_up (P := fun p => ∀ (nm : Nat → Int32) (sk : Nat → Int32), Ex X mX9_weighRemedies 5 (fun v w' => v = none ∧ ∃ T nm sk m st, w' = cst (uX S T nm sk (WC, HF z, m, st) (s_du S)) ++ tl) 0 0 80 [some (.ref 0), some (.int (nI p)), none] [] (cst (u_tho (u_sk (u_nm (u_rm S (WC, HF p, MF p, SF p)) nm) sk) TM) ++ tl)) z ?_ (fun p hip ihp => ?_) 0 (Nat.zero_le _) nm sk
    · intro nm sk
      refine x_iload_n dX9_weighRemedies_80 rfl ?_
      refine x_aload_n dX9_weighRemedies_81 rfl ?_
      refine gf_X9_10 dX9_weighRemedies_82 rfl rfl ?_
      refine gf_X9_203 dX9_weighRemedies_85 rfl rfl ?_
      refine x_icmp_ge 187 dX9_weighRemedies_88 (fun _ => ?_) (fun hx => absurd (by rw [show o_sz (s_now S) = nI z from hz]; exact Int32.le_refl _) hx)
      exact Ex.ret (v := none) ⟨rfl, dX9_weighRemedies_187⟩ ⟨rfl, TM, nm, sk, MF z, SF z, rfl⟩
    · intro nm sk
      refine x_iload_n dX9_weighRemedies_80 rfl ?_
      refine x_aload_n dX9_weighRemedies_81 rfl ?_
      refine gf_X9_10 dX9_weighRemedies_82 rfl rfl ?_
      refine gf_X9_203 dX9_weighRemedies_85 rfl rfl ?_
      refine x_icmp_ge 187 dX9_weighRemedies_88 (fun hx => absurd hx (by rw [show o_sz (s_now S) = nI z from hz]; exact nI_ge hip (by omega))) (fun _ => ?_)
      have hp6 : p < 6 := (by omega)
      obtain ⟨SW, t0, t1, t8⟩ := st_ex (fun h => thF τ TM r p h - thF τ (s_now S) r p h) (SF p)
      refine Ex.eqW (w' := (cst (u_tho (u_sk (u_nm (u_rm S (WC, HF p, MF p, SW 0)) nm) sk) TM) ++ tl)) (by rw [t0]) ?_
      refine x_iconst 0 dX9_weighRemedies_91 ?_
      refine x_istore_n dX9_weighRemedies_92 (by decide) ?_
      refine for_up (P := fun i => ∀ (nm : Nat → Int32) (sk : Nat → Int32), Ex X mX9_weighRemedies 5 (fun v w' => v = none ∧ ∃ T nm sk m st, w' = cst (uX S T nm sk (WC, HF z, m, st) (s_du S)) ++ tl) 0 0 93 [some (.ref 0), some (.int (nI p)), some (.int (nI i))] [] (cst (u_tho (u_sk (u_nm (u_rm S (WC, HF p, MF p, SW i)) nm) sk) TM) ++ tl)) 8 ?_ (fun i hii ihi => ?_) 0 (by omega) nm sk
      · intro nm sk
        refine x_iload_n dX9_weighRemedies_93 rfl ?_
        refine x_bipush 8 dX9_weighRemedies_94 ?_
        refine x_icmp_ge 141 dX9_weighRemedies_96 (fun _ => ?_) (fun hx => absurd (by decide) hx)
        rw [show SW 8 = SF (p + 1) from t8.trans (e4 p).symm]
        refine x_aload_n dX9_weighRemedies_141 rfl ?_
        refine gf_X9_43 dX9_weighRemedies_142 rfl rfl ?_
        refine x_aload_n dX9_weighRemedies_145 rfl ?_
        refine gf_X9_36 dX9_weighRemedies_146 rfl rfl ?_
        refine x_aload_n dX9_weighRemedies_149 rfl ?_
        refine gf_X9_10 dX9_weighRemedies_150 rfl rfl ?_
        refine x_iload_n dX9_weighRemedies_153 rfl ?_
        refine iv_X9_120 dX9_weighRemedies_154 (c_X2_memory_n hX hr hp6) rfl (by decide) (Nat.le_of_ble_eq_true rfl) (fun v w5 hw => ?_)
        obtain ⟨nm5, sk5, rfl, rfl⟩ := hw
        refine Ex.eqW (w' := (cst (u_tho (u_sk (u_nm (u_rm S (WC, HF p, MF p, SF (p + 1))) nm5) sk5) TM) ++ tl)) (rfl) ?_
        obtain ⟨G1, G2, g0, g1, g2, g3, g8⟩ := ss_ex (SF (p + 1)) (moF τ (s_now S) r p) (MF p)
        refine x_aload_n dX9_weighRemedies_157 rfl ?_
        refine gf_X9_43 dX9_weighRemedies_158 rfl rfl ?_
        refine gf_X9_238 dX9_weighRemedies_161 rfl rfl ?_
        refine ii_X9_234 dX9_weighRemedies_164 (c_X5_sumSteps_m g0 g1 g2 g3) rfl (by decide) (Nat.le_of_ble_eq_true rfl) ?_
        refine Ex.eqW (w' := (cst (u_tho (u_sk (u_nm (u_rm S (WC, HF p, G1 8, SF (p + 1))) nm5) sk5) TM) ++ tl)) (rfl) ?_
        rw [show G1 8 = MF (p + 1) from g8.trans (e5 p).symm]
        obtain ⟨CF, c0, c1, c8⟩ := ch_ex (o_li (s_now S)) (MF (p + 1)) (HF p)
        refine x_aload_n dX9_weighRemedies_167 rfl ?_
        refine gf_X9_43 dX9_weighRemedies_168 rfl rfl ?_
        refine x_aload_n dX9_weighRemedies_171 rfl ?_
        refine gf_X9_10 dX9_weighRemedies_172 rfl rfl ?_
        refine gf_X9_134 dX9_weighRemedies_175 rfl rfl ?_
        refine ii_X9_241 dX9_weighRemedies_178 (c_X5_countHazy c0 c1) rfl (by decide) (Nat.le_of_ble_eq_true rfl) ?_
        refine Ex.eqW (w' := (cst (u_tho (u_sk (u_nm (u_rm S (WC, CF 256, MF (p + 1), SF (p + 1))) nm5) sk5) TM) ++ tl)) (rfl) ?_
        rw [show CF 256 = HF (p + 1) from c8.trans (e6 p).symm]
        refine x_iincN dX9_weighRemedies_181 rfl (by decide) ?_
        refine x_goto 80 dX9_weighRemedies_184 ?_
        refine Ex.forget (L' := [some (.ref 0), some (.int (nI (p + 1))), none]) ⟨rfl, rfl, trivial⟩ ?_
        exact ihp nm5 sk5
      · intro nm sk
        refine x_iload_n dX9_weighRemedies_93 rfl ?_
        refine x_bipush 8 dX9_weighRemedies_94 ?_
        refine x_icmp_ge 141 dX9_weighRemedies_96 (fun hx => absurd hx (nI_ge hii (by decide))) (fun _ => ?_)
        refine x_aload_n dX9_weighRemedies_99 rfl ?_
        refine gf_X9_43 dX9_weighRemedies_100 rfl rfl ?_
        refine gf_X9_231 dX9_weighRemedies_103 rfl rfl ?_
        refine x_iload_n dX9_weighRemedies_106 rfl ?_
        refine x_aload_n dX9_weighRemedies_107 rfl ?_
        refine gf_X9_36 dX9_weighRemedies_108 rfl rfl ?_
        refine x_aload_n dX9_weighRemedies_111 rfl ?_
        refine gf_X9_19 dX9_weighRemedies_112 rfl rfl ?_
        refine x_iload_n dX9_weighRemedies_115 rfl ?_
        refine x_iload_n dX9_weighRemedies_116 rfl ?_
        refine iv_X9_110 dX9_weighRemedies_117 (c_X2_thinks_t hX hrM hp6 hii) rfl (by decide) (Nat.le_of_ble_eq_true rfl) (fun v w3 hw => ?_)
        obtain ⟨nm3, sk3, rfl, rfl⟩ := hw
        refine Ex.eqW (w' := (cst (u_tho (u_sk (u_nm (u_rm S (WC, HF p, MF p, SW i)) nm3) sk3) TM) ++ tl)) (rfl) ?_
        refine x_aload_n dX9_weighRemedies_120 rfl ?_
        refine gf_X9_36 dX9_weighRemedies_121 rfl rfl ?_
        refine x_aload_n dX9_weighRemedies_124 rfl ?_
        refine gf_X9_10 dX9_weighRemedies_125 rfl rfl ?_
        refine x_iload_n dX9_weighRemedies_128 rfl ?_
        refine x_iload_n dX9_weighRemedies_129 rfl ?_
        refine iv_X9_110 dX9_weighRemedies_130 (c_X2_thinks_n hX hr hp6 hii) rfl (by decide) (Nat.le_of_ble_eq_true rfl) (fun v w4 hw => ?_)
        obtain ⟨nm4, sk4, rfl, rfl⟩ := hw
        refine Ex.eqW (w' := (cst (u_tho (u_sk (u_nm (u_rm S (WC, HF p, MF p, SW i)) nm4) sk4) TM) ++ tl)) (rfl) ?_
        refine x_isub dX9_weighRemedies_133 ?_
        refine x_nm (fun y ey => ?_)
        refine x_iastoreN (f := SW i) dX9_weighRemedies_134 rfl hii (by decide) ?_
        refine Ex.eqW w28 ?_
        rw [show upd (SW i) i y = SW (i + 1) from (by rw [t1, ey])]
        refine x_iincN dX9_weighRemedies_135 rfl (by decide) ?_
        refine x_goto 93 dX9_weighRemedies_138 ?_
        exact ihi nm4 sk4
  · intro nm sk
    refine x_iload_n dX9_weighRemedies_30 rfl ?_
    refine x_bipush 8 dX9_weighRemedies_31 ?_
    refine x_icmp_ge 63 dX9_weighRemedies_33 (fun hx => absurd hx (nI_ge hii (by decide))) (fun _ => ?_)
    refine x_aload_n dX9_weighRemedies_36 rfl ?_
    refine gf_X9_43 dX9_weighRemedies_37 rfl rfl ?_
    refine gf_X9_231 dX9_weighRemedies_40 rfl rfl ?_
    refine x_iload_n dX9_weighRemedies_43 rfl ?_
    refine x_aload_n dX9_weighRemedies_44 rfl ?_
    refine gf_X9_36 dX9_weighRemedies_45 rfl rfl ?_
    refine x_aload_n dX9_weighRemedies_48 rfl ?_
    refine gf_X9_10 dX9_weighRemedies_49 rfl rfl ?_
    refine x_iload_n dX9_weighRemedies_52 rfl ?_
    refine iv_X9_103 dX9_weighRemedies_53 (c_X2_cost_n hX hr hz hz6 hii) rfl (by decide) (Nat.le_of_ble_eq_true rfl) (fun v w3 hw => ?_)
    obtain ⟨nm3, sk3, rfl, rfl⟩ := hw
    refine Ex.eqW (w' := (cst (u_tho (u_sk (u_nm (u_rm S ((s_rm S).1, HF 0, (s_rm S).2.2.1, SW i)) nm3) sk3) TM) ++ tl)) (rfl) ?_
    refine x_nm (fun y ey => ?_)
    refine x_iastoreN (f := SW i) dX9_weighRemedies_56 rfl hii (by decide) ?_
    refine Ex.eqW w28 ?_
    rw [show upd (SW i) i y = SW (i + 1) from (by rw [s1, ey])]
    refine x_iincN dX9_weighRemedies_57 rfl (by decide) ?_
    refine x_goto 30 dX9_weighRemedies_60 ?_
    exact ihi nm3 sk3
