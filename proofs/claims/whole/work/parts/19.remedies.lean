theorem p2_at : ∀ h, h < 8 → (1 : Int32) <<< (nI h &&& 31) = nI (2 ^ h) := by decide +kernel
theorem p2_lt {h : Nat} (hh : h < 8) : 2 ^ h ≤ 128 := by
  have : 2 ^ h ≤ 2 ^ 7 := Nat.pow_le_pow_right (by omega) (by omega)
  omega
/-- what every set adds up to -/
def ss2 (st : Nat → Int32) (h : Nat) (g : Nat → Int32) : Nat → Nat → Int32
  | 0 => g
  | s + 1 => upd (ss2 st h g s) (2 ^ h + s) (ss2 st h g s s + st h)
def ss1 (st : Nat → Int32) (x : Int32) (g : Nat → Int32) : Nat → Nat → Int32
  | 0 => upd g 0 x
  | h + 1 => ss2 st h (ss1 st x g h) (2 ^ h)
def chF (li : Int32) (me : Nat → Int32) (hz : Nat → Int32) : Nat → Nat → Int32
  | 0 => hz
  | s + 1 => if li ≤ me s then upd (chF li me hz s) s (chF li me hz s s + 1) else chF li me hz s
abbrev beC (co hz : Nat → Int32) (s o : Nat) : Prop := hz o < hz s ∨ (hz s = hz o ∧ co s < co o)
def beO (co : Nat → Int32) (s : Nat) : Option Nat → Bool
  | none => true
  | some k => decide (co s < co k)
def cpF (co hz : Nat → Int32) (m me : Int32) : Nat → Option Nat
  | 0 => none
  | s + 1 => if (nI s &&& me) = 0 ∧ m ≤ hz s ∧ beO co s (cpF co hz m me s) = true then some s else cpF co hz m me s
theorem cpF_lt (co hz : Nat → Int32) (m me : Int32) : ∀ n k, cpF co hz m me n = some k → k < n
  | 0, k, h => by simp [cpF] at h
  | n + 1, k, h => by
    rw [cpF] at h
    split at h
    · cases h; omega
    · have := cpF_lt co hz m me n k h; omega
def ov (x : Option Nat) : Int32 := match x with
  | none => -1
  | some k => nI k
theorem ov_n : ov none = -1 := rfl
theorem ov_s (k : Nat) : ov (some k) = nI k := rfl
theorem nI_n1 {k : Nat} (h : k < 256) : ¬ nI k = -1 := by
  intro q
  have h0 : ¬ nI k < nI 0 := nI_nlt (a := k) (b := 0) (Nat.zero_le _) (by omega)
  rw [q] at h0
  exact h0 (by decide)
def mwF (co hz : Nat → Int32) (x me : Int32) : Nat → Nat
  | 0 => 0
  | s + 1 => if (nI (s + 1) &&& me) = 0 ∧ co (s + 1) ≤ x ∧ beC co hz (s + 1) (mwF co hz x me s) then s + 1 else mwF co hz x me s
theorem mwF_le (co hz : Nat → Int32) (x me : Int32) : ∀ n, mwF co hz x me n ≤ n
  | 0 => Nat.le_refl 0
  | n + 1 => by
    rw [mwF]
    by_cases h : (nI (n + 1) &&& me) = 0 ∧ co (n + 1) ≤ x ∧ beC co hz (n + 1) (mwF co hz x me n)
    · rw [if_pos h]; exact Nat.le_refl _
    · rw [if_neg h]; exact Nat.le_succ_of_le (mwF_le co hz x me n)
set_option maxRecDepth 100000 in
set_option maxHeartbeats 4000000 in
theorem c_X5_clear {X : Nat × (Nat → Int32)} {S : CS} {tl : pc_W} {ZF : Nat → (Nat → Int32)} (h0 : ZF 0 = (s_rm S).2.1) (h1 : ∀ i, ZF (i + 1) = upd (ZF i) i 0): Mt X 0 0 0 yX5_clear cX5_clear 2 none [.ref 24] (cst S ++ tl) (RV (cst (u_rm S ((s_rm S).1, ZF 256, (s_rm S).2.2.1, (s_rm S).2.2.2)) ++ tl)) := by
  refine Mt.of (by decide +kernel) (fun _ _ => Nat.le_of_ble_eq_true rfl) ?_
  show Ex X mX5_clear _ _ _ _ _ _ _ _
  refine Ex.eqW (w' := (cst (u_rm S ((s_rm S).1, ZF 0, (s_rm S).2.2.1, (s_rm S).2.2.2)) ++ tl)) (by rw [h0]; try rfl) ?_
  refine x_iconst 0 dX5_clear_0 ?_
  refine x_istore_n dX5_clear_1 (by decide) ?_
  refine for_up (P := fun i => Ex X mX5_clear 0 (RV (cst (u_rm S ((s_rm S).1, ZF 256, (s_rm S).2.2.1, (s_rm S).2.2.2)) ++ tl)) 0 0 2 [some (.ref 24), some (.int (nI i))] [] (cst (u_rm S ((s_rm S).1, ZF i, (s_rm S).2.2.1, (s_rm S).2.2.2)) ++ tl)) 256 ?_ (fun i hii ihi => ?_) 0 (by omega)
  · skip
    refine x_iload_n dX5_clear_2 rfl ?_
    refine x_sipush 256 dX5_clear_3 ?_
    refine x_icmp_ge 22 dX5_clear_6 (fun _ => ?_) (fun hx => absurd (by decide) hx)
    exact Ex.ret (v := none) ⟨rfl, dX5_clear_22⟩ ⟨rfl, rfl⟩
  · skip
    refine x_iload_n dX5_clear_2 rfl ?_
    refine x_sipush 256 dX5_clear_3 ?_
    refine x_icmp_ge 22 dX5_clear_6 (fun hx => absurd hx (nI_ge hii (by decide))) (fun _ => ?_)
    refine x_aload_n dX5_clear_9 rfl ?_
    refine gf_X5_15 dX5_clear_10 rfl rfl ?_
    refine x_iload_n dX5_clear_13 rfl ?_
    refine x_iconst 0 dX5_clear_14 ?_
    refine x_iastoreN (f := ZF i) dX5_clear_15 rfl hii (by decide) ?_
    refine Ex.eqW (w' := cst (u_rm S ((s_rm S).1, upd (ZF i) i 0, (s_rm S).2.2.1, (s_rm S).2.2.2)) ++ tl) rfl ?_
    rw [← h1 i]
    refine x_iincN dX5_clear_16 rfl (by decide) ?_
    refine x_goto 2 dX5_clear_19 ?_
    exact ihi
set_option maxRecDepth 100000 in
set_option maxHeartbeats 4000000 in
theorem c_X5_sumSteps_c {X : Nat × (Nat → Int32)} {S : CS} {tl : pc_W} {x : Int32} {G1 : Nat → (Nat → Int32)} {G2 : Nat → Nat → (Nat → Int32)} (g0 : G1 0 = upd (s_rm S).1 0 x) (g1 : ∀ h, G2 h 0 = G1 h) (g2 : ∀ h s, G2 h (s + 1) = upd (G2 h s) (2 ^ h + s) (G2 h s s + (s_rm S).2.2.2 h)) (g3 : ∀ h, G1 (h + 1) = G2 h (2 ^ h)): Mt X 0 0 0 yX5_sumSteps cX5_sumSteps 6 none [.ref 24, .int x, .ref 25] (cst S ++ tl) (RV (cst (u_rm S (G1 8, (s_rm S).2.1, (s_rm S).2.2.1, (s_rm S).2.2.2)) ++ tl)) := by
  refine Mt.of (by decide +kernel) (fun _ _ => Nat.le_of_ble_eq_true rfl) ?_
  show Ex X mX5_sumSteps _ _ _ _ _ _ _ _
  refine x_aload_n dX5_sumSteps_0 rfl ?_
  refine x_iconst 0 dX5_sumSteps_1 ?_
  refine x_iload_n dX5_sumSteps_2 rfl ?_
  refine x_iastore (f := (s_rm S).1) dX5_sumSteps_3 rfl (by unfold vp_in; decide) ?_
  refine Ex.eqW (w' := (cst (u_rm S (upd (s_rm S).1 0 x, (s_rm S).2.1, (s_rm S).2.2.1, (s_rm S).2.2.2)) ++ tl)) rfl ?_
  rw [← g0]
  refine x_iconst 0 dX5_sumSteps_4 ?_
  refine x_istore_n dX5_sumSteps_5 (by decide) ?_
  refine for_up (P := fun h => Ex X mX5_sumSteps 0 (RV (cst (u_rm S (G1 8, (s_rm S).2.1, (s_rm S).2.2.1, (s_rm S).2.2.2)) ++ tl)) 0 0 6 [some (.ref 24), some (.int x), some (.ref 25), some (.int (nI h)), none, none] [] (cst (u_rm S (G1 h, (s_rm S).2.1, (s_rm S).2.2.1, (s_rm S).2.2.2)) ++ tl)) 8 ?_ (fun h hih ihh => ?_) 0 (by omega)
  · skip
    refine x_iload_n dX5_sumSteps_6 rfl ?_
    refine x_bipush 8 dX5_sumSteps_7 ?_
    refine x_icmp_ge 57 dX5_sumSteps_9 (fun _ => ?_) (fun hx => absurd (by decide) hx)
    exact Ex.ret (v := none) ⟨rfl, dX5_sumSteps_57⟩ ⟨rfl, rfl⟩
  · skip
    refine x_iload_n dX5_sumSteps_6 rfl ?_
    refine x_bipush 8 dX5_sumSteps_7 ?_
    refine x_icmp_ge 57 dX5_sumSteps_9 (fun hx => absurd hx (nI_ge hih (by decide))) (fun _ => ?_)
    refine x_iconst 1 dX5_sumSteps_12 ?_
    refine x_iload_n dX5_sumSteps_13 rfl ?_
    refine x_ishl dX5_sumSteps_14 ?_
    rw [p2_at h hih]
    refine x_istore dX5_sumSteps_15 (by decide) ?_
    refine x_iconst 0 dX5_sumSteps_17 ?_
    refine x_istore dX5_sumSteps_18 (by decide) ?_
    rw [← g1 h]
    refine for_up (P := fun s => Ex X mX5_sumSteps 0 (RV (cst (u_rm S (G1 8, (s_rm S).2.1, (s_rm S).2.2.1, (s_rm S).2.2.2)) ++ tl)) 0 0 20 [some (.ref 24), some (.int x), some (.ref 25), some (.int (nI h)), some (.int (nI (2 ^ h))), some (.int (nI s))] [] (cst (u_rm S (G2 h s, (s_rm S).2.1, (s_rm S).2.2.1, (s_rm S).2.2.2)) ++ tl)) (2 ^ h) ?_ (fun s his ihs => ?_) 0 (Nat.zero_le _)
    · skip
      refine x_iload dX5_sumSteps_20 rfl ?_
      refine x_iload dX5_sumSteps_22 rfl ?_
      refine x_icmp_ge 51 dX5_sumSteps_24 (fun _ => ?_) (fun hx => absurd (Int32.le_refl _) hx)
      rw [← g3 h]
      refine x_iincN dX5_sumSteps_51 rfl (by decide) ?_
      refine x_goto 6 dX5_sumSteps_54 ?_
      refine Ex.forget (L' := [some (.ref 24), some (.int x), some (.ref 25), some (.int (nI (h + 1))), none, none]) ⟨rfl, rfl, rfl, rfl, trivial⟩ ?_
      exact ihh
    · skip
      refine x_iload dX5_sumSteps_20 rfl ?_
      refine x_iload dX5_sumSteps_22 rfl ?_
      refine x_icmp_ge 51 dX5_sumSteps_24 (fun hx => absurd hx (nI_ge his (by have := p2_lt hih; omega))) (fun _ => ?_)
      refine x_aload_n dX5_sumSteps_27 rfl ?_
      refine x_iload dX5_sumSteps_28 rfl ?_
      refine x_iload dX5_sumSteps_30 rfl ?_
      refine x_iadd dX5_sumSteps_32 ?_
      rw [nI_add]
      refine x_aload_n dX5_sumSteps_33 rfl ?_
      refine x_iload dX5_sumSteps_34 rfl ?_
      refine x_ialoadN (f := G2 h s) dX5_sumSteps_36 rfl (by have := p2_lt hih; omega) (by decide) ?_
      refine x_aload_n dX5_sumSteps_37 rfl ?_
      refine gf_X5_21 dX5_sumSteps_38 rfl rfl ?_
      refine x_iload_n dX5_sumSteps_41 rfl ?_
      refine x_ialoadN (f := (s_rm S).2.2.2) dX5_sumSteps_42 rfl hih (by decide) ?_
      refine x_iadd dX5_sumSteps_43 ?_
      refine x_nm (fun y ey => ?_)
      refine x_iastoreN (f := G2 h s) dX5_sumSteps_44 rfl (by have := p2_lt hih; omega) (by decide) ?_
      refine Ex.eqW (w' := (cst (u_rm S (upd (G2 h s) (2 ^ h + s) y, (s_rm S).2.1, (s_rm S).2.2.1, (s_rm S).2.2.2)) ++ tl)) rfl ?_
      rw [show upd (G2 h s) (2 ^ h + s) y = G2 h (s + 1) from (by rw [g2, ey])]
      refine x_iincN dX5_sumSteps_45 rfl (by decide) ?_
      refine x_goto 20 dX5_sumSteps_48 ?_
      exact ihs
set_option maxRecDepth 100000 in
set_option maxHeartbeats 4000000 in
theorem c_X5_sumSteps_m {X : Nat × (Nat → Int32)} {S : CS} {tl : pc_W} {x : Int32} {G1 : Nat → (Nat → Int32)} {G2 : Nat → Nat → (Nat → Int32)} (g0 : G1 0 = upd (s_rm S).2.2.1 0 x) (g1 : ∀ h, G2 h 0 = G1 h) (g2 : ∀ h s, G2 h (s + 1) = upd (G2 h s) (2 ^ h + s) (G2 h s s + (s_rm S).2.2.2 h)) (g3 : ∀ h, G1 (h + 1) = G2 h (2 ^ h)): Mt X 0 0 0 yX5_sumSteps cX5_sumSteps 6 none [.ref 24, .int x, .ref 27] (cst S ++ tl) (RV (cst (u_rm S ((s_rm S).1, (s_rm S).2.1, G1 8, (s_rm S).2.2.2)) ++ tl)) := by
  refine Mt.of (by decide +kernel) (fun _ _ => Nat.le_of_ble_eq_true rfl) ?_
  show Ex X mX5_sumSteps _ _ _ _ _ _ _ _
  refine x_aload_n dX5_sumSteps_0 rfl ?_
  refine x_iconst 0 dX5_sumSteps_1 ?_
  refine x_iload_n dX5_sumSteps_2 rfl ?_
  refine x_iastore (f := (s_rm S).2.2.1) dX5_sumSteps_3 rfl (by unfold vp_in; decide) ?_
  refine Ex.eqW (w' := (cst (u_rm S ((s_rm S).1, (s_rm S).2.1, upd (s_rm S).2.2.1 0 x, (s_rm S).2.2.2)) ++ tl)) rfl ?_
  rw [← g0]
  refine x_iconst 0 dX5_sumSteps_4 ?_
  refine x_istore_n dX5_sumSteps_5 (by decide) ?_
  refine for_up (P := fun h => Ex X mX5_sumSteps 0 (RV (cst (u_rm S ((s_rm S).1, (s_rm S).2.1, G1 8, (s_rm S).2.2.2)) ++ tl)) 0 0 6 [some (.ref 24), some (.int x), some (.ref 27), some (.int (nI h)), none, none] [] (cst (u_rm S ((s_rm S).1, (s_rm S).2.1, G1 h, (s_rm S).2.2.2)) ++ tl)) 8 ?_ (fun h hih ihh => ?_) 0 (by omega)
  · skip
    refine x_iload_n dX5_sumSteps_6 rfl ?_
    refine x_bipush 8 dX5_sumSteps_7 ?_
    refine x_icmp_ge 57 dX5_sumSteps_9 (fun _ => ?_) (fun hx => absurd (by decide) hx)
    exact Ex.ret (v := none) ⟨rfl, dX5_sumSteps_57⟩ ⟨rfl, rfl⟩
  · skip
    refine x_iload_n dX5_sumSteps_6 rfl ?_
    refine x_bipush 8 dX5_sumSteps_7 ?_
    refine x_icmp_ge 57 dX5_sumSteps_9 (fun hx => absurd hx (nI_ge hih (by decide))) (fun _ => ?_)
    refine x_iconst 1 dX5_sumSteps_12 ?_
    refine x_iload_n dX5_sumSteps_13 rfl ?_
    refine x_ishl dX5_sumSteps_14 ?_
    rw [p2_at h hih]
    refine x_istore dX5_sumSteps_15 (by decide) ?_
    refine x_iconst 0 dX5_sumSteps_17 ?_
    refine x_istore dX5_sumSteps_18 (by decide) ?_
    rw [← g1 h]
    refine for_up (P := fun s => Ex X mX5_sumSteps 0 (RV (cst (u_rm S ((s_rm S).1, (s_rm S).2.1, G1 8, (s_rm S).2.2.2)) ++ tl)) 0 0 20 [some (.ref 24), some (.int x), some (.ref 27), some (.int (nI h)), some (.int (nI (2 ^ h))), some (.int (nI s))] [] (cst (u_rm S ((s_rm S).1, (s_rm S).2.1, G2 h s, (s_rm S).2.2.2)) ++ tl)) (2 ^ h) ?_ (fun s his ihs => ?_) 0 (Nat.zero_le _)
    · skip
      refine x_iload dX5_sumSteps_20 rfl ?_
      refine x_iload dX5_sumSteps_22 rfl ?_
      refine x_icmp_ge 51 dX5_sumSteps_24 (fun _ => ?_) (fun hx => absurd (Int32.le_refl _) hx)
      rw [← g3 h]
      refine x_iincN dX5_sumSteps_51 rfl (by decide) ?_
      refine x_goto 6 dX5_sumSteps_54 ?_
      refine Ex.forget (L' := [some (.ref 24), some (.int x), some (.ref 27), some (.int (nI (h + 1))), none, none]) ⟨rfl, rfl, rfl, rfl, trivial⟩ ?_
      exact ihh
    · skip
      refine x_iload dX5_sumSteps_20 rfl ?_
      refine x_iload dX5_sumSteps_22 rfl ?_
      refine x_icmp_ge 51 dX5_sumSteps_24 (fun hx => absurd hx (nI_ge his (by have := p2_lt hih; omega))) (fun _ => ?_)
      refine x_aload_n dX5_sumSteps_27 rfl ?_
      refine x_iload dX5_sumSteps_28 rfl ?_
      refine x_iload dX5_sumSteps_30 rfl ?_
      refine x_iadd dX5_sumSteps_32 ?_
      rw [nI_add]
      refine x_aload_n dX5_sumSteps_33 rfl ?_
      refine x_iload dX5_sumSteps_34 rfl ?_
      refine x_ialoadN (f := G2 h s) dX5_sumSteps_36 rfl (by have := p2_lt hih; omega) (by decide) ?_
      refine x_aload_n dX5_sumSteps_37 rfl ?_
      refine gf_X5_21 dX5_sumSteps_38 rfl rfl ?_
      refine x_iload_n dX5_sumSteps_41 rfl ?_
      refine x_ialoadN (f := (s_rm S).2.2.2) dX5_sumSteps_42 rfl hih (by decide) ?_
      refine x_iadd dX5_sumSteps_43 ?_
      refine x_nm (fun y ey => ?_)
      refine x_iastoreN (f := G2 h s) dX5_sumSteps_44 rfl (by have := p2_lt hih; omega) (by decide) ?_
      refine Ex.eqW (w' := (cst (u_rm S ((s_rm S).1, (s_rm S).2.1, upd (G2 h s) (2 ^ h + s) y, (s_rm S).2.2.2)) ++ tl)) rfl ?_
      rw [show upd (G2 h s) (2 ^ h + s) y = G2 h (s + 1) from (by rw [g2, ey])]
      refine x_iincN dX5_sumSteps_45 rfl (by decide) ?_
      refine x_goto 20 dX5_sumSteps_48 ?_
      exact ihs
set_option maxRecDepth 100000 in
set_option maxHeartbeats 4000000 in
theorem c_X5_countHazy {X : Nat × (Nat → Int32)} {S : CS} {tl : pc_W} {li : Int32} {CF : Nat → (Nat → Int32)} (c0 : CF 0 = (s_rm S).2.1) (c1 : ∀ i, CF (i + 1) = if li ≤ (s_rm S).2.2.1 i then upd (CF i) i (CF i i + 1) else CF i): Mt X 0 0 0 yX5_countHazy cX5_countHazy 3 none [.ref 24, .int li] (cst S ++ tl) (RV (cst (u_rm S ((s_rm S).1, CF 256, (s_rm S).2.2.1, (s_rm S).2.2.2)) ++ tl)) := by
  refine Mt.of (by decide +kernel) (fun _ _ => Nat.le_of_ble_eq_true rfl) ?_
  show Ex X mX5_countHazy _ _ _ _ _ _ _ _
  refine Ex.eqW (w' := (cst (u_rm S ((s_rm S).1, CF 0, (s_rm S).2.2.1, (s_rm S).2.2.2)) ++ tl)) (by rw [c0]; try rfl) ?_
  refine x_iconst 0 dX5_countHazy_0 ?_
  refine x_istore_n dX5_countHazy_1 (by decide) ?_
  refine for_up (P := fun i => Ex X mX5_countHazy 0 (RV (cst (u_rm S ((s_rm S).1, CF 256, (s_rm S).2.2.1, (s_rm S).2.2.2)) ++ tl)) 0 0 2 [some (.ref 24), some (.int li), some (.int (nI i))] [] (cst (u_rm S ((s_rm S).1, CF i, (s_rm S).2.2.1, (s_rm S).2.2.2)) ++ tl)) 256 ?_ (fun i hii ihi => ?_) 0 (by omega)
  · skip
    refine x_iload_n dX5_countHazy_2 rfl ?_
    refine x_sipush 256 dX5_countHazy_3 ?_
    refine x_icmp_ge 35 dX5_countHazy_6 (fun _ => ?_) (fun hx => absurd (by decide) hx)
    exact Ex.ret (v := none) ⟨rfl, dX5_countHazy_35⟩ ⟨rfl, rfl⟩
  · skip
    refine x_iload_n dX5_countHazy_2 rfl ?_
    refine x_sipush 256 dX5_countHazy_3 ?_
    refine x_icmp_ge 35 dX5_countHazy_6 (fun hx => absurd hx (nI_ge hii (by decide))) (fun _ => ?_)
    refine x_aload_n dX5_countHazy_9 rfl ?_
    refine gf_X5_18 dX5_countHazy_10 rfl rfl ?_
    refine x_iload_n dX5_countHazy_13 rfl ?_
    refine x_ialoadN (f := (s_rm S).2.2.1) dX5_countHazy_14 rfl hii (by decide) ?_
    refine x_iload_n dX5_countHazy_15 rfl ?_
    refine x_icmp_lt 29 dX5_countHazy_16 (fun h_16 => ?_) (fun h_16 => ?_)
    · rw [show CF i = CF (i + 1) from (by rw [c1, if_neg (Int32.not_le.mpr h_16)])]
      refine x_iincN dX5_countHazy_29 rfl (by decide) ?_
      refine x_goto 2 dX5_countHazy_32 ?_
      exact ihi
    · refine x_aload_n dX5_countHazy_19 rfl ?_
      refine gf_X5_15 dX5_countHazy_20 rfl rfl ?_
      refine x_iload_n dX5_countHazy_23 rfl ?_
      refine x_dup2 dX5_countHazy_24 ?_
      refine x_ialoadN (f := CF i) dX5_countHazy_25 rfl hii (by decide) ?_
      refine x_iconst 1 dX5_countHazy_26 ?_
      refine x_iadd dX5_countHazy_27 ?_
      refine x_nm (fun y ey => ?_)
      refine x_iastoreN (f := CF i) dX5_countHazy_28 rfl hii (by decide) ?_
      refine Ex.eqW (w' := cst (u_rm S ((s_rm S).1, upd (CF i) i y, (s_rm S).2.2.1, (s_rm S).2.2.2)) ++ tl) rfl ?_
      rw [show upd (CF i) i y = CF (i + 1) from (by rw [c1, if_pos (Int32.not_lt.mp h_16), ey])]
      refine x_iincN dX5_countHazy_29 rfl (by decide) ?_
      refine x_goto 2 dX5_countHazy_32 ?_
      exact ihi
set_option maxRecDepth 100000 in
set_option maxHeartbeats 4000000 in
theorem c_X5_isBetter {X : Nat × (Nat → Int32)} {S : CS} {tl : pc_W} {s o : Nat} (hs : s < 256) (ho : o < 256): Mt X 0 0 0 yX5_isBetter cX5_isBetter 3 (some .boolean) [.ref 24, .int (nI s), .int (nI o)] (cst S ++ tl) (RI (bi (beC (s_rm S).1 (s_rm S).2.1 s o)) (cst S ++ tl)) := by
  refine Mt.of (by decide +kernel) (fun _ _ => Nat.le_of_ble_eq_true rfl) ?_
  show Ex X mX5_isBetter _ _ _ _ _ _ _ _
  refine x_aload_n dX5_isBetter_0 rfl ?_
  refine gf_X5_15 dX5_isBetter_1 rfl rfl ?_
  refine x_iload_n dX5_isBetter_4 rfl ?_
  refine x_ialoadN dX5_isBetter_5 rfl (by first | exact hs | exact ho) (by decide) ?_
  refine x_aload_n dX5_isBetter_6 rfl ?_
  refine gf_X5_15 dX5_isBetter_7 rfl rfl ?_
  refine x_iload_n dX5_isBetter_10 rfl ?_
  refine x_ialoadN dX5_isBetter_11 rfl (by first | exact hs | exact ho) (by decide) ?_
  refine x_icmp_gt 45 dX5_isBetter_12 (fun h_12 => ?_) (fun h_12 => ?_)
  · refine x_iconst 1 dX5_isBetter_45 ?_
    refine x_goto 50 dX5_isBetter_46 ?_
    exact Ex.ret (v := some (.int _)) ⟨dX5_isBetter_50, _, rfl, by decide⟩ ⟨congrArg (fun z => some (Value.int z)) ((bi_t (Or.inl h_12)).symm), rfl⟩
  · refine x_aload_n dX5_isBetter_15 rfl ?_
    refine gf_X5_15 dX5_isBetter_16 rfl rfl ?_
    refine x_iload_n dX5_isBetter_19 rfl ?_
    refine x_ialoadN dX5_isBetter_20 rfl (by first | exact hs | exact ho) (by decide) ?_
    refine x_aload_n dX5_isBetter_21 rfl ?_
    refine gf_X5_15 dX5_isBetter_22 rfl rfl ?_
    refine x_iload_n dX5_isBetter_25 rfl ?_
    refine x_ialoadN dX5_isBetter_26 rfl (by first | exact hs | exact ho) (by decide) ?_
    refine x_icmp_ne 49 dX5_isBetter_27 (fun h_27 => ?_) (fun h_27 => ?_)
    · refine x_iconst 0 dX5_isBetter_49 ?_
      exact Ex.ret (v := some (.int _)) ⟨dX5_isBetter_50, _, rfl, by decide⟩ ⟨congrArg (fun z => some (Value.int z)) ((bi_f (by rintro (q | q); exact h_12 q; exact h_27 q.1)).symm), rfl⟩
    · refine x_aload_n dX5_isBetter_30 rfl ?_
      refine gf_X5_9 dX5_isBetter_31 rfl rfl ?_
      refine x_iload_n dX5_isBetter_34 rfl ?_
      refine x_ialoadN dX5_isBetter_35 rfl (by first | exact hs | exact ho) (by decide) ?_
      refine x_aload_n dX5_isBetter_36 rfl ?_
      refine gf_X5_9 dX5_isBetter_37 rfl rfl ?_
      refine x_iload_n dX5_isBetter_40 rfl ?_
      refine x_ialoadN dX5_isBetter_41 rfl (by first | exact hs | exact ho) (by decide) ?_
      refine x_icmp_ge 49 dX5_isBetter_42 (fun h_42 => ?_) (fun h_42 => ?_)
      · refine x_iconst 0 dX5_isBetter_49 ?_
        exact Ex.ret (v := some (.int _)) ⟨dX5_isBetter_50, _, rfl, by decide⟩ ⟨congrArg (fun z => some (Value.int z)) ((bi_f (by rintro (q | q); exact h_12 q; exact absurd q.2 (Int32.not_lt.mpr h_42))).symm), rfl⟩
      · refine x_iconst 1 dX5_isBetter_45 ?_
        refine x_goto 50 dX5_isBetter_46 ?_
        exact Ex.ret (v := some (.int _)) ⟨dX5_isBetter_50, _, rfl, by decide⟩ ⟨congrArg (fun z => some (Value.int z)) ((bi_t (Or.inr ⟨h_27, Int32.not_le.mp h_42⟩)).symm), rfl⟩
set_option maxRecDepth 100000 in
set_option maxHeartbeats 4000000 in
theorem c_X5_mostWithin {X : Nat × (Nat → Int32)} {S : CS} {tl : pc_W} {x me : Int32} {MF : Nat → Nat} (m0 : MF 0 = 0) (m1 : ∀ s, MF (s + 1) = if (nI (s + 1) &&& me) = 0 ∧ (s_rm S).1 (s + 1) ≤ x ∧ beC (s_rm S).1 (s_rm S).2.1 (s + 1) (MF s) then s + 1 else MF s): Mt X 1 0 0 yX5_mostWithin cX5_mostWithin 5 (some .int) [.ref 24, .int x, .int me] (cst S ++ tl) (RI (nI (MF 255)) (cst S ++ tl)) := by
  refine Mt.of (by decide +kernel) (fun _ _ => Nat.le_of_ble_eq_true rfl) ?_
  show Ex X mX5_mostWithin _ _ _ _ _ _ _ _
  have ml : ∀ n, MF n ≤ n := fun n => (by induction n with | zero => exact Nat.le_of_eq m0 | succ n ih => rw [m1]; split; exact Nat.le_refl _; exact Nat.le_succ_of_le ih)
  refine x_iconst 0 dX5_mostWithin_0 ?_
  refine x_istore_n dX5_mostWithin_1 (by decide) ?_
  refine x_iconst 1 dX5_mostWithin_2 ?_
  refine x_istore dX5_mostWithin_3 (by decide) ?_
  refine Ex.forget (L' := [some (.ref 24), some (.int x), some (.int me), some (.int (nI (MF 0))), some (.int (nI (0 + 1)))]) ⟨rfl, rfl, rfl, by rw [m0] <;> rfl, rfl, trivial⟩ ?_
  refine for_up (P := fun i => Ex X mX5_mostWithin 1 (RI (nI (MF 255)) (cst S ++ tl)) 0 0 5 [some (.ref 24), some (.int x), some (.int me), some (.int (nI (MF i))), some (.int (nI (i + 1)))] [] (cst S ++ tl)) 255 ?_ (fun i hii ihi => ?_) 0 (by omega)
  · skip
    refine x_iload dX5_mostWithin_5 rfl ?_
    refine x_sipush 256 dX5_mostWithin_7 ?_
    refine x_icmp_ge 50 dX5_mostWithin_10 (fun _ => ?_) (fun hx => absurd (by decide) hx)
    refine x_iload_n dX5_mostWithin_50 rfl ?_
    exact Ex.ret (v := some (.int _)) ⟨dX5_mostWithin_51, _, rfl, by first | rfl | decide⟩ ⟨congrArg (fun z => some (Value.int z)) (by rfl), rfl⟩
  · skip
    refine x_iload dX5_mostWithin_5 rfl ?_
    refine x_sipush 256 dX5_mostWithin_7 ?_
    refine x_icmp_ge 50 dX5_mostWithin_10 (fun hx => absurd hx (nI_ge (a := i + 1) (b := 255+1) (by omega) (by decide))) (fun _ => ?_)
    refine x_iload dX5_mostWithin_13 rfl ?_
    refine x_iload_n dX5_mostWithin_15 rfl ?_
    refine x_iand dX5_mostWithin_16 ?_
    refine x_if_ne 44 dX5_mostWithin_17 (fun h_17 => ?_) (fun h_17 => ?_)
    · have hb : (MF (i + 1)) = (MF i) := (by rw [m1, if_neg (fun q => h_17 q.1)])
      refine x_iincN dX5_mostWithin_44 rfl (by decide) ?_
      refine x_goto 5 dX5_mostWithin_47 ?_
      refine Ex.forget (L' := [some (.ref 24), some (.int x), some (.int me), some (.int (nI (MF (i + 1)))), some (.int (nI (i + 1 + 1)))]) ⟨rfl, rfl, rfl, by rw [hb] <;> rfl, rfl, trivial⟩ ?_
      exact ihi
    · refine x_aload_n dX5_mostWithin_20 rfl ?_
      refine gf_X5_9 dX5_mostWithin_21 rfl rfl ?_
      refine x_iload dX5_mostWithin_24 rfl ?_
      refine x_ialoadN dX5_mostWithin_26 rfl (show i + 1 < 256 by omega) (by decide) ?_
      refine x_iload_n dX5_mostWithin_27 rfl ?_
      refine x_icmp_gt 44 dX5_mostWithin_28 (fun h_28 => ?_) (fun h_28 => ?_)
      · have hb : (MF (i + 1)) = (MF i) := (by rw [m1, if_neg (fun q => absurd q.2.1 (Int32.not_le.mpr h_28))])
        refine x_iincN dX5_mostWithin_44 rfl (by decide) ?_
        refine x_goto 5 dX5_mostWithin_47 ?_
        refine Ex.forget (L' := [some (.ref 24), some (.int x), some (.int me), some (.int (nI (MF (i + 1)))), some (.int (nI (i + 1 + 1)))]) ⟨rfl, rfl, rfl, by rw [hb] <;> rfl, rfl, trivial⟩ ?_
        exact ihi
      · refine x_aload_n dX5_mostWithin_31 rfl ?_
        refine x_iload dX5_mostWithin_32 rfl ?_
        refine x_iload_n dX5_mostWithin_34 rfl ?_
        refine ii_X5_24 dX5_mostWithin_35 (c_X5_isBetter (show i + 1 < 256 by omega) (show (MF i) < 256 from Nat.lt_of_le_of_lt (ml i) (by omega))) rfl (by decide) (Nat.le_of_ble_eq_true rfl) ?_
        refine x_if_eq 44 dX5_mostWithin_38 (fun h_38 => ?_) (fun h_38 => ?_)
        · have hb : (MF (i + 1)) = (MF i) := (by rw [m1, if_neg (fun q => bi0.mp h_38 q.2.2)])
          refine x_iincN dX5_mostWithin_44 rfl (by decide) ?_
          refine x_goto 5 dX5_mostWithin_47 ?_
          refine Ex.forget (L' := [some (.ref 24), some (.int x), some (.int me), some (.int (nI (MF (i + 1)))), some (.int (nI (i + 1 + 1)))]) ⟨rfl, rfl, rfl, by rw [hb] <;> rfl, rfl, trivial⟩ ?_
          exact ihi
        · refine x_iload dX5_mostWithin_41 rfl ?_
          refine x_istore_n dX5_mostWithin_43 (by decide) ?_
          have hb : (MF (i + 1)) = i + 1 := (by rw [m1, if_pos ⟨h_17, Int32.not_lt.mp h_28, bi1.mp h_38⟩])
          refine x_iincN dX5_mostWithin_44 rfl (by decide) ?_
          refine x_goto 5 dX5_mostWithin_47 ?_
          refine Ex.forget (L' := [some (.ref 24), some (.int x), some (.int me), some (.int (nI (MF (i + 1)))), some (.int (nI (i + 1 + 1)))]) ⟨rfl, rfl, rfl, by rw [hb] <;> rfl, rfl, trivial⟩ ?_
          exact ihi
set_option maxRecDepth 100000 in
set_option maxHeartbeats 4000000 in
theorem c_X5_cheapestFor {X : Nat × (Nat → Int32)} {S : CS} {tl : pc_W} {m me : Int32} {CP : Nat → Option Nat} (q0 : CP 0 = none) (q1 : ∀ s, CP (s + 1) = if (nI s &&& me) = 0 ∧ m ≤ (s_rm S).2.1 s ∧ beO (s_rm S).1 s (CP s) = true then some s else CP s) (ql : ∀ s k, CP s = some k → k < s): Mt X 0 0 0 yX5_cheapestFor cX5_cheapestFor 5 (some .int) [.ref 24, .int m, .int me] (cst S ++ tl) (RI (ov (CP 256)) (cst S ++ tl)) := by
  refine Mt.of (by decide +kernel) (fun _ _ => Nat.le_of_ble_eq_true rfl) ?_
  show Ex X mX5_cheapestFor _ _ _ _ _ _ _ _
  refine x_iconst (-1) dX5_cheapestFor_0 ?_
  refine x_istore_n dX5_cheapestFor_1 (by decide) ?_
  refine x_iconst 0 dX5_cheapestFor_2 ?_
  refine x_istore dX5_cheapestFor_3 (by decide) ?_
  refine Ex.forget (L' := [some (.ref 24), some (.int m), some (.int me), some (.int (ov (CP 0))), some (.int (nI 0))]) ⟨rfl, rfl, rfl, by rw [q0] <;> rfl, rfl, trivial⟩ ?_
  refine for_up (P := fun i => Ex X mX5_cheapestFor 0 (RI (ov (CP 256)) (cst S ++ tl)) 0 0 5 [some (.ref 24), some (.int m), some (.int me), some (.int (ov (CP i))), some (.int (nI i))] [] (cst S ++ tl)) 256 ?_ (fun i hii ihi => ?_) 0 (by omega)
  · skip
    refine x_iload dX5_cheapestFor_5 rfl ?_
    refine x_sipush 256 dX5_cheapestFor_7 ?_
    refine x_icmp_ge 61 dX5_cheapestFor_10 (fun _ => ?_) (fun hx => absurd (by decide) hx)
    refine x_iload_n dX5_cheapestFor_61 rfl ?_
    exact Ex.ret (v := some (.int _)) ⟨dX5_cheapestFor_62, _, rfl, by first | rfl | decide⟩ ⟨congrArg (fun z => some (Value.int z)) (by rfl), rfl⟩
  · skip
    refine x_iload dX5_cheapestFor_5 rfl ?_
    refine x_sipush 256 dX5_cheapestFor_7 ?_
    refine x_icmp_ge 61 dX5_cheapestFor_10 (fun hx => absurd hx (nI_ge hii (by decide))) (fun _ => ?_)
    refine x_iload dX5_cheapestFor_13 rfl ?_
    refine x_iload_n dX5_cheapestFor_15 rfl ?_
    refine x_iand dX5_cheapestFor_16 ?_
    refine x_if_ne 55 dX5_cheapestFor_17 (fun h_17 => ?_) (fun h_17 => ?_)
    · have hb : CP (i + 1) = CP i := (by rw [q1, if_neg (fun q => h_17 q.1)])
      refine x_iincN dX5_cheapestFor_55 rfl (by decide) ?_
      refine x_goto 5 dX5_cheapestFor_58 ?_
      refine Ex.forget (L' := [some (.ref 24), some (.int m), some (.int me), some (.int (ov (CP (i + 1)))), some (.int (nI (i + 1)))]) ⟨rfl, rfl, rfl, by rw [hb] <;> rfl, rfl, trivial⟩ ?_
      exact ihi
    · refine x_aload_n dX5_cheapestFor_20 rfl ?_
      refine gf_X5_15 dX5_cheapestFor_21 rfl rfl ?_
      refine x_iload dX5_cheapestFor_24 rfl ?_
      refine x_ialoadN (f := (s_rm S).2.1) dX5_cheapestFor_26 rfl hii (by decide) ?_
      refine x_iload_n dX5_cheapestFor_27 rfl ?_
      refine x_icmp_lt 55 dX5_cheapestFor_28 (fun h_28 => ?_) (fun h_28 => ?_)
      · have hb : CP (i + 1) = CP i := (by rw [q1, if_neg (fun q => absurd q.2.1 (Int32.not_le.mpr h_28))])
        refine x_iincN dX5_cheapestFor_55 rfl (by decide) ?_
        refine x_goto 5 dX5_cheapestFor_58 ?_
        refine Ex.forget (L' := [some (.ref 24), some (.int m), some (.int me), some (.int (ov (CP (i + 1)))), some (.int (nI (i + 1)))]) ⟨rfl, rfl, rfl, by rw [hb] <;> rfl, rfl, trivial⟩ ?_
        exact ihi
      · refine x_iload_n dX5_cheapestFor_31 rfl ?_
        refine x_iconst (-1) dX5_cheapestFor_32 ?_
        rcases hcp : CP i with _ | k
        · rw [ov_n]
          refine x_icmp_eq 52 dX5_cheapestFor_33 (fun _ => ?_) (fun hx => absurd rfl hx)
          refine x_iload dX5_cheapestFor_52 rfl ?_
          refine x_istore_n dX5_cheapestFor_54 (by decide) ?_
          have hb : CP (i + 1) = some i := (by rw [q1, if_pos ⟨h_17, Int32.not_lt.mp h_28, by rw [hcp]; rfl⟩])
          refine x_iincN dX5_cheapestFor_55 rfl (by decide) ?_
          refine x_goto 5 dX5_cheapestFor_58 ?_
          refine Ex.forget (L' := [some (.ref 24), some (.int m), some (.int me), some (.int (ov (CP (i + 1)))), some (.int (nI (i + 1)))]) ⟨rfl, rfl, rfl, by rw [hb] <;> rfl, rfl, trivial⟩ ?_
          exact ihi
        · have hk := ql i k hcp
          rw [ov_s]
          refine x_icmp_eq 52 dX5_cheapestFor_33 (fun hx => absurd hx (nI_n1 (by omega))) (fun _ => ?_)
          refine x_aload_n dX5_cheapestFor_36 rfl ?_
          refine gf_X5_9 dX5_cheapestFor_37 rfl rfl ?_
          refine x_iload dX5_cheapestFor_40 rfl ?_
          refine x_ialoadN (f := (s_rm S).1) dX5_cheapestFor_42 rfl hii (by decide) ?_
          refine x_aload_n dX5_cheapestFor_43 rfl ?_
          refine gf_X5_9 dX5_cheapestFor_44 rfl rfl ?_
          refine x_iload_n dX5_cheapestFor_47 rfl ?_
          refine x_ialoadN (f := (s_rm S).1) (i := k) dX5_cheapestFor_48 rfl (by omega) (by decide) ?_
          refine x_icmp_ge 55 dX5_cheapestFor_49 (fun h_49 => ?_) (fun h_49 => ?_)
          · have hb : CP (i + 1) = some k := (by rw [q1, if_neg (fun q => absurd (of_decide_eq_true (show decide ((s_rm S).1 i < (s_rm S).1 k) = true from (by have := q.2.2; rw [hcp] at this; exact this))) (Int32.not_lt.mpr h_49)), hcp])
            refine x_iincN dX5_cheapestFor_55 rfl (by decide) ?_
            refine x_goto 5 dX5_cheapestFor_58 ?_
            refine Ex.forget (L' := [some (.ref 24), some (.int m), some (.int me), some (.int (ov (CP (i + 1)))), some (.int (nI (i + 1)))]) ⟨rfl, rfl, rfl, by rw [hb] <;> rfl, rfl, trivial⟩ ?_
            exact ihi
          · refine x_iload dX5_cheapestFor_52 rfl ?_
            refine x_istore_n dX5_cheapestFor_54 (by decide) ?_
            have hb : CP (i + 1) = some i := (by rw [q1, if_pos ⟨h_17, Int32.not_lt.mp h_28, by rw [hcp]; exact decide_eq_true (Int32.not_le.mp h_49)⟩])
            refine x_iincN dX5_cheapestFor_55 rfl (by decide) ?_
            refine x_goto 5 dX5_cheapestFor_58 ?_
            refine Ex.forget (L' := [some (.ref 24), some (.int m), some (.int me), some (.int (ov (CP (i + 1)))), some (.int (nI (i + 1)))]) ⟨rfl, rfl, rfl, by rw [hb] <;> rfl, rfl, trivial⟩ ?_
            exact ihi
