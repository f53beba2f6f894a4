/-! what people think: pure words -/
abbrev TV : Type := Nat → Nat → (Nat → Int32) → Int32
def nmH (O : OT) (p h : Nat) : Nat → Int32 := kn2 (kn1 (fun _ => 0) O p) O h
def nmC (O : OT) (p : Nat) : Nat → Int32 := kn1 (fun _ => 0) O p
theorem nmH_eq {O : OT} {p h : Nat} (nm : Nat → Int32) : ∀ j, j < 6 → kn2 (kn1 nm O p) O h j = nmH O p h j := by
  intro j hj
  match j, hj with
  | 0, _ => rfl
  | 1, _ => rfl
  | 2, _ => rfl
  | 3, _ => rfl
  | 4, _ => rfl
  | 5, _ => rfl
theorem nmC_eq {O : OT} {p : Nat} (nm : Nat → Int32) : ∀ j, j < 6 → kn1 nm O p j = nmC O p j := by
  intro j hj
  match j, hj with
  | 0, _ => rfl
  | 1, _ => rfl
  | 2, _ => rfl
  | 3, _ => rfl
  | 4, _ => rfl
  | 5, _ => rfl
theorem nm_ix {t : Int32} (h : 200 ≤ t ∧ t ≤ 205) : (t - 200).toNatClampNeg < 6 := Nat.not_le.mp fun q => nm_in h (Or.inr q)
theorem mstep_cong {nm nm' : Nat → Int32} (h : ∀ j, j < 6 → nm j = nm' j) (c : Int32) (top : Nat) (sk : Nat → Int32) : mstep nm c top sk = mstep nm' c top sk := by
  unfold mstep
  by_cases h1 : -c ≤ 0 ∨ (200 ≤ -c ∧ -c ≤ 205)
  · rw [if_pos h1, if_pos h1]
    by_cases h2 : -c ≤ 0
    · rw [if_pos h2, if_pos h2]
    · rw [if_neg h2, if_neg h2, h _ (nm_ix (h1.resolve_left h2))]
  · rw [if_neg h1, if_neg h1]
theorem mrun_cong {nm nm' code : Nat → Int32} (h : ∀ j, j < 6 → nm j = nm' j) : ∀ (n i top : Nat) (sk : Nat → Int32), mrun nm code n i top sk = mrun nm' code n i top sk
  | 0, _, _, _ => rfl
  | n + 1, i, top, sk => by
    rw [mrun, mrun, mstep_cong h]
    cases mstep nm' (code i) top sk with
    | none => rfl
    | some q => exact mrun_cong h n (i + 1) q.1 q.2
def thF (τ : TV) (O : OT) (r p h : Nat) : Int32 := clp (-99) (kTh (o_ki O p) (clp (-99) (τ r 0 (nmH O p h)) 99) (nI h) (o_ye O) (o_nu O p)) 99
def meF (τ : TV) (O : OT) (r p h : Nat) : Int32 := clp 0 (kMe (o_ki O p) (clp 0 (τ r 1 (nmH O p h)) 99) (o_nu O p)) 99
def moF (τ : TV) (O : OT) (r p : Nat) : Int32 := sumI (thF τ O r p) 8
def clF (τ : TV) (O : OT) (r p : Nat) : Int32 := if o_li O ≤ moF τ O r p then 0 else clp (-99) (kCl (o_ki O p) (clp 0 (τ r 2 (nmC O p)) 99) (o_nu O p)) 999
def hzF (τ : TV) (O : OT) (r p : Nat) : Int32 := bi (o_li O ≤ moF τ O r p)
def hpF (τ : TV) (O : OT) (r z : Nat) : Int32 := sumI (hzF τ O r) z
def duF (τ : TV) (O : OT) (r z : Nat) : Int32 := sumI (clF τ O r) z
def coF (τ : TV) (O : OT) (r z h : Nat) : Int32 := sumI (fun p => meF τ O r p h) z
def lkF (τ : TV) (O : OT) (r p : Nat) : Nat → Int32
  | 0 => 0
  | n + 1 => if 0 < thF τ O r p n then lkF τ O r p n ||| (1 <<< (nI n &&& 31)) else lkF τ O r p n
/-- a year passes -/
def yr1 (O : OT) : OT := uo_ye O (o_ye O + 1)
def yrF (τ : TV) (O : OT) (r z : Nat) : OT := yr1 (o_ear (o_ear O (sumI (o_pr O) z)) (-(duF τ O r z)))
/-- text r is there, and is worth what τ says -/
def TXr (τ : TV) (S : CS) (tl : pc_W) (r : Nat) : Prop := r < 6 ∧ ∃ (t cr er n : Nat) (code ends : Nat → Int32) (e0 e1 e2 e3 : Nat), s_mt S r = some t ∧ TCell S tl t cr er n code ends ∧ n ≤ 160 ∧ ends 0 = nI e0 ∧ ends 1 = nI e1 ∧ ends 2 = nI e2 ∧ ends 3 = nI e3 ∧ e0 ≤ e1 ∧ e1 ≤ e2 ∧ e2 ≤ e3 ∧ e3 ≤ n ∧ ∀ nm sk, (mrun nm code (e1 - e0) e0 0 sk).1 = τ r 0 nm ∧ (mrun nm code (e2 - e1) e1 0 sk).1 = τ r 1 nm ∧ (mrun nm code (e3 - e2) e2 0 sk).1 = τ r 2 nm
abbrev RS (x : Int32) (S : CS) (tl : pc_W) : Option Value → pc_W → Prop := fun v w' => ∃ nm sk, v = some (.int x) ∧ w' = cst (u_sk (u_nm S nm) sk) ++ tl
abbrev RSV (S : CS) (tl : pc_W) : Option Value → pc_W → Prop := fun v w' => ∃ nm sk, v = none ∧ w' = cst (u_sk (u_nm S nm) sk) ++ tl
theorem nI_at {i n : Nat} {x : Int32} (h : x = nI i) (hi : i < n) (hn : n < 2 ^ 31) : vp_in x n := by rw [h]; exact vin hi hn
theorem fun_at {α : Type} {f : Nat → α} {i : Nat} {x : Int32} {y : α} (h : x = nI i) (hi : i < 2 ^ 31) (hf : f i = y) : f x.toNatClampNeg = y := by rw [h, nI_clamp hi]; exact hf
set_option maxRecDepth 100000 in
set_option maxHeartbeats 4000000 in
theorem c_X2_thinks_n {X : Nat × (Nat → Int32)} {S : CS} {tl : pc_W} {τ : TV} {r p h : Nat} (hX : TXr τ S tl r) (hr : o_ru (s_now S) = nI r) (hp : p < 6) (hh : h < 8): Mt X 3 0 0 yX2_thinks cX2_thinks 5 (some .int) [.ref 19, .ref 1, .int (nI p), .int (nI h)] (cst S ++ tl) (RS (thF τ (s_now S) r p h) S tl) := by
  refine Mt.of (by decide +kernel) (fun _ _ => Nat.le_of_ble_eq_true rfl) ?_
  show Ex X mX2_thinks _ _ _ _ _ _ _ _
  obtain ⟨hr6, t, cr, er, n, code, ends, e0, e1, e2, e3, hmt, hT, hn, h0, h1, h2, h3, q1, q2, q3, q4, hτ⟩ := id hX
  have hv : ∀ nm sk, (mrun (kn2 (kn1 nm (s_now S) p) (s_now S) h) code (e1 - e0) e0 0 sk).1 = τ r 0 (nmH (s_now S) p h) := fun nm sk => by rw [mrun_cong (nmH_eq nm)]; exact (hτ _ _).1
  refine x_aload_n dX2_thinks_0 rfl ?_
  refine gf_X2_24 dX2_thinks_1 rfl rfl ?_
  refine x_aload_n dX2_thinks_4 rfl ?_
  refine x_iload_n dX2_thinks_5 rfl ?_
  refine ii_X2_28 dX2_thinks_6 (c_X1_know_n hp) rfl (by decide) (Nat.le_of_ble_eq_true rfl) ?_
  refine x_aload_n dX2_thinks_9 rfl ?_
  refine gf_X2_24 dX2_thinks_10 rfl rfl ?_
  refine x_aload_n dX2_thinks_13 rfl ?_
  refine x_iload_n dX2_thinks_14 rfl ?_
  refine ii_X2_32 dX2_thinks_15 (c_X1_knowHour_n hh) rfl (by decide) (Nat.le_of_ble_eq_true rfl) ?_
  refine x_bipush (-99) dX2_thinks_18 ?_
  refine x_aload_n dX2_thinks_20 rfl ?_
  refine gf_X2_24 dX2_thinks_21 rfl rfl ?_
  refine x_aload_n dX2_thinks_24 rfl ?_
  refine gf_X2_11 dX2_thinks_25 rfl rfl ?_
  refine x_aload_n dX2_thinks_28 rfl ?_
  refine gf_X2_35 dX2_thinks_29 rfl rfl ?_
  refine x_aaload dX2_thinks_32 (fun _ => rfl) rfl (nI_at hr hr6 (by decide)) (fun_at (f := s_mt S) hr (by omega) hmt) ?_
  refine x_iconst 0 dX2_thinks_33 ?_
  refine ii_X2_40 dX2_thinks_34 (c_X1_valueOf (pt := 0) hT hn (by decide) h0 h1 (by omega) (by omega)) rfl (by decide) (Nat.le_of_ble_eq_true rfl) ?_
  refine x_bipush 99 dX2_thinks_37 ?_
  refine ii_X2_44 dX2_thinks_39 c_X9_within (by decide) (Nat.le_of_ble_eq_true rfl) ?_
  refine x_istore dX2_thinks_42 (by decide) ?_
  refine x_bipush (-99) dX2_thinks_44 ?_
  refine x_aload_n dX2_thinks_46 rfl ?_
  refine gf_X2_48 dX2_thinks_47 rfl rfl ?_
  refine x_iload_n dX2_thinks_50 rfl ?_
  refine x_ialoadN dX2_thinks_51 rfl hp (by decide) ?_
  refine x_iload dX2_thinks_52 rfl ?_
  refine x_iload_n dX2_thinks_54 rfl ?_
  refine x_aload_n dX2_thinks_55 rfl ?_
  refine gf_X2_52 dX2_thinks_56 rfl rfl ?_
  refine x_aload_n dX2_thinks_59 rfl ?_
  refine gf_X2_55 dX2_thinks_60 rfl rfl ?_
  refine x_iload_n dX2_thinks_63 rfl ?_
  refine x_ialoadN dX2_thinks_64 rfl hp (by decide) ?_
  refine ii_X2_58 dX2_thinks_65 c_X0_thinks (by decide) (Nat.le_of_ble_eq_true rfl) ?_
  refine x_bipush 99 dX2_thinks_68 ?_
  refine ii_X2_44 dX2_thinks_70 c_X9_within (by decide) (Nat.le_of_ble_eq_true rfl) ?_
  exact Ex.ret (v := some (.int _)) ⟨dX2_thinks_73, _, rfl, rfl⟩ ⟨_, _, congrArg (fun z => some (Value.int z)) (congrArg (fun z => clp (-99) (kTh (o_ki (s_now S) p) (clp (-99) z 99) (nI h) (o_ye (s_now S)) (o_nu (s_now S) p)) 99) (hv _ _)), rfl⟩
set_option maxRecDepth 100000 in
set_option maxHeartbeats 4000000 in
theorem c_X2_mending_n {X : Nat × (Nat → Int32)} {S : CS} {tl : pc_W} {τ : TV} {r p h : Nat} (hX : TXr τ S tl r) (hr : o_ru (s_now S) = nI r) (hp : p < 6) (hh : h < 8): Mt X 3 0 0 yX2_mending cX2_mending 5 (some .int) [.ref 19, .ref 1, .int (nI p), .int (nI h)] (cst S ++ tl) (RS (meF τ (s_now S) r p h) S tl) := by
  refine Mt.of (by decide +kernel) (fun _ _ => Nat.le_of_ble_eq_true rfl) ?_
  show Ex X mX2_mending _ _ _ _ _ _ _ _
  obtain ⟨hr6, t, cr, er, n, code, ends, e0, e1, e2, e3, hmt, hT, hn, h0, h1, h2, h3, q1, q2, q3, q4, hτ⟩ := id hX
  have hv : ∀ nm sk, (mrun (kn2 (kn1 nm (s_now S) p) (s_now S) h) code (e2 - e1) e1 0 sk).1 = τ r 1 (nmH (s_now S) p h) := fun nm sk => by rw [mrun_cong (nmH_eq nm)]; exact (hτ _ _).2.1
  refine x_aload_n dX2_mending_0 rfl ?_
  refine gf_X2_24 dX2_mending_1 rfl rfl ?_
  refine x_aload_n dX2_mending_4 rfl ?_
  refine x_iload_n dX2_mending_5 rfl ?_
  refine ii_X2_28 dX2_mending_6 (c_X1_know_n hp) rfl (by decide) (Nat.le_of_ble_eq_true rfl) ?_
  refine x_aload_n dX2_mending_9 rfl ?_
  refine gf_X2_24 dX2_mending_10 rfl rfl ?_
  refine x_aload_n dX2_mending_13 rfl ?_
  refine x_iload_n dX2_mending_14 rfl ?_
  refine ii_X2_32 dX2_mending_15 (c_X1_knowHour_n hh) rfl (by decide) (Nat.le_of_ble_eq_true rfl) ?_
  refine x_iconst 0 dX2_mending_18 ?_
  refine x_aload_n dX2_mending_19 rfl ?_
  refine gf_X2_24 dX2_mending_20 rfl rfl ?_
  refine x_aload_n dX2_mending_23 rfl ?_
  refine gf_X2_11 dX2_mending_24 rfl rfl ?_
  refine x_aload_n dX2_mending_27 rfl ?_
  refine gf_X2_35 dX2_mending_28 rfl rfl ?_
  refine x_aaload dX2_mending_31 (fun _ => rfl) rfl (nI_at hr hr6 (by decide)) (fun_at (f := s_mt S) hr (by omega) hmt) ?_
  refine x_iconst 1 dX2_mending_32 ?_
  refine ii_X2_40 dX2_mending_33 (c_X1_valueOf (pt := 1) hT hn (by decide) h1 h2 (by omega) (by omega)) rfl (by decide) (Nat.le_of_ble_eq_true rfl) ?_
  refine x_bipush 99 dX2_mending_36 ?_
  refine ii_X2_44 dX2_mending_38 c_X9_within (by decide) (Nat.le_of_ble_eq_true rfl) ?_
  refine x_istore dX2_mending_41 (by decide) ?_
  refine x_iconst 0 dX2_mending_43 ?_
  refine x_aload_n dX2_mending_44 rfl ?_
  refine gf_X2_48 dX2_mending_45 rfl rfl ?_
  refine x_iload_n dX2_mending_48 rfl ?_
  refine x_ialoadN dX2_mending_49 rfl hp (by decide) ?_
  refine x_iload dX2_mending_50 rfl ?_
  refine x_aload_n dX2_mending_52 rfl ?_
  refine gf_X2_55 dX2_mending_53 rfl rfl ?_
  refine x_iload_n dX2_mending_56 rfl ?_
  refine x_ialoadN dX2_mending_57 rfl hp (by decide) ?_
  refine ii_X2_64 dX2_mending_58 c_X0_mending (by decide) (Nat.le_of_ble_eq_true rfl) ?_
  refine x_bipush 99 dX2_mending_61 ?_
  refine ii_X2_44 dX2_mending_63 c_X9_within (by decide) (Nat.le_of_ble_eq_true rfl) ?_
  exact Ex.ret (v := some (.int _)) ⟨dX2_mending_66, _, rfl, rfl⟩ ⟨_, _, congrArg (fun z => some (Value.int z)) (congrArg (fun z => clp 0 (kMe (o_ki (s_now S) p) (clp 0 z 99) (o_nu (s_now S) p)) 99) (hv _ _)), rfl⟩
set_option maxRecDepth 100000 in
set_option maxHeartbeats 4000000 in
theorem c_X2_memory_n {X : Nat × (Nat → Int32)} {S : CS} {tl : pc_W} {τ : TV} {r p : Nat} (hX : TXr τ S tl r) (hr : o_ru (s_now S) = nI r) (hp : p < 6): Mt X 4 0 0 yX2_memory cX2_memory 5 (some .int) [.ref 19, .ref 1, .int (nI p)] (cst S ++ tl) (RS (moF τ (s_now S) r p) S tl) := by
  refine Mt.of (by decide +kernel) (fun _ _ => Nat.le_of_ble_eq_true rfl) ?_
  show Ex X mX2_memory _ _ _ _ _ _ _ _
  refine x_iconst 0 dX2_memory_0 ?_
  refine x_istore_n dX2_memory_1 (by decide) ?_
  refine x_iconst 0 dX2_memory_2 ?_
  refine x_istore dX2_memory_3 (by decide) ?_
  refine for_up (P := fun i => ∀ (nm : Nat → Int32) (sk : Nat → Int32), Ex X mX2_memory 4 (RS (moF τ (s_now S) r p) S tl) 0 0 5 [some (.ref 19), some (.ref 1), some (.int (nI p)), some (.int (sumI (thF τ (s_now S) r p) i)), some (.int (nI i))] [] (cst (u_sk (u_nm S nm) sk) ++ tl)) 8 ?_ (fun i hii ihi => ?_) 0 (by omega) _ _
  · intro nm sk
    refine x_iload dX2_memory_5 rfl ?_
    refine x_bipush 8 dX2_memory_7 ?_
    refine x_icmp_ge 29 dX2_memory_9 (fun _ => ?_) (fun hx => absurd (by decide) hx)
    refine x_iload_n dX2_memory_29 rfl ?_
    exact Ex.ret (v := some (.int _)) ⟨dX2_memory_30, _, rfl, rfl⟩ ⟨_, _, rfl, rfl⟩
  · intro nm sk
    refine x_iload dX2_memory_5 rfl ?_
    refine x_bipush 8 dX2_memory_7 ?_
    refine x_icmp_ge 29 dX2_memory_9 (fun hx => absurd hx (nI_ge hii (by decide))) (fun _ => ?_)
    refine x_iload_n dX2_memory_12 rfl ?_
    refine x_aload_n dX2_memory_13 rfl ?_
    refine x_aload_n dX2_memory_14 rfl ?_
    refine x_iload_n dX2_memory_15 rfl ?_
    refine x_iload dX2_memory_16 rfl ?_
    refine iv_X2_67 dX2_memory_18 (c_X2_thinks_n hX hr hp hii) rfl (by decide) (Nat.le_of_ble_eq_true rfl) (fun v w3 hw => ?_)
    obtain ⟨nm3, sk3, rfl, rfl⟩ := hw
    refine x_iadd dX2_memory_21 ?_
    refine x_istore_n dX2_memory_22 (by decide) ?_
    refine x_iincN dX2_memory_23 rfl (by decide) ?_
    refine x_goto 5 dX2_memory_26 ?_
    exact ihi _ _
set_option maxRecDepth 100000 in
set_option maxHeartbeats 4000000 in
theorem c_X2_isHazy_n {X : Nat × (Nat → Int32)} {S : CS} {tl : pc_W} {τ : TV} {r p : Nat} (hX : TXr τ S tl r) (hr : o_ru (s_now S) = nI r) (hp : p < 6): Mt X 5 0 0 yX2_isHazy cX2_isHazy 3 (some .boolean) [.ref 19, .ref 1, .int (nI p)] (cst S ++ tl) (RS (hzF τ (s_now S) r p) S tl) := by
  refine Mt.of (by decide +kernel) (fun _ _ => Nat.le_of_ble_eq_true rfl) ?_
  show Ex X mX2_isHazy _ _ _ _ _ _ _ _
  refine x_aload_n dX2_isHazy_0 rfl ?_
  refine x_aload_n dX2_isHazy_1 rfl ?_
  refine x_iload_n dX2_isHazy_2 rfl ?_
  refine iv_X2_70 dX2_isHazy_3 (c_X2_memory_n hX hr hp) rfl (by decide) (Nat.le_of_ble_eq_true rfl) (fun v w3 hw => ?_)
  obtain ⟨nm3, sk3, rfl, rfl⟩ := hw
  refine x_aload_n dX2_isHazy_6 rfl ?_
  refine gf_X2_74 dX2_isHazy_7 rfl rfl ?_
  refine x_icmp_lt 17 dX2_isHazy_10 (fun h_10 => ?_) (fun h_10 => ?_)
  · refine x_iconst 0 dX2_isHazy_17 ?_
    exact Ex.ret (v := some (.int _)) ⟨dX2_isHazy_18, _, rfl, rfl⟩ ⟨_, _, congrArg (fun z => some (Value.int z)) (by first | exact (bi_t (Int32.not_lt.mp h_10)).symm | exact (bi_f (Int32.not_le.mpr h_10)).symm), rfl⟩
  · refine x_iconst 1 dX2_isHazy_13 ?_
    refine x_goto 18 dX2_isHazy_14 ?_
    exact Ex.ret (v := some (.int _)) ⟨dX2_isHazy_18, _, rfl, rfl⟩ ⟨_, _, congrArg (fun z => some (Value.int z)) (by first | exact (bi_t (Int32.not_lt.mp h_10)).symm | exact (bi_f (Int32.not_le.mpr h_10)).symm), rfl⟩
set_option maxRecDepth 100000 in
set_option maxHeartbeats 4000000 in
theorem c_X2_claimed_n {X : Nat × (Nat → Int32)} {S : CS} {tl : pc_W} {τ : TV} {r p : Nat} (hX : TXr τ S tl r) (hr : o_ru (s_now S) = nI r) (hp : p < 6): Mt X 5 0 0 yX2_claimed cX2_claimed 4 (some .int) [.ref 19, .ref 1, .int (nI p)] (cst S ++ tl) (RS (clF τ (s_now S) r p) S tl) := by
  refine Mt.of (by decide +kernel) (fun _ _ => Nat.le_of_ble_eq_true rfl) ?_
  show Ex X mX2_claimed _ _ _ _ _ _ _ _
  obtain ⟨hr6, t, cr, er, n, code, ends, e0, e1, e2, e3, hmt, hT, hn, h0, h1, h2, h3, q1, q2, q3, q4, hτ⟩ := id hX
  have hv : ∀ nm sk, (mrun (kn1 nm (s_now S) p) code (e3 - e2) e2 0 sk).1 = τ r 2 (nmC (s_now S) p) := fun nm sk => by rw [mrun_cong (nmC_eq nm)]; exact (hτ _ _).2.2
  refine x_aload_n dX2_claimed_0 rfl ?_
  refine x_aload_n dX2_claimed_1 rfl ?_
  refine x_iload_n dX2_claimed_2 rfl ?_
  refine iv_X2_70 dX2_claimed_3 (c_X2_memory_n hX hr hp) rfl (by decide) (Nat.le_of_ble_eq_true rfl) (fun v w3 hw => ?_)
  obtain ⟨nm3, sk3, rfl, rfl⟩ := hw
  refine x_aload_n dX2_claimed_6 rfl ?_
  refine gf_X2_74 dX2_claimed_7 rfl rfl ?_
  refine x_icmp_lt 15 dX2_claimed_10 (fun h_10 => ?_) (fun h_10 => ?_)
  · refine x_aload_n dX2_claimed_15 rfl ?_
    refine gf_X2_24 dX2_claimed_16 rfl rfl ?_
    refine x_aload_n dX2_claimed_19 rfl ?_
    refine x_iload_n dX2_claimed_20 rfl ?_
    refine ii_X2_28 dX2_claimed_21 (c_X1_know_n hp) rfl (by decide) (Nat.le_of_ble_eq_true rfl) ?_
    refine x_iconst 0 dX2_claimed_24 ?_
    refine x_aload_n dX2_claimed_25 rfl ?_
    refine gf_X2_24 dX2_claimed_26 rfl rfl ?_
    refine x_aload_n dX2_claimed_29 rfl ?_
    refine gf_X2_11 dX2_claimed_30 rfl rfl ?_
    refine x_aload_n dX2_claimed_33 rfl ?_
    refine gf_X2_35 dX2_claimed_34 rfl rfl ?_
    refine x_aaload dX2_claimed_37 (fun _ => rfl) rfl (nI_at hr hr6 (by decide)) (fun_at (f := s_mt S) hr (by omega) hmt) ?_
    refine x_iconst 2 dX2_claimed_38 ?_
    refine ii_X2_40 dX2_claimed_39 (c_X1_valueOf (pt := 2) hT hn (by decide) h2 h3 (by omega) (by omega)) rfl (by decide) (Nat.le_of_ble_eq_true rfl) ?_
    refine x_bipush 99 dX2_claimed_42 ?_
    refine ii_X2_44 dX2_claimed_44 c_X9_within (by decide) (Nat.le_of_ble_eq_true rfl) ?_
    refine x_istore_n dX2_claimed_47 (by decide) ?_
    refine x_bipush (-99) dX2_claimed_48 ?_
    refine x_aload_n dX2_claimed_50 rfl ?_
    refine gf_X2_48 dX2_claimed_51 rfl rfl ?_
    refine x_iload_n dX2_claimed_54 rfl ?_
    refine x_ialoadN dX2_claimed_55 rfl hp (by decide) ?_
    refine x_iload_n dX2_claimed_56 rfl ?_
    refine x_aload_n dX2_claimed_57 rfl ?_
    refine gf_X2_55 dX2_claimed_58 rfl rfl ?_
    refine x_iload_n dX2_claimed_61 rfl ?_
    refine x_ialoadN dX2_claimed_62 rfl hp (by decide) ?_
    refine ii_X2_77 dX2_claimed_63 c_X0_claims (by decide) (Nat.le_of_ble_eq_true rfl) ?_
    refine x_sipush 999 dX2_claimed_66 ?_
    refine ii_X2_44 dX2_claimed_69 c_X9_within (by decide) (Nat.le_of_ble_eq_true rfl) ?_
    exact Ex.ret (v := some (.int _)) ⟨dX2_claimed_72, _, rfl, rfl⟩ ⟨_, _, congrArg (fun z => some (Value.int z)) ((congrArg (fun z => clp (-99) (kCl (o_ki (s_now S) p) (clp 0 z 99) (o_nu (s_now S) p)) 999) (hv _ _)).trans (if_neg (Int32.not_le.mpr h_10)).symm), rfl⟩
  · refine x_iconst 0 dX2_claimed_13 ?_
    exact Ex.ret (v := some (.int _)) ⟨dX2_claimed_14, _, rfl, rfl⟩ ⟨_, _, congrArg (fun z => some (Value.int z)) (if_pos (Int32.not_lt.mp h_10)).symm, rfl⟩
set_option maxRecDepth 100000 in
set_option maxHeartbeats 4000000 in
theorem c_X2_due_n {X : Nat × (Nat → Int32)} {S : CS} {tl : pc_W} {τ : TV} {r z h : Nat} (hX : TXr τ S tl r) (hr : o_ru (s_now S) = nI r) (hz : o_sz (s_now S) = nI z) (hz6 : z ≤ 6): Mt X 6 0 0 yX2_due cX2_due 4 (some .int) [.ref 19, .ref 1] (cst S ++ tl) (RS (duF τ (s_now S) r z) S tl) := by
  refine Mt.of (by decide +kernel) (fun _ _ => Nat.le_of_ble_eq_true rfl) ?_
  show Ex X mX2_due _ _ _ _ _ _ _ _
  refine x_iconst 0 dX2_due_0 ?_
  refine x_istore_n dX2_due_1 (by decide) ?_
  refine x_iconst 0 dX2_due_2 ?_
  refine x_istore_n dX2_due_3 (by decide) ?_
  refine for_up (P := fun i => ∀ (nm : Nat → Int32) (sk : Nat → Int32), Ex X mX2_due 6 (RS (duF τ (s_now S) r z) S tl) 0 0 4 [some (.ref 19), some (.ref 1), some (.int (sumI (clF τ (s_now S) r) i)), some (.int (nI i))] [] (cst (u_sk (u_nm S nm) sk) ++ tl)) z ?_ (fun i hii ihi => ?_) 0 (by omega) _ _
  · intro nm sk
    refine x_iload_n dX2_due_4 rfl ?_
    refine x_aload_n dX2_due_5 rfl ?_
    refine gf_X2_80 dX2_due_6 rfl rfl ?_
    refine x_icmp_ge 27 dX2_due_9 (fun _ => ?_) (fun hx => absurd (by rw [show _ = nI z from hz]; exact Int32.le_refl _) hx)
    refine x_iload_n dX2_due_27 rfl ?_
    exact Ex.ret (v := some (.int _)) ⟨dX2_due_28, _, rfl, rfl⟩ ⟨_, _, rfl, rfl⟩
  · intro nm sk
    refine x_iload_n dX2_due_4 rfl ?_
    refine x_aload_n dX2_due_5 rfl ?_
    refine gf_X2_80 dX2_due_6 rfl rfl ?_
    refine x_icmp_ge 27 dX2_due_9 (fun hx => absurd hx (by rw [show _ = nI z from hz]; exact nI_ge hii (by omega))) (fun _ => ?_)
    refine x_iload_n dX2_due_12 rfl ?_
    refine x_aload_n dX2_due_13 rfl ?_
    refine x_aload_n dX2_due_14 rfl ?_
    refine x_iload_n dX2_due_15 rfl ?_
    refine iv_X2_85 dX2_due_16 (c_X2_claimed_n hX hr (show _ < 6 by omega)) rfl (by decide) (Nat.le_of_ble_eq_true rfl) (fun v w3 hw => ?_)
    obtain ⟨nm3, sk3, rfl, rfl⟩ := hw
    refine x_iadd dX2_due_19 ?_
    refine x_istore_n dX2_due_20 (by decide) ?_
    refine x_iincN dX2_due_21 rfl (by decide) ?_
    refine x_goto 4 dX2_due_24 ?_
    exact ihi _ _
set_option maxRecDepth 100000 in
set_option maxHeartbeats 4000000 in
theorem c_X2_cost_n {X : Nat × (Nat → Int32)} {S : CS} {tl : pc_W} {τ : TV} {r z h : Nat} (hX : TXr τ S tl r) (hr : o_ru (s_now S) = nI r) (hz : o_sz (s_now S) = nI z) (hz6 : z ≤ 6) (hh : h < 8): Mt X 4 0 0 yX2_cost cX2_cost 5 (some .int) [.ref 19, .ref 1, .int (nI h)] (cst S ++ tl) (RS (coF τ (s_now S) r z h) S tl) := by
  refine Mt.of (by decide +kernel) (fun _ _ => Nat.le_of_ble_eq_true rfl) ?_
  show Ex X mX2_cost _ _ _ _ _ _ _ _
  refine x_iconst 0 dX2_cost_0 ?_
  refine x_istore_n dX2_cost_1 (by decide) ?_
  refine x_iconst 0 dX2_cost_2 ?_
  refine x_istore dX2_cost_3 (by decide) ?_
  refine for_up (P := fun i => ∀ (nm : Nat → Int32) (sk : Nat → Int32), Ex X mX2_cost 4 (RS (coF τ (s_now S) r z h) S tl) 0 0 5 [some (.ref 19), some (.ref 1), some (.int (nI h)), some (.int (sumI (fun p => meF τ (s_now S) r p h) i)), some (.int (nI i))] [] (cst (u_sk (u_nm S nm) sk) ++ tl)) z ?_ (fun i hii ihi => ?_) 0 (by omega) _ _
  · intro nm sk
    refine x_iload dX2_cost_5 rfl ?_
    refine x_aload_n dX2_cost_7 rfl ?_
    refine gf_X2_80 dX2_cost_8 rfl rfl ?_
    refine x_icmp_ge 31 dX2_cost_11 (fun _ => ?_) (fun hx => absurd (by rw [show _ = nI z from hz]; exact Int32.le_refl _) hx)
    refine x_iload_n dX2_cost_31 rfl ?_
    exact Ex.ret (v := some (.int _)) ⟨dX2_cost_32, _, rfl, rfl⟩ ⟨_, _, rfl, rfl⟩
  · intro nm sk
    refine x_iload dX2_cost_5 rfl ?_
    refine x_aload_n dX2_cost_7 rfl ?_
    refine gf_X2_80 dX2_cost_8 rfl rfl ?_
    refine x_icmp_ge 31 dX2_cost_11 (fun hx => absurd hx (by rw [show _ = nI z from hz]; exact nI_ge hii (by omega))) (fun _ => ?_)
    refine x_iload_n dX2_cost_14 rfl ?_
    refine x_aload_n dX2_cost_15 rfl ?_
    refine x_aload_n dX2_cost_16 rfl ?_
    refine x_iload dX2_cost_17 rfl ?_
    refine x_iload_n dX2_cost_19 rfl ?_
    refine iv_X2_88 dX2_cost_20 (c_X2_mending_n hX hr (show _ < 6 by omega) hh) rfl (by decide) (Nat.le_of_ble_eq_true rfl) (fun v w3 hw => ?_)
    obtain ⟨nm3, sk3, rfl, rfl⟩ := hw
    refine x_iadd dX2_cost_23 ?_
    refine x_istore_n dX2_cost_24 (by decide) ?_
    refine x_iincN dX2_cost_25 rfl (by decide) ?_
    refine x_goto 5 dX2_cost_28 ?_
    exact ihi _ _
set_option maxRecDepth 100000 in
set_option maxHeartbeats 4000000 in
theorem c_X2_thinks_t {X : Nat × (Nat → Int32)} {S : CS} {tl : pc_W} {τ : TV} {r p h : Nat} (hX : TXr τ S tl r) (hr : o_ru (s_tho S) = nI r) (hp : p < 6) (hh : h < 8): Mt X 3 0 0 yX2_thinks cX2_thinks 5 (some .int) [.ref 19, .ref 11, .int (nI p), .int (nI h)] (cst S ++ tl) (RS (thF τ (s_tho S) r p h) S tl) := by
  refine Mt.of (by decide +kernel) (fun _ _ => Nat.le_of_ble_eq_true rfl) ?_
  show Ex X mX2_thinks _ _ _ _ _ _ _ _
  obtain ⟨hr6, t, cr, er, n, code, ends, e0, e1, e2, e3, hmt, hT, hn, h0, h1, h2, h3, q1, q2, q3, q4, hτ⟩ := id hX
  have hv : ∀ nm sk, (mrun (kn2 (kn1 nm (s_tho S) p) (s_tho S) h) code (e1 - e0) e0 0 sk).1 = τ r 0 (nmH (s_tho S) p h) := fun nm sk => by rw [mrun_cong (nmH_eq nm)]; exact (hτ _ _).1
  refine x_aload_n dX2_thinks_0 rfl ?_
  refine gf_X2_24 dX2_thinks_1 rfl rfl ?_
  refine x_aload_n dX2_thinks_4 rfl ?_
  refine x_iload_n dX2_thinks_5 rfl ?_
  refine ii_X2_28 dX2_thinks_6 (c_X1_know_t hp) rfl (by decide) (Nat.le_of_ble_eq_true rfl) ?_
  refine x_aload_n dX2_thinks_9 rfl ?_
  refine gf_X2_24 dX2_thinks_10 rfl rfl ?_
  refine x_aload_n dX2_thinks_13 rfl ?_
  refine x_iload_n dX2_thinks_14 rfl ?_
  refine ii_X2_32 dX2_thinks_15 (c_X1_knowHour_t hh) rfl (by decide) (Nat.le_of_ble_eq_true rfl) ?_
  refine x_bipush (-99) dX2_thinks_18 ?_
  refine x_aload_n dX2_thinks_20 rfl ?_
  refine gf_X2_24 dX2_thinks_21 rfl rfl ?_
  refine x_aload_n dX2_thinks_24 rfl ?_
  refine gf_X2_11 dX2_thinks_25 rfl rfl ?_
  refine x_aload_n dX2_thinks_28 rfl ?_
  refine gf_X2_35 dX2_thinks_29 rfl rfl ?_
  refine x_aaload dX2_thinks_32 (fun _ => rfl) rfl (nI_at hr hr6 (by decide)) (fun_at (f := s_mt S) hr (by omega) hmt) ?_
  refine x_iconst 0 dX2_thinks_33 ?_
  refine ii_X2_40 dX2_thinks_34 (c_X1_valueOf (pt := 0) hT hn (by decide) h0 h1 (by omega) (by omega)) rfl (by decide) (Nat.le_of_ble_eq_true rfl) ?_
  refine x_bipush 99 dX2_thinks_37 ?_
  refine ii_X2_44 dX2_thinks_39 c_X9_within (by decide) (Nat.le_of_ble_eq_true rfl) ?_
  refine x_istore dX2_thinks_42 (by decide) ?_
  refine x_bipush (-99) dX2_thinks_44 ?_
  refine x_aload_n dX2_thinks_46 rfl ?_
  refine gf_X2_48 dX2_thinks_47 rfl rfl ?_
  refine x_iload_n dX2_thinks_50 rfl ?_
  refine x_ialoadN dX2_thinks_51 rfl hp (by decide) ?_
  refine x_iload dX2_thinks_52 rfl ?_
  refine x_iload_n dX2_thinks_54 rfl ?_
  refine x_aload_n dX2_thinks_55 rfl ?_
  refine gf_X2_52 dX2_thinks_56 rfl rfl ?_
  refine x_aload_n dX2_thinks_59 rfl ?_
  refine gf_X2_55 dX2_thinks_60 rfl rfl ?_
  refine x_iload_n dX2_thinks_63 rfl ?_
  refine x_ialoadN dX2_thinks_64 rfl hp (by decide) ?_
  refine ii_X2_58 dX2_thinks_65 c_X0_thinks (by decide) (Nat.le_of_ble_eq_true rfl) ?_
  refine x_bipush 99 dX2_thinks_68 ?_
  refine ii_X2_44 dX2_thinks_70 c_X9_within (by decide) (Nat.le_of_ble_eq_true rfl) ?_
  exact Ex.ret (v := some (.int _)) ⟨dX2_thinks_73, _, rfl, rfl⟩ ⟨_, _, congrArg (fun z => some (Value.int z)) (congrArg (fun z => clp (-99) (kTh (o_ki (s_tho S) p) (clp (-99) z 99) (nI h) (o_ye (s_tho S)) (o_nu (s_tho S) p)) 99) (hv _ _)), rfl⟩
set_option maxRecDepth 100000 in
set_option maxHeartbeats 4000000 in
theorem c_X2_mending_t {X : Nat × (Nat → Int32)} {S : CS} {tl : pc_W} {τ : TV} {r p h : Nat} (hX : TXr τ S tl r) (hr : o_ru (s_tho S) = nI r) (hp : p < 6) (hh : h < 8): Mt X 3 0 0 yX2_mending cX2_mending 5 (some .int) [.ref 19, .ref 11, .int (nI p), .int (nI h)] (cst S ++ tl) (RS (meF τ (s_tho S) r p h) S tl) := by
  refine Mt.of (by decide +kernel) (fun _ _ => Nat.le_of_ble_eq_true rfl) ?_
  show Ex X mX2_mending _ _ _ _ _ _ _ _
  obtain ⟨hr6, t, cr, er, n, code, ends, e0, e1, e2, e3, hmt, hT, hn, h0, h1, h2, h3, q1, q2, q3, q4, hτ⟩ := id hX
  have hv : ∀ nm sk, (mrun (kn2 (kn1 nm (s_tho S) p) (s_tho S) h) code (e2 - e1) e1 0 sk).1 = τ r 1 (nmH (s_tho S) p h) := fun nm sk => by rw [mrun_cong (nmH_eq nm)]; exact (hτ _ _).2.1
  refine x_aload_n dX2_mending_0 rfl ?_
  refine gf_X2_24 dX2_mending_1 rfl rfl ?_
  refine x_aload_n dX2_mending_4 rfl ?_
  refine x_iload_n dX2_mending_5 rfl ?_
  refine ii_X2_28 dX2_mending_6 (c_X1_know_t hp) rfl (by decide) (Nat.le_of_ble_eq_true rfl) ?_
  refine x_aload_n dX2_mending_9 rfl ?_
  refine gf_X2_24 dX2_mending_10 rfl rfl ?_
  refine x_aload_n dX2_mending_13 rfl ?_
  refine x_iload_n dX2_mending_14 rfl ?_
  refine ii_X2_32 dX2_mending_15 (c_X1_knowHour_t hh) rfl (by decide) (Nat.le_of_ble_eq_true rfl) ?_
  refine x_iconst 0 dX2_mending_18 ?_
  refine x_aload_n dX2_mending_19 rfl ?_
  refine gf_X2_24 dX2_mending_20 rfl rfl ?_
  refine x_aload_n dX2_mending_23 rfl ?_
  refine gf_X2_11 dX2_mending_24 rfl rfl ?_
  refine x_aload_n dX2_mending_27 rfl ?_
  refine gf_X2_35 dX2_mending_28 rfl rfl ?_
  refine x_aaload dX2_mending_31 (fun _ => rfl) rfl (nI_at hr hr6 (by decide)) (fun_at (f := s_mt S) hr (by omega) hmt) ?_
  refine x_iconst 1 dX2_mending_32 ?_
  refine ii_X2_40 dX2_mending_33 (c_X1_valueOf (pt := 1) hT hn (by decide) h1 h2 (by omega) (by omega)) rfl (by decide) (Nat.le_of_ble_eq_true rfl) ?_
  refine x_bipush 99 dX2_mending_36 ?_
  refine ii_X2_44 dX2_mending_38 c_X9_within (by decide) (Nat.le_of_ble_eq_true rfl) ?_
  refine x_istore dX2_mending_41 (by decide) ?_
  refine x_iconst 0 dX2_mending_43 ?_
  refine x_aload_n dX2_mending_44 rfl ?_
  refine gf_X2_48 dX2_mending_45 rfl rfl ?_
  refine x_iload_n dX2_mending_48 rfl ?_
  refine x_ialoadN dX2_mending_49 rfl hp (by decide) ?_
  refine x_iload dX2_mending_50 rfl ?_
  refine x_aload_n dX2_mending_52 rfl ?_
  refine gf_X2_55 dX2_mending_53 rfl rfl ?_
  refine x_iload_n dX2_mending_56 rfl ?_
  refine x_ialoadN dX2_mending_57 rfl hp (by decide) ?_
  refine ii_X2_64 dX2_mending_58 c_X0_mending (by decide) (Nat.le_of_ble_eq_true rfl) ?_
  refine x_bipush 99 dX2_mending_61 ?_
  refine ii_X2_44 dX2_mending_63 c_X9_within (by decide) (Nat.le_of_ble_eq_true rfl) ?_
  exact Ex.ret (v := some (.int _)) ⟨dX2_mending_66, _, rfl, rfl⟩ ⟨_, _, congrArg (fun z => some (Value.int z)) (congrArg (fun z => clp 0 (kMe (o_ki (s_tho S) p) (clp 0 z 99) (o_nu (s_tho S) p)) 99) (hv _ _)), rfl⟩
set_option maxRecDepth 100000 in
set_option maxHeartbeats 4000000 in
theorem c_X2_memory_t {X : Nat × (Nat → Int32)} {S : CS} {tl : pc_W} {τ : TV} {r p : Nat} (hX : TXr τ S tl r) (hr : o_ru (s_tho S) = nI r) (hp : p < 6): Mt X 4 0 0 yX2_memory cX2_memory 5 (some .int) [.ref 19, .ref 11, .int (nI p)] (cst S ++ tl) (RS (moF τ (s_tho S) r p) S tl) := by
  refine Mt.of (by decide +kernel) (fun _ _ => Nat.le_of_ble_eq_true rfl) ?_
  show Ex X mX2_memory _ _ _ _ _ _ _ _
  refine x_iconst 0 dX2_memory_0 ?_
  refine x_istore_n dX2_memory_1 (by decide) ?_
  refine x_iconst 0 dX2_memory_2 ?_
  refine x_istore dX2_memory_3 (by decide) ?_
  refine for_up (P := fun i => ∀ (nm : Nat → Int32) (sk : Nat → Int32), Ex X mX2_memory 4 (RS (moF τ (s_tho S) r p) S tl) 0 0 5 [some (.ref 19), some (.ref 11), some (.int (nI p)), some (.int (sumI (thF τ (s_tho S) r p) i)), some (.int (nI i))] [] (cst (u_sk (u_nm S nm) sk) ++ tl)) 8 ?_ (fun i hii ihi => ?_) 0 (by omega) _ _
  · intro nm sk
    refine x_iload dX2_memory_5 rfl ?_
    refine x_bipush 8 dX2_memory_7 ?_
    refine x_icmp_ge 29 dX2_memory_9 (fun _ => ?_) (fun hx => absurd (by decide) hx)
    refine x_iload_n dX2_memory_29 rfl ?_
    exact Ex.ret (v := some (.int _)) ⟨dX2_memory_30, _, rfl, rfl⟩ ⟨_, _, rfl, rfl⟩
  · intro nm sk
    refine x_iload dX2_memory_5 rfl ?_
    refine x_bipush 8 dX2_memory_7 ?_
    refine x_icmp_ge 29 dX2_memory_9 (fun hx => absurd hx (nI_ge hii (by decide))) (fun _ => ?_)
    refine x_iload_n dX2_memory_12 rfl ?_
    refine x_aload_n dX2_memory_13 rfl ?_
    refine x_aload_n dX2_memory_14 rfl ?_
    refine x_iload_n dX2_memory_15 rfl ?_
    refine x_iload dX2_memory_16 rfl ?_
    refine iv_X2_67 dX2_memory_18 (c_X2_thinks_t hX hr hp hii) rfl (by decide) (Nat.le_of_ble_eq_true rfl) (fun v w3 hw => ?_)
    obtain ⟨nm3, sk3, rfl, rfl⟩ := hw
    refine x_iadd dX2_memory_21 ?_
    refine x_istore_n dX2_memory_22 (by decide) ?_
    refine x_iincN dX2_memory_23 rfl (by decide) ?_
    refine x_goto 5 dX2_memory_26 ?_
    exact ihi _ _
set_option maxRecDepth 100000 in
set_option maxHeartbeats 4000000 in
theorem c_X2_isHazy_t {X : Nat × (Nat → Int32)} {S : CS} {tl : pc_W} {τ : TV} {r p : Nat} (hX : TXr τ S tl r) (hr : o_ru (s_tho S) = nI r) (hp : p < 6): Mt X 5 0 0 yX2_isHazy cX2_isHazy 3 (some .boolean) [.ref 19, .ref 11, .int (nI p)] (cst S ++ tl) (RS (hzF τ (s_tho S) r p) S tl) := by
  refine Mt.of (by decide +kernel) (fun _ _ => Nat.le_of_ble_eq_true rfl) ?_
  show Ex X mX2_isHazy _ _ _ _ _ _ _ _
  refine x_aload_n dX2_isHazy_0 rfl ?_
  refine x_aload_n dX2_isHazy_1 rfl ?_
  refine x_iload_n dX2_isHazy_2 rfl ?_
  refine iv_X2_70 dX2_isHazy_3 (c_X2_memory_t hX hr hp) rfl (by decide) (Nat.le_of_ble_eq_true rfl) (fun v w3 hw => ?_)
  obtain ⟨nm3, sk3, rfl, rfl⟩ := hw
  refine x_aload_n dX2_isHazy_6 rfl ?_
  refine gf_X2_74 dX2_isHazy_7 rfl rfl ?_
  refine x_icmp_lt 17 dX2_isHazy_10 (fun h_10 => ?_) (fun h_10 => ?_)
  · refine x_iconst 0 dX2_isHazy_17 ?_
    exact Ex.ret (v := some (.int _)) ⟨dX2_isHazy_18, _, rfl, rfl⟩ ⟨_, _, congrArg (fun z => some (Value.int z)) (by first | exact (bi_t (Int32.not_lt.mp h_10)).symm | exact (bi_f (Int32.not_le.mpr h_10)).symm), rfl⟩
  · refine x_iconst 1 dX2_isHazy_13 ?_
    refine x_goto 18 dX2_isHazy_14 ?_
    exact Ex.ret (v := some (.int _)) ⟨dX2_isHazy_18, _, rfl, rfl⟩ ⟨_, _, congrArg (fun z => some (Value.int z)) (by first | exact (bi_t (Int32.not_lt.mp h_10)).symm | exact (bi_f (Int32.not_le.mpr h_10)).symm), rfl⟩
set_option maxRecDepth 100000 in
set_option maxHeartbeats 4000000 in
theorem c_X2_claimed_t {X : Nat × (Nat → Int32)} {S : CS} {tl : pc_W} {τ : TV} {r p : Nat} (hX : TXr τ S tl r) (hr : o_ru (s_tho S) = nI r) (hp : p < 6): Mt X 5 0 0 yX2_claimed cX2_claimed 4 (some .int) [.ref 19, .ref 11, .int (nI p)] (cst S ++ tl) (RS (clF τ (s_tho S) r p) S tl) := by
  refine Mt.of (by decide +kernel) (fun _ _ => Nat.le_of_ble_eq_true rfl) ?_
  show Ex X mX2_claimed _ _ _ _ _ _ _ _
  obtain ⟨hr6, t, cr, er, n, code, ends, e0, e1, e2, e3, hmt, hT, hn, h0, h1, h2, h3, q1, q2, q3, q4, hτ⟩ := id hX
  have hv : ∀ nm sk, (mrun (kn1 nm (s_tho S) p) code (e3 - e2) e2 0 sk).1 = τ r 2 (nmC (s_tho S) p) := fun nm sk => by rw [mrun_cong (nmC_eq nm)]; exact (hτ _ _).2.2
  refine x_aload_n dX2_claimed_0 rfl ?_
  refine x_aload_n dX2_claimed_1 rfl ?_
  refine x_iload_n dX2_claimed_2 rfl ?_
  refine iv_X2_70 dX2_claimed_3 (c_X2_memory_t hX hr hp) rfl (by decide) (Nat.le_of_ble_eq_true rfl) (fun v w3 hw => ?_)
  obtain ⟨nm3, sk3, rfl, rfl⟩ := hw
  refine x_aload_n dX2_claimed_6 rfl ?_
  refine gf_X2_74 dX2_claimed_7 rfl rfl ?_
  refine x_icmp_lt 15 dX2_claimed_10 (fun h_10 => ?_) (fun h_10 => ?_)
  · refine x_aload_n dX2_claimed_15 rfl ?_
    refine gf_X2_24 dX2_claimed_16 rfl rfl ?_
    refine x_aload_n dX2_claimed_19 rfl ?_
    refine x_iload_n dX2_claimed_20 rfl ?_
    refine ii_X2_28 dX2_claimed_21 (c_X1_know_t hp) rfl (by decide) (Nat.le_of_ble_eq_true rfl) ?_
    refine x_iconst 0 dX2_claimed_24 ?_
    refine x_aload_n dX2_claimed_25 rfl ?_
    refine gf_X2_24 dX2_claimed_26 rfl rfl ?_
    refine x_aload_n dX2_claimed_29 rfl ?_
    refine gf_X2_11 dX2_claimed_30 rfl rfl ?_
    refine x_aload_n dX2_claimed_33 rfl ?_
    refine gf_X2_35 dX2_claimed_34 rfl rfl ?_
    refine x_aaload dX2_claimed_37 (fun _ => rfl) rfl (nI_at hr hr6 (by decide)) (fun_at (f := s_mt S) hr (by omega) hmt) ?_
    refine x_iconst 2 dX2_claimed_38 ?_
    refine ii_X2_40 dX2_claimed_39 (c_X1_valueOf (pt := 2) hT hn (by decide) h2 h3 (by omega) (by omega)) rfl (by decide) (Nat.le_of_ble_eq_true rfl) ?_
    refine x_bipush 99 dX2_claimed_42 ?_
    refine ii_X2_44 dX2_claimed_44 c_X9_within (by decide) (Nat.le_of_ble_eq_true rfl) ?_
    refine x_istore_n dX2_claimed_47 (by decide) ?_
    refine x_bipush (-99) dX2_claimed_48 ?_
    refine x_aload_n dX2_claimed_50 rfl ?_
    refine gf_X2_48 dX2_claimed_51 rfl rfl ?_
    refine x_iload_n dX2_claimed_54 rfl ?_
    refine x_ialoadN dX2_claimed_55 rfl hp (by decide) ?_
    refine x_iload_n dX2_claimed_56 rfl ?_
    refine x_aload_n dX2_claimed_57 rfl ?_
    refine gf_X2_55 dX2_claimed_58 rfl rfl ?_
    refine x_iload_n dX2_claimed_61 rfl ?_
    refine x_ialoadN dX2_claimed_62 rfl hp (by decide) ?_
    refine ii_X2_77 dX2_claimed_63 c_X0_claims (by decide) (Nat.le_of_ble_eq_true rfl) ?_
    refine x_sipush 999 dX2_claimed_66 ?_
    refine ii_X2_44 dX2_claimed_69 c_X9_within (by decide) (Nat.le_of_ble_eq_true rfl) ?_
    exact Ex.ret (v := some (.int _)) ⟨dX2_claimed_72, _, rfl, rfl⟩ ⟨_, _, congrArg (fun z => some (Value.int z)) ((congrArg (fun z => clp (-99) (kCl (o_ki (s_tho S) p) (clp 0 z 99) (o_nu (s_tho S) p)) 999) (hv _ _)).trans (if_neg (Int32.not_le.mpr h_10)).symm), rfl⟩
  · refine x_iconst 0 dX2_claimed_13 ?_
    exact Ex.ret (v := some (.int _)) ⟨dX2_claimed_14, _, rfl, rfl⟩ ⟨_, _, congrArg (fun z => some (Value.int z)) (if_pos (Int32.not_lt.mp h_10)).symm, rfl⟩
set_option maxRecDepth 100000 in
set_option maxHeartbeats 4000000 in
theorem c_X2_due_t {X : Nat × (Nat → Int32)} {S : CS} {tl : pc_W} {τ : TV} {r z h : Nat} (hX : TXr τ S tl r) (hr : o_ru (s_tho S) = nI r) (hz : o_sz (s_tho S) = nI z) (hz6 : z ≤ 6): Mt X 6 0 0 yX2_due cX2_due 4 (some .int) [.ref 19, .ref 11] (cst S ++ tl) (RS (duF τ (s_tho S) r z) S tl) := by
  refine Mt.of (by decide +kernel) (fun _ _ => Nat.le_of_ble_eq_true rfl) ?_
  show Ex X mX2_due _ _ _ _ _ _ _ _
  refine x_iconst 0 dX2_due_0 ?_
  refine x_istore_n dX2_due_1 (by decide) ?_
  refine x_iconst 0 dX2_due_2 ?_
  refine x_istore_n dX2_due_3 (by decide) ?_
  refine for_up (P := fun i => ∀ (nm : Nat → Int32) (sk : Nat → Int32), Ex X mX2_due 6 (RS (duF τ (s_tho S) r z) S tl) 0 0 4 [some (.ref 19), some (.ref 11), some (.int (sumI (clF τ (s_tho S) r) i)), some (.int (nI i))] [] (cst (u_sk (u_nm S nm) sk) ++ tl)) z ?_ (fun i hii ihi => ?_) 0 (by omega) _ _
  · intro nm sk
    refine x_iload_n dX2_due_4 rfl ?_
    refine x_aload_n dX2_due_5 rfl ?_
    refine gf_X2_80 dX2_due_6 rfl rfl ?_
    refine x_icmp_ge 27 dX2_due_9 (fun _ => ?_) (fun hx => absurd (by rw [show _ = nI z from hz]; exact Int32.le_refl _) hx)
    refine x_iload_n dX2_due_27 rfl ?_
    exact Ex.ret (v := some (.int _)) ⟨dX2_due_28, _, rfl, rfl⟩ ⟨_, _, rfl, rfl⟩
  · intro nm sk
    refine x_iload_n dX2_due_4 rfl ?_
    refine x_aload_n dX2_due_5 rfl ?_
    refine gf_X2_80 dX2_due_6 rfl rfl ?_
    refine x_icmp_ge 27 dX2_due_9 (fun hx => absurd hx (by rw [show _ = nI z from hz]; exact nI_ge hii (by omega))) (fun _ => ?_)
    refine x_iload_n dX2_due_12 rfl ?_
    refine x_aload_n dX2_due_13 rfl ?_
    refine x_aload_n dX2_due_14 rfl ?_
    refine x_iload_n dX2_due_15 rfl ?_
    refine iv_X2_85 dX2_due_16 (c_X2_claimed_t hX hr (show _ < 6 by omega)) rfl (by decide) (Nat.le_of_ble_eq_true rfl) (fun v w3 hw => ?_)
    obtain ⟨nm3, sk3, rfl, rfl⟩ := hw
    refine x_iadd dX2_due_19 ?_
    refine x_istore_n dX2_due_20 (by decide) ?_
    refine x_iincN dX2_due_21 rfl (by decide) ?_
    refine x_goto 4 dX2_due_24 ?_
    exact ihi _ _
set_option maxRecDepth 100000 in
set_option maxHeartbeats 4000000 in
theorem c_X2_cost_t {X : Nat × (Nat → Int32)} {S : CS} {tl : pc_W} {τ : TV} {r z h : Nat} (hX : TXr τ S tl r) (hr : o_ru (s_tho S) = nI r) (hz : o_sz (s_tho S) = nI z) (hz6 : z ≤ 6) (hh : h < 8): Mt X 4 0 0 yX2_cost cX2_cost 5 (some .int) [.ref 19, .ref 11, .int (nI h)] (cst S ++ tl) (RS (coF τ (s_tho S) r z h) S tl) := by
  refine Mt.of (by decide +kernel) (fun _ _ => Nat.le_of_ble_eq_true rfl) ?_
  show Ex X mX2_cost _ _ _ _ _ _ _ _
  refine x_iconst 0 dX2_cost_0 ?_
  refine x_istore_n dX2_cost_1 (by decide) ?_
  refine x_iconst 0 dX2_cost_2 ?_
  refine x_istore dX2_cost_3 (by decide) ?_
  refine for_up (P := fun i => ∀ (nm : Nat → Int32) (sk : Nat → Int32), Ex X mX2_cost 4 (RS (coF τ (s_tho S) r z h) S tl) 0 0 5 [some (.ref 19), some (.ref 11), some (.int (nI h)), some (.int (sumI (fun p => meF τ (s_tho S) r p h) i)), some (.int (nI i))] [] (cst (u_sk (u_nm S nm) sk) ++ tl)) z ?_ (fun i hii ihi => ?_) 0 (by omega) _ _
  · intro nm sk
    refine x_iload dX2_cost_5 rfl ?_
    refine x_aload_n dX2_cost_7 rfl ?_
    refine gf_X2_80 dX2_cost_8 rfl rfl ?_
    refine x_icmp_ge 31 dX2_cost_11 (fun _ => ?_) (fun hx => absurd (by rw [show _ = nI z from hz]; exact Int32.le_refl _) hx)
    refine x_iload_n dX2_cost_31 rfl ?_
    exact Ex.ret (v := some (.int _)) ⟨dX2_cost_32, _, rfl, rfl⟩ ⟨_, _, rfl, rfl⟩
  · intro nm sk
    refine x_iload dX2_cost_5 rfl ?_
    refine x_aload_n dX2_cost_7 rfl ?_
    refine gf_X2_80 dX2_cost_8 rfl rfl ?_
    refine x_icmp_ge 31 dX2_cost_11 (fun hx => absurd hx (by rw [show _ = nI z from hz]; exact nI_ge hii (by omega))) (fun _ => ?_)
    refine x_iload_n dX2_cost_14 rfl ?_
    refine x_aload_n dX2_cost_15 rfl ?_
    refine x_aload_n dX2_cost_16 rfl ?_
    refine x_iload dX2_cost_17 rfl ?_
    refine x_iload_n dX2_cost_19 rfl ?_
    refine iv_X2_88 dX2_cost_20 (c_X2_mending_t hX hr (show _ < 6 by omega) hh) rfl (by decide) (Nat.le_of_ble_eq_true rfl) (fun v w3 hw => ?_)
    obtain ⟨nm3, sk3, rfl, rfl⟩ := hw
    refine x_iadd dX2_cost_23 ?_
    refine x_istore_n dX2_cost_24 (by decide) ?_
    refine x_iincN dX2_cost_25 rfl (by decide) ?_
    refine x_goto 5 dX2_cost_28 ?_
    exact ihi _ _
theorem bi_one {c : Prop} [Decidable c] (h : ¬ bi c = 0) : bi c = 1 := bi_t (bi1.mp h)
theorem sumI_y {f : Nat → Int32} {i : Nat} {x : Int32} (h : f i = x) : sumI f i + x = sumI f (i + 1) := by rw [sumI, h]
theorem sumI_0 {f : Nat → Int32} {i : Nat} (h : f i = 0) : sumI f i = sumI f (i + 1) := by rw [sumI, h, Int32.add_zero]
set_option maxRecDepth 100000 in
set_option maxHeartbeats 4000000 in
theorem c_X2_hazyPeople_n {X : Nat × (Nat → Int32)} {S : CS} {tl : pc_W} {τ : TV} {r z : Nat} (hX : TXr τ S tl r) (hr : o_ru (s_now S) = nI r) (hz : o_sz (s_now S) = nI z) (hz6 : z ≤ 6): Mt X 6 0 0 yX2_hazyPeople cX2_hazyPeople 4 (some .int) [.ref 19, .ref 1] (cst S ++ tl) (RS (hpF τ (s_now S) r z) S tl) := by
  refine Mt.of (by decide +kernel) (fun _ _ => Nat.le_of_ble_eq_true rfl) ?_
  show Ex X mX2_hazyPeople _ _ _ _ _ _ _ _
  refine x_iconst 0 dX2_hazyPeople_0 ?_
  refine x_istore_n dX2_hazyPeople_1 (by decide) ?_
  refine x_iconst 0 dX2_hazyPeople_2 ?_
  refine x_istore_n dX2_hazyPeople_3 (by decide) ?_
  refine for_up (P := fun i => ∀ (nm : Nat → Int32) (sk : Nat → Int32), Ex X mX2_hazyPeople 6 (RS (hpF τ (s_now S) r z) S tl) 0 0 4 [some (.ref 19), some (.ref 1), some (.int (sumI (hzF τ (s_now S) r) i)), some (.int (nI i))] [] (cst (u_sk (u_nm S nm) sk) ++ tl)) z ?_ (fun i hii ihi => ?_) 0 (by omega) _ _
  · intro nm sk
    refine x_iload_n dX2_hazyPeople_4 rfl ?_
    refine x_aload_n dX2_hazyPeople_5 rfl ?_
    refine gf_X2_80 dX2_hazyPeople_6 rfl rfl ?_
    refine x_icmp_ge 30 dX2_hazyPeople_9 (fun _ => ?_) (fun hx => absurd (by rw [show _ = nI z from hz]; exact Int32.le_refl _) hx)
    refine x_iload_n dX2_hazyPeople_30 rfl ?_
    exact Ex.ret (v := some (.int _)) ⟨dX2_hazyPeople_31, _, rfl, rfl⟩ ⟨_, _, rfl, rfl⟩
  · intro nm sk
    refine x_iload_n dX2_hazyPeople_4 rfl ?_
    refine x_aload_n dX2_hazyPeople_5 rfl ?_
    refine gf_X2_80 dX2_hazyPeople_6 rfl rfl ?_
    refine x_icmp_ge 30 dX2_hazyPeople_9 (fun hx => absurd hx (by rw [show _ = nI z from hz]; exact nI_ge hii (by omega))) (fun _ => ?_)
    refine x_aload_n dX2_hazyPeople_12 rfl ?_
    refine x_aload_n dX2_hazyPeople_13 rfl ?_
    refine x_iload_n dX2_hazyPeople_14 rfl ?_
    refine iv_X2_81 dX2_hazyPeople_15 (c_X2_isHazy_n hX hr (show i < 6 by omega)) rfl (by decide) (Nat.le_of_ble_eq_true rfl) (fun v w3 hw => ?_)
    obtain ⟨nm3, sk3, rfl, rfl⟩ := hw
    refine x_if_eq 24 dX2_hazyPeople_18 (fun h_18 => ?_) (fun h_18 => ?_)
    · rw [sumI_0 (f := hzF τ (s_now S) r) h_18]
      refine x_iincN dX2_hazyPeople_24 rfl (by decide) ?_
      refine x_goto 4 dX2_hazyPeople_27 ?_
      exact ihi _ _
    · refine x_iinc 1 dX2_hazyPeople_21 rfl (by decide) ?_
      rw [sumI_y (f := hzF τ (s_now S) r) (bi_one h_18)]
      refine x_iincN dX2_hazyPeople_24 rfl (by decide) ?_
      refine x_goto 4 dX2_hazyPeople_27 ?_
      exact ihi _ _
set_option maxRecDepth 100000 in
set_option maxHeartbeats 4000000 in
theorem c_X2_likedHours_n {X : Nat × (Nat → Int32)} {S : CS} {tl : pc_W} {τ : TV} {r p : Nat} (hX : TXr τ S tl r) (hr : o_ru (s_now S) = nI r) (hp : p < 6): Mt X 4 0 0 yX2_likedHours cX2_likedHours 5 (some .int) [.ref 19, .ref 1, .int (nI p)] (cst S ++ tl) (RS (lkF τ (s_now S) r p 8) S tl) := by
  refine Mt.of (by decide +kernel) (fun _ _ => Nat.le_of_ble_eq_true rfl) ?_
  show Ex X mX2_likedHours _ _ _ _ _ _ _ _
  refine x_iconst 0 dX2_likedHours_0 ?_
  refine x_istore_n dX2_likedHours_1 (by decide) ?_
  refine x_iconst 0 dX2_likedHours_2 ?_
  refine x_istore dX2_likedHours_3 (by decide) ?_
  refine for_up (P := fun i => ∀ (nm : Nat → Int32) (sk : Nat → Int32), Ex X mX2_likedHours 4 (RS (lkF τ (s_now S) r p 8) S tl) 0 0 5 [some (.ref 19), some (.ref 1), some (.int (nI p)), some (.int (lkF τ (s_now S) r p i)), some (.int (nI i))] [] (cst (u_sk (u_nm S nm) sk) ++ tl)) 8 ?_ (fun i hii ihi => ?_) 0 (by omega) _ _
  · intro nm sk
    refine x_iload dX2_likedHours_5 rfl ?_
    refine x_bipush 8 dX2_likedHours_7 ?_
    refine x_icmp_ge 36 dX2_likedHours_9 (fun _ => ?_) (fun hx => absurd (by decide) hx)
    refine x_iload_n dX2_likedHours_36 rfl ?_
    exact Ex.ret (v := some (.int _)) ⟨dX2_likedHours_37, _, rfl, rfl⟩ ⟨_, _, rfl, rfl⟩
  · intro nm sk
    refine x_iload dX2_likedHours_5 rfl ?_
    refine x_bipush 8 dX2_likedHours_7 ?_
    refine x_icmp_ge 36 dX2_likedHours_9 (fun hx => absurd hx (nI_ge hii (by decide))) (fun _ => ?_)
    refine x_aload_n dX2_likedHours_12 rfl ?_
    refine x_aload_n dX2_likedHours_13 rfl ?_
    refine x_iload_n dX2_likedHours_14 rfl ?_
    refine x_iload dX2_likedHours_15 rfl ?_
    refine iv_X2_67 dX2_likedHours_17 (c_X2_thinks_n hX hr hp hii) rfl (by decide) (Nat.le_of_ble_eq_true rfl) (fun v w3 hw => ?_)
    obtain ⟨nm3, sk3, rfl, rfl⟩ := hw
    refine x_if_le 30 dX2_likedHours_20 (fun h_20 => ?_) (fun h_20 => ?_)
    · rw [show lkF τ (s_now S) r p i = lkF τ (s_now S) r p (i + 1) from (if_neg (Int32.not_lt.mpr h_20)).symm]
      refine x_iincN dX2_likedHours_30 rfl (by decide) ?_
      refine x_goto 5 dX2_likedHours_33 ?_
      exact ihi _ _
    · refine x_iload_n dX2_likedHours_23 rfl ?_
      refine x_iconst 1 dX2_likedHours_24 ?_
      refine x_iload dX2_likedHours_25 rfl ?_
      refine x_ishl dX2_likedHours_27 ?_
      refine x_ior dX2_likedHours_28 ?_
      refine x_istore_n dX2_likedHours_29 (by decide) ?_
      rw [show (lkF τ (s_now S) r p i ||| (1 <<< (nI i &&& 31))) = lkF τ (s_now S) r p (i + 1) from (if_pos (Int32.not_le.mp h_20)).symm]
      refine x_iincN dX2_likedHours_30 rfl (by decide) ?_
      refine x_goto 5 dX2_likedHours_33 ?_
      exact ihi _ _
theorem c_X3_earn_ne {X : Nat × (Nat → Int32)} {S : CS} {tl : pc_W} {x : Int32} : Mt X 1 0 0 yX3_earn cX3_earn 2 none [.ref 1, .int x] (cst S ++ tl) (fun v w' => ∃ O1, O1 = o_ear (s_now S) x ∧ v = none ∧ w' = cst (u_now S O1) ++ tl) := c_X3_earn_n.weaken (fun v w h => ⟨_, rfl, h.1, h.2⟩)
set_option maxRecDepth 100000 in
set_option maxHeartbeats 4000000 in
theorem c_X2_passYear_n {X : Nat × (Nat → Int32)} {S : CS} {tl : pc_W} {τ : TV} {r z : Nat} (hX : TXr τ S tl r) (hr : o_ru (s_now S) = nI r) (hz : o_sz (s_now S) = nI z) (hz6 : z ≤ 6): Mt X 7 0 0 yX2_passYear cX2_passYear 3 none [.ref 19, .ref 1] (cst S ++ tl) (RSV (u_now S (yrF τ (s_now S) r z)) tl) := by
  refine Mt.of (by decide +kernel) (fun _ _ => Nat.le_of_ble_eq_true rfl) ?_
  show Ex X mX2_passYear _ _ _ _ _ _ _ _
  refine x_aload_n dX2_passYear_0 rfl ?_
  refine x_aload_n dX2_passYear_1 rfl ?_
  refine iv_X2_90 dX2_passYear_2 (c_X2_due_n (h := 0) hX hr hz hz6) rfl (by decide) (Nat.le_of_ble_eq_true rfl) (fun v w3 hw => ?_)
  obtain ⟨nm3, sk3, rfl, rfl⟩ := hw
  refine x_istore_n dX2_passYear_5 (by decide) ?_
  refine x_aload_n dX2_passYear_6 rfl ?_
  refine x_aload_n dX2_passYear_7 rfl ?_
  refine ii_X2_94 dX2_passYear_8 (c_X3_premiumsOfAll_n hz6 hz) rfl (by decide) (Nat.le_of_ble_eq_true rfl) ?_
  refine iv_X2_98 dX2_passYear_11 c_X3_earn_ne rfl (by decide) (Nat.le_of_ble_eq_true rfl) (fun v w4 hw => ?_)
  obtain ⟨O1, eO1, rfl, rfl⟩ := hw
  refine x_aload_n dX2_passYear_14 rfl ?_
  refine x_iload_n dX2_passYear_15 rfl ?_
  refine x_ineg dX2_passYear_16 ?_
  refine iv_X2_98 dX2_passYear_17 c_X3_earn_ne rfl (by decide) (Nat.le_of_ble_eq_true rfl) (fun v w4 hw => ?_)
  obtain ⟨O2, eO2, rfl, rfl⟩ := hw
  refine x_aload_n dX2_passYear_20 rfl ?_
  refine x_dup dX2_passYear_21 ?_
  refine gf_X2_52 dX2_passYear_22 rfl rfl ?_
  refine x_iconst 1 dX2_passYear_25 ?_
  refine x_iadd dX2_passYear_26 ?_
  refine pf_X2_52 dX2_passYear_27 rfl (Nat.le_of_ble_eq_true rfl) (fun _ _ => ⟨rfl, rfl⟩) ?_
  exact Ex.ret (v := none) ⟨rfl, dX2_passYear_30⟩ ⟨nm3, sk3, rfl, (show _ = cst (u_sk (u_nm (u_now S (yr1 O2)) nm3) sk3) ++ tl from rfl).trans (by rw [show yr1 O2 = yrF τ (s_now S) r z from by rw [eO2, eO1]; rfl])⟩
set_option maxRecDepth 100000 in
set_option maxHeartbeats 4000000 in
theorem c_X2_hazyPeople_t {X : Nat × (Nat → Int32)} {S : CS} {tl : pc_W} {τ : TV} {r z : Nat} (hX : TXr τ S tl r) (hr : o_ru (s_tho S) = nI r) (hz : o_sz (s_tho S) = nI z) (hz6 : z ≤ 6): Mt X 6 0 0 yX2_hazyPeople cX2_hazyPeople 4 (some .int) [.ref 19, .ref 11] (cst S ++ tl) (RS (hpF τ (s_tho S) r z) S tl) := by
  refine Mt.of (by decide +kernel) (fun _ _ => Nat.le_of_ble_eq_true rfl) ?_
  show Ex X mX2_hazyPeople _ _ _ _ _ _ _ _
  refine x_iconst 0 dX2_hazyPeople_0 ?_
  refine x_istore_n dX2_hazyPeople_1 (by decide) ?_
  refine x_iconst 0 dX2_hazyPeople_2 ?_
  refine x_istore_n dX2_hazyPeople_3 (by decide) ?_
  refine for_up (P := fun i => ∀ (nm : Nat → Int32) (sk : Nat → Int32), Ex X mX2_hazyPeople 6 (RS (hpF τ (s_tho S) r z) S tl) 0 0 4 [some (.ref 19), some (.ref 11), some (.int (sumI (hzF τ (s_tho S) r) i)), some (.int (nI i))] [] (cst (u_sk (u_nm S nm) sk) ++ tl)) z ?_ (fun i hii ihi => ?_) 0 (by omega) _ _
  · intro nm sk
    refine x_iload_n dX2_hazyPeople_4 rfl ?_
    refine x_aload_n dX2_hazyPeople_5 rfl ?_
    refine gf_X2_80 dX2_hazyPeople_6 rfl rfl ?_
    refine x_icmp_ge 30 dX2_hazyPeople_9 (fun _ => ?_) (fun hx => absurd (by rw [show _ = nI z from hz]; exact Int32.le_refl _) hx)
    refine x_iload_n dX2_hazyPeople_30 rfl ?_
    exact Ex.ret (v := some (.int _)) ⟨dX2_hazyPeople_31, _, rfl, rfl⟩ ⟨_, _, rfl, rfl⟩
  · intro nm sk
    refine x_iload_n dX2_hazyPeople_4 rfl ?_
    refine x_aload_n dX2_hazyPeople_5 rfl ?_
    refine gf_X2_80 dX2_hazyPeople_6 rfl rfl ?_
    refine x_icmp_ge 30 dX2_hazyPeople_9 (fun hx => absurd hx (by rw [show _ = nI z from hz]; exact nI_ge hii (by omega))) (fun _ => ?_)
    refine x_aload_n dX2_hazyPeople_12 rfl ?_
    refine x_aload_n dX2_hazyPeople_13 rfl ?_
    refine x_iload_n dX2_hazyPeople_14 rfl ?_
    refine iv_X2_81 dX2_hazyPeople_15 (c_X2_isHazy_t hX hr (show i < 6 by omega)) rfl (by decide) (Nat.le_of_ble_eq_true rfl) (fun v w3 hw => ?_)
    obtain ⟨nm3, sk3, rfl, rfl⟩ := hw
    refine x_if_eq 24 dX2_hazyPeople_18 (fun h_18 => ?_) (fun h_18 => ?_)
    · rw [sumI_0 (f := hzF τ (s_tho S) r) h_18]
      refine x_iincN dX2_hazyPeople_24 rfl (by decide) ?_
      refine x_goto 4 dX2_hazyPeople_27 ?_
      exact ihi _ _
    · refine x_iinc 1 dX2_hazyPeople_21 rfl (by decide) ?_
      rw [sumI_y (f := hzF τ (s_tho S) r) (bi_one h_18)]
      refine x_iincN dX2_hazyPeople_24 rfl (by decide) ?_
      refine x_goto 4 dX2_hazyPeople_27 ?_
      exact ihi _ _
theorem c_X3_earn_te {X : Nat × (Nat → Int32)} {S : CS} {tl : pc_W} {x : Int32} : Mt X 1 0 0 yX3_earn cX3_earn 2 none [.ref 11, .int x] (cst S ++ tl) (fun v w' => ∃ O1, O1 = o_ear (s_tho S) x ∧ v = none ∧ w' = cst (u_tho S O1) ++ tl) := c_X3_earn_t.weaken (fun v w h => ⟨_, rfl, h.1, h.2⟩)
set_option maxRecDepth 100000 in
set_option maxHeartbeats 4000000 in
theorem c_X2_passYear_t {X : Nat × (Nat → Int32)} {S : CS} {tl : pc_W} {τ : TV} {r z : Nat} (hX : TXr τ S tl r) (hr : o_ru (s_tho S) = nI r) (hz : o_sz (s_tho S) = nI z) (hz6 : z ≤ 6): Mt X 7 0 0 yX2_passYear cX2_passYear 3 none [.ref 19, .ref 11] (cst S ++ tl) (RSV (u_tho S (yrF τ (s_tho S) r z)) tl) := by
  refine Mt.of (by decide +kernel) (fun _ _ => Nat.le_of_ble_eq_true rfl) ?_
  show Ex X mX2_passYear _ _ _ _ _ _ _ _
  refine x_aload_n dX2_passYear_0 rfl ?_
  refine x_aload_n dX2_passYear_1 rfl ?_
  refine iv_X2_90 dX2_passYear_2 (c_X2_due_t (h := 0) hX hr hz hz6) rfl (by decide) (Nat.le_of_ble_eq_true rfl) (fun v w3 hw => ?_)
  obtain ⟨nm3, sk3, rfl, rfl⟩ := hw
  refine x_istore_n dX2_passYear_5 (by decide) ?_
  refine x_aload_n dX2_passYear_6 rfl ?_
  refine x_aload_n dX2_passYear_7 rfl ?_
  refine ii_X2_94 dX2_passYear_8 (c_X3_premiumsOfAll_t hz6 hz) rfl (by decide) (Nat.le_of_ble_eq_true rfl) ?_
  refine iv_X2_98 dX2_passYear_11 c_X3_earn_te rfl (by decide) (Nat.le_of_ble_eq_true rfl) (fun v w4 hw => ?_)
  obtain ⟨O1, eO1, rfl, rfl⟩ := hw
  refine x_aload_n dX2_passYear_14 rfl ?_
  refine x_iload_n dX2_passYear_15 rfl ?_
  refine x_ineg dX2_passYear_16 ?_
  refine iv_X2_98 dX2_passYear_17 c_X3_earn_te rfl (by decide) (Nat.le_of_ble_eq_true rfl) (fun v w4 hw => ?_)
  obtain ⟨O2, eO2, rfl, rfl⟩ := hw
  refine x_aload_n dX2_passYear_20 rfl ?_
  refine x_dup dX2_passYear_21 ?_
  refine gf_X2_52 dX2_passYear_22 rfl rfl ?_
  refine x_iconst 1 dX2_passYear_25 ?_
  refine x_iadd dX2_passYear_26 ?_
  refine pf_X2_52 dX2_passYear_27 rfl (Nat.le_of_ble_eq_true rfl) (fun _ _ => ⟨rfl, rfl⟩) ?_
  exact Ex.ret (v := none) ⟨rfl, dX2_passYear_30⟩ ⟨nm3, sk3, rfl, (show _ = cst (u_sk (u_nm (u_tho S (yr1 O2)) nm3) sk3) ++ tl from rfl).trans (by rw [show yr1 O2 = yrF τ (s_tho S) r z from by rw [eO2, eO1]; rfl])⟩
set_option maxRecDepth 100000 in
set_option maxHeartbeats 4000000 in
theorem c_X2_add {X : Nat × (Nat → Int32)} {S : CS} {tl : pc_W} {m t : Nat} {vs : List Value} (hm6 : m < 6) (hm : s_mz S = nI m) (ht : (cst S ++ tl)[t]? = some (.inr (6, vs))): Mt X 0 0 0 yX2_add cX2_add 2 (some .int) [.ref 19, .ref t] (cst S ++ tl) (RI (nI m) (cst (u_mz (u_mt S (va_up (s_mt S) m (some t))) (nI (m + 1))) ++ tl)) := by
  refine Mt.of (by decide +kernel) (fun _ _ => Nat.le_of_ble_eq_true rfl) ?_
  show Ex X mX2_add _ _ _ _ _ _ _ _
  rcases S with ⟨a0, a1, a2, a3, a4, a5, a6, a7, mz, S⟩
  change mz = nI m at hm
  subst hm
  refine x_aload_n dX2_add_0 rfl ?_
  refine gf_X2_11 dX2_add_1 rfl rfl ?_
  refine x_aload_n dX2_add_4 rfl ?_
  refine gf_X2_17 dX2_add_5 rfl rfl ?_
  refine x_aload_n dX2_add_8 rfl ?_
  refine x_aastore (q := (RX7, TX7, 2)) dX2_add_9 (fun _ => rfl) rfl ht rfl (vin hm6 (by decide)) ?_
  rw [nI_clamp (by omega)]
  refine x_aload_n dX2_add_10 rfl ?_
  refine x_dup dX2_add_11 ?_
  refine gf_X2_17 dX2_add_12 rfl rfl ?_
  refine x_iconst 1 dX2_add_15 ?_
  refine x_iadd dX2_add_16 ?_
  rw [nI_1]
  refine pf_X2_17 dX2_add_17 rfl (Nat.le_of_ble_eq_true rfl) (fun _ _ => ⟨rfl, rfl⟩) ?_
  refine x_aload_n dX2_add_20 rfl ?_
  refine gf_X2_17 dX2_add_21 rfl rfl ?_
  refine x_iconst 1 dX2_add_24 ?_
  refine x_isub dX2_add_25 ?_
  rw [nI_pred]
  exact Ex.ret (v := some (.int _)) ⟨dX2_add_26, _, rfl, by first | rfl | decide⟩ ⟨congrArg (fun z => some (Value.int z)) (by rfl), rfl⟩
