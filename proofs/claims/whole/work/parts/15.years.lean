/-! what may be otherwise behind a call that asks: what is thought, names, stack, remedies, dues -/
abbrev uX (S : CS) (T : OT) (nm sk : Nat → Int32) (rm : (Nat → Int32) × (Nat → Int32) × (Nat → Int32) × (Nat → Int32)) (du : Nat → Int32) : CS := (s_now S, s_kep S, T, s_im S, s_tp S, s_tn S, s_P S, s_mt S, s_mz S, nm, sk, rm, du, s_sh S, s_te S, s_tz S, s_tc S)
abbrev RX (x : Int32) (S : CS) (tl : pc_W) : Option Value → pc_W → Prop := fun v w' => ∃ T nm sk rm du, v = some (.int x) ∧ w' = cst (uX S T nm sk rm du) ++ tl
theorem RS_RX {x : Int32} {S : CS} {tl : pc_W} {v : Option Value} {w' : pc_W} (h : RS x S tl v w') : RX x S tl v w' := by
  obtain ⟨nm, sk, h1, h2⟩ := h
  exact ⟨s_tho S, nm, sk, s_rm S, s_du S, h1, h2⟩
def nv1 (τ : TV) (O : OT) (r p : Nat) (b : Int32) : Nat → Int32
  | 0 => b
  | h + 1 => if thF τ O r p h = 0 then nv1 τ O r p b h else nv1 τ O r p b h &&& ((1 <<< (nI h &&& 31)) ^^^ (-1))
def nv2 (τ : TV) (O : OT) (r : Nat) : Nat → Int32
  | 0 => 255
  | p + 1 => nv1 τ O r p (nv2 τ O r p) 8
def crF (τ : TV) (O : OT) (r z : Nat) : Nat → Int32
  | 0 => 0
  | h + 1 => if o_mAt O (nI h) = 0 then crF τ O r z h + coF τ O r z h else crF τ O r z h
def agF (τ : TV) (O : OT) (r p q : Nat) : Nat → Int32
  | 0 => 0
  | h + 1 => if thF τ O r p h = thF τ O r q h then agF τ O r p q h ||| (1 <<< (nI h &&& 31)) else agF τ O r p q h
/-- the best hour of 0 .. n, and its worth -/
def bhF (τ : TV) (O : OT) (r p : Nat) : Nat → Nat × Int32
  | 0 => (0, thF τ O r p 0)
  | n + 1 => if (bhF τ O r p n).2 < thF τ O r p (n + 1) then (n + 1, thF τ O r p (n + 1)) else bhF τ O r p n
theorem bhF_le (τ : TV) (O : OT) (r p : Nat) : ∀ n, (bhF τ O r p n).1 ≤ n
  | 0 => Nat.le_refl 0
  | n + 1 => by
    rw [bhF]
    by_cases h : (bhF τ O r p n).2 < thF τ O r p (n + 1)
    · rw [if_pos h]; exact Nat.le_refl _
    · rw [if_neg h]; exact Nat.le_succ_of_le (bhF_le τ O r p n)
def alF (τ : TV) (O : OT) (r p : Nat) : Nat → Int32
  | 0 => lkF τ O r p 8
  | q + 1 => if q = p then alF τ O r p q else alF τ O r p q &&& (lkF τ O r q 8 ^^^ (-1))
def rtO (τ : TV) (O : OT) (r z h : Nat) : OT := (fun O2 : OT => uo_me O2 (o_me O2 ||| (1 <<< (nI h &&& 31)))) (o_ear O (-(coF τ O r z h)))
set_option maxRecDepth 100000 in
set_option maxHeartbeats 4000000 in
theorem c_X9_costOfRest {X : Nat × (Nat → Int32)} {S : CS} {tl : pc_W} {τ : TV} {r z : Nat} (hX : TXr τ S tl r) (hr : o_ru (s_now S) = nI r) (hz : o_sz (s_now S) = nI z) (hz6 : z ≤ 6): Mt X 5 0 0 yX9_costOfRest cX9_costOfRest 3 (some .int) [.ref 0] (cst S ++ tl) (RS (crF τ (s_now S) r z 8) S tl) := by
  refine Mt.of (by decide +kernel) (fun _ _ => Nat.le_of_ble_eq_true rfl) ?_
  show Ex X mX9_costOfRest _ _ _ _ _ _ _ _
  refine x_iconst 0 dX9_costOfRest_0 ?_
  refine x_istore_n dX9_costOfRest_1 (by decide) ?_
  refine x_iconst 0 dX9_costOfRest_2 ?_
  refine x_istore_n dX9_costOfRest_3 (by decide) ?_
  refine for_up (P := fun i => ∀ (nm : Nat → Int32) (sk : Nat → Int32), Ex X mX9_costOfRest 5 (RS (crF τ (s_now S) r z 8) S tl) 0 0 4 [some (.ref 0), some (.int (crF τ (s_now S) r z i)), some (.int (nI i))] [] (cst (u_sk (u_nm S nm) sk) ++ tl)) 8 ?_ (fun i hii ihi => ?_) 0 (by omega) _ _
  · intro nm sk
    refine x_iload_n dX9_costOfRest_4 rfl ?_
    refine x_bipush 8 dX9_costOfRest_5 ?_
    refine x_icmp_ge 42 dX9_costOfRest_7 (fun _ => ?_) (fun hx => absurd (by decide) hx)
    refine x_iload_n dX9_costOfRest_42 rfl ?_
    exact Ex.ret (v := some (.int _)) ⟨dX9_costOfRest_43, _, rfl, rfl⟩ ⟨_, _, rfl, rfl⟩
  · intro nm sk
    refine x_iload_n dX9_costOfRest_4 rfl ?_
    refine x_bipush 8 dX9_costOfRest_5 ?_
    refine x_icmp_ge 42 dX9_costOfRest_7 (fun hx => absurd hx (nI_ge hii (by decide))) (fun _ => ?_)
    refine x_aload_n dX9_costOfRest_10 rfl ?_
    refine gf_X9_10 dX9_costOfRest_11 rfl rfl ?_
    refine x_iload_n dX9_costOfRest_14 rfl ?_
    refine ii_X9_143 dX9_costOfRest_15 c_X3_mendedAt_n rfl (by decide) (Nat.le_of_ble_eq_true rfl) ?_
    refine x_if_ne 36 dX9_costOfRest_18 (fun h_18 => ?_) (fun h_18 => ?_)
    · rw [show crF τ (s_now S) r z i = crF τ (s_now S) r z (i + 1) from (if_neg h_18).symm]
      refine x_iincN dX9_costOfRest_36 rfl (by decide) ?_
      refine x_goto 4 dX9_costOfRest_39 ?_
      exact ihi _ _
    · refine x_iload_n dX9_costOfRest_21 rfl ?_
      refine x_aload_n dX9_costOfRest_22 rfl ?_
      refine gf_X9_36 dX9_costOfRest_23 rfl rfl ?_
      refine x_aload_n dX9_costOfRest_26 rfl ?_
      refine gf_X9_10 dX9_costOfRest_27 rfl rfl ?_
      refine x_iload_n dX9_costOfRest_30 rfl ?_
      refine iv_X9_103 dX9_costOfRest_31 (c_X2_cost_n hX hr hz hz6 hii) rfl (by decide) (Nat.le_of_ble_eq_true rfl) (fun v w3 hw => ?_)
      obtain ⟨nm3, sk3, rfl, rfl⟩ := hw
      refine x_iadd dX9_costOfRest_34 ?_
      refine x_istore_n dX9_costOfRest_35 (by decide) ?_
      rw [show crF τ (s_now S) r z i + coF τ (s_now S) r z i = crF τ (s_now S) r z (i + 1) from (if_pos h_18).symm]
      refine x_iincN dX9_costOfRest_36 rfl (by decide) ?_
      refine x_goto 4 dX9_costOfRest_39 ?_
      exact ihi _ _
set_option maxRecDepth 100000 in
set_option maxHeartbeats 4000000 in
theorem c_X9_neverSo {X : Nat × (Nat → Int32)} {S : CS} {tl : pc_W} {τ : TV} {r z : Nat} (hX : TXr τ S tl r) (hr : o_ru (s_now S) = nI r) (hz : o_sz (s_now S) = nI z) (hz6 : z ≤ 6): Mt X 4 0 0 yX9_neverSo cX9_neverSo 4 (some .int) [.ref 0] (cst S ++ tl) (RS (nv2 τ (s_now S) r z) S tl) := by
  refine Mt.of (by decide +kernel) (fun _ _ => Nat.le_of_ble_eq_true rfl) ?_
  show Ex X mX9_neverSo _ _ _ _ _ _ _ _
  refine x_sipush 255 dX9_neverSo_0 ?_
  refine x_istore_n dX9_neverSo_3 (by decide) ?_
  refine x_iconst 0 dX9_neverSo_4 ?_
  refine x_istore_n dX9_neverSo_5 (by decide) ?_
  refine for_up (P := fun i => ∀ (nm : Nat → Int32) (sk : Nat → Int32), Ex X mX9_neverSo 4 (RS (nv2 τ (s_now S) r z) S tl) 0 0 6 [some (.ref 0), some (.int (nv2 τ (s_now S) r i)), some (.int (nI i)), none] [] (cst (u_sk (u_nm S nm) sk) ++ tl)) z ?_ (fun i hii ihi => ?_) 0 (by omega) _ _
  · intro nm sk
    refine x_iload_n dX9_neverSo_6 rfl ?_
    refine x_aload_n dX9_neverSo_7 rfl ?_
    refine gf_X9_10 dX9_neverSo_8 rfl rfl ?_
    refine gf_X9_203 dX9_neverSo_11 rfl rfl ?_
    refine x_icmp_ge 61 dX9_neverSo_14 (fun _ => ?_) (fun hx => absurd (by rw [show _ = nI z from hz]; exact Int32.le_refl _) hx)
    refine x_iload_n dX9_neverSo_61 rfl ?_
    exact Ex.ret (v := some (.int _)) ⟨dX9_neverSo_62, _, rfl, rfl⟩ ⟨_, _, rfl, rfl⟩
  · intro nm sk
    refine x_iload_n dX9_neverSo_6 rfl ?_
    refine x_aload_n dX9_neverSo_7 rfl ?_
    refine gf_X9_10 dX9_neverSo_8 rfl rfl ?_
    refine gf_X9_203 dX9_neverSo_11 rfl rfl ?_
    refine x_icmp_ge 61 dX9_neverSo_14 (fun hx => absurd hx (by rw [show _ = nI z from hz]; exact nI_ge hii (by omega))) (fun _ => ?_)
    refine x_iconst 0 dX9_neverSo_17 ?_
    refine x_istore_n dX9_neverSo_18 (by decide) ?_
    refine for_up (P := fun j => ∀ (nmb : Nat → Int32) (skb : Nat → Int32), Ex X mX9_neverSo 4 (RS (nv2 τ (s_now S) r z) S tl) 0 0 19 [some (.ref 0), some (.int (nv1 τ (s_now S) r i (nv2 τ (s_now S) r i) j)), some (.int (nI i)), some (.int (nI j))] [] (cst (u_sk (u_nm S nmb) skb) ++ tl)) 8 ?_ (fun j hij ihj => ?_) 0 (by omega) _ _
    · intro nmb skb
      refine x_iload_n dX9_neverSo_19 rfl ?_
      refine x_bipush 8 dX9_neverSo_20 ?_
      refine x_icmp_ge 55 dX9_neverSo_22 (fun _ => ?_) (fun hx => absurd (by decide) hx)
      refine x_iincN dX9_neverSo_55 rfl (by decide) ?_
      refine x_goto 6 dX9_neverSo_58 ?_
      refine Ex.forget (L' := [some (.ref 0), some (.int (nv2 τ (s_now S) r (i + 1))), some (.int (nI (i + 1))), none]) ⟨rfl, rfl, rfl, trivial⟩ ?_
      exact ihi _ _
    · intro nmb skb
      refine x_iload_n dX9_neverSo_19 rfl ?_
      refine x_bipush 8 dX9_neverSo_20 ?_
      refine x_icmp_ge 55 dX9_neverSo_22 (fun hx => absurd hx (nI_ge hij (by decide))) (fun _ => ?_)
      refine x_aload_n dX9_neverSo_25 rfl ?_
      refine gf_X9_36 dX9_neverSo_26 rfl rfl ?_
      refine x_aload_n dX9_neverSo_29 rfl ?_
      refine gf_X9_10 dX9_neverSo_30 rfl rfl ?_
      refine x_iload_n dX9_neverSo_33 rfl ?_
      refine x_iload_n dX9_neverSo_34 rfl ?_
      refine iv_X9_110 dX9_neverSo_35 (c_X2_thinks_n hX hr (show i < 6 by omega) hij) rfl (by decide) (Nat.le_of_ble_eq_true rfl) (fun v w3 hw => ?_)
      obtain ⟨nm3, sk3, rfl, rfl⟩ := hw
      refine x_if_eq 49 dX9_neverSo_38 (fun h_38 => ?_) (fun h_38 => ?_)
      · rw [show nv1 τ (s_now S) r i (nv2 τ (s_now S) r i) j = nv1 τ (s_now S) r i (nv2 τ (s_now S) r i) (j + 1) from (if_pos h_38).symm]
        refine x_iincN dX9_neverSo_49 rfl (by decide) ?_
        refine x_goto 19 dX9_neverSo_52 ?_
        exact ihj _ _
      · refine x_iload_n dX9_neverSo_41 rfl ?_
        refine x_iconst 1 dX9_neverSo_42 ?_
        refine x_iload_n dX9_neverSo_43 rfl ?_
        refine x_ishl dX9_neverSo_44 ?_
        refine x_iconst (-1) dX9_neverSo_45 ?_
        refine x_ixor dX9_neverSo_46 ?_
        refine x_iand dX9_neverSo_47 ?_
        refine x_istore_n dX9_neverSo_48 (by decide) ?_
        rw [show (nv1 τ (s_now S) r i (nv2 τ (s_now S) r i) j &&& ((1 <<< (nI j &&& 31)) ^^^ (-1))) = nv1 τ (s_now S) r i (nv2 τ (s_now S) r i) (j + 1) from (if_neg h_38).symm]
        refine x_iincN dX9_neverSo_49 rfl (by decide) ?_
        refine x_goto 19 dX9_neverSo_52 ?_
        exact ihj _ _
def soF (τ : TV) (O : OT) (r z : Nat) (what : Int32) : Int32 := if what = 0 then hpF τ O r z else if what = 1 then duF τ O r z else if what = 2 then sumI (o_pr O) z else if what = 3 then nv2 τ O r z else if what = 4 then crF τ O r z 8 else -1000000
set_option maxRecDepth 100000 in
set_option maxHeartbeats 4000000 in
theorem c_X9_society {X : Nat × (Nat → Int32)} {S : CS} {tl : pc_W} {τ : TV} {r z : Nat} {what : Int32} (hX : TXr τ S tl r) (hr : o_ru (s_now S) = nI r) (hz : o_sz (s_now S) = nI z) (hz6 : z ≤ 6): Mt X 7 0 0 yX9_society cX9_society 2 (some .int) [.ref 0, .int what] (cst S ++ tl) (RS (soF τ (s_now S) r z what) S tl) := by
  refine Mt.of (by decide +kernel) (fun _ _ => Nat.le_of_ble_eq_true rfl) ?_
  show Ex X mX9_society _ _ _ _ _ _ _ _
  refine x_iload_n dX9_society_0 rfl ?_
  refine x_swC 0 (fun s_1_0 => ?_) (fun s_1_0 => ?_)
  · refine x_tswIn 36 dX9_society_1 (by decide) (by decide) rfl ?_
    refine x_aload_n dX9_society_36 rfl ?_
    refine gf_X9_36 dX9_society_37 rfl rfl ?_
    refine x_aload_n dX9_society_40 rfl ?_
    refine gf_X9_10 dX9_society_41 rfl rfl ?_
    refine iv_X9_187 dX9_society_44 (c_X2_hazyPeople_n hX hr hz hz6) rfl (by decide) (Nat.le_of_ble_eq_true rfl) (fun v w3 hw => ?_)
    obtain ⟨nm3, sk3, rfl, rfl⟩ := hw
    exact Ex.ret (v := some (.int _)) ⟨dX9_society_47, _, rfl, rfl⟩ ⟨nm3, sk3, congrArg (fun z => some (Value.int z)) (by rw [s_1_0]; rfl), rfl⟩
  refine x_swC 1 (fun s_1_1 => ?_) (fun s_1_1 => ?_)
  · refine x_tswIn 48 dX9_society_1 (by decide) (by decide) rfl ?_
    refine x_aload_n dX9_society_48 rfl ?_
    refine gf_X9_36 dX9_society_49 rfl rfl ?_
    refine x_aload_n dX9_society_52 rfl ?_
    refine gf_X9_10 dX9_society_53 rfl rfl ?_
    refine iv_X9_191 dX9_society_56 (c_X2_due_n (h := 0) hX hr hz hz6) rfl (by decide) (Nat.le_of_ble_eq_true rfl) (fun v w3 hw => ?_)
    obtain ⟨nm3, sk3, rfl, rfl⟩ := hw
    exact Ex.ret (v := some (.int _)) ⟨dX9_society_59, _, rfl, rfl⟩ ⟨nm3, sk3, congrArg (fun z => some (Value.int z)) (by rw [s_1_1]; rfl), rfl⟩
  refine x_swC 2 (fun s_1_2 => ?_) (fun s_1_2 => ?_)
  · refine x_tswIn 60 dX9_society_1 (by decide) (by decide) rfl ?_
    refine x_aload_n dX9_society_60 rfl ?_
    refine gf_X9_10 dX9_society_61 rfl rfl ?_
    refine ii_X9_194 dX9_society_64 (c_X3_premiumsOfAll_n hz6 hz) rfl (by decide) (Nat.le_of_ble_eq_true rfl) ?_
    exact Ex.ret (v := some (.int _)) ⟨dX9_society_67, _, rfl, rfl⟩ ⟨s_nm S, s_sk S, congrArg (fun z => some (Value.int z)) (by rw [s_1_2]; rfl), rfl⟩
  refine x_swC 3 (fun s_1_3 => ?_) (fun s_1_3 => ?_)
  · refine x_tswIn 68 dX9_society_1 (by decide) (by decide) rfl ?_
    refine x_aload_n dX9_society_68 rfl ?_
    refine iv_X9_197 dX9_society_69 (c_X9_neverSo hX hr hz hz6) rfl (by decide) (Nat.le_of_ble_eq_true rfl) (fun v w3 hw => ?_)
    obtain ⟨nm3, sk3, rfl, rfl⟩ := hw
    exact Ex.ret (v := some (.int _)) ⟨dX9_society_72, _, rfl, rfl⟩ ⟨nm3, sk3, congrArg (fun z => some (Value.int z)) (by rw [s_1_3]; rfl), rfl⟩
  refine x_swC 4 (fun s_1_4 => ?_) (fun s_1_4 => ?_)
  · refine x_tswIn 73 dX9_society_1 (by decide) (by decide) rfl ?_
    refine x_aload_n dX9_society_73 rfl ?_
    refine iv_X9_200 dX9_society_74 (c_X9_costOfRest hX hr hz hz6) rfl (by decide) (Nat.le_of_ble_eq_true rfl) (fun v w3 hw => ?_)
    obtain ⟨nm3, sk3, rfl, rfl⟩ := hw
    exact Ex.ret (v := some (.int _)) ⟨dX9_society_77, _, rfl, rfl⟩ ⟨nm3, sk3, congrArg (fun z => some (Value.int z)) (by rw [s_1_4]; rfl), rfl⟩
  refine x_tswOut 78 dX9_society_1 (by have e0 := lv_neT (a := 0) s_1_0 (by decide); have e1 := lv_neT (a := 1) s_1_1 (by decide); have e2 := lv_neT (a := 2) s_1_2 (by decide); have e3 := lv_neT (a := 3) s_1_3 (by decide); have e4 := lv_neT (a := 4) s_1_4 (by decide); omega) ?_
  refine x_ldc dX9_society_78 kk_X9_87 ?_
  exact Ex.ret (v := some (.int _)) ⟨dX9_society_80, _, rfl, rfl⟩ ⟨s_nm S, s_sk S, congrArg (fun z => some (Value.int z)) (by unfold soF; rw [if_neg s_1_0, if_neg s_1_1, if_neg s_1_2, if_neg s_1_3, if_neg s_1_4]), rfl⟩
abbrev twC (z : Nat) (one other : Int32) : Prop := (0 ≤ one ∧ one < nI z) ∧ (0 ≤ other ∧ other < nI z) ∧ ¬ one = other
def agA (τ : TV) (O : OT) (r z : Nat) (one other : Int32) : Int32 := if twC z one other then agF τ O r one.toNatClampNeg other.toNatClampNeg 8 else -2
set_option maxRecDepth 100000 in
set_option maxHeartbeats 4000000 in
theorem lp_agree {X : Nat × (Nat → Int32)} {S : CS} {tl : pc_W} {τ : TV} {r z : Nat} {p q : Nat} (hX : TXr τ S tl r) (hr : o_ru (s_now S) = nI r) (hz : o_sz (s_now S) = nI z) (hz6 : z ≤ 6) (hp : p < z) (hq : q < z) : Ex X mX9_agree 4 (RS (agF τ (s_now S) r p q 8) S tl) 0 0 35 [some (.ref 0), some (.int (nI p)), some (.int (nI q)), some (.int 0), some (.int 0)] [] (cst S ++ tl) := by
  refine Ex.eqW (w' := cst (u_sk (u_nm S (s_nm S)) (s_sk S)) ++ tl) rfl ?_
  refine for_up (P := fun i => ∀ (nm : Nat → Int32) (sk : Nat → Int32), Ex X mX9_agree 4 (RS (agF τ (s_now S) r p q 8) S tl) 0 0 35 [some (.ref 0), some (.int (nI p)), some (.int (nI q)), some (.int (agF τ (s_now S) r p q i)), some (.int (nI i))] [] (cst (u_sk (u_nm S nm) sk) ++ tl)) 8 ?_ (fun i hii ihi => ?_) 0 (by omega) _ _
  · intro nm sk
    refine x_iload dX9_agree_35 rfl ?_
    refine x_bipush 8 dX9_agree_37 ?_
    refine x_icmp_ge 86 dX9_agree_39 (fun _ => ?_) (fun hx => absurd (by decide) hx)
    refine x_iload_n dX9_agree_86 rfl ?_
    exact Ex.ret (v := some (.int _)) ⟨dX9_agree_87, _, rfl, rfl⟩ ⟨_, _, rfl, rfl⟩
  · intro nm sk
    refine x_iload dX9_agree_35 rfl ?_
    refine x_bipush 8 dX9_agree_37 ?_
    refine x_icmp_ge 86 dX9_agree_39 (fun hx => absurd hx (nI_ge hii (by decide))) (fun _ => ?_)
    refine x_aload_n dX9_agree_42 rfl ?_
    refine gf_X9_36 dX9_agree_43 rfl rfl ?_
    refine x_aload_n dX9_agree_46 rfl ?_
    refine gf_X9_10 dX9_agree_47 rfl rfl ?_
    refine x_iload_n dX9_agree_50 rfl ?_
    refine x_iload dX9_agree_51 rfl ?_
    refine iv_X9_110 dX9_agree_53 (c_X2_thinks_n hX hr (show p < 6 by omega) hii) rfl (by decide) (Nat.le_of_ble_eq_true rfl) (fun v w3 hw => ?_)
    obtain ⟨nm3, sk3, rfl, rfl⟩ := hw
    refine x_aload_n dX9_agree_56 rfl ?_
    refine gf_X9_36 dX9_agree_57 rfl rfl ?_
    refine x_aload_n dX9_agree_60 rfl ?_
    refine gf_X9_10 dX9_agree_61 rfl rfl ?_
    refine x_iload_n dX9_agree_64 rfl ?_
    refine x_iload dX9_agree_65 rfl ?_
    refine iv_X9_110 dX9_agree_67 (c_X2_thinks_n hX hr (show q < 6 by omega) hii) rfl (by decide) (Nat.le_of_ble_eq_true rfl) (fun v w3 hw => ?_)
    obtain ⟨nm4, sk4, rfl, rfl⟩ := hw
    refine x_icmp_ne 80 dX9_agree_70 (fun h_70 => ?_) (fun h_70 => ?_)
    · rw [show agF τ (s_now S) r p q i = agF τ (s_now S) r p q (i + 1) from (if_neg h_70).symm]
      refine x_iincN dX9_agree_80 rfl (by decide) ?_
      refine x_goto 35 dX9_agree_83 ?_
      exact ihi _ _
    · refine x_iload_n dX9_agree_73 rfl ?_
      refine x_iconst 1 dX9_agree_74 ?_
      refine x_iload dX9_agree_75 rfl ?_
      refine x_ishl dX9_agree_77 ?_
      refine x_ior dX9_agree_78 ?_
      refine x_istore_n dX9_agree_79 (by decide) ?_
      rw [show (agF τ (s_now S) r p q i ||| (1 <<< (nI i &&& 31))) = agF τ (s_now S) r p q (i + 1) from (if_pos h_70).symm]
      refine x_iincN dX9_agree_80 rfl (by decide) ?_
      refine x_goto 35 dX9_agree_83 ?_
      exact ihi _ _
theorem Ex.postRS {X : Nat × (Nat → Int32)} {M : MI} {d : Nat} {Ret Ret' : Option Value → pc_W → Prop} {cb sb : Nat} {pc : Nat} {L : List (Option Value)} {st : List Value} {w : pc_W} (hR : ∀ v w, Ret v w → Ret' v w) (k : Ex X M d Ret cb sb pc L st w) : Ex X M d Ret' cb sb pc L st w := by
  intro p l e R s m args below meth c Q A D ty sa adV ad0 n0 cm sm hC
  obtain ⟨h1, h2, h3, h4, h5, h6, h7, h8, h9, h10, h11, h12, h13, h14⟩ := hC
  exact k p l e R s m args below meth c Q A D ty sa adV ad0 n0 cm sm ⟨h1, h2, h3, h4, h5, h6, h7, h8, h9, h10, h11, h12, h13, fun pc v w ad H locs cells slots ls g1 g2 => h14 pc v w ad H locs cells slots ls g1 (hR v w g2)⟩
set_option maxRecDepth 100000 in
set_option maxHeartbeats 4000000 in
theorem c_X9_agree {X : Nat × (Nat → Int32)} {S : CS} {tl : pc_W} {τ : TV} {r z : Nat} {one other : Int32} (hX : TXr τ S tl r) (hr : o_ru (s_now S) = nI r) (hz : o_sz (s_now S) = nI z) (hz6 : z ≤ 6): Mt X 4 0 0 yX9_agree cX9_agree 5 (some .int) [.ref 0, .int one, .int other] (cst S ++ tl) (RS (agA τ (s_now S) r z one other) S tl) := by
  refine Mt.of (by decide +kernel) (fun _ _ => Nat.le_of_ble_eq_true rfl) ?_
  show Ex X mX9_agree _ _ _ _ _ _ _ _
  refine x_aload_n dX9_agree_0 rfl ?_
  refine gf_X9_10 dX9_agree_1 rfl rfl ?_
  refine x_iload_n dX9_agree_4 rfl ?_
  refine ii_X9_107 dX9_agree_5 c_X3_has rfl (by decide) (Nat.le_of_ble_eq_true rfl) ?_
  refine x_if_eq 27 dX9_agree_8 (fun h_8 => ?_) (fun h_8 => ?_)
  · refine x_bipush (-2) dX9_agree_27 ?_
    exact Ex.ret (v := some (.int _)) ⟨dX9_agree_29, _, rfl, rfl⟩ ⟨s_nm S, s_sk S, congrArg (fun z => some (Value.int z)) (if_neg (show ¬ twC z one other from fun q => bi0.mp h_8 (by rw [hz]; exact q.1))).symm, rfl⟩
  · refine x_aload_n dX9_agree_11 rfl ?_
    refine gf_X9_10 dX9_agree_12 rfl rfl ?_
    refine x_iload_n dX9_agree_15 rfl ?_
    refine ii_X9_107 dX9_agree_16 c_X3_has rfl (by decide) (Nat.le_of_ble_eq_true rfl) ?_
    refine x_if_eq 27 dX9_agree_19 (fun h_19 => ?_) (fun h_19 => ?_)
    · refine x_bipush (-2) dX9_agree_27 ?_
      exact Ex.ret (v := some (.int _)) ⟨dX9_agree_29, _, rfl, rfl⟩ ⟨s_nm S, s_sk S, congrArg (fun z => some (Value.int z)) (if_neg (show ¬ twC z one other from fun q => bi0.mp h_19 (by rw [hz]; exact q.2.1))).symm, rfl⟩
    · refine x_iload_n dX9_agree_22 rfl ?_
      refine x_iload_n dX9_agree_23 rfl ?_
      refine x_icmp_ne 30 dX9_agree_24 (fun h_24 => ?_) (fun h_24 => ?_)
      · have hp1 := bi1.mp h_8
        have hq1 := bi1.mp h_19
        rw [hz] at hp1 hq1
        obtain ⟨p, hp, rfl⟩ := nat_of hp1.1 hp1.2 (by omega)
        obtain ⟨q, hq, rfl⟩ := nat_of hq1.1 hq1.2 (by omega)
        have ev : agF τ (s_now S) r p q 8 = agA τ (s_now S) r z (nI p) (nI q) := by rw [agA, if_pos ⟨hp1, hq1, h_24⟩, nI_clamp (by omega), nI_clamp (by omega)]
        rw [← ev]
        refine x_iconst 0 dX9_agree_30 ?_
        refine x_istore_n dX9_agree_31 (by decide) ?_
        refine x_iconst 0 dX9_agree_32 ?_
        refine x_istore dX9_agree_33 (by decide) ?_
        exact lp_agree hX hr hz hz6 hp hq
      · refine x_bipush (-2) dX9_agree_27 ?_
        exact Ex.ret (v := some (.int _)) ⟨dX9_agree_29, _, rfl, rfl⟩ ⟨s_nm S, s_sk S, congrArg (fun z => some (Value.int z)) (if_neg (show ¬ twC z one other from fun q => q.2.2 h_24)).symm, rfl⟩
