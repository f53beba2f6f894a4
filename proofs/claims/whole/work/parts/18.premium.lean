theorem x_nm {X : Nat × (Nat → Int32)} {M : MI} {d : Nat} {Ret : Option Value → pc_W → Prop} {cb sb : Nat} {pc : Nat} {L : List (Option Value)} {st : List Value} {w : pc_W} {x : Int32} (k : ∀ y : Int32, y = x → Ex X M d Ret cb sb pc L (.int y :: st) w) : Ex X M d Ret cb sb pc L (.int x :: st) w := k x rfl
def hyF (τ : TV) (T : OT) (y : Int32) (r p : Nat) : Nat → Nat → Int32
  | 0, _ => -1
  | n + 1, i => if hzF τ (uo_ye T (y + nI i)) r p = 0 then hyF τ T y r p n (i + 1) else nI i
def hyA (τ : TV) (T : OT) (y : Int32) (r z : Nat) (one : Int32) : Int32 := if 0 ≤ one ∧ one < nI z then hyF τ T y r one.toNatClampNeg 41 0 else -2
def laP (du : Nat → Int32) (pm : Int32) : Nat → Nat → Int32 → Int32
  | 0, _, _ => 1
  | n + 1, i, x => if clp (-99999) (clp (-99999) (x + pm) 99999 + -(du i)) 99999 < 0 then 0 else laP du pm n (i + 1) (clp (-99999) (clp (-99999) (x + pm) 99999 + -(du i)) 99999)
def prT (T : OT) : Nat → OT
  | 0 => T
  | i + 1 => yr1 (prT T i)
theorem prT_s (T : OT) (i : Nat) : prT T (i + 1) = yr1 (prT T i) := by rw [prT]
theorem prT_ru (T : OT) : ∀ i, o_ru (prT T i) = o_ru T ∧ o_sz (prT T i) = o_sz T
  | 0 => ⟨rfl, rfl⟩
  | i + 1 => by
    rw [prT_s]
    simp only [yr1]
    exact prT_ru T i
def pdF (τ : TV) (T : OT) (r z : Nat) (du : Nat → Int32) : Nat → Nat → Int32
  | 0 => du
  | i + 1 => upd (pdF τ T r z du i) i (duF τ (prT T i) r z)
theorem pdF_s (τ : TV) (T : OT) (r z : Nat) (du : Nat → Int32) (i : Nat) : pdF τ T r z du (i + 1) = upd (pdF τ T r z du i) i (duF τ (prT T i) r z) := by rw [pdF]
def pmF (du : Nat → Int32) (z : Nat) (x : Int32) : Nat → Nat → Int32
  | 0, _ => -1
  | n + 1, i => if laP du (nI i * nI z) 10 0 x = 0 then pmF du z x n (i + 1) else nI i
theorem ear_pu (T : OT) (x : Int32) : o_pu (o_ear T x) = clp (-99999) (o_pu T + x) 99999 := by simp only [o_ear]
set_option maxRecDepth 100000 in
set_option maxHeartbeats 4000000 in
theorem c_X9_haze {X : Nat × (Nat → Int32)} {S : CS} {tl : pc_W} {τ : TV} {r z : Nat} {one : Int32} (hX : TXr τ S tl r) (hr : o_ru (s_now S) = nI r) (hz : o_sz (s_now S) = nI z) (hz6 : z ≤ 6): Mt X 6 0 0 yX9_haze cX9_haze 3 (some .int) [.ref 0, .int one] (cst S ++ tl) (RX (hyA τ (o_bec (s_tho S) (s_now S)) (o_ye (s_now S)) r z one) S tl) := by
  refine Mt.of (by decide +kernel) (fun _ _ => Nat.le_of_ble_eq_true rfl) ?_
  show Ex X mX9_haze _ _ _ _ _ _ _ _
  refine x_aload_n dX9_haze_0 rfl ?_
  refine gf_X9_10 dX9_haze_1 rfl rfl ?_
  refine x_iload_n dX9_haze_4 rfl ?_
  refine ii_X9_107 dX9_haze_5 c_X3_has rfl (by decide) (Nat.le_of_ble_eq_true rfl) ?_
  refine x_if_ne 14 dX9_haze_8 (fun h_8 => ?_) (fun h_8 => ?_)
  · have ho := bi1.mp h_8
    rw [hz] at ho
    obtain ⟨p, hp, rfl⟩ := nat_of ho.1 ho.2 (by omega)
    refine x_aload_n dX9_haze_14 rfl ?_
    refine gf_X9_19 dX9_haze_15 rfl rfl ?_
    refine x_aload_n dX9_haze_18 rfl ?_
    refine gf_X9_10 dX9_haze_19 rfl rfl ?_
    refine ii_X9_184 dX9_haze_22 c_X3_become_tn rfl (by decide) (Nat.le_of_ble_eq_true rfl) ?_
    generalize hT1 : o_bec (s_tho S) (s_now S) = T1
    have hr1 : o_ru T1 = nI r := (by rw [← hT1]; exact hr)
    have hz1 : o_sz T1 = nI z := (by rw [← hT1]; exact hz)
    have ev : hyF τ T1 (o_ye (s_now S)) r p 41 0 = hyA τ T1 (o_ye (s_now S)) r z (nI p) := (by rw [hyA, if_pos ho, nI_clamp (by omega)])
    rw [← ev]
    refine x_iconst 0 dX9_haze_25 ?_
    refine x_istore_n dX9_haze_26 (by decide) ?_
    refine for_up (P := fun i => ∀ (nm sk : Nat → Int32) (y r0 : Int32), hyF τ T1 (o_ye (s_now S)) r p (41 - i) i = r0 → Ex X mX9_haze 6 (RX r0 S tl) 0 0 27 [some (.ref 0), some (.int (nI p)), some (.int (nI i))] [] (cst (u_tho (u_sk (u_nm S nm) sk) (uo_ye T1 y)) ++ tl)) 41 ?_ (fun i hii ihi => ?_) 0 (by omega) (s_nm S) (s_sk S) (o_ye T1) _ rfl
    · intro nm sk y r0 hr0
      refine x_iload_n dX9_haze_27 rfl ?_
      refine x_bipush 40 dX9_haze_28 ?_
      refine x_icmp_gt 72 dX9_haze_30 (fun _ => ?_) (fun hx => absurd (by decide) hx)
      refine x_iconst (-1) dX9_haze_72 ?_
      exact Ex.ret (v := some (.int _)) ⟨dX9_haze_73, _, rfl, rfl⟩ ⟨(uo_ye T1 y), nm, sk, s_rm S, s_du S, congrArg (fun z => some (Value.int z)) (by rw [← hr0]; rfl), rfl⟩
    · intro nm sk y r0 hr0
      refine x_iload_n dX9_haze_27 rfl ?_
      refine x_bipush 40 dX9_haze_28 ?_
      refine x_icmp_gt 72 dX9_haze_30 (fun hx => absurd hx (nI_nlt (a := 40) (b := i) (by omega) (by decide))) (fun _ => ?_)
      refine x_aload_n dX9_haze_33 rfl ?_
      refine gf_X9_19 dX9_haze_34 rfl rfl ?_
      refine x_aload_n dX9_haze_37 rfl ?_
      refine gf_X9_10 dX9_haze_38 rfl rfl ?_
      refine gf_X9_130 dX9_haze_41 rfl rfl ?_
      refine x_iload_n dX9_haze_44 rfl ?_
      refine x_iadd dX9_haze_45 ?_
      refine x_nm (fun y2 ey2 => ?_)
      refine pf_X9_130 dX9_haze_46 rfl (Nat.le_of_ble_eq_true rfl) (fun _ _ => ⟨rfl, rfl⟩) ?_
      refine Ex.eqW (w' := cst (u_tho (u_sk (u_nm S nm) sk) (uo_ye T1 y2)) ++ tl) rfl ?_
      refine x_aload_n dX9_haze_49 rfl ?_
      refine gf_X9_36 dX9_haze_50 rfl rfl ?_
      refine x_aload_n dX9_haze_53 rfl ?_
      refine gf_X9_19 dX9_haze_54 rfl rfl ?_
      refine x_iload_n dX9_haze_57 rfl ?_
      refine iv_X9_123 dX9_haze_58 (c_X2_isHazy_t hX hr1 (show p < 6 by omega)) rfl (by decide) (Nat.le_of_ble_eq_true rfl) (fun v w3 hw => ?_)
      obtain ⟨nm3, sk3, rfl, rfl⟩ := hw
      refine Ex.eqW (w' := cst (u_tho (u_sk (u_nm S nm3) sk3) (uo_ye T1 y2)) ++ tl) rfl ?_
      refine x_if_eq 66 dX9_haze_61 (fun h_61 => ?_) (fun h_61 => ?_)
      · refine x_iincN dX9_haze_66 rfl (by decide) ?_
        refine x_goto 27 dX9_haze_69 ?_
        exact ihi nm3 sk3 y2 r0 (by rw [← hr0, show 41 - i = (41 - (i + 1)) + 1 from by omega, hyF, ← ey2, if_pos h_61])
      · refine x_iload_n dX9_haze_64 rfl ?_
        exact Ex.ret (v := some (.int _)) ⟨dX9_haze_65, _, rfl, rfl⟩ ⟨(uo_ye T1 y2), nm3, sk3, s_rm S, s_du S, congrArg (fun z => some (Value.int z)) (by rw [← hr0, show 41 - i = (41 - (i + 1)) + 1 from by omega, hyF, ← ey2, if_neg h_61]), rfl⟩
  · refine x_bipush (-2) dX9_haze_11 ?_
    exact Ex.ret (v := some (.int _)) ⟨dX9_haze_13, _, rfl, rfl⟩ ⟨s_tho S, s_nm S, s_sk S, s_rm S, s_du S, congrArg (fun z => some (Value.int z)) (by rw [hyA, if_neg (fun q => bi0.mp h_8 (by rw [hz]; exact q))]), rfl⟩
set_option maxRecDepth 100000 in
set_option maxHeartbeats 4000000 in
theorem c_X9_lasts {X : Nat × (Nat → Int32)} {S : CS} {tl : pc_W} {pm : Int32} : Mt X 2 0 0 yX9_lasts cX9_lasts 3 (some .boolean) [.ref 0, .int pm] (cst S ++ tl) (fun v w' => ∃ T', v = some (.int (laP (s_du S) pm 10 0 (o_pu (s_now S)))) ∧ w' = cst (u_tho S T') ++ tl) := by
  refine Mt.of (by decide +kernel) (fun _ _ => Nat.le_of_ble_eq_true rfl) ?_
  show Ex X mX9_lasts _ _ _ _ _ _ _ _
  refine x_aload_n dX9_lasts_0 rfl ?_
  refine gf_X9_19 dX9_lasts_1 rfl rfl ?_
  refine x_aload_n dX9_lasts_4 rfl ?_
  refine gf_X9_10 dX9_lasts_5 rfl rfl ?_
  refine gf_X9_137 dX9_lasts_8 rfl rfl ?_
  refine pf_X9_137 dX9_lasts_11 rfl (Nat.le_of_ble_eq_true rfl) (fun _ _ => ⟨rfl, rfl⟩) ?_
  refine x_iconst 0 dX9_lasts_14 ?_
  refine x_istore_n dX9_lasts_15 (by decide) ?_
  refine for_up (P := fun i => ∀ (T : OT) (r0 : Int32), laP (s_du S) pm (10 - i) i (o_pu T) = r0 → Ex X mX9_lasts 2 (fun v w' => ∃ T', v = some (.int (r0)) ∧ w' = cst (u_tho S T') ++ tl) 0 0 16 [some (.ref 0), some (.int pm), some (.int (nI i))] [] (cst (u_tho S T) ++ tl)) 10 ?_ (fun i hii ihi => ?_) 0 (by omega) (uo_pu (s_tho S) (o_pu (s_now S))) _ rfl
  · intro T r0 hr0
    refine x_iload_n dX9_lasts_16 rfl ?_
    refine x_bipush 10 dX9_lasts_17 ?_
    refine x_icmp_ge 62 dX9_lasts_19 (fun _ => ?_) (fun hx => absurd (by decide) hx)
    refine x_iconst 1 dX9_lasts_62 ?_
    exact Ex.ret (v := some (.int _)) ⟨dX9_lasts_63, _, rfl, by decide⟩ ⟨T, congrArg (fun z => some (Value.int z)) (by rw [← hr0]; rfl), rfl⟩
  · intro T r0 hr0
    refine x_iload_n dX9_lasts_16 rfl ?_
    refine x_bipush 10 dX9_lasts_17 ?_
    refine x_icmp_ge 62 dX9_lasts_19 (fun hx => absurd hx (nI_ge hii (by decide))) (fun _ => ?_)
    refine x_aload_n dX9_lasts_22 rfl ?_
    refine gf_X9_19 dX9_lasts_23 rfl rfl ?_
    refine x_iload_n dX9_lasts_26 rfl ?_
    refine iv_X9_180 dX9_lasts_27 c_X3_earn_te rfl (by decide) (Nat.le_of_ble_eq_true rfl) (fun v w4 hw => ?_)
    obtain ⟨O1, eO1, rfl, rfl⟩ := hw
    refine x_aload_n dX9_lasts_30 rfl ?_
    refine gf_X9_19 dX9_lasts_31 rfl rfl ?_
    refine x_aload_n dX9_lasts_34 rfl ?_
    refine gf_X9_47 dX9_lasts_35 rfl rfl ?_
    refine x_iload_n dX9_lasts_38 rfl ?_
    refine x_ialoadN dX9_lasts_39 rfl hii (by decide) ?_
    refine x_ineg dX9_lasts_40 ?_
    refine iv_X9_180 dX9_lasts_41 c_X3_earn_te rfl (by decide) (Nat.le_of_ble_eq_true rfl) (fun v w4 hw => ?_)
    obtain ⟨O2, eO2, rfl, rfl⟩ := hw
    have eP : o_pu O2 = clp (-99999) (clp (-99999) (o_pu T + pm) 99999 + -(s_du S i)) 99999 := (by rw [eO2, ear_pu]; show clp (-99999) (o_pu O1 + _) 99999 = _; rw [eO1, ear_pu])
    refine x_aload_n dX9_lasts_44 rfl ?_
    refine gf_X9_19 dX9_lasts_45 rfl rfl ?_
    refine gf_X9_137 dX9_lasts_48 rfl rfl ?_
    refine x_if_ge 56 dX9_lasts_51 (fun h_51 => ?_) (fun h_51 => ?_)
    · refine x_iincN dX9_lasts_56 rfl (by decide) ?_
      refine x_goto 16 dX9_lasts_59 ?_
      exact ihi O2 r0 (by rw [← hr0, show 10 - i = (10 - (i + 1)) + 1 from by omega, laP, if_neg (by rw [← eP]; exact Int32.not_lt.mpr h_51), ← eP])
    · refine x_iconst 0 dX9_lasts_54 ?_
      exact Ex.ret (v := some (.int _)) ⟨dX9_lasts_55, _, rfl, by decide⟩ ⟨O2, congrArg (fun z => some (Value.int z)) (by rw [← hr0, show 10 - i = (10 - (i + 1)) + 1 from by omega, laP, if_pos (by rw [← eP]; exact Int32.not_le.mp h_51)]), rfl⟩
set_option maxRecDepth 100000 in
set_option maxHeartbeats 4000000 in
theorem c_X9_premium {X : Nat × (Nat → Int32)} {S : CS} {tl : pc_W} {τ : TV} {r z : Nat} (hX : TXr τ S tl r) (hr : o_ru (s_now S) = nI r) (hz : o_sz (s_now S) = nI z) (hz6 : z ≤ 6): Mt X 7 0 0 yX9_premium cX9_premium 2 (some .int) [.ref 0] (cst S ++ tl) (RX (pmF (pdF τ (o_bec (s_tho S) (s_now S)) r z (s_du S) 10) z (o_pu (s_now S)) 100 0) S tl) := by
  refine Mt.of (by decide +kernel) (fun _ _ => Nat.le_of_ble_eq_true rfl) ?_
  show Ex X mX9_premium _ _ _ _ _ _ _ _
  refine x_aload_n dX9_premium_0 rfl ?_
  refine gf_X9_19 dX9_premium_1 rfl rfl ?_
  refine x_aload_n dX9_premium_4 rfl ?_
  refine gf_X9_10 dX9_premium_5 rfl rfl ?_
  refine ii_X9_184 dX9_premium_8 c_X3_become_tn rfl (by decide) (Nat.le_of_ble_eq_true rfl) ?_
  generalize hT1 : o_bec (s_tho S) (s_now S) = T1
  have hr1 : o_ru T1 = nI r := (by rw [← hT1]; exact hr)
  have hz1 : o_sz T1 = nI z := (by rw [← hT1]; exact hz)
  generalize hPF : pdF τ T1 r z (s_du S) = PF
  obtain ⟨PR, hPR⟩ : ∃ PR, PR = prT T1 := ⟨_, rfl⟩
  have h0 : PF 0 = s_du S := (by rw [← hPF]; rfl)
  have h1 : PR 0 = T1 := (by rw [hPR]; rfl)
  have hDs : ∀ i, PF (i + 1) = upd (PF i) i (duF τ (PR i) r z) := fun i => (by rw [← hPF, hPR, pdF_s])
  have hPs : ∀ i, PR (i + 1) = yr1 (PR i) := fun i => (by rw [hPR, prT_s])
  have hru : ∀ i, o_ru (PR i) = nI r := fun i => (by rw [hPR]; exact (prT_ru T1 i).1.trans hr1)
  have hsu : ∀ i, o_sz (PR i) = nI z := fun i => (by rw [hPR]; exact (prT_ru T1 i).2.trans hz1)
  clear hPF hPR
  refine Ex.eqW (w' := cst (u_tho (u_sk (u_nm (u_du S (PF 0)) (s_nm S)) (s_sk S)) (PR 0)) ++ tl) (by rw [h0, h1]) ?_
  refine x_iconst 0 dX9_premium_11 ?_
  refine x_istore_n dX9_premium_12 (by decide) ?_
  refine for_up (P := fun i => ∀ (nm : Nat → Int32) (sk : Nat → Int32), Ex X mX9_premium 7 (RX (pmF (PF 10) z (o_pu (s_now S)) 100 0) S tl) 0 0 13 [some (.ref 0), some (.int (nI i))] [] (cst (u_tho (u_sk (u_nm (u_du S (PF i)) nm) sk) (PR i)) ++ tl)) 10 ?_ (fun i hii ihi => ?_) 0 (by omega) (s_nm S) (s_sk S)
  · intro nm sk
    refine x_iload_n dX9_premium_13 rfl ?_
    refine x_bipush 10 dX9_premium_14 ?_
    refine x_icmp_ge 55 dX9_premium_16 (fun _ => ?_) (fun hx => absurd (by decide) hx)
    refine x_iconst 0 dX9_premium_55 ?_
    refine x_istore_n dX9_premium_56 (by decide) ?_
    refine for_up (P := fun k => ∀ (T : OT) (r0 : Int32), pmF (PF 10) z (o_pu (s_now S)) (100 - k) k = r0 → Ex X mX9_premium 7 (RX r0 S tl) 0 0 57 [some (.ref 0), some (.int (nI k))] [] (cst (u_tho (u_sk (u_nm (u_du S (PF 10)) nm) sk) T) ++ tl)) 100 ?_ (fun k hik ihk => ?_) 0 (by omega) (PR 10) _ rfl
    · intro T r0 hr0
      refine x_iload_n dX9_premium_57 rfl ?_
      refine x_bipush 99 dX9_premium_58 ?_
      refine x_icmp_gt 87 dX9_premium_60 (fun _ => ?_) (fun hx => absurd (by decide) hx)
      refine x_iconst (-1) dX9_premium_87 ?_
      exact Ex.ret (v := some (.int _)) ⟨dX9_premium_88, _, rfl, rfl⟩ ⟨T, nm, sk, s_rm S, PF 10, congrArg (fun z => some (Value.int z)) (by rw [← hr0]; rfl), rfl⟩
    · intro T r0 hr0
      refine x_iload_n dX9_premium_57 rfl ?_
      refine x_bipush 99 dX9_premium_58 ?_
      refine x_icmp_gt 87 dX9_premium_60 (fun hx => absurd hx (nI_nlt (a := 99) (b := k) (by omega) (by decide))) (fun _ => ?_)
      refine x_aload_n dX9_premium_63 rfl ?_
      refine x_iload_n dX9_premium_64 rfl ?_
      refine x_aload_n dX9_premium_65 rfl ?_
      refine gf_X9_10 dX9_premium_66 rfl rfl ?_
      refine gf_X9_203 dX9_premium_69 rfl rfl ?_
      refine x_imul dX9_premium_72 ?_
      rw [show o_sz (s_now S) = nI z from hz]
      refine iv_X9_219 dX9_premium_73 c_X9_lasts rfl (by decide) (Nat.le_of_ble_eq_true rfl) (fun v w4 hw => ?_)
      obtain ⟨T', rfl, rfl⟩ := hw
      refine x_if_eq 81 dX9_premium_76 (fun h_76 => ?_) (fun h_76 => ?_)
      · refine x_iincN dX9_premium_81 rfl (by decide) ?_
        refine x_goto 57 dX9_premium_84 ?_
        exact ihk T' r0 (by rw [← hr0, show 100 - k = (100 - (k + 1)) + 1 from by omega, pmF, if_pos h_76])
      · refine x_iload_n dX9_premium_79 rfl ?_
        exact Ex.ret (v := some (.int _)) ⟨dX9_premium_80, _, rfl, rfl⟩ ⟨T', nm, sk, s_rm S, PF 10, congrArg (fun z => some (Value.int z)) (by rw [← hr0, show 100 - k = (100 - (k + 1)) + 1 from by omega, pmF, if_neg h_76]), rfl⟩
  · intro nm sk
    refine x_iload_n dX9_premium_13 rfl ?_
    refine x_bipush 10 dX9_premium_14 ?_
    refine x_icmp_ge 55 dX9_premium_16 (fun hx => absurd hx (nI_ge hii (by decide))) (fun _ => ?_)
    refine x_aload_n dX9_premium_19 rfl ?_
    refine gf_X9_47 dX9_premium_20 rfl rfl ?_
    refine x_iload_n dX9_premium_23 rfl ?_
    refine x_aload_n dX9_premium_24 rfl ?_
    refine gf_X9_36 dX9_premium_25 rfl rfl ?_
    refine x_aload_n dX9_premium_28 rfl ?_
    refine gf_X9_19 dX9_premium_29 rfl rfl ?_
    refine iv_X9_191 dX9_premium_32 (c_X2_due_t (h := 0) hX (hru i) (hsu i) hz6) rfl (by decide) (Nat.le_of_ble_eq_true rfl) (fun v w3 hw => ?_)
    obtain ⟨nm3, sk3, rfl, rfl⟩ := hw
    refine x_nm (fun y1 ey1 => ?_)
    refine x_iastoreN (f := PF i) dX9_premium_35 rfl hii (by decide) ?_
    refine Ex.eqW (w' := cst (u_tho (u_sk (u_nm (u_du S (upd (PF i) i y1)) nm3) sk3) (PR i)) ++ tl) rfl ?_
    rw [show upd (PF i) i y1 = PF (i + 1) from (by rw [hDs, ey1])]
    refine x_aload_n dX9_premium_36 rfl ?_
    refine gf_X9_19 dX9_premium_37 rfl rfl ?_
    refine x_dup dX9_premium_40 ?_
    refine gf_X9_130 dX9_premium_41 rfl rfl ?_
    refine x_iconst 1 dX9_premium_44 ?_
    refine x_iadd dX9_premium_45 ?_
    refine x_nm (fun y2 ey2 => ?_)
    refine pf_X9_130 dX9_premium_46 rfl (Nat.le_of_ble_eq_true rfl) (fun _ _ => ⟨rfl, rfl⟩) ?_
    refine Ex.eqW (w' := cst (u_tho (u_sk (u_nm (u_du S (PF (i + 1))) nm3) sk3) (uo_ye (PR i) y2)) ++ tl) rfl ?_
    rw [show uo_ye (PR i) y2 = PR (i + 1) from (by rw [hPs, ey2]; rfl)]
    refine x_iincN dX9_premium_49 rfl (by decide) ?_
    refine x_goto 13 dX9_premium_52 ?_
    exact ihi nm3 sk3
