set_option maxRecDepth 100000 in
set_option maxHeartbeats 4000000 in
theorem c_X10_image {X : Nat × (Nat → Int32)} {S : CS} {tl : pc_W} {T : MT} {ru : Int32} {ou : (Nat → Int32)} {we : (Nat → Int32)} {me : Int32} {ki : (Nat → Int32)} {ro : (Nat → Int32)} {ma : Int32} {Λ : ML} {C : MC} {ok : (Nat → Int32)} {wk : (Nat → Int32)} {rk : (Nat → Int32)} {mk : Int32} {nk : Int32} {uk : Int32} {H : MH} : Mt X 0 0 0 yX10_image cX10_image 2 (some .int) [.ref 42] (cst S ++ (mw T (ru, ou, we, me, ki, ro, ma) Λ C (ok, wk, rk, mk, nk, uk) H ++ tl)) (RI ma (cst S ++ (mw T (ru, ou, we, me, ki, ro, ma) Λ C ((wwM ou ok 3), (wwM we wk 8), (wwM ro rk 12), me, ma, ru) H ++ tl))) := by
  refine Mt.of (by decide +kernel) (fun _ _ => Nat.le_of_ble_eq_true rfl) ?_
  show Ex X mX10_image _ _ _ _ _ _ _ _
  refine x_iconst 0 dX10_image_0 ?_
  refine x_istore_n dX10_image_1 (by decide) ?_
  refine Ex.eqW (w' := (cst S ++ (mw T (ru, ou, we, me, ki, ro, ma) Λ C ((wwM ou ok 0), wk, rk, mk, nk, uk) H ++ tl))) (by rw [wwM_0]) ?_
  refine Ex.forget (L' := [some (.ref 42), some (.int (nI 0))]) ⟨rfl, rfl, trivial⟩ ?_
  refine for_up (P := fun i => Ex X mX10_image 0 (RI ma (cst S ++ (mw T (ru, ou, we, me, ki, ro, ma) Λ C ((wwM ou ok 3), (wwM we wk 8), (wwM ro rk 12), me, ma, ru) H ++ tl))) 0 0 2 [some (.ref 42), some (.int (nI i))] [] (cst S ++ (mw T (ru, ou, we, me, ki, ro, ma) Λ C ((wwM ou ok i), wk, rk, mk, nk, uk) H ++ tl))) (3) ?_ (fun i hi ih => ?_) (0) (by decide)
  · refine x_iload_n dX10_image_2 rfl ?_
    refine x_iconst 3 dX10_image_3 ?_
    refine x_icmp_ge 25 dX10_image_4 (fun _ => ?_) (fun hx => absurd (by decide) hx)
    refine x_iconst 0 dX10_image_25 ?_
    refine x_istore_n dX10_image_26 (by decide) ?_
    refine Ex.eqW (w' := (cst S ++ (mw T (ru, ou, we, me, ki, ro, ma) Λ C ((wwM ou ok 3), (wwM we wk 0), rk, mk, nk, uk) H ++ tl))) (by rw [wwM_0]) ?_
    refine Ex.forget (L' := [some (.ref 42), some (.int (nI 0))]) ⟨rfl, rfl, trivial⟩ ?_
    refine for_up (P := fun i => Ex X mX10_image 0 (RI ma (cst S ++ (mw T (ru, ou, we, me, ki, ro, ma) Λ C ((wwM ou ok 3), (wwM we wk 8), (wwM ro rk 12), me, ma, ru) H ++ tl))) 0 0 27 [some (.ref 42), some (.int (nI i))] [] (cst S ++ (mw T (ru, ou, we, me, ki, ro, ma) Λ C ((wwM ou ok 3), (wwM we wk i), rk, mk, nk, uk) H ++ tl))) (8) ?_ (fun i hi ih => ?_) (0) (by decide)
    · refine x_iload_n dX10_image_27 rfl ?_
      refine x_bipush 8 dX10_image_28 ?_
      refine x_icmp_ge 51 dX10_image_30 (fun _ => ?_) (fun hx => absurd (by decide) hx)
      refine x_iconst 0 dX10_image_51 ?_
      refine x_istore_n dX10_image_52 (by decide) ?_
      refine Ex.eqW (w' := (cst S ++ (mw T (ru, ou, we, me, ki, ro, ma) Λ C ((wwM ou ok 3), (wwM we wk 8), (wwM ro rk 0), mk, nk, uk) H ++ tl))) (by rw [wwM_0]) ?_
      refine Ex.forget (L' := [some (.ref 42), some (.int (nI 0))]) ⟨rfl, rfl, trivial⟩ ?_
      refine for_up (P := fun i => Ex X mX10_image 0 (RI ma (cst S ++ (mw T (ru, ou, we, me, ki, ro, ma) Λ C ((wwM ou ok 3), (wwM we wk 8), (wwM ro rk 12), me, ma, ru) H ++ tl))) 0 0 53 [some (.ref 42), some (.int (nI i))] [] (cst S ++ (mw T (ru, ou, we, me, ki, ro, ma) Λ C ((wwM ou ok 3), (wwM we wk 8), (wwM ro rk i), mk, nk, uk) H ++ tl))) (12) ?_ (fun i hi ih => ?_) (0) (by decide)
      · refine x_iload_n dX10_image_53 rfl ?_
        refine x_bipush 12 dX10_image_54 ?_
        refine x_icmp_ge 77 dX10_image_56 (fun _ => ?_) (fun hx => absurd (by decide) hx)
        refine x_aload_n dX10_image_77 rfl ?_
        refine x_aload_n dX10_image_78 rfl ?_
        refine mg_113 dX10_image_79 ?_
        refine mp_424 dX10_image_82 ?_
        refine x_aload_n dX10_image_85 rfl ?_
        refine x_aload_n dX10_image_86 rfl ?_
        refine mg_73 dX10_image_87 ?_
        refine mp_50 dX10_image_90 ?_
        refine x_aload_n dX10_image_93 rfl ?_
        refine x_aload_n dX10_image_94 rfl ?_
        refine mg_116 dX10_image_95 ?_
        refine mp_427 dX10_image_98 ?_
        refine x_aload_n dX10_image_101 rfl ?_
        refine mg_73 dX10_image_102 ?_
        exact Ex.ret (v := some (.int _)) ⟨dX10_image_105, _, rfl, by first | rfl | decide⟩ ⟨congrArg (fun z => some (Value.int z)) (by rfl), rfl⟩
      · refine x_iload_n dX10_image_53 rfl ?_
        refine x_bipush 12 dX10_image_54 ?_
        refine x_icmp_ge 77 dX10_image_56 (fun hx => absurd hx (nI_ge hi (by decide))) (fun _ => ?_)
        refine x_aload_n dX10_image_59 rfl ?_
        refine mg_47 dX10_image_60 ?_
        refine x_iload_n dX10_image_63 rfl ?_
        refine x_aload_n dX10_image_64 rfl ?_
        refine mg_32 dX10_image_65 ?_
        refine x_iload_n dX10_image_68 rfl ?_
        refine maN_49 dX10_image_69 hi ?_
        refine msN_54 dX10_image_70 hi ?_
        refine x_iincN dX10_image_71 rfl (by decide) ?_
        refine x_goto 53 dX10_image_74 ?_
        refine Ex.eqW (w' := (cst S ++ (mw T (ru, ou, we, me, ki, ro, ma) Λ C ((wwM ou ok 3), (wwM we wk 8), (wwM ro rk (i + 1)), mk, nk, uk) H ++ tl))) (by rw [← wwM_s ro rk i]) ?_
        exact ih
    · refine x_iload_n dX10_image_27 rfl ?_
      refine x_bipush 8 dX10_image_28 ?_
      refine x_icmp_ge 51 dX10_image_30 (fun hx => absurd hx (nI_ge hi (by decide))) (fun _ => ?_)
      refine x_aload_n dX10_image_33 rfl ?_
      refine mg_44 dX10_image_34 ?_
      refine x_iload_n dX10_image_37 rfl ?_
      refine x_aload_n dX10_image_38 rfl ?_
      refine mg_26 dX10_image_39 ?_
      refine x_iload_n dX10_image_42 rfl ?_
      refine maN_47 dX10_image_43 hi ?_
      refine msN_53 dX10_image_44 hi ?_
      refine x_iincN dX10_image_45 rfl (by decide) ?_
      refine x_goto 27 dX10_image_48 ?_
      refine Ex.eqW (w' := (cst S ++ (mw T (ru, ou, we, me, ki, ro, ma) Λ C ((wwM ou ok 3), (wwM we wk (i + 1)), rk, mk, nk, uk) H ++ tl))) (by rw [← wwM_s we wk i]) ?_
      exact ih
  · refine x_iload_n dX10_image_2 rfl ?_
    refine x_iconst 3 dX10_image_3 ?_
    refine x_icmp_ge 25 dX10_image_4 (fun hx => absurd hx (nI_ge hi (by decide))) (fun _ => ?_)
    refine x_aload_n dX10_image_7 rfl ?_
    refine mg_41 dX10_image_8 ?_
    refine x_iload_n dX10_image_11 rfl ?_
    refine x_aload_n dX10_image_12 rfl ?_
    refine mg_23 dX10_image_13 ?_
    refine x_iload_n dX10_image_16 rfl ?_
    refine maN_46 dX10_image_17 hi ?_
    refine msN_52 dX10_image_18 hi ?_
    refine x_iincN dX10_image_19 rfl (by decide) ?_
    refine x_goto 2 dX10_image_22 ?_
    refine Ex.eqW (w' := (cst S ++ (mw T (ru, ou, we, me, ki, ro, ma) Λ C ((wwM ou ok (i + 1)), wk, rk, mk, nk, uk) H ++ tl))) (by rw [← wwM_s ou ok i]) ?_
    exact ih
def bkU (U : MU) (K : MK) : MU := if K.2.2.2.2.1 = -1 then U else (K.2.2.2.2.2, wwM K.1 U.2.1 3, wwM K.2.1 U.2.2.1 8, K.2.2.2.1, U.2.2.2.2.1, wwM K.2.2.1 U.2.2.2.2.2.1 12, K.2.2.2.2.1)
set_option maxRecDepth 100000 in
set_option maxHeartbeats 4000000 in
theorem c_X10_back {X : Nat × (Nat → Int32)} {S : CS} {tl : pc_W} {T : MT} {ru : Int32} {ou : (Nat → Int32)} {we : (Nat → Int32)} {me : Int32} {ki : (Nat → Int32)} {ro : (Nat → Int32)} {ma : Int32} {Λ : ML} {C : MC} {ok : (Nat → Int32)} {wk : (Nat → Int32)} {rk : (Nat → Int32)} {mk : Int32} {nk : Int32} {uk : Int32} {H : MH} : Mt X 0 0 0 yX10_back cX10_back 2 (some .int) [.ref 42] (cst S ++ (mw T (ru, ou, we, me, ki, ro, ma) Λ C (ok, wk, rk, mk, nk, uk) H ++ tl)) (RI (if nk = -1 then -3 else nk) (cst S ++ (mw T (bkU (ru, ou, we, me, ki, ro, ma) (ok, wk, rk, mk, nk, uk)) Λ C (ok, wk, rk, mk, nk, uk) H ++ tl))) := by
  refine Mt.of (by decide +kernel) (fun _ _ => Nat.le_of_ble_eq_true rfl) ?_
  show Ex X mX10_back _ _ _ _ _ _ _ _
  refine x_aload_n dX10_back_0 rfl ?_
  refine mg_50 dX10_back_1 ?_
  refine x_iconst (-1) dX10_back_4 ?_
  refine x_icmp_ne 11 dX10_back_5 (fun h_5 => ?_) (fun h_5 => ?_)
  · rw [if_neg h_5, show bkU (ru, ou, we, me, ki, ro, ma) (ok, wk, rk, mk, nk, uk) = (uk, wwM ok ou 3, wwM wk we 8, mk, ki, wwM rk ro 12, nk) from if_neg h_5]
    refine x_iconst 0 dX10_back_11 ?_
    refine x_istore_n dX10_back_12 (by decide) ?_
    refine Ex.eqW (w' := (cst S ++ (mw T (ru, (wwM ok ou 0), we, me, ki, ro, ma) Λ C (ok, wk, rk, mk, nk, uk) H ++ tl))) (by rw [wwM_0]) ?_
    refine Ex.forget (L' := [some (.ref 42), some (.int (nI 0))]) ⟨rfl, rfl, trivial⟩ ?_
    refine for_up (P := fun i => Ex X mX10_back 0 (RI nk (cst S ++ (mw T (uk, wwM ok ou 3, wwM wk we 8, mk, ki, wwM rk ro 12, nk) Λ C (ok, wk, rk, mk, nk, uk) H ++ tl))) 0 0 13 [some (.ref 42), some (.int (nI i))] [] (cst S ++ (mw T (ru, (wwM ok ou i), we, me, ki, ro, ma) Λ C (ok, wk, rk, mk, nk, uk) H ++ tl))) (3) ?_ (fun i hi ih => ?_) (0) (by decide)
    · refine x_iload_n dX10_back_13 rfl ?_
      refine x_iconst 3 dX10_back_14 ?_
      refine x_icmp_ge 36 dX10_back_15 (fun _ => ?_) (fun hx => absurd (by decide) hx)
      refine x_iconst 0 dX10_back_36 ?_
      refine x_istore_n dX10_back_37 (by decide) ?_
      refine Ex.eqW (w' := (cst S ++ (mw T (ru, (wwM ok ou 3), (wwM wk we 0), me, ki, ro, ma) Λ C (ok, wk, rk, mk, nk, uk) H ++ tl))) (by rw [wwM_0]) ?_
      refine Ex.forget (L' := [some (.ref 42), some (.int (nI 0))]) ⟨rfl, rfl, trivial⟩ ?_
      refine for_up (P := fun i => Ex X mX10_back 0 (RI nk (cst S ++ (mw T (uk, wwM ok ou 3, wwM wk we 8, mk, ki, wwM rk ro 12, nk) Λ C (ok, wk, rk, mk, nk, uk) H ++ tl))) 0 0 38 [some (.ref 42), some (.int (nI i))] [] (cst S ++ (mw T (ru, (wwM ok ou 3), (wwM wk we i), me, ki, ro, ma) Λ C (ok, wk, rk, mk, nk, uk) H ++ tl))) (8) ?_ (fun i hi ih => ?_) (0) (by decide)
      · refine x_iload_n dX10_back_38 rfl ?_
        refine x_bipush 8 dX10_back_39 ?_
        refine x_icmp_ge 62 dX10_back_41 (fun _ => ?_) (fun hx => absurd (by decide) hx)
        refine x_iconst 0 dX10_back_62 ?_
        refine x_istore_n dX10_back_63 (by decide) ?_
        refine Ex.eqW (w' := (cst S ++ (mw T (ru, (wwM ok ou 3), (wwM wk we 8), me, ki, (wwM rk ro 0), ma) Λ C (ok, wk, rk, mk, nk, uk) H ++ tl))) (by rw [wwM_0]) ?_
        refine Ex.forget (L' := [some (.ref 42), some (.int (nI 0))]) ⟨rfl, rfl, trivial⟩ ?_
        refine for_up (P := fun i => Ex X mX10_back 0 (RI nk (cst S ++ (mw T (uk, wwM ok ou 3, wwM wk we 8, mk, ki, wwM rk ro 12, nk) Λ C (ok, wk, rk, mk, nk, uk) H ++ tl))) 0 0 64 [some (.ref 42), some (.int (nI i))] [] (cst S ++ (mw T (ru, (wwM ok ou 3), (wwM wk we 8), me, ki, (wwM rk ro i), ma) Λ C (ok, wk, rk, mk, nk, uk) H ++ tl))) (12) ?_ (fun i hi ih => ?_) (0) (by decide)
        · refine x_iload_n dX10_back_64 rfl ?_
          refine x_bipush 12 dX10_back_65 ?_
          refine x_icmp_ge 88 dX10_back_67 (fun _ => ?_) (fun hx => absurd (by decide) hx)
          refine x_aload_n dX10_back_88 rfl ?_
          refine x_aload_n dX10_back_89 rfl ?_
          refine mg_424 dX10_back_90 ?_
          refine mp_113 dX10_back_93 ?_
          refine x_aload_n dX10_back_96 rfl ?_
          refine x_aload_n dX10_back_97 rfl ?_
          refine mg_50 dX10_back_98 ?_
          refine mp_73 dX10_back_101 ?_
          refine x_aload_n dX10_back_104 rfl ?_
          refine x_aload_n dX10_back_105 rfl ?_
          refine mg_427 dX10_back_106 ?_
          refine mp_116 dX10_back_109 ?_
          refine x_aload_n dX10_back_112 rfl ?_
          refine mg_73 dX10_back_113 ?_
          exact Ex.ret (v := some (.int _)) ⟨dX10_back_116, _, rfl, by first | rfl | decide⟩ ⟨congrArg (fun z => some (Value.int z)) (by rfl), rfl⟩
        · refine x_iload_n dX10_back_64 rfl ?_
          refine x_bipush 12 dX10_back_65 ?_
          refine x_icmp_ge 88 dX10_back_67 (fun hx => absurd hx (nI_ge hi (by decide))) (fun _ => ?_)
          refine x_aload_n dX10_back_70 rfl ?_
          refine mg_32 dX10_back_71 ?_
          refine x_iload_n dX10_back_74 rfl ?_
          refine x_aload_n dX10_back_75 rfl ?_
          refine mg_47 dX10_back_76 ?_
          refine x_iload_n dX10_back_79 rfl ?_
          refine maN_54 dX10_back_80 hi ?_
          refine msN_49 dX10_back_81 hi ?_
          refine x_iincN dX10_back_82 rfl (by decide) ?_
          refine x_goto 64 dX10_back_85 ?_
          refine Ex.eqW (w' := (cst S ++ (mw T (ru, (wwM ok ou 3), (wwM wk we 8), me, ki, (wwM rk ro (i + 1)), ma) Λ C (ok, wk, rk, mk, nk, uk) H ++ tl))) (by rw [← wwM_s rk ro i]) ?_
          exact ih
      · refine x_iload_n dX10_back_38 rfl ?_
        refine x_bipush 8 dX10_back_39 ?_
        refine x_icmp_ge 62 dX10_back_41 (fun hx => absurd hx (nI_ge hi (by decide))) (fun _ => ?_)
        refine x_aload_n dX10_back_44 rfl ?_
        refine mg_26 dX10_back_45 ?_
        refine x_iload_n dX10_back_48 rfl ?_
        refine x_aload_n dX10_back_49 rfl ?_
        refine mg_44 dX10_back_50 ?_
        refine x_iload_n dX10_back_53 rfl ?_
        refine maN_53 dX10_back_54 hi ?_
        refine msN_47 dX10_back_55 hi ?_
        refine x_iincN dX10_back_56 rfl (by decide) ?_
        refine x_goto 38 dX10_back_59 ?_
        refine Ex.eqW (w' := (cst S ++ (mw T (ru, (wwM ok ou 3), (wwM wk we (i + 1)), me, ki, ro, ma) Λ C (ok, wk, rk, mk, nk, uk) H ++ tl))) (by rw [← wwM_s wk we i]) ?_
        exact ih
    · refine x_iload_n dX10_back_13 rfl ?_
      refine x_iconst 3 dX10_back_14 ?_
      refine x_icmp_ge 36 dX10_back_15 (fun hx => absurd hx (nI_ge hi (by decide))) (fun _ => ?_)
      refine x_aload_n dX10_back_18 rfl ?_
      refine mg_23 dX10_back_19 ?_
      refine x_iload_n dX10_back_22 rfl ?_
      refine x_aload_n dX10_back_23 rfl ?_
      refine mg_41 dX10_back_24 ?_
      refine x_iload_n dX10_back_27 rfl ?_
      refine maN_52 dX10_back_28 hi ?_
      refine msN_46 dX10_back_29 hi ?_
      refine x_iincN dX10_back_30 rfl (by decide) ?_
      refine x_goto 13 dX10_back_33 ?_
      refine Ex.eqW (w' := (cst S ++ (mw T (ru, (wwM ok ou (i + 1)), we, me, ki, ro, ma) Λ C (ok, wk, rk, mk, nk, uk) H ++ tl))) (by rw [← wwM_s ok ou i]) ?_
      exact ih
  · refine x_bipush (-3) dX10_back_8 ?_
    exact Ex.ret (v := some (.int _)) ⟨dX10_back_10, _, rfl, by first | rfl | decide⟩ ⟨congrArg (fun z => some (Value.int z)) (by rw [if_pos h_5]), by rw [show bkU (ru, ou, we, me, ki, ro, ma) (ok, wk, rk, mk, nk, uk) = (ru, ou, we, me, ki, ro, ma) from if_pos h_5]⟩
def zrM (is : Nat → Int32) (k i : Nat) : Nat → Int32 := fun j => if 40 * k ≤ j ∧ j < 40 * k + i then 0 else is j
theorem zrM_0 (is : Nat → Int32) (k : Nat) : zrM is k 0 = is := by
  funext j
  unfold zrM
  rw [if_neg (by omega)]
theorem zrM_s (is : Nat → Int32) (k i : Nat) : upd (zrM is k i) (40 * k + i) 0 = zrM is k (i + 1) := by
  funext j
  unfold zrM upd
  by_cases h : j = 40 * k + i
  · rw [if_pos h, if_pos (by omega)]
  · rw [if_neg h]
    show (if 40 * k ≤ j ∧ j < 40 * k + i then 0 else is j) = _
    by_cases h2 : 40 * k ≤ j ∧ j < 40 * k + i
    · rw [if_pos h2, if_pos (by omega)]
    · rw [if_neg h2, if_neg (by omega)]
def shH (H : MH) (a sr n : Int32) : MH := if shF a sr n = 1 then (upd H.1 a.toNatClampNeg (if sr < 0 then 0 else 1), upd H.2.1 a.toNatClampNeg sr, upd H.2.2.1 a.toNatClampNeg n, if sr < 0 then H.2.2.2 else zrM H.2.2.2 a.toNatClampNeg n.toNatClampNeg) else H
theorem sr_m1 {x : Int32} (h1 : -1 ≤ x) (h2 : x < 0) : x = -1 := by
  simp only [Int32.le_iff_toInt_le, Int32.lt_iff_toInt_lt, ← Int32.toInt_inj, tI_m1, tI_0] at *
  omega
theorem sr_0 {x : Int32} (h : ¬ x < 0) : 0 ≤ x := Int32.not_lt.mp h
theorem shBad_iff {a sr : Int32} : shBad a sr ↔ ¬ (0 ≤ a ∧ a < 4) ∨ ¬ (-1 ≤ sr ∧ sr ≤ 2) := by
  unfold shBad
  constructor
  · rintro (h | ⟨h1, h2⟩)
    · exact Or.inl h
    · refine Or.inr (fun q => h2 ⟨?_, q.2⟩)
      by_cases z : sr < 0
      · exact absurd (sr_m1 q.1 z) h1
      · exact sr_0 z
  · rintro (h | h)
    · exact Or.inl h
    · refine Or.inr ⟨fun q => h (by rw [q]; decide), fun q => h ⟨Int32.le_trans (by decide) q.1, q.2⟩⟩
set_option maxRecDepth 100000 in
set_option maxHeartbeats 4000000 in
theorem c_X10_sheet {X : Nat × (Nat → Int32)} {S : CS} {tl : pc_W} {T : MT} {U : MU} {Λ : ML} {C : MC} {K : MK} {it : (Nat → Int32)} {so : (Nat → Int32)} {ss : (Nat → Int32)} {is : (Nat → Int32)} {a sr n : Int32} : Mt X 2 0 0 yX10_sheet cX10_sheet 5 (some .int) [.ref 42, .int a, .int sr, .int n] (cst S ++ (mw T U Λ C K (it, so, ss, is) ++ tl)) (RI (shF a sr n) (cst S ++ (mw T U Λ C K (shH (it, so, ss, is) a sr n) ++ tl))) := by
  refine Mt.of (by decide +kernel) (fun _ _ => Nat.le_of_ble_eq_true rfl) ?_
  show Ex X mX10_sheet _ _ _ _ _ _ _ _
  refine x_iload_n dX10_sheet_0 rfl ?_
  refine ii_X10_405 dX10_sheet_1 c_X10_isSheet (by decide) (Nat.le_of_ble_eq_true rfl) ?_
  refine x_if_eq 31 dX10_sheet_4 (fun h_4 => ?_) (fun h_4 => ?_)
  · refine x_bipush (-2) dX10_sheet_31 ?_
    have hF : shF a sr n = -2 := by rw [shF, if_pos (shBad_iff.mpr (Or.inl (bi0.mp h_4)))]
    exact Ex.ret (v := some (.int _)) ⟨dX10_sheet_33, _, rfl, by first | rfl | decide⟩ ⟨congrArg (fun z => some (Value.int z)) (hF.symm), by rw [shH, hF, if_neg (by decide)]⟩
  · refine x_iload_n dX10_sheet_7 rfl ?_
    refine x_i2l dX10_sheet_8 ?_
    refine x_ldc2_w dX10_sheet_9 kk_X10_432 ?_
    refine x_ldc2_w dX10_sheet_12 kk_X10_378 ?_
    refine ii_X10_76 dX10_sheet_15 (c_X10_inC (a := (-1)) (b := 2) (by first | rfl | decide) (by first | rfl | decide)) (by decide) (Nat.le_of_ble_eq_true rfl) ?_
    refine x_if_eq 31 dX10_sheet_18 (fun h_18 => ?_) (fun h_18 => ?_)
    · refine x_bipush (-2) dX10_sheet_31 ?_
      have hF : shF a sr n = -2 := by rw [shF, if_pos (shBad_iff.mpr (Or.inr (bi0.mp h_18)))]
      exact Ex.ret (v := some (.int _)) ⟨dX10_sheet_33, _, rfl, by first | rfl | decide⟩ ⟨congrArg (fun z => some (Value.int z)) (hF.symm), by rw [shH, hF, if_neg (by decide)]⟩
    · refine x_iload_n dX10_sheet_21 rfl ?_
      refine x_if_lt 34 dX10_sheet_22 (fun h_22 => ?_) (fun h_22 => ?_)
      · have ho := bi1.mp h_4
        have hsr := bi1.mp h_18
        have hgd : ¬ shBad a sr := fun q => (shBad_iff.mp q).elim (fun y => y ho) (fun y => y hsr)
        obtain ⟨k, hk, rfl⟩ := nat_of ho.1 (show a < nI 4 from ho.2) (by omega)
        have hcl : (nI k).toNatClampNeg = k := nI_clamp (by omega)
        have hm1 : sr = -1 := sr_m1 hsr.1 h_22
        have hF : shF (nI k) sr n = 1 := by rw [shF, if_neg hgd, if_pos hm1]
        refine x_iload_n dX10_sheet_34 rfl ?_
        refine x_if_lt 45 dX10_sheet_35 (fun _ => ?_) (fun hx => absurd (h_22) hx)
        refine x_aload_n dX10_sheet_45 rfl ?_
        refine mg_53 dX10_sheet_46 ?_
        refine x_iload_n dX10_sheet_49 rfl ?_
        refine x_iload_n dX10_sheet_50 rfl ?_
        refine x_if_lt 58 dX10_sheet_51 (fun _ => ?_) (fun hx => absurd (h_22) hx)
        refine x_iconst 0 dX10_sheet_58 ?_
        refine ms_55 dX10_sheet_59 (vin hk (by decide)) ?_
        rw [hcl]
        refine x_aload_n dX10_sheet_60 rfl ?_
        refine mg_57 dX10_sheet_61 ?_
        refine x_iload_n dX10_sheet_64 rfl ?_
        refine x_iload_n dX10_sheet_65 rfl ?_
        refine msN_56 dX10_sheet_66 hk ?_
        refine x_aload_n dX10_sheet_67 rfl ?_
        refine mg_60 dX10_sheet_68 ?_
        refine x_iload_n dX10_sheet_71 rfl ?_
        refine x_iload_n dX10_sheet_72 rfl ?_
        refine msN_57 dX10_sheet_73 hk ?_
        refine x_iconst 0 dX10_sheet_74 ?_
        refine x_istore dX10_sheet_75 (by decide) ?_
        refine x_iload dX10_sheet_77 rfl ?_
        refine x_iload_n dX10_sheet_79 rfl ?_
        refine x_icmp_ge 106 dX10_sheet_80 (fun h_80 => ?_) (fun h_80 => ?_)
        · refine x_iconst 1 dX10_sheet_106 ?_
          exact Ex.ret (v := some (.int _)) ⟨dX10_sheet_107, _, rfl, by first | rfl | decide⟩ ⟨congrArg (fun z => some (Value.int z)) (hF.symm), by rw [shH, hF, if_pos rfl, hcl, if_pos h_22, if_pos h_22]; rfl⟩
        · refine x_iload_n dX10_sheet_83 rfl ?_
          refine x_if_lt 106 dX10_sheet_84 (fun _ => ?_) (fun hx => absurd (h_22) hx)
          refine x_iconst 1 dX10_sheet_106 ?_
          exact Ex.ret (v := some (.int _)) ⟨dX10_sheet_107, _, rfl, by first | rfl | decide⟩ ⟨congrArg (fun z => some (Value.int z)) (hF.symm), by rw [shH, hF, if_pos rfl, hcl, if_pos h_22, if_pos h_22]; rfl⟩
      · refine x_iload_n dX10_sheet_25 rfl ?_
        refine x_bipush 40 dX10_sheet_26 ?_
        refine x_icmp_le 34 dX10_sheet_28 (fun h_28 => ?_) (fun h_28 => ?_)
        · have ho := bi1.mp h_4
          have hsr := bi1.mp h_18
          have hgd : ¬ shBad a sr := fun q => (shBad_iff.mp q).elim (fun y => y ho) (fun y => y hsr)
          obtain ⟨k, hk, rfl⟩ := nat_of ho.1 (show a < nI 4 from ho.2) (by omega)
          have hcl : (nI k).toNatClampNeg = k := nI_clamp (by omega)
          have hm1 : ¬ sr = -1 := fun q => h_22 (by rw [q]; decide)
          refine x_iload_n dX10_sheet_34 rfl ?_
          refine x_if_lt 45 dX10_sheet_35 (fun hx => absurd hx (h_22)) (fun _ => ?_)
          refine x_iload_n dX10_sheet_38 rfl ?_
          refine x_if_ge 45 dX10_sheet_39 (fun h_39 => ?_) (fun h_39 => ?_)
          · refine x_aload_n dX10_sheet_45 rfl ?_
            refine mg_53 dX10_sheet_46 ?_
            refine x_iload_n dX10_sheet_49 rfl ?_
            refine x_iload_n dX10_sheet_50 rfl ?_
            refine x_if_lt 58 dX10_sheet_51 (fun hx => absurd hx (h_22)) (fun _ => ?_)
            refine x_iconst 1 dX10_sheet_54 ?_
            refine x_goto 59 dX10_sheet_55 ?_
            refine ms_55 dX10_sheet_59 (vin hk (by decide)) ?_
            rw [hcl]
            refine x_aload_n dX10_sheet_60 rfl ?_
            refine mg_57 dX10_sheet_61 ?_
            refine x_iload_n dX10_sheet_64 rfl ?_
            refine x_iload_n dX10_sheet_65 rfl ?_
            refine msN_56 dX10_sheet_66 hk ?_
            refine x_aload_n dX10_sheet_67 rfl ?_
            refine mg_60 dX10_sheet_68 ?_
            refine x_iload_n dX10_sheet_71 rfl ?_
            refine x_iload_n dX10_sheet_72 rfl ?_
            refine msN_57 dX10_sheet_73 hk ?_
            refine x_iconst 0 dX10_sheet_74 ?_
            refine x_istore dX10_sheet_75 (by decide) ?_
            obtain ⟨m, hm, rfl⟩ := nat_of (x := n) (n := 41) h_39 (Int32.lt_of_le_of_lt h_28 (by decide)) (by decide)
            have hcm : (nI m).toNatClampNeg = m := nI_clamp (by omega)
            have hF : shF (nI k) sr (nI m) = 1 := by rw [shF, if_neg hgd, if_neg hm1, if_neg (Int32.not_lt.mpr h_28), if_neg (Int32.not_lt.mpr h_39)]
            refine Ex.eqW (w' := (cst S ++ (mw T U Λ C K (upd it k 1, upd so k sr, upd ss k (nI m), zrM is k 0) ++ tl))) (by rw [zrM_0]; rfl) ?_
            refine for_up (P := fun i => Ex X mX10_sheet 2 (RI (shF (nI k) sr (nI m)) (cst S ++ (mw T U Λ C K (shH (it, so, ss, is) (nI k) sr (nI m)) ++ tl))) 0 0 77 [some (.ref 42), some (.int (nI k)), some (.int sr), some (.int (nI m)), some (.int (nI i))] [] (cst S ++ (mw T U Λ C K (upd it k 1, upd so k sr, upd ss k (nI m), zrM is k i) ++ tl))) (m) ?_ (fun i hi ih => ?_) (0) (Nat.zero_le _)
            · refine x_iload dX10_sheet_77 rfl ?_
              refine x_iload_n dX10_sheet_79 rfl ?_
              refine x_icmp_ge 106 dX10_sheet_80 (fun _ => ?_) (fun hx => absurd (Int32.le_refl _) hx)
              refine x_iconst 1 dX10_sheet_106 ?_
              exact Ex.ret (v := some (.int _)) ⟨dX10_sheet_107, _, rfl, by first | rfl | decide⟩ ⟨congrArg (fun z => some (Value.int z)) (hF.symm), by rw [shH, hF, if_pos rfl, hcl, hcm, if_neg h_22, if_neg h_22]⟩
            · refine x_iload dX10_sheet_77 rfl ?_
              refine x_iload_n dX10_sheet_79 rfl ?_
              refine x_icmp_ge 106 dX10_sheet_80 (fun hx => absurd hx (nI_ge hi (by omega))) (fun _ => ?_)
              refine x_iload_n dX10_sheet_83 rfl ?_
              refine x_if_lt 106 dX10_sheet_84 (fun hx => absurd hx (h_22)) (fun _ => ?_)
              refine x_aload_n dX10_sheet_87 rfl ?_
              refine mg_63 dX10_sheet_88 ?_
              refine x_bipush 40 dX10_sheet_91 ?_
              refine x_iload_n dX10_sheet_93 rfl ?_
              refine x_imul dX10_sheet_94 ?_
              refine x_iload dX10_sheet_95 rfl ?_
              refine x_iadd dX10_sheet_97 ?_
              rw [show (40 : Int32) * nI k = nI (40 * k) from pk_mul 40 k, nI_add]
              refine x_iconst 0 dX10_sheet_98 ?_
              refine msN_58 dX10_sheet_99 (show 40 * k + i < 160 by omega) ?_
              refine x_iincN dX10_sheet_100 rfl (by decide) ?_
              refine x_goto 77 dX10_sheet_103 ?_
              refine Ex.eqW (w' := (cst S ++ (mw T U Λ C K (upd it k 1, upd so k sr, upd ss k (nI m), zrM is k (i + 1)) ++ tl))) (by rw [← zrM_s]) ?_
              exact ih
          · refine x_bipush (-14) dX10_sheet_42 ?_
            have hF : shF (nI k) sr n = -14 := by rw [shF, if_neg hgd, if_neg hm1, if_neg (Int32.not_lt.mpr h_28), if_pos (Int32.not_le.mp h_39)]
            exact Ex.ret (v := some (.int _)) ⟨dX10_sheet_44, _, rfl, by first | rfl | decide⟩ ⟨congrArg (fun z => some (Value.int z)) (hF.symm), by rw [shH, hF, if_neg (by decide)]⟩
        · refine x_bipush (-2) dX10_sheet_31 ?_
          have hF : shF a sr n = -2 := by rw [shF, if_neg (fun q => (shBad_iff.mp q).elim (fun y => y (bi1.mp h_4)) (fun y => y (bi1.mp h_18))), if_neg (fun q => h_22 (by rw [q]; decide)), if_pos (Int32.not_le.mp h_28)]
          exact Ex.ret (v := some (.int _)) ⟨dX10_sheet_33, _, rfl, by first | rfl | decide⟩ ⟨congrArg (fun z => some (Value.int z)) (hF.symm), by rw [shH, hF, if_neg (by decide)]⟩
def ceM (H : MH) (a i : Int32) : Int32 := if ¬ (0 ≤ a ∧ a < 4) then -2 else if H.1 a.toNatClampNeg = 0 then -11 else if ¬ (0 ≤ i ∧ i < H.2.2.1 a.toNatClampNeg) then -12 else 1
def ceH (H : MH) (a i v : Int32) : MH := if ceM H a i = 1 then (H.1, H.2.1, H.2.2.1, upd H.2.2.2 (40 * a.toNatClampNeg + i.toNatClampNeg) (wrV (H.2.1 a.toNatClampNeg) v)) else H
theorem ss_iff {ss i : Int32} {m : Nat} (hs : ss = nI m) (hm : m ≤ 40) : (0 ≤ i ∧ i ≤ ss - 1) ↔ (0 ≤ i ∧ i < ss) := by
  rw [hs]
  by_cases h0 : m = 0
  · subst h0
    exact ⟨fun q => absurd (Int32.le_trans q.1 q.2) (by decide), fun q => absurd q.2 (Int32.not_lt.mpr q.1)⟩
  · rw [isub1 (by omega)]
    constructor
    · rintro ⟨q1, q2⟩; exact ⟨q1, Int32.lt_of_le_of_lt q2 (nI_lt (by omega) (by omega))⟩
    · rintro ⟨q1, q2⟩
      obtain ⟨k, hk, rfl⟩ := nat_of q1 q2 (by omega)
      exact ⟨q1, nI_le (by omega) (by omega)⟩
set_option maxRecDepth 100000 in
set_option maxHeartbeats 4000000 in
theorem c_X10_cell {X : Nat × (Nat → Int32)} {S : CS} {tl : pc_W} {T : MT} {U : MU} {Λ : ML} {C : MC} {K : MK} {it : (Nat → Int32)} {so : (Nat → Int32)} {ss : (Nat → Int32)} {is : (Nat → Int32)} {a i v : Int32} (hss : ∀ k, k < 4 → ¬ it k = 0 → ∃ m, m ≤ 40 ∧ ss k = nI m): Mt X 2 0 0 yX10_cell cX10_cell 4 (some .int) [.ref 42, .int a, .int i, .int v] (cst S ++ (mw T U Λ C K (it, so, ss, is) ++ tl)) (RI (ceM (it, so, ss, is) a i) (cst S ++ (mw T U Λ C K (ceH (it, so, ss, is) a i v) ++ tl))) := by
  refine Mt.of (by decide +kernel) (fun _ _ => Nat.le_of_ble_eq_true rfl) ?_
  show Ex X mX10_cell _ _ _ _ _ _ _ _
  refine x_iload_n dX10_cell_0 rfl ?_
  refine ii_X10_405 dX10_cell_1 c_X10_isSheet (by decide) (Nat.le_of_ble_eq_true rfl) ?_
  refine x_if_ne 10 dX10_cell_4 (fun h_4 => ?_) (fun h_4 => ?_)
  · have ho := bi1.mp h_4
    obtain ⟨k, hk, rfl⟩ := nat_of ho.1 (show a < nI 4 from ho.2) (by omega)
    have hcl : (nI k).toNatClampNeg = k := nI_clamp (by omega)
    refine x_aload_n dX10_cell_10 rfl ?_
    refine mg_53 dX10_cell_11 ?_
    refine x_iload_n dX10_cell_14 rfl ?_
    refine maN_55 dX10_cell_15 hk ?_
    refine x_if_ne 22 dX10_cell_16 (fun h_16 => ?_) (fun h_16 => ?_)
    · obtain ⟨m, hm, em⟩ := hss k hk h_16
      refine x_iload_n dX10_cell_22 rfl ?_
      refine x_i2l dX10_cell_23 ?_
      refine x_lconst 0 dX10_cell_24 ?_
      refine x_aload_n dX10_cell_25 rfl ?_
      refine mg_60 dX10_cell_26 ?_
      refine x_iload_n dX10_cell_29 rfl ?_
      refine maN_57 dX10_cell_30 hk ?_
      refine x_iconst 1 dX10_cell_31 ?_
      refine x_isub dX10_cell_32 ?_
      refine x_i2l dX10_cell_33 ?_
      refine ii_X10_76 dX10_cell_34 (c_X10_inC (a := 0) (b := ss k - 1) (by first | rfl | decide) (by first | rfl | decide)) (by decide) (Nat.le_of_ble_eq_true rfl) ?_
      refine x_if_ne 43 dX10_cell_37 (fun h_37 => ?_) (fun h_37 => ?_)
      · have hio := (ss_iff em hm).mp (bi1.mp h_37)
        obtain ⟨j, hj, rfl⟩ := nat_of hio.1 (show i < nI m from by rw [← em]; exact hio.2) (by omega)
        have hclj : (nI j).toNatClampNeg = j := nI_clamp (by omega)
        refine x_aload_n dX10_cell_43 rfl ?_
        refine mg_63 dX10_cell_44 ?_
        refine x_bipush 40 dX10_cell_47 ?_
        refine x_iload_n dX10_cell_49 rfl ?_
        refine x_imul dX10_cell_50 ?_
        refine x_iload_n dX10_cell_51 rfl ?_
        refine x_iadd dX10_cell_52 ?_
        rw [show (40 : Int32) * nI k = nI (40 * k) from pk_mul 40 k, nI_add]
        refine x_aload_n dX10_cell_53 rfl ?_
        refine mg_57 dX10_cell_54 ?_
        refine x_iload_n dX10_cell_57 rfl ?_
        refine maN_56 dX10_cell_58 hk ?_
        refine x_if_ne 67 dX10_cell_59 (fun h_59 => ?_) (fun h_59 => ?_)
        · refine x_aload_n dX10_cell_67 rfl ?_
          refine mg_57 dX10_cell_68 ?_
          refine x_iload_n dX10_cell_71 rfl ?_
          refine maN_56 dX10_cell_72 hk ?_
          refine x_iconst 1 dX10_cell_73 ?_
          refine x_icmp_ne 82 dX10_cell_74 (fun h_74 => ?_) (fun h_74 => ?_)
          · refine x_iload_n dX10_cell_82 rfl ?_
            refine msN_58 dX10_cell_83 (show 40 * k + j < 160 by omega) ?_
            refine x_iconst 1 dX10_cell_84 ?_
            have hF : ceM (it, so, ss, is) (nI k) (nI j) = 1 := by unfold ceM; rw [if_neg (fun q => q ho), hcl, if_neg h_16, if_neg (fun q => q hio)]
            exact Ex.ret (v := some (.int _)) ⟨dX10_cell_85, _, rfl, by first | rfl | decide⟩ ⟨congrArg (fun z => some (Value.int z)) (hF.symm), by rw [ceH, hF, if_pos rfl, hcl, hclj, show wrV (so k) v = _ from by unfold wrV; rw [if_neg h_59, if_neg h_74]]⟩
          · refine x_iload_n dX10_cell_77 rfl ?_
            refine x_i2s dX10_cell_78 ?_
            refine x_goto 83 dX10_cell_79 ?_
            refine msN_58 dX10_cell_83 (show 40 * k + j < 160 by omega) ?_
            refine x_iconst 1 dX10_cell_84 ?_
            have hF : ceM (it, so, ss, is) (nI k) (nI j) = 1 := by unfold ceM; rw [if_neg (fun q => q ho), hcl, if_neg h_16, if_neg (fun q => q hio)]
            exact Ex.ret (v := some (.int _)) ⟨dX10_cell_85, _, rfl, by first | rfl | decide⟩ ⟨congrArg (fun z => some (Value.int z)) (hF.symm), by rw [ceH, hF, if_pos rfl, hcl, hclj, show wrV (so k) v = _ from by unfold wrV; rw [if_neg h_59, if_pos h_74]]⟩
        · refine x_iload_n dX10_cell_62 rfl ?_
          refine x_i2b dX10_cell_63 ?_
          refine x_goto 83 dX10_cell_64 ?_
          refine msN_58 dX10_cell_83 (show 40 * k + j < 160 by omega) ?_
          refine x_iconst 1 dX10_cell_84 ?_
          have hF : ceM (it, so, ss, is) (nI k) (nI j) = 1 := by unfold ceM; rw [if_neg (fun q => q ho), hcl, if_neg h_16, if_neg (fun q => q hio)]
          exact Ex.ret (v := some (.int _)) ⟨dX10_cell_85, _, rfl, by first | rfl | decide⟩ ⟨congrArg (fun z => some (Value.int z)) (hF.symm), by rw [ceH, hF, if_pos rfl, hcl, hclj, show wrV (so k) v = _ from by unfold wrV; rw [if_pos h_59]]⟩
      · refine x_bipush (-12) dX10_cell_40 ?_
        have hF : ceM (it, so, ss, is) (nI k) i = -12 := by unfold ceM; rw [if_neg (fun q => q ho), hcl, if_neg h_16, if_pos (fun q => bi0.mp h_37 ((ss_iff em hm).mpr q))]
        exact Ex.ret (v := some (.int _)) ⟨dX10_cell_42, _, rfl, by first | rfl | decide⟩ ⟨congrArg (fun z => some (Value.int z)) (hF.symm), by rw [ceH, hF, if_neg (by decide)]⟩
    · refine x_bipush (-11) dX10_cell_19 ?_
      have hF : ceM (it, so, ss, is) (nI k) i = -11 := by unfold ceM; rw [if_neg (fun q => q ho), hcl, if_pos h_16]
      exact Ex.ret (v := some (.int _)) ⟨dX10_cell_21, _, rfl, by first | rfl | decide⟩ ⟨congrArg (fun z => some (Value.int z)) (hF.symm), by rw [ceH, hF, if_neg (by decide)]⟩
  · refine x_bipush (-2) dX10_cell_7 ?_
    have hF : ceM (it, so, ss, is) a i = -2 := by unfold ceM; rw [if_pos (bi0.mp h_4)]
    exact Ex.ret (v := some (.int _)) ⟨dX10_cell_9, _, rfl, by first | rfl | decide⟩ ⟨congrArg (fun z => some (Value.int z)) (hF.symm), by rw [ceH, hF, if_neg (by decide)]⟩
def fiM (is : Nat → Int32) (k : Nat) (th : Nat → Int32) : Nat → (Nat → Int32)
  | 0 => zrM is k 8
  | i + 1 => upd (fiM is k th i) (40 * k + i) (th i)
abbrev fiC (z : Nat) (a one : Int32) : Prop := ¬ (0 ≤ a ∧ a < 4) ∨ ¬ (0 ≤ one ∧ one < nI z)
def fiH (H : MH) (k : Nat) (th : Nat → Int32) : MH := (upd H.1 k 1, upd H.2.1 k 0, upd H.2.2.1 k 8, fiM H.2.2.2 k th 8)
set_option maxRecDepth 100000 in
set_option maxHeartbeats 4000000 in
theorem c_X10_film {X : Nat × (Nat → Int32)} {S : CS} {tl : pc_W} {T : MT} {ru : Int32} {ou : (Nat → Int32)} {we : (Nat → Int32)} {me : Int32} {ki : (Nat → Int32)} {ro : (Nat → Int32)} {ma : Int32} {Λ : ML} {C : MC} {K : MK} {it : (Nat → Int32)} {so : (Nat → Int32)} {ss : (Nat → Int32)} {is : (Nat → Int32)} {τ : TV} {r z : Nat} {a one : Int32} (hX : TXm τ T.1 T.2.1 r) (hru : ru = nI r) (hz : ma = nI z) (hz6 : z ≤ 6): Mt X 46 0 0 yX10_film cX10_film 4 (some .int) [.ref 42, .int a, .int one] (cst S ++ (mw T (ru, ou, we, me, ki, ro, ma) Λ C K (it, so, ss, is) ++ tl)) (fun v w' => ∃ Λ' : ML, v = some (.int (if fiC z a one then -1000000 else moF τ (mO (ru, ou, we, me, ki, ro, ma)) r one.toNatClampNeg)) ∧ w' = cst S ++ (mw T (ru, ou, we, me, ki, ro, ma) Λ' C K (if fiC z a one then (it, so, ss, is) else fiH (it, so, ss, is) a.toNatClampNeg (thF τ (mO (ru, ou, we, me, ki, ro, ma)) r one.toNatClampNeg)) ++ tl)) := by
  refine Mt.of (by decide +kernel) (fun _ _ => Nat.le_of_ble_eq_true rfl) ?_
  show Ex X mX10_film _ _ _ _ _ _ _ _
  refine x_iload_n dX10_film_0 rfl ?_
  refine ii_X10_405 dX10_film_1 c_X10_isSheet (by decide) (Nat.le_of_ble_eq_true rfl) ?_
  refine x_if_eq 15 dX10_film_4 (fun h_4 => ?_) (fun h_4 => ?_)
  · refine x_ldc dX10_film_15 kk_X10_104 ?_
    exact Ex.ret (v := some (.int _)) ⟨dX10_film_17, _, rfl, by first | rfl | decide⟩ ⟨_, congrArg (fun z => some (Value.int z)) (by rw [if_pos (Or.inl (bi0.mp h_4))]), by rw [if_pos (Or.inl (bi0.mp h_4))]⟩
  · refine x_aload_n dX10_film_7 rfl ?_
    refine x_iload_n dX10_film_8 rfl ?_
    refine ii_X10_86 dX10_film_9 (c_X10_isOne hz hz6) mw_o (by decide) (Nat.le_of_ble_eq_true rfl) ?_
    refine x_if_ne 18 dX10_film_12 (fun h_12 => ?_) (fun h_12 => ?_)
    · have ho := bi1.mp h_4
      have hon := bi1.mp h_12
      rw [if_neg (fun q => q.elim (fun y => y ho) (fun y => y hon)), if_neg (fun q => q.elim (fun y => y ho) (fun y => y hon))]
      obtain ⟨k, hk, rfl⟩ := nat_of ho.1 (show a < nI 4 from ho.2) (by omega)
      obtain ⟨p, hpz, rfl⟩ := nat_of hon.1 hon.2 (by omega)
      have hp : p < 6 := by omega
      rw [nI_clamp (show k < 2 ^ 31 by omega), nI_clamp (show p < 2 ^ 31 by omega)]
      have hs1 : shF (nI k) 0 8 = 1 := by rw [shF, if_neg (fun q => (shBad_iff.mp q).elim (fun y => y ho) (fun y => y (by decide))), if_neg (by decide), if_neg (by decide), if_neg (by decide)]
      have hs2 : shH (it, so, ss, is) (nI k) 0 8 = (upd it k 1, upd so k 0, upd ss k 8, fiM is k (thF τ (mO (ru, ou, we, me, ki, ro, ma)) r p) 0) := by rw [shH, hs1, if_pos rfl, nI_clamp (show k < 2 ^ 31 by omega)]; rfl
      refine x_aload_n dX10_film_18 rfl ?_
      refine x_iload_n dX10_film_19 rfl ?_
      refine x_iconst 0 dX10_film_20 ?_
      refine x_bipush 8 dX10_film_21 ?_
      refine ii_X10_415 dX10_film_23 c_X10_sheet mw_o (by decide) (Nat.le_of_ble_eq_true rfl) ?_
      refine x_pop dX10_film_26 ?_
      refine x_iconst 0 dX10_film_27 ?_
      refine x_istore_n dX10_film_28 (by decide) ?_
      rw [hs2]
      refine for_up (P := fun i => ∀ Λ : ML, Ex X mX10_film 46 (fun v w' => ∃ Λ' : ML, v = some (.int (moF τ (mO (ru, ou, we, me, ki, ro, ma)) r p)) ∧ w' = cst S ++ (mw T (ru, ou, we, me, ki, ro, ma) Λ' C K (fiH (it, so, ss, is) k (thF τ (mO (ru, ou, we, me, ki, ro, ma)) r p)) ++ tl)) 0 0 29 [some (.ref 42), some (.int (nI k)), some (.int (nI p)), some (.int (nI i))] [] (cst S ++ (mw T (ru, ou, we, me, ki, ro, ma) Λ C K (upd it k 1, upd so k 0, upd ss k 8, fiM is k (thF τ (mO (ru, ou, we, me, ki, ro, ma)) r p) i) ++ tl))) (8) ?_ (fun i hi ih => ?_) (0) (by decide) Λ
      · intro Λ
        refine x_iload_n dX10_film_29 rfl ?_
        refine x_bipush 8 dX10_film_30 ?_
        refine x_icmp_ge 58 dX10_film_32 (fun _ => ?_) (fun hx => absurd (by decide) hx)
        refine x_aload_n dX10_film_58 rfl ?_
        refine x_iload_n dX10_film_59 rfl ?_
        refine iv_X10_139 dX10_film_60 (c_X10_memoryOf hX hru hp) mw_o (by decide) (Nat.le_of_ble_eq_true rfl) (fun v_60 w_60 hw_60 => ?_)
        obtain ⟨Λ2, rfl, rfl⟩ := hw_60
        exact Ex.ret (v := some (.int _)) ⟨dX10_film_63, _, rfl, by first | rfl | decide⟩ ⟨_, rfl, rfl⟩
      · intro Λ
        refine x_iload_n dX10_film_29 rfl ?_
        refine x_bipush 8 dX10_film_30 ?_
        refine x_icmp_ge 58 dX10_film_32 (fun hx => absurd hx (nI_ge hi (by decide))) (fun _ => ?_)
        refine x_aload_n dX10_film_35 rfl ?_
        refine mg_63 dX10_film_36 ?_
        refine x_bipush 40 dX10_film_39 ?_
        refine x_iload_n dX10_film_41 rfl ?_
        refine x_imul dX10_film_42 ?_
        refine x_iload_n dX10_film_43 rfl ?_
        refine x_iadd dX10_film_44 ?_
        rw [show (40 : Int32) * nI k = nI (40 * k) from pk_mul 40 k, nI_add]
        refine x_aload_n dX10_film_45 rfl ?_
        refine x_iload_n dX10_film_46 rfl ?_
        refine x_iload_n dX10_film_47 rfl ?_
        refine iv_X10_133 dX10_film_48 (c_X10_thinksOf hX hru hp hi) mw_o (by decide) (Nat.le_of_ble_eq_true rfl) (fun v_48 w_48 hw_48 => ?_)
        obtain ⟨Λ1, rfl, rfl⟩ := hw_48
        refine msN_58 dX10_film_51 (show 40 * k + i < 160 by omega) ?_
        refine x_iincN dX10_film_52 rfl (by decide) ?_
        refine x_goto 29 dX10_film_55 ?_
        exact ih _
    · refine x_ldc dX10_film_15 kk_X10_104 ?_
      exact Ex.ret (v := some (.int _)) ⟨dX10_film_17, _, rfl, by first | rfl | decide⟩ ⟨_, congrArg (fun z => some (Value.int z)) (by rw [if_pos (Or.inr (bi0.mp h_12))]), by rw [if_pos (Or.inr (bi0.mp h_12))]⟩
