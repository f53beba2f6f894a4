def mv1 (τ : TV) (O : OT) (r p : Nat) (b : Int32) : Nat → Int32
  | 0 => b
  | h + 1 => mv1 τ O r p b h &&& (if thF τ O r p h = 0 then (255 : Int32) else (255 : Int32) &&& (((1 : Int32) <<< (nI h &&& 31)) ^^^ (-1)))
def mv2 (τ : TV) (O : OT) (r : Nat) : Nat → Int32
  | 0 => 255
  | p + 1 => mv1 τ O r p (mv2 τ O r p) 8
def cbM (τ : TV) (O : OT) (r z : Nat) (set : Int32) (h : Nat) : Int32 := if (set >>> (nI h &&& 31)) &&& 1 = 1 then coF τ O r z h else 0
def soM (τ : TV) (O : OT) (r z : Nat) (what : Int32) : Int32 := if ¬ (0 ≤ what ∧ what ≤ 4) then -1000000 else if what = 3 then mv2 τ O r z else if what = 0 then hpF τ O r z else if what = 1 then duF τ O r z else if what = 2 then sumI (o_pr O) z else sumI (cbM τ O r z (255 &&& (o_me O ^^^ (-1)))) 8
def ctM (τ : TV) (O : OT) (r h : Nat) (q : Nat) : Int32 := if 0 < thF τ O r q h then 1 else 0
def asM (τ : TV) (O : OT) (r z p : Nat) : Nat → Int32
  | 0 => 0
  | h + 1 => asM τ O r z p h ||| ((if sumI (ctM τ O r h) z = 1 ∧ 0 < thF τ O r p h then (1 : Int32) else 0) <<< (nI h &&& 31))
def agM (τ : TV) (O : OT) (r p q : Nat) : Nat → Int32
  | 0 => 0
  | h + 1 => agM τ O r p q h ||| ((if thF τ O r p h = thF τ O r q h then (1 : Int32) else 0) <<< (nI h &&& 31))
def bhM (τ : TV) (O : OT) (r p : Nat) : Nat → Nat
  | 0 => 0
  | n + 1 => if thF τ O r p (bhM τ O r p n) < thF τ O r p (n + 1) then n + 1 else bhM τ O r p n
theorem bhM_le (τ : TV) (O : OT) (r p : Nat) : ∀ n, bhM τ O r p n ≤ n
  | 0 => Nat.le_refl 0
  | n + 1 => by
    rw [bhM]
    split
    · exact Nat.le_refl _
    · exact Nat.le_succ_of_le (bhM_le τ O r p n)
def beM (τ : TV) (O : OT) (r z : Nat) (one what : Int32) : Int32 := if onC z one ∧ 0 ≤ what ∧ what ≤ 2 then (if what = 2 then asM τ O r z one.toNatClampNeg 8 else if what = 0 then nI (bhM τ O r one.toNatClampNeg 7) else thF τ O r one.toNatClampNeg (bhM τ O r one.toNatClampNeg 7)) else -1000000
def agB (τ : TV) (O : OT) (r z : Nat) (one other : Int32) : Int32 := if twC z one other then agM τ O r one.toNatClampNeg other.toNatClampNeg 8 else -2
def lsM (τ : TV) (O : OT) (r : Nat) (c : Nat → Int32) : Nat → Int32
  | 0 => 0
  | q + 1 => lsM τ O r c q ||| ((if foF (thF τ O r q) c 8 0 = -1 then (1 : Int32) else 0) <<< (nI q &&& 31))
set_option maxRecDepth 100000 in
set_option maxHeartbeats 4000000 in
theorem c_X10_costBy {X : Nat × (Nat → Int32)} {S : CS} {tl : pc_W} {T : MT} {ru : Int32} {ou : (Nat → Int32)} {we : (Nat → Int32)} {me : Int32} {ki : (Nat → Int32)} {ro : (Nat → Int32)} {ma : Int32} {Λ : ML} {C : MC} {K : MK} {H : MH} {τ : TV} {r z : Nat} {set : Int32} (hX : TXm τ T.1 T.2.1 r) (hru : ru = nI r) (hz : ma = nI z) (hz6 : z ≤ 6): Mt X 46 0 0 yX10_costBy cX10_costBy 4 (some .int) [.ref 42, .int set] (cst S ++ (mw T (ru, ou, we, me, ki, ro, ma) Λ C K H ++ tl)) (fun v w' => ∃ Λ' : ML, v = some (.int (sumI (cbM τ (mO (ru, ou, we, me, ki, ro, ma)) r z set) 8)) ∧ w' = cst S ++ (mw T (ru, ou, we, me, ki, ro, ma) Λ' C K H ++ tl)) := by
  refine Mt.of (by decide +kernel) (fun _ _ => Nat.le_of_ble_eq_true rfl) ?_
  show Ex X mX10_costBy _ _ _ _ _ _ _ _
  refine x_iconst 0 dX10_costBy_0 ?_
  refine x_istore_n dX10_costBy_1 (by decide) ?_
  refine x_iconst 0 dX10_costBy_2 ?_
  refine x_istore_n dX10_costBy_3 (by decide) ?_
  refine for_up (P := fun i => ∀ Λ : ML, Ex X mX10_costBy 46 (fun v w' => ∃ Λ' : ML, v = some (.int (sumI (cbM τ (mO (ru, ou, we, me, ki, ro, ma)) r z set) 8)) ∧ w' = cst S ++ (mw T (ru, ou, we, me, ki, ro, ma) Λ' C K H ++ tl)) 0 0 4 [some (.ref 42), some (.int set), some (.int (sumI (cbM τ (mO (ru, ou, we, me, ki, ro, ma)) r z set) i)), some (.int (nI i))] [] (cst S ++ (mw T (ru, ou, we, me, ki, ro, ma) Λ C K H ++ tl))) (8) ?_ (fun i hi ih => ?_) (0) (by decide) Λ
  · intro Λ
    refine x_iload_n dX10_costBy_4 rfl ?_
    refine x_bipush 8 dX10_costBy_5 ?_
    refine x_icmp_ge 37 dX10_costBy_7 (fun _ => ?_) (fun hx => absurd (by decide) hx)
    refine x_iload_n dX10_costBy_37 rfl ?_
    exact Ex.ret (v := some (.int _)) ⟨dX10_costBy_38, _, rfl, by first | rfl | decide⟩ ⟨_, congrArg (fun z => some (Value.int z)) (rfl), rfl⟩
  · intro Λ
    refine x_iload_n dX10_costBy_4 rfl ?_
    refine x_bipush 8 dX10_costBy_5 ?_
    refine x_icmp_ge 37 dX10_costBy_7 (fun hx => absurd hx (nI_ge hi (by decide))) (fun _ => ?_)
    refine x_iload_n dX10_costBy_10 rfl ?_
    refine x_iload_n dX10_costBy_11 rfl ?_
    refine x_iload_n dX10_costBy_12 rfl ?_
    refine x_ishr dX10_costBy_13 ?_
    refine x_iconst 1 dX10_costBy_14 ?_
    refine x_iand dX10_costBy_15 ?_
    refine x_iconst 1 dX10_costBy_16 ?_
    refine x_icmp_ne 28 dX10_costBy_17 (fun h_17 => ?_) (fun h_17 => ?_)
    · refine x_iconst 0 dX10_costBy_28 ?_
      refine x_iadd dX10_costBy_29 ?_
      refine x_istore_n dX10_costBy_30 (by decide) ?_
      refine x_iincN dX10_costBy_31 rfl (by decide) ?_
      refine x_goto 4 dX10_costBy_34 ?_
      have e : sumI (cbM τ (mO (ru, ou, we, me, ki, ro, ma)) r z set) i + 0 = sumI (cbM τ (mO (ru, ou, we, me, ki, ro, ma)) r z set) (i + 1) := by show _ = sumI (cbM τ (mO (ru, ou, we, me, ki, ro, ma)) r z set) i + cbM τ (mO (ru, ou, we, me, ki, ro, ma)) r z set i; rw [show cbM τ (mO (ru, ou, we, me, ki, ro, ma)) r z set i = 0 from if_neg h_17]
      rw [e]
      exact ih _
    · refine x_aload_n dX10_costBy_20 rfl ?_
      refine x_iload_n dX10_costBy_21 rfl ?_
      refine iv_X10_148 dX10_costBy_22 (c_X10_costOf hX hru hz hz6 hi) mw_o (by decide) (Nat.le_of_ble_eq_true rfl) (fun v_22 w_22 hw_22 => ?_)
      obtain ⟨Λ1, rfl, rfl⟩ := hw_22
      refine x_goto 29 dX10_costBy_25 ?_
      refine x_iadd dX10_costBy_29 ?_
      refine x_istore_n dX10_costBy_30 (by decide) ?_
      refine x_iincN dX10_costBy_31 rfl (by decide) ?_
      refine x_goto 4 dX10_costBy_34 ?_
      have e : sumI (cbM τ (mO (ru, ou, we, me, ki, ro, ma)) r z set) i + coF τ (mO (ru, ou, we, me, ki, ro, ma)) r z i = sumI (cbM τ (mO (ru, ou, we, me, ki, ro, ma)) r z set) (i + 1) := by show _ = sumI (cbM τ (mO (ru, ou, we, me, ki, ro, ma)) r z set) i + cbM τ (mO (ru, ou, we, me, ki, ro, ma)) r z set i; rw [show cbM τ (mO (ru, ou, we, me, ki, ro, ma)) r z set i = coF τ (mO (ru, ou, we, me, ki, ro, ma)) r z i from if_pos h_17]
      rw [e]
      exact ih _
set_option maxRecDepth 100000 in
set_option maxHeartbeats 4000000 in
theorem c_X10_society {X : Nat × (Nat → Int32)} {S : CS} {tl : pc_W} {T : MT} {ru : Int32} {ou : (Nat → Int32)} {we : (Nat → Int32)} {me : Int32} {ki : (Nat → Int32)} {ro : (Nat → Int32)} {ma : Int32} {Λ : ML} {C : MC} {K : MK} {H : MH} {τ : TV} {r z : Nat} {what : Int32} (hX : TXm τ T.1 T.2.1 r) (hru : ru = nI r) (hz : ma = nI z) (hz6 : z ≤ 6) (hnu : ∀ i, i < z → ∃ m, m < 10 ∧ ro (2 * i) = nI m): Mt X 50 0 0 yX10_society cX10_society 5 (some .int) [.ref 42, .int what] (cst S ++ (mw T (ru, ou, we, me, ki, ro, ma) Λ C K H ++ tl)) (fun v w' => ∃ Λ' : ML, v = some (.int (soM τ (mO (ru, ou, we, me, ki, ro, ma)) r z what)) ∧ w' = cst S ++ (mw T (ru, ou, we, me, ki, ro, ma) Λ' C K H ++ tl)) := by
  refine Mt.of (by decide +kernel) (fun _ _ => Nat.le_of_ble_eq_true rfl) ?_
  show Ex X mX10_society _ _ _ _ _ _ _ _
  refine x_iload_n dX10_society_0 rfl ?_
  refine x_i2l dX10_society_1 ?_
  refine x_lconst 0 dX10_society_2 ?_
  refine x_ldc2_w dX10_society_3 kk_X10_383 ?_
  refine ii_X10_76 dX10_society_6 (c_X10_inC (a := 0) (b := 4) (by first | rfl | decide) (by first | rfl | decide)) (by decide) (Nat.le_of_ble_eq_true rfl) ?_
  refine x_if_ne 15 dX10_society_9 (fun h_9 => ?_) (fun h_9 => ?_)
  · refine x_iload_n dX10_society_15 rfl ?_
    refine x_iconst 3 dX10_society_16 ?_
    refine x_icmp_eq 70 dX10_society_17 (fun h_17 => ?_) (fun h_17 => ?_)
    · refine x_sipush 255 dX10_society_70 ?_
      refine x_istore_n dX10_society_73 (by decide) ?_
      refine x_iconst 0 dX10_society_74 ?_
      refine x_istore_n dX10_society_75 (by decide) ?_
      refine Ex.forget (L' := [some (.ref 42), some (.int what), some (.int (mv2 τ (mO (ru, ou, we, me, ki, ro, ma)) r 0)), some (.int (nI 0)), none]) ⟨rfl, rfl, rfl, rfl, trivial⟩ ?_
      refine for_up (P := fun i => ∀ Λ : ML, Ex X mX10_society 50 (fun v w' => ∃ Λ' : ML, v = some (.int (soM τ (mO (ru, ou, we, me, ki, ro, ma)) r z what)) ∧ w' = cst S ++ (mw T (ru, ou, we, me, ki, ro, ma) Λ' C K H ++ tl)) 0 0 76 [some (.ref 42), some (.int what), some (.int (mv2 τ (mO (ru, ou, we, me, ki, ro, ma)) r i)), some (.int (nI i)), none] [] (cst S ++ (mw T (ru, ou, we, me, ki, ro, ma) Λ C K H ++ tl))) (z) ?_ (fun i hi ih => ?_) (0) (Nat.zero_le _) Λ
      · intro Λ
        refine x_iload_n dX10_society_76 rfl ?_
        refine x_aload_n dX10_society_77 rfl ?_
        refine mg_73 dX10_society_78 ?_
        refine x_icmp_ge 135 dX10_society_81 (fun _ => ?_) (fun hx => absurd (by rw [hz]; exact Int32.le_refl _) hx)
        refine x_iload_n dX10_society_135 rfl ?_
        exact Ex.ret (v := some (.int _)) ⟨dX10_society_136, _, rfl, by first | rfl | decide⟩ ⟨_, congrArg (fun z => some (Value.int z)) (by unfold soM; rw [if_neg (fun z => z (bi1.mp h_9)), if_pos h_17]), rfl⟩
      · intro Λ
        refine x_iload_n dX10_society_76 rfl ?_
        refine x_aload_n dX10_society_77 rfl ?_
        refine mg_73 dX10_society_78 ?_
        refine x_icmp_ge 135 dX10_society_81 (fun hx => absurd hx (by rw [hz]; exact nI_ge hi (by omega))) (fun _ => ?_)
        refine x_iconst 0 dX10_society_84 ?_
        refine x_istore dX10_society_85 (by decide) ?_
        refine for_up (P := fun j => ∀ Λ : ML, Ex X mX10_society 50 (fun v w' => ∃ Λ' : ML, v = some (.int (soM τ (mO (ru, ou, we, me, ki, ro, ma)) r z what)) ∧ w' = cst S ++ (mw T (ru, ou, we, me, ki, ro, ma) Λ' C K H ++ tl)) 0 0 87 [some (.ref 42), some (.int what), some (.int (mv1 τ (mO (ru, ou, we, me, ki, ro, ma)) r i (mv2 τ (mO (ru, ou, we, me, ki, ro, ma)) r i) j)), some (.int (nI i)), some (.int (nI j))] [] (cst S ++ (mw T (ru, ou, we, me, ki, ro, ma) Λ C K H ++ tl))) 8 ?_ (fun j hj ih2 => ?_) 0 (by decide) Λ
        · intro Λ
          refine x_iload dX10_society_87 rfl ?_
          refine x_bipush 8 dX10_society_89 ?_
          refine x_icmp_ge 129 dX10_society_91 (fun _ => ?_) (fun hx => absurd (by decide) hx)
          refine x_iincN dX10_society_129 rfl (by decide) ?_
          refine x_goto 76 dX10_society_132 ?_
          refine Ex.forget (L' := [some (.ref 42), some (.int what), some (.int (mv2 τ (mO (ru, ou, we, me, ki, ro, ma)) r (i + 1))), some (.int (nI (i + 1))), none]) ⟨rfl, rfl, rfl, rfl, trivial⟩ ?_
          exact ih _
        · intro Λ
          refine x_iload dX10_society_87 rfl ?_
          refine x_bipush 8 dX10_society_89 ?_
          refine x_icmp_ge 129 dX10_society_91 (fun hx => absurd hx (nI_ge hj (by decide))) (fun _ => ?_)
          refine x_iload_n dX10_society_94 rfl ?_
          refine x_aload_n dX10_society_95 rfl ?_
          refine x_iload_n dX10_society_96 rfl ?_
          refine x_iload dX10_society_97 rfl ?_
          refine iv_X10_133 dX10_society_99 (c_X10_thinksOf hX hru (by omega) hj) mw_o (by decide) (Nat.le_of_ble_eq_true rfl) (fun v_99 w_99 hw_99 => ?_)
          obtain ⟨Λ1, rfl, rfl⟩ := hw_99
          refine x_if_ne 111 dX10_society_102 (fun h_102 => ?_) (fun h_102 => ?_)
          · refine x_sipush 255 dX10_society_111 ?_
            refine x_iconst 1 dX10_society_114 ?_
            refine x_iload dX10_society_115 rfl ?_
            refine x_ishl dX10_society_117 ?_
            refine x_iconst (-1) dX10_society_118 ?_
            refine x_ixor dX10_society_119 ?_
            refine x_iand dX10_society_120 ?_
            refine x_iand dX10_society_121 ?_
            refine x_istore_n dX10_society_122 (by decide) ?_
            refine x_iincN dX10_society_123 rfl (by decide) ?_
            refine x_goto 87 dX10_society_126 ?_
            have e : mv1 τ (mO (ru, ou, we, me, ki, ro, ma)) r i (mv2 τ (mO (ru, ou, we, me, ki, ro, ma)) r i) j &&& ((255 : Int32) &&& (((1 : Int32) <<< (nI j &&& 31)) ^^^ (-1))) = mv1 τ (mO (ru, ou, we, me, ki, ro, ma)) r i (mv2 τ (mO (ru, ou, we, me, ki, ro, ma)) r i) (j + 1) := by rw [mv1, if_neg h_102]
            rw [e]
            exact ih2 _
          · refine x_sipush 255 dX10_society_105 ?_
            refine x_goto 121 dX10_society_108 ?_
            refine x_iand dX10_society_121 ?_
            refine x_istore_n dX10_society_122 (by decide) ?_
            refine x_iincN dX10_society_123 rfl (by decide) ?_
            refine x_goto 87 dX10_society_126 ?_
            have e : mv1 τ (mO (ru, ou, we, me, ki, ro, ma)) r i (mv2 τ (mO (ru, ou, we, me, ki, ro, ma)) r i) j &&& (255 : Int32) = mv1 τ (mO (ru, ou, we, me, ki, ro, ma)) r i (mv2 τ (mO (ru, ou, we, me, ki, ro, ma)) r i) (j + 1) := by rw [mv1, if_pos h_102]
            rw [e]
            exact ih2 _
    · refine x_iload_n dX10_society_20 rfl ?_
      refine x_if_ne 31 dX10_society_21 (fun h_21 => ?_) (fun h_21 => ?_)
      · refine x_iload_n dX10_society_31 rfl ?_
        refine x_iconst 1 dX10_society_32 ?_
        refine x_icmp_ne 43 dX10_society_33 (fun h_33 => ?_) (fun h_33 => ?_)
        · refine x_iload_n dX10_society_43 rfl ?_
          refine x_iconst 2 dX10_society_44 ?_
          refine x_icmp_ne 55 dX10_society_45 (fun h_45 => ?_) (fun h_45 => ?_)
          · refine x_aload_n dX10_society_55 rfl ?_
            refine x_sipush 255 dX10_society_56 ?_
            refine x_aload_n dX10_society_59 rfl ?_
            refine mg_113 dX10_society_60 ?_
            refine x_iconst (-1) dX10_society_63 ?_
            refine x_ixor dX10_society_64 ?_
            refine x_iand dX10_society_65 ?_
            refine iv_X10_385 dX10_society_66 (c_X10_costBy hX hru hz hz6) mw_o (by decide) (Nat.le_of_ble_eq_true rfl) (fun v_66 w_66 hw_66 => ?_)
            obtain ⟨Λ1, rfl, rfl⟩ := hw_66
            exact Ex.ret (v := some (.int _)) ⟨dX10_society_69, _, rfl, by first | rfl | decide⟩ ⟨_, congrArg (fun z => some (Value.int z)) (by unfold soM; rw [if_neg (fun z => z (bi1.mp h_9)), if_neg h_17, if_neg h_21, if_neg h_33, if_neg h_45]; rfl), rfl⟩
          · refine x_aload_n dX10_society_48 rfl ?_
            refine ii_X10_369 dX10_society_49 (c_X10_paysAll hz hz6) mw_o (by decide) (Nat.le_of_ble_eq_true rfl) ?_
            refine x_goto 69 dX10_society_52 ?_
            exact Ex.ret (v := some (.int _)) ⟨dX10_society_69, _, rfl, by first | rfl | decide⟩ ⟨_, congrArg (fun z => some (Value.int z)) (by unfold soM; rw [if_neg (fun z => z (bi1.mp h_9)), if_neg h_17, if_neg h_21, if_neg h_33, if_pos h_45]), rfl⟩
        · refine x_aload_n dX10_society_36 rfl ?_
          refine iv_X10_366 dX10_society_37 (c_X10_dueAll hX hru hz hz6 hnu) mw_o (by decide) (Nat.le_of_ble_eq_true rfl) (fun v_37 w_37 hw_37 => ?_)
          obtain ⟨Λ1, rfl, rfl⟩ := hw_37
          refine x_goto 69 dX10_society_40 ?_
          exact Ex.ret (v := some (.int _)) ⟨dX10_society_69, _, rfl, by first | rfl | decide⟩ ⟨_, congrArg (fun z => some (Value.int z)) (by unfold soM; rw [if_neg (fun z => z (bi1.mp h_9)), if_neg h_17, if_neg h_21, if_pos h_33]), rfl⟩
      · refine x_aload_n dX10_society_24 rfl ?_
        refine iv_X10_380 dX10_society_25 (c_X10_hazyMany hX hru hz hz6) mw_o (by decide) (Nat.le_of_ble_eq_true rfl) (fun v_25 w_25 hw_25 => ?_)
        obtain ⟨Λ1, rfl, rfl⟩ := hw_25
        refine x_goto 69 dX10_society_28 ?_
        exact Ex.ret (v := some (.int _)) ⟨dX10_society_69, _, rfl, by first | rfl | decide⟩ ⟨_, congrArg (fun z => some (Value.int z)) (by unfold soM; rw [if_neg (fun z => z (bi1.mp h_9)), if_neg h_17, if_pos h_21]), rfl⟩
  · refine x_ldc dX10_society_12 kk_X10_104 ?_
    exact Ex.ret (v := some (.int _)) ⟨dX10_society_14, _, rfl, by first | rfl | decide⟩ ⟨_, congrArg (fun z => some (Value.int z)) (by unfold soM; rw [if_pos (bi0.mp h_9)]), rfl⟩
set_option maxRecDepth 100000 in
set_option maxHeartbeats 4000000 in
theorem c_X10_aloneSet {X : Nat × (Nat → Int32)} {S : CS} {tl : pc_W} {T : MT} {ru : Int32} {ou : (Nat → Int32)} {we : (Nat → Int32)} {me : Int32} {ki : (Nat → Int32)} {ro : (Nat → Int32)} {ma : Int32} {Λ : ML} {C : MC} {K : MK} {H : MH} {τ : TV} {r p z : Nat} (hX : TXm τ T.1 T.2.1 r) (hru : ru = nI r) (hz : ma = nI z) (hz6 : z ≤ 6) (hp : p < 6): Mt X 45 0 0 yX10_aloneSet cX10_aloneSet 6 (some .int) [.ref 42, .int (nI p)] (cst S ++ (mw T (ru, ou, we, me, ki, ro, ma) Λ C K H ++ tl)) (fun v w' => ∃ Λ' : ML, v = some (.int (asM τ (mO (ru, ou, we, me, ki, ro, ma)) r z p 8)) ∧ w' = cst S ++ (mw T (ru, ou, we, me, ki, ro, ma) Λ' C K H ++ tl)) := by
  refine Mt.of (by decide +kernel) (fun _ _ => Nat.le_of_ble_eq_true rfl) ?_
  show Ex X mX10_aloneSet _ _ _ _ _ _ _ _
  refine x_iconst 0 dX10_aloneSet_0 ?_
  refine x_istore_n dX10_aloneSet_1 (by decide) ?_
  refine x_iconst 0 dX10_aloneSet_2 ?_
  refine x_istore_n dX10_aloneSet_3 (by decide) ?_
  refine Ex.forget (L' := [some (.ref 42), some (.int (nI p)), some (.int (asM τ (mO (ru, ou, we, me, ki, ro, ma)) r z p 0)), some (.int (nI 0)), none, none]) ⟨rfl, rfl, rfl, rfl, trivial⟩ ?_
  refine for_up (P := fun i => ∀ Λ : ML, Ex X mX10_aloneSet 45 (fun v w' => ∃ Λ' : ML, v = some (.int (asM τ (mO (ru, ou, we, me, ki, ro, ma)) r z p 8)) ∧ w' = cst S ++ (mw T (ru, ou, we, me, ki, ro, ma) Λ' C K H ++ tl)) 0 0 4 [some (.ref 42), some (.int (nI p)), some (.int (asM τ (mO (ru, ou, we, me, ki, ro, ma)) r z p i)), some (.int (nI i)), none, none] [] (cst S ++ (mw T (ru, ou, we, me, ki, ro, ma) Λ C K H ++ tl))) (8) ?_ (fun i hi ih => ?_) (0) (by decide) Λ
  · intro Λ
    refine x_iload_n dX10_aloneSet_4 rfl ?_
    refine x_bipush 8 dX10_aloneSet_5 ?_
    refine x_icmp_ge 82 dX10_aloneSet_7 (fun _ => ?_) (fun hx => absurd (by decide) hx)
    refine x_iload_n dX10_aloneSet_82 rfl ?_
    exact Ex.ret (v := some (.int _)) ⟨dX10_aloneSet_83, _, rfl, by first | rfl | decide⟩ ⟨_, congrArg (fun z => some (Value.int z)) (rfl), rfl⟩
  · intro Λ
    refine x_iload_n dX10_aloneSet_4 rfl ?_
    refine x_bipush 8 dX10_aloneSet_5 ?_
    refine x_icmp_ge 82 dX10_aloneSet_7 (fun hx => absurd hx (nI_ge hi (by decide))) (fun _ => ?_)
    refine x_iconst 0 dX10_aloneSet_10 ?_
    refine x_istore dX10_aloneSet_11 (by decide) ?_
    refine x_iconst 0 dX10_aloneSet_13 ?_
    refine x_istore dX10_aloneSet_14 (by decide) ?_
    refine for_up (P := fun j => ∀ Λ : ML, Ex X mX10_aloneSet 45 (fun v w' => ∃ Λ' : ML, v = some (.int (asM τ (mO (ru, ou, we, me, ki, ro, ma)) r z p 8)) ∧ w' = cst S ++ (mw T (ru, ou, we, me, ki, ro, ma) Λ' C K H ++ tl)) 0 0 16 [some (.ref 42), some (.int (nI p)), some (.int (asM τ (mO (ru, ou, we, me, ki, ro, ma)) r z p i)), some (.int (nI i)), some (.int (sumI (ctM τ (mO (ru, ou, we, me, ki, ro, ma)) r i) j)), some (.int (nI j))] [] (cst S ++ (mw T (ru, ou, we, me, ki, ro, ma) Λ C K H ++ tl))) z ?_ (fun j hj ih2 => ?_) 0 (Nat.zero_le _) Λ
    · intro Λ
      refine x_iload dX10_aloneSet_16 rfl ?_
      refine x_aload_n dX10_aloneSet_18 rfl ?_
      refine mg_73 dX10_aloneSet_19 ?_
      refine x_icmp_ge 51 dX10_aloneSet_22 (fun _ => ?_) (fun hx => absurd (by rw [hz]; exact Int32.le_refl _) hx)
      refine x_iload_n dX10_aloneSet_51 rfl ?_
      refine x_iload dX10_aloneSet_52 rfl ?_
      refine x_iconst 1 dX10_aloneSet_54 ?_
      refine x_icmp_ne 71 dX10_aloneSet_55 (fun h_55 => ?_) (fun h_55 => ?_)
      · refine x_iconst 0 dX10_aloneSet_71 ?_
        refine x_iload_n dX10_aloneSet_72 rfl ?_
        refine x_ishl dX10_aloneSet_73 ?_
        refine x_ior dX10_aloneSet_74 ?_
        refine x_istore_n dX10_aloneSet_75 (by decide) ?_
        refine x_iincN dX10_aloneSet_76 rfl (by decide) ?_
        refine x_goto 4 dX10_aloneSet_79 ?_
        have e : asM τ (mO (ru, ou, we, me, ki, ro, ma)) r z p i ||| ((0 : Int32) <<< (nI i &&& 31)) = asM τ (mO (ru, ou, we, me, ki, ro, ma)) r z p (i + 1) := by rw [asM, if_neg (fun z => h_55 z.1)]
        rw [e]
        refine Ex.forget (L' := [some (.ref 42), some (.int (nI p)), some (.int (asM τ (mO (ru, ou, we, me, ki, ro, ma)) r z p (i + 1))), some (.int (nI (i + 1))), none, none]) ⟨rfl, rfl, rfl, rfl, trivial⟩ ?_
        exact ih _
      · refine x_aload_n dX10_aloneSet_58 rfl ?_
        refine x_iload_n dX10_aloneSet_59 rfl ?_
        refine x_iload_n dX10_aloneSet_60 rfl ?_
        refine iv_X10_133 dX10_aloneSet_61 (c_X10_thinksOf hX hru hp hi) mw_o (by decide) (Nat.le_of_ble_eq_true rfl) (fun v_61 w_61 hw_61 => ?_)
        obtain ⟨Λ1, rfl, rfl⟩ := hw_61
        refine x_if_le 71 dX10_aloneSet_64 (fun h_64 => ?_) (fun h_64 => ?_)
        · refine x_iconst 0 dX10_aloneSet_71 ?_
          refine x_iload_n dX10_aloneSet_72 rfl ?_
          refine x_ishl dX10_aloneSet_73 ?_
          refine x_ior dX10_aloneSet_74 ?_
          refine x_istore_n dX10_aloneSet_75 (by decide) ?_
          refine x_iincN dX10_aloneSet_76 rfl (by decide) ?_
          refine x_goto 4 dX10_aloneSet_79 ?_
          have e : asM τ (mO (ru, ou, we, me, ki, ro, ma)) r z p i ||| ((0 : Int32) <<< (nI i &&& 31)) = asM τ (mO (ru, ou, we, me, ki, ro, ma)) r z p (i + 1) := by rw [asM, if_neg (fun z => Int32.not_lt.mpr h_64 z.2)]
          rw [e]
          refine Ex.forget (L' := [some (.ref 42), some (.int (nI p)), some (.int (asM τ (mO (ru, ou, we, me, ki, ro, ma)) r z p (i + 1))), some (.int (nI (i + 1))), none, none]) ⟨rfl, rfl, rfl, rfl, trivial⟩ ?_
          exact ih _
        · refine x_iconst 1 dX10_aloneSet_67 ?_
          refine x_goto 72 dX10_aloneSet_68 ?_
          refine x_iload_n dX10_aloneSet_72 rfl ?_
          refine x_ishl dX10_aloneSet_73 ?_
          refine x_ior dX10_aloneSet_74 ?_
          refine x_istore_n dX10_aloneSet_75 (by decide) ?_
          refine x_iincN dX10_aloneSet_76 rfl (by decide) ?_
          refine x_goto 4 dX10_aloneSet_79 ?_
          have e : asM τ (mO (ru, ou, we, me, ki, ro, ma)) r z p i ||| ((1 : Int32) <<< (nI i &&& 31)) = asM τ (mO (ru, ou, we, me, ki, ro, ma)) r z p (i + 1) := by rw [asM, if_pos ⟨h_55, Int32.not_le.mp h_64⟩]
          rw [e]
          refine Ex.forget (L' := [some (.ref 42), some (.int (nI p)), some (.int (asM τ (mO (ru, ou, we, me, ki, ro, ma)) r z p (i + 1))), some (.int (nI (i + 1))), none, none]) ⟨rfl, rfl, rfl, rfl, trivial⟩ ?_
          exact ih _
    · intro Λ
      refine x_iload dX10_aloneSet_16 rfl ?_
      refine x_aload_n dX10_aloneSet_18 rfl ?_
      refine mg_73 dX10_aloneSet_19 ?_
      refine x_icmp_ge 51 dX10_aloneSet_22 (fun hx => absurd hx (by rw [hz]; exact nI_ge hj (by omega))) (fun _ => ?_)
      refine x_iload dX10_aloneSet_25 rfl ?_
      refine x_aload_n dX10_aloneSet_27 rfl ?_
      refine x_iload dX10_aloneSet_28 rfl ?_
      refine x_iload_n dX10_aloneSet_30 rfl ?_
      refine iv_X10_133 dX10_aloneSet_31 (c_X10_thinksOf hX hru (by omega) hi) mw_o (by decide) (Nat.le_of_ble_eq_true rfl) (fun v_31 w_31 hw_31 => ?_)
      obtain ⟨Λ1, rfl, rfl⟩ := hw_31
      refine x_if_le 41 dX10_aloneSet_34 (fun h_34 => ?_) (fun h_34 => ?_)
      · refine x_iconst 0 dX10_aloneSet_41 ?_
        refine x_iadd dX10_aloneSet_42 ?_
        refine x_istore dX10_aloneSet_43 (by decide) ?_
        refine x_iincN dX10_aloneSet_45 rfl (by decide) ?_
        refine x_goto 16 dX10_aloneSet_48 ?_
        have e : sumI (ctM τ (mO (ru, ou, we, me, ki, ro, ma)) r i) j + 0 = sumI (ctM τ (mO (ru, ou, we, me, ki, ro, ma)) r i) (j + 1) := by show _ = sumI (ctM τ (mO (ru, ou, we, me, ki, ro, ma)) r i) j + ctM τ (mO (ru, ou, we, me, ki, ro, ma)) r i j; rw [show ctM τ (mO (ru, ou, we, me, ki, ro, ma)) r i j = 0 from if_neg (Int32.not_lt.mpr h_34)]
        rw [e]
        exact ih2 _
      · refine x_iconst 1 dX10_aloneSet_37 ?_
        refine x_goto 42 dX10_aloneSet_38 ?_
        refine x_iadd dX10_aloneSet_42 ?_
        refine x_istore dX10_aloneSet_43 (by decide) ?_
        refine x_iincN dX10_aloneSet_45 rfl (by decide) ?_
        refine x_goto 16 dX10_aloneSet_48 ?_
        have e : sumI (ctM τ (mO (ru, ou, we, me, ki, ro, ma)) r i) j + 1 = sumI (ctM τ (mO (ru, ou, we, me, ki, ro, ma)) r i) (j + 1) := by show _ = sumI (ctM τ (mO (ru, ou, we, me, ki, ro, ma)) r i) j + ctM τ (mO (ru, ou, we, me, ki, ro, ma)) r i j; rw [show ctM τ (mO (ru, ou, we, me, ki, ro, ma)) r i j = 1 from if_pos (Int32.not_le.mp h_34)]
        rw [e]
        exact ih2 _
set_option maxRecDepth 100000 in
set_option maxHeartbeats 4000000 in
theorem c_X10_best {X : Nat × (Nat → Int32)} {S : CS} {tl : pc_W} {T : MT} {ru : Int32} {ou : (Nat → Int32)} {we : (Nat → Int32)} {me : Int32} {ki : (Nat → Int32)} {ro : (Nat → Int32)} {ma : Int32} {Λ : ML} {C : MC} {K : MK} {H : MH} {τ : TV} {r z : Nat} {one what : Int32} (hX : TXm τ T.1 T.2.1 r) (hru : ru = nI r) (hz : ma = nI z) (hz6 : z ≤ 6): Mt X 46 0 0 yX10_best cX10_best 5 (some .int) [.ref 42, .int one, .int what] (cst S ++ (mw T (ru, ou, we, me, ki, ro, ma) Λ C K H ++ tl)) (fun v w' => ∃ Λ' : ML, v = some (.int (beM τ (mO (ru, ou, we, me, ki, ro, ma)) r z one what)) ∧ w' = cst S ++ (mw T (ru, ou, we, me, ki, ro, ma) Λ' C K H ++ tl)) := by
  refine Mt.of (by decide +kernel) (fun _ _ => Nat.le_of_ble_eq_true rfl) ?_
  show Ex X mX10_best _ _ _ _ _ _ _ _
  obtain ⟨x0, hx0⟩ : ∃ x0, x0 = beM τ (mO (ru, ou, we, me, ki, ro, ma)) r z one what := ⟨_, rfl⟩
  rw [← hx0]
  refine x_aload_n dX10_best_0 rfl ?_
  refine x_iload_n dX10_best_1 rfl ?_
  refine ii_X10_86 dX10_best_2 (c_X10_isOne hz hz6) mw_o (by decide) (Nat.le_of_ble_eq_true rfl) ?_
  refine x_if_eq 20 dX10_best_5 (fun h_5 => ?_) (fun h_5 => ?_)
  · refine x_ldc dX10_best_20 kk_X10_104 ?_
    exact Ex.ret (v := some (.int _)) ⟨dX10_best_22, _, rfl, by first | rfl | decide⟩ ⟨_, congrArg (fun z => some (Value.int z)) (by rw [hx0]; unfold beM; rw [if_neg (fun q => bi0.mp h_5 q.1)]), rfl⟩
  · refine x_iload_n dX10_best_8 rfl ?_
    refine x_i2l dX10_best_9 ?_
    refine x_lconst 0 dX10_best_10 ?_
    refine x_ldc2_w dX10_best_11 kk_X10_378 ?_
    refine ii_X10_76 dX10_best_14 (c_X10_inC (a := 0) (b := 2) (by first | rfl | decide) (by first | rfl | decide)) (by decide) (Nat.le_of_ble_eq_true rfl) ?_
    refine x_if_ne 23 dX10_best_17 (fun h_17 => ?_) (fun h_17 => ?_)
    · have ho := bi1.mp h_5
      obtain ⟨p, hpz, rfl⟩ := nat_of ho.1 ho.2 (by omega)
      have hp : p < 6 := by omega
      have hcl : (nI p).toNatClampNeg = p := nI_clamp (by omega)
      refine x_iload_n dX10_best_23 rfl ?_
      refine x_iconst 2 dX10_best_24 ?_
      refine x_icmp_ne 34 dX10_best_25 (fun h_25 => ?_) (fun h_25 => ?_)
      · refine x_iconst 0 dX10_best_34 ?_
        refine x_istore_n dX10_best_35 (by decide) ?_
        refine x_iconst 1 dX10_best_36 ?_
        refine x_istore dX10_best_37 (by decide) ?_
        refine for_up (P := fun i => ∀ Λ : ML, Ex X mX10_best 46 (fun v w' => ∃ Λ' : ML, v = some (.int (x0)) ∧ w' = cst S ++ (mw T (ru, ou, we, me, ki, ro, ma) Λ' C K H ++ tl)) 0 0 39 [some (.ref 42), some (.int (nI p)), some (.int what), some (.int (nI (bhM τ (mO (ru, ou, we, me, ki, ro, ma)) r p i))), some (.int (nI (i + 1)))] [] (cst S ++ (mw T (ru, ou, we, me, ki, ro, ma) Λ C K H ++ tl))) (7) ?_ (fun i hi ih => ?_) (0) (by decide) Λ
        · intro Λ
          refine x_iload dX10_best_39 rfl ?_
          refine x_bipush 8 dX10_best_41 ?_
          refine x_icmp_ge 75 dX10_best_43 (fun _ => ?_) (fun hx => absurd (by decide) hx)
          refine x_iload_n dX10_best_75 rfl ?_
          refine x_if_ne 83 dX10_best_76 (fun h_76 => ?_) (fun h_76 => ?_)
          · refine x_aload_n dX10_best_83 rfl ?_
            refine x_iload_n dX10_best_84 rfl ?_
            refine x_iload_n dX10_best_85 rfl ?_
            refine iv_X10_133 dX10_best_86 (c_X10_thinksOf hX hru hp (show bhM τ (mO (ru, ou, we, me, ki, ro, ma)) r p 7 < 8 by have := bhM_le τ (mO (ru, ou, we, me, ki, ro, ma)) r p 7; omega)) mw_o (by decide) (Nat.le_of_ble_eq_true rfl) (fun v_86 w_86 hw_86 => ?_)
            obtain ⟨Λ1, rfl, rfl⟩ := hw_86
            exact Ex.ret (v := some (.int _)) ⟨dX10_best_89, _, rfl, by first | rfl | decide⟩ ⟨_, congrArg (fun z => some (Value.int z)) (by rw [hx0]; unfold beM; rw [if_pos ⟨ho, bi1.mp h_17⟩, hcl, if_neg h_25, if_neg h_76]), rfl⟩
          · refine x_iload_n dX10_best_79 rfl ?_
            refine x_goto 89 dX10_best_80 ?_
            exact Ex.ret (v := some (.int _)) ⟨dX10_best_89, _, rfl, by first | rfl | decide⟩ ⟨_, congrArg (fun z => some (Value.int z)) (by rw [hx0]; unfold beM; rw [if_pos ⟨ho, bi1.mp h_17⟩, hcl, if_neg h_25, if_pos h_76]), rfl⟩
        · intro Λ
          have hb7 := bhM_le τ (mO (ru, ou, we, me, ki, ro, ma)) r p i
          refine x_iload dX10_best_39 rfl ?_
          refine x_bipush 8 dX10_best_41 ?_
          refine x_icmp_ge 75 dX10_best_43 (fun hx => absurd hx (nI_ge (a := i + 1) (b := 8) (by omega) (by decide))) (fun _ => ?_)
          refine x_aload_n dX10_best_46 rfl ?_
          refine x_iload_n dX10_best_47 rfl ?_
          refine x_iload dX10_best_48 rfl ?_
          refine iv_X10_133 dX10_best_50 (c_X10_thinksOf hX hru hp (show i + 1 < 8 by omega)) mw_o (by decide) (Nat.le_of_ble_eq_true rfl) (fun v_50 w_50 hw_50 => ?_)
          obtain ⟨Λ1, rfl, rfl⟩ := hw_50
          refine x_aload_n dX10_best_53 rfl ?_
          refine x_iload_n dX10_best_54 rfl ?_
          refine x_iload_n dX10_best_55 rfl ?_
          refine iv_X10_133 dX10_best_56 (c_X10_thinksOf hX hru hp (show bhM τ (mO (ru, ou, we, me, ki, ro, ma)) r p i < 8 by omega)) mw_o (by decide) (Nat.le_of_ble_eq_true rfl) (fun v_56 w_56 hw_56 => ?_)
          obtain ⟨Λ2, rfl, rfl⟩ := hw_56
          refine x_icmp_le 67 dX10_best_59 (fun h_59 => ?_) (fun h_59 => ?_)
          · refine x_iload_n dX10_best_67 rfl ?_
            refine x_istore_n dX10_best_68 (by decide) ?_
            refine x_iincN dX10_best_69 rfl (by decide) ?_
            refine x_goto 39 dX10_best_72 ?_
            refine Ex.forget (L' := [some (.ref 42), some (.int (nI p)), some (.int what), some (.int (nI (bhM τ (mO (ru, ou, we, me, ki, ro, ma)) r p (i + 1)))), some (.int (nI (i + 1 + 1)))]) ⟨rfl, rfl, rfl, by rw [bhM, if_neg (Int32.not_lt.mpr h_59)] <;> rfl, rfl, trivial⟩ ?_
            exact ih _
          · refine x_iload dX10_best_62 rfl ?_
            refine x_goto 68 dX10_best_64 ?_
            refine x_istore_n dX10_best_68 (by decide) ?_
            refine x_iincN dX10_best_69 rfl (by decide) ?_
            refine x_goto 39 dX10_best_72 ?_
            refine Ex.forget (L' := [some (.ref 42), some (.int (nI p)), some (.int what), some (.int (nI (bhM τ (mO (ru, ou, we, me, ki, ro, ma)) r p (i + 1)))), some (.int (nI (i + 1 + 1)))]) ⟨rfl, rfl, rfl, by rw [bhM, if_pos (Int32.not_le.mp h_59)] <;> rfl, rfl, trivial⟩ ?_
            exact ih _
      · refine x_aload_n dX10_best_28 rfl ?_
        refine x_iload_n dX10_best_29 rfl ?_
        refine iv_X10_399 dX10_best_30 (c_X10_aloneSet hX hru hz hz6 hp) mw_o (by decide) (Nat.le_of_ble_eq_true rfl) (fun v_30 w_30 hw_30 => ?_)
        obtain ⟨Λ1, rfl, rfl⟩ := hw_30
        exact Ex.ret (v := some (.int _)) ⟨dX10_best_33, _, rfl, by first | rfl | decide⟩ ⟨_, congrArg (fun z => some (Value.int z)) (by rw [hx0]; unfold beM; rw [if_pos ⟨ho, bi1.mp h_17⟩, hcl, if_pos h_25]), rfl⟩
    · refine x_ldc dX10_best_20 kk_X10_104 ?_
      exact Ex.ret (v := some (.int _)) ⟨dX10_best_22, _, rfl, by first | rfl | decide⟩ ⟨_, congrArg (fun z => some (Value.int z)) (by rw [hx0]; unfold beM; rw [if_neg (fun q => bi0.mp h_17 q.2)]), rfl⟩
set_option maxRecDepth 100000 in
set_option maxHeartbeats 4000000 in
theorem c_X10_agree {X : Nat × (Nat → Int32)} {S : CS} {tl : pc_W} {T : MT} {ru : Int32} {ou : (Nat → Int32)} {we : (Nat → Int32)} {me : Int32} {ki : (Nat → Int32)} {ro : (Nat → Int32)} {ma : Int32} {Λ : ML} {C : MC} {K : MK} {H : MH} {τ : TV} {r z : Nat} {one other : Int32} (hX : TXm τ T.1 T.2.1 r) (hru : ru = nI r) (hz : ma = nI z) (hz6 : z ≤ 6): Mt X 46 0 0 yX10_agree cX10_agree 5 (some .int) [.ref 42, .int one, .int other] (cst S ++ (mw T (ru, ou, we, me, ki, ro, ma) Λ C K H ++ tl)) (fun v w' => ∃ Λ' : ML, v = some (.int (agB τ (mO (ru, ou, we, me, ki, ro, ma)) r z one other)) ∧ w' = cst S ++ (mw T (ru, ou, we, me, ki, ro, ma) Λ' C K H ++ tl)) := by
  refine Mt.of (by decide +kernel) (fun _ _ => Nat.le_of_ble_eq_true rfl) ?_
  show Ex X mX10_agree _ _ _ _ _ _ _ _
  obtain ⟨x0, hx0⟩ : ∃ x0, x0 = agB τ (mO (ru, ou, we, me, ki, ro, ma)) r z one other := ⟨_, rfl⟩
  rw [← hx0]
  refine x_aload_n dX10_agree_0 rfl ?_
  refine x_iload_n dX10_agree_1 rfl ?_
  refine ii_X10_86 dX10_agree_2 (c_X10_isOne hz hz6) mw_o (by decide) (Nat.le_of_ble_eq_true rfl) ?_
  refine x_if_eq 21 dX10_agree_5 (fun h_5 => ?_) (fun h_5 => ?_)
  · refine x_bipush (-2) dX10_agree_21 ?_
    exact Ex.ret (v := some (.int _)) ⟨dX10_agree_23, _, rfl, by first | rfl | decide⟩ ⟨_, congrArg (fun z => some (Value.int z)) (by rw [hx0]; unfold agB; rw [if_neg (fun y => bi0.mp h_5 y.1)]), rfl⟩
  · refine x_aload_n dX10_agree_8 rfl ?_
    refine x_iload_n dX10_agree_9 rfl ?_
    refine ii_X10_86 dX10_agree_10 (c_X10_isOne hz hz6) mw_o (by decide) (Nat.le_of_ble_eq_true rfl) ?_
    refine x_if_eq 21 dX10_agree_13 (fun h_13 => ?_) (fun h_13 => ?_)
    · refine x_bipush (-2) dX10_agree_21 ?_
      exact Ex.ret (v := some (.int _)) ⟨dX10_agree_23, _, rfl, by first | rfl | decide⟩ ⟨_, congrArg (fun z => some (Value.int z)) (by rw [hx0]; unfold agB; rw [if_neg (fun y => bi0.mp h_13 y.2.1)]), rfl⟩
    · refine x_iload_n dX10_agree_16 rfl ?_
      refine x_iload_n dX10_agree_17 rfl ?_
      refine x_icmp_ne 24 dX10_agree_18 (fun h_18 => ?_) (fun h_18 => ?_)
      · have ho := bi1.mp h_5
        obtain ⟨p, hpz, rfl⟩ := nat_of ho.1 ho.2 (by omega)
        have hp : p < 6 := by omega
        have hcl : (nI p).toNatClampNeg = p := nI_clamp (by omega)
        have ho2 := bi1.mp h_13
        obtain ⟨q, hqz, rfl⟩ := nat_of ho2.1 ho2.2 (by omega)
        have hq : q < 6 := by omega
        have hcl2 : (nI q).toNatClampNeg = q := nI_clamp (by omega)
        refine x_iconst 0 dX10_agree_24 ?_
        refine x_istore_n dX10_agree_25 (by decide) ?_
        refine x_iconst 0 dX10_agree_26 ?_
        refine x_istore dX10_agree_27 (by decide) ?_
        refine for_up (P := fun i => ∀ Λ : ML, Ex X mX10_agree 46 (fun v w' => ∃ Λ' : ML, v = some (.int (x0)) ∧ w' = cst S ++ (mw T (ru, ou, we, me, ki, ro, ma) Λ' C K H ++ tl)) 0 0 29 [some (.ref 42), some (.int (nI p)), some (.int (nI q)), some (.int (agM τ (mO (ru, ou, we, me, ki, ro, ma)) r p q i)), some (.int (nI (i)))] [] (cst S ++ (mw T (ru, ou, we, me, ki, ro, ma) Λ C K H ++ tl))) (8) ?_ (fun i hi ih => ?_) (0) (by decide) Λ
        · intro Λ
          refine x_iload dX10_agree_29 rfl ?_
          refine x_bipush 8 dX10_agree_31 ?_
          refine x_icmp_ge 70 dX10_agree_33 (fun _ => ?_) (fun hx => absurd (by decide) hx)
          refine x_iload_n dX10_agree_70 rfl ?_
          exact Ex.ret (v := some (.int _)) ⟨dX10_agree_71, _, rfl, by first | rfl | decide⟩ ⟨_, congrArg (fun z => some (Value.int z)) (by rw [hx0]; unfold agB; rw [if_pos ⟨ho, ho2, h_18⟩, hcl, hcl2]), rfl⟩
        · intro Λ
          refine x_iload dX10_agree_29 rfl ?_
          refine x_bipush 8 dX10_agree_31 ?_
          refine x_icmp_ge 70 dX10_agree_33 (fun hx => absurd hx (nI_ge hi (by decide))) (fun _ => ?_)
          refine x_iload_n dX10_agree_36 rfl ?_
          refine x_aload_n dX10_agree_37 rfl ?_
          refine x_iload_n dX10_agree_38 rfl ?_
          refine x_iload dX10_agree_39 rfl ?_
          refine iv_X10_133 dX10_agree_41 (c_X10_thinksOf hX hru hp hi) mw_o (by decide) (Nat.le_of_ble_eq_true rfl) (fun v_41 w_41 hw_41 => ?_)
          obtain ⟨Λ1, rfl, rfl⟩ := hw_41
          refine x_aload_n dX10_agree_44 rfl ?_
          refine x_iload_n dX10_agree_45 rfl ?_
          refine x_iload dX10_agree_46 rfl ?_
          refine iv_X10_133 dX10_agree_48 (c_X10_thinksOf hX hru hq hi) mw_o (by decide) (Nat.le_of_ble_eq_true rfl) (fun v_48 w_48 hw_48 => ?_)
          obtain ⟨Λ2, rfl, rfl⟩ := hw_48
          refine x_icmp_ne 58 dX10_agree_51 (fun h_51 => ?_) (fun h_51 => ?_)
          · refine x_iconst 0 dX10_agree_58 ?_
            refine x_iload dX10_agree_59 rfl ?_
            refine x_ishl dX10_agree_61 ?_
            refine x_ior dX10_agree_62 ?_
            refine x_istore_n dX10_agree_63 (by decide) ?_
            refine x_iincN dX10_agree_64 rfl (by decide) ?_
            refine x_goto 29 dX10_agree_67 ?_
            have e : agM τ (mO (ru, ou, we, me, ki, ro, ma)) r p q i ||| ((0 : Int32) <<< (nI i &&& 31)) = agM τ (mO (ru, ou, we, me, ki, ro, ma)) r p q (i + 1) := by rw [agM, if_neg h_51]
            rw [e]
            exact ih _
          · refine x_iconst 1 dX10_agree_54 ?_
            refine x_goto 59 dX10_agree_55 ?_
            refine x_iload dX10_agree_59 rfl ?_
            refine x_ishl dX10_agree_61 ?_
            refine x_ior dX10_agree_62 ?_
            refine x_istore_n dX10_agree_63 (by decide) ?_
            refine x_iincN dX10_agree_64 rfl (by decide) ?_
            refine x_goto 29 dX10_agree_67 ?_
            have e : agM τ (mO (ru, ou, we, me, ki, ro, ma)) r p q i ||| ((1 : Int32) <<< (nI i &&& 31)) = agM τ (mO (ru, ou, we, me, ki, ro, ma)) r p q (i + 1) := by rw [agM, if_pos h_51]
            rw [e]
            exact ih _
      · refine x_bipush (-2) dX10_agree_21 ?_
        exact Ex.ret (v := some (.int _)) ⟨dX10_agree_23, _, rfl, by first | rfl | decide⟩ ⟨_, congrArg (fun z => some (Value.int z)) (by rw [hx0]; unfold agB; rw [if_neg (fun y => y.2.2 h_18)]), rfl⟩
set_option maxRecDepth 100000 in
set_option maxHeartbeats 4000000 in
theorem c_X10_firstOther {X : Nat × (Nat → Int32)} {S : CS} {tl : pc_W} {T : MT} {ru : Int32} {ou : (Nat → Int32)} {we : (Nat → Int32)} {me : Int32} {ki : (Nat → Int32)} {ro : (Nat → Int32)} {ma : Int32} {Λ : ML} {C : MC} {K : MK} {τ : TV} {r p : Nat} {it so ss is : Nat → Int32} {s : Nat} (hX : TXm τ T.1 T.2.1 r) (hru : ru = nI r) (hp : p < 6) (hs : s < 4): Mt X 45 0 0 yX10_firstOther cX10_firstOther 4 (some .int) [.ref 42, .int (nI s), .int (nI p)] (cst S ++ (mw T (ru, ou, we, me, ki, ro, ma) Λ C K (it, so, ss, is) ++ tl)) (fun v w' => ∃ Λ' : ML, v = some (.int (foF (thF τ (mO (ru, ou, we, me, ki, ro, ma)) r p) (fun j => is (40 * s + j)) 8 0)) ∧ w' = cst S ++ (mw T (ru, ou, we, me, ki, ro, ma) Λ' C K (it, so, ss, is) ++ tl)) := by
  refine Mt.of (by decide +kernel) (fun _ _ => Nat.le_of_ble_eq_true rfl) ?_
  show Ex X mX10_firstOther _ _ _ _ _ _ _ _
  refine x_iconst 0 dX10_firstOther_0 ?_
  refine x_istore_n dX10_firstOther_1 (by decide) ?_
  obtain ⟨x0, hx0⟩ : ∃ x0, x0 = foF (thF τ (mO (ru, ou, we, me, ki, ro, ma)) r p) (fun j => is (40 * s + j)) 8 0 := ⟨_, rfl⟩
  rw [← hx0]
  refine for_up (P := fun i => foF (thF τ (mO (ru, ou, we, me, ki, ro, ma)) r p) (fun j => is (40 * s + j)) (8 - i) i = x0 → ∀ Λ : ML, Ex X mX10_firstOther 45 (fun v w' => ∃ Λ' : ML, v = some (.int (x0)) ∧ w' = cst S ++ (mw T (ru, ou, we, me, ki, ro, ma) Λ' C K (it, so, ss, is) ++ tl)) 0 0 2 [some (.ref 42), some (.int (nI s)), some (.int (nI p)), some (.int (nI i))] [] (cst S ++ (mw T (ru, ou, we, me, ki, ro, ma) Λ C K (it, so, ss, is) ++ tl))) (8) ?_ (fun i hi ih => ?_) (0) (by decide) hx0.symm Λ
  · intro hx Λ
    refine x_iload_n dX10_firstOther_2 rfl ?_
    refine x_bipush 8 dX10_firstOther_3 ?_
    refine x_icmp_ge 36 dX10_firstOther_5 (fun _ => ?_) (fun hx => absurd (by decide) hx)
    refine x_iconst (-1) dX10_firstOther_36 ?_
    exact Ex.ret (v := some (.int _)) ⟨dX10_firstOther_37, _, rfl, by first | rfl | decide⟩ ⟨_, congrArg (fun z => some (Value.int z)) (hx), rfl⟩
  · intro hx Λ
    rw [show 8 - i = (8 - (i + 1)) + 1 by omega, foF] at hx
    refine x_iload_n dX10_firstOther_2 rfl ?_
    refine x_bipush 8 dX10_firstOther_3 ?_
    refine x_icmp_ge 36 dX10_firstOther_5 (fun hx => absurd hx (nI_ge hi (by decide))) (fun _ => ?_)
    refine x_aload_n dX10_firstOther_8 rfl ?_
    refine x_iload_n dX10_firstOther_9 rfl ?_
    refine x_iload_n dX10_firstOther_10 rfl ?_
    refine iv_X10_133 dX10_firstOther_11 (c_X10_thinksOf hX hru hp hi) mw_o (by decide) (Nat.le_of_ble_eq_true rfl) (fun v_11 w_11 hw_11 => ?_)
    obtain ⟨Λ1, rfl, rfl⟩ := hw_11
    refine x_aload_n dX10_firstOther_14 rfl ?_
    refine mg_63 dX10_firstOther_15 ?_
    refine x_bipush 40 dX10_firstOther_18 ?_
    refine x_iload_n dX10_firstOther_20 rfl ?_
    refine x_imul dX10_firstOther_21 ?_
    refine x_iload_n dX10_firstOther_22 rfl ?_
    refine x_iadd dX10_firstOther_23 ?_
    rw [show (40 : Int32) * nI s = nI (40 * s) from pk_mul 40 s, nI_add]
    refine maN_58 dX10_firstOther_24 (show 40 * s + i < 160 by omega) ?_
    refine x_icmp_eq 30 dX10_firstOther_25 (fun h_25 => ?_) (fun h_25 => ?_)
    · refine x_iincN dX10_firstOther_30 rfl (by decide) ?_
      refine x_goto 2 dX10_firstOther_33 ?_
      exact ih (by rw [← hx, if_pos h_25.symm]) _
    · refine x_iload_n dX10_firstOther_28 rfl ?_
      exact Ex.ret (v := some (.int _)) ⟨dX10_firstOther_29, _, rfl, by first | rfl | decide⟩ ⟨_, congrArg (fun z => some (Value.int z)) (by rw [← hx, if_neg (fun z => h_25 z.symm)]), rfl⟩
set_option maxRecDepth 100000 in
set_option maxHeartbeats 4000000 in
theorem c_X10_likeSet {X : Nat × (Nat → Int32)} {S : CS} {tl : pc_W} {T : MT} {ru : Int32} {ou : (Nat → Int32)} {we : (Nat → Int32)} {me : Int32} {ki : (Nat → Int32)} {ro : (Nat → Int32)} {ma : Int32} {Λ : ML} {C : MC} {K : MK} {τ : TV} {r z : Nat} {it so ss is : Nat → Int32} {s : Nat} (hX : TXm τ T.1 T.2.1 r) (hru : ru = nI r) (hz : ma = nI z) (hz6 : z ≤ 6) (hs : s < 4): Mt X 46 0 0 yX10_likeSet cX10_likeSet 4 (some .int) [.ref 42, .int (nI s)] (cst S ++ (mw T (ru, ou, we, me, ki, ro, ma) Λ C K (it, so, ss, is) ++ tl)) (fun v w' => ∃ Λ' : ML, v = some (.int (lsM τ (mO (ru, ou, we, me, ki, ro, ma)) r (fun j => is (40 * s + j)) z)) ∧ w' = cst S ++ (mw T (ru, ou, we, me, ki, ro, ma) Λ' C K (it, so, ss, is) ++ tl)) := by
  refine Mt.of (by decide +kernel) (fun _ _ => Nat.le_of_ble_eq_true rfl) ?_
  show Ex X mX10_likeSet _ _ _ _ _ _ _ _
  refine x_iconst 0 dX10_likeSet_0 ?_
  refine x_istore_n dX10_likeSet_1 (by decide) ?_
  refine x_iconst 0 dX10_likeSet_2 ?_
  refine x_istore_n dX10_likeSet_3 (by decide) ?_
  refine for_up (P := fun i => ∀ Λ : ML, Ex X mX10_likeSet 46 (fun v w' => ∃ Λ' : ML, v = some (.int (lsM τ (mO (ru, ou, we, me, ki, ro, ma)) r (fun j => is (40 * s + j)) z)) ∧ w' = cst S ++ (mw T (ru, ou, we, me, ki, ro, ma) Λ' C K (it, so, ss, is) ++ tl)) 0 0 4 [some (.ref 42), some (.int (nI s)), some (.int (lsM τ (mO (ru, ou, we, me, ki, ro, ma)) r (fun j => is (40 * s + j)) i)), some (.int (nI i))] [] (cst S ++ (mw T (ru, ou, we, me, ki, ro, ma) Λ C K (it, so, ss, is) ++ tl))) (z) ?_ (fun i hi ih => ?_) (0) (Nat.zero_le _) Λ
  · intro Λ
    refine x_iload_n dX10_likeSet_4 rfl ?_
    refine x_aload_n dX10_likeSet_5 rfl ?_
    refine mg_73 dX10_likeSet_6 ?_
    refine x_icmp_ge 38 dX10_likeSet_9 (fun _ => ?_) (fun hx => absurd (by rw [hz]; exact Int32.le_refl _) hx)
    refine x_iload_n dX10_likeSet_38 rfl ?_
    exact Ex.ret (v := some (.int _)) ⟨dX10_likeSet_39, _, rfl, by first | rfl | decide⟩ ⟨_, congrArg (fun z => some (Value.int z)) (rfl), rfl⟩
  · intro Λ
    refine x_iload_n dX10_likeSet_4 rfl ?_
    refine x_aload_n dX10_likeSet_5 rfl ?_
    refine mg_73 dX10_likeSet_6 ?_
    refine x_icmp_ge 38 dX10_likeSet_9 (fun hx => absurd hx (by rw [hz]; exact nI_ge hi (by omega))) (fun _ => ?_)
    refine x_iload_n dX10_likeSet_12 rfl ?_
    refine x_aload_n dX10_likeSet_13 rfl ?_
    refine x_iload_n dX10_likeSet_14 rfl ?_
    refine x_iload_n dX10_likeSet_15 rfl ?_
    refine iv_X10_402 dX10_likeSet_16 (c_X10_firstOther hX hru (by omega) hs) mw_o (by decide) (Nat.le_of_ble_eq_true rfl) (fun v_16 w_16 hw_16 => ?_)
    obtain ⟨Λ1, rfl, rfl⟩ := hw_16
    refine x_iconst (-1) dX10_likeSet_19 ?_
    refine x_icmp_ne 27 dX10_likeSet_20 (fun h_20 => ?_) (fun h_20 => ?_)
    · refine x_iconst 0 dX10_likeSet_27 ?_
      refine x_iload_n dX10_likeSet_28 rfl ?_
      refine x_ishl dX10_likeSet_29 ?_
      refine x_ior dX10_likeSet_30 ?_
      refine x_istore_n dX10_likeSet_31 (by decide) ?_
      refine x_iincN dX10_likeSet_32 rfl (by decide) ?_
      refine x_goto 4 dX10_likeSet_35 ?_
      have e : lsM τ (mO (ru, ou, we, me, ki, ro, ma)) r (fun j => is (40 * s + j)) i ||| ((0 : Int32) <<< (nI i &&& 31)) = lsM τ (mO (ru, ou, we, me, ki, ro, ma)) r (fun j => is (40 * s + j)) (i + 1) := by rw [lsM, if_neg h_20]
      rw [e]
      exact ih _
    · refine x_iconst 1 dX10_likeSet_23 ?_
      refine x_goto 28 dX10_likeSet_24 ?_
      refine x_iload_n dX10_likeSet_28 rfl ?_
      refine x_ishl dX10_likeSet_29 ?_
      refine x_ior dX10_likeSet_30 ?_
      refine x_istore_n dX10_likeSet_31 (by decide) ?_
      refine x_iincN dX10_likeSet_32 rfl (by decide) ?_
      refine x_goto 4 dX10_likeSet_35 ?_
      have e : lsM τ (mO (ru, ou, we, me, ki, ro, ma)) r (fun j => is (40 * s + j)) i ||| ((1 : Int32) <<< (nI i &&& 31)) = lsM τ (mO (ru, ou, we, me, ki, ro, ma)) r (fun j => is (40 * s + j)) (i + 1) := by rw [lsM, if_pos h_20]
      rw [e]
      exact ih _
