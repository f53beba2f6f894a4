theorem i64_in {x a b : Int32} : (a.toInt64 ≤ x.toInt64 ∧ x.toInt64 ≤ b.toInt64) ↔ (a ≤ x ∧ x ≤ b) := by
  rw [Int64.le_iff_toInt_le, Int64.le_iff_toInt_le, Int32.toInt_toInt64, Int32.toInt_toInt64, Int32.toInt_toInt64, Int32.le_iff_toInt_le, Int32.le_iff_toInt_le]
set_option maxRecDepth 100000 in
set_option maxHeartbeats 4000000 in
theorem c_X10_in {X : Nat × (Nat → Int32)} {v a b : Int64} {w : pc_W} : Mt X 0 0 0 yX10_in cX10_in 6 (some .boolean) [.long v, .long a, .long b] w (RI (bi (a ≤ v ∧ v ≤ b)) w) := by
  refine Mt.of (by decide +kernel) (fun _ _ => Nat.le_of_ble_eq_true rfl) ?_
  show Ex X mX10_in _ _ _ _ _ _ _ _
  refine x_lload_n dX10_in_0 rfl ?_
  refine x_lload_n dX10_in_1 rfl ?_
  refine x_lcmp dX10_in_2 ?_
  refine x_if_lt 17 dX10_in_3 (fun h_3 => ?_) (fun h_3 => ?_)
  · refine x_iconst 0 dX10_in_17 ?_
    exact Ex.ret (v := some (.int _)) ⟨dX10_in_18, _, rfl, by first | rfl | decide⟩ ⟨congrArg (fun z => some (Value.int z)) ((bi_f (fun q => Int64.not_le.mpr ((lg_cmp_lt _ _).mp h_3) q.1)).symm), rfl⟩
  · refine x_lload_n dX10_in_6 rfl ?_
    refine x_lload dX10_in_7 rfl ?_
    refine x_lcmp dX10_in_9 ?_
    refine x_if_gt 17 dX10_in_10 (fun h_10 => ?_) (fun h_10 => ?_)
    · refine x_iconst 0 dX10_in_17 ?_
      exact Ex.ret (v := some (.int _)) ⟨dX10_in_18, _, rfl, by first | rfl | decide⟩ ⟨congrArg (fun z => some (Value.int z)) ((bi_f (fun q => Int64.not_le.mpr ((lg_cmp_gt _ _).mp h_10) q.2)).symm), rfl⟩
    · refine x_iconst 1 dX10_in_13 ?_
      refine x_goto 18 dX10_in_14 ?_
      exact Ex.ret (v := some (.int _)) ⟨dX10_in_18, _, rfl, by first | rfl | decide⟩ ⟨congrArg (fun z => some (Value.int z)) ((bi_t ⟨Int64.not_lt.mp (fun q => h_3 ((lg_cmp_lt _ _).mpr q)), Int64.not_lt.mp (fun q => h_10 ((lg_cmp_gt _ _).mpr q))⟩).symm), rfl⟩
theorem c_X10_inC {X : Nat × (Nat → Int32)} {x a b : Int32} {A B : Int64} {w : pc_W} (hA : A = a.toInt64) (hB : B = b.toInt64) : Mt X 0 0 0 yX10_in cX10_in 6 (some .boolean) [.long x.toInt64, .long A, .long B] w (RI (bi (a ≤ x ∧ x ≤ b)) w) := by
  subst hA hB
  rw [show bi (a ≤ x ∧ x ≤ b) = bi (a.toInt64 ≤ x.toInt64 ∧ x.toInt64 ≤ b.toInt64) from bi_cong i64_in.symm]
  exact c_X10_in
set_option maxRecDepth 100000 in
set_option maxHeartbeats 4000000 in
theorem c_X10_within {X : Nat × (Nat → Int32)} {v lo hi : Int32} {w : pc_W} : Mt X 0 0 0 yX10_within cX10_within 3 (some .int) [.int v, .int lo, .int hi] w (RI (clp lo v hi) w) := by
  refine Mt.of (by decide +kernel) (fun _ _ => Nat.le_of_ble_eq_true rfl) ?_
  show Ex X mX10_within _ _ _ _ _ _ _ _
  refine x_iload_n dX10_within_0 rfl ?_
  refine x_iload_n dX10_within_1 rfl ?_
  refine x_icmp_ge 9 dX10_within_2 (fun h_2 => ?_) (fun h_2 => ?_)
  · refine x_iload_n dX10_within_9 rfl ?_
    refine x_iload_n dX10_within_10 rfl ?_
    refine x_icmp_le 18 dX10_within_11 (fun h_11 => ?_) (fun h_11 => ?_)
    · refine x_iload_n dX10_within_18 rfl ?_
      exact Ex.ret (v := some (.int _)) ⟨dX10_within_19, _, rfl, by first | rfl | decide⟩ ⟨congrArg (fun z => some (Value.int z)) (by first | rfl | ((unfold clp; repeat' split) <;> first | rfl | contradiction | (simp_all; done) | (exfalso; simp only [Int32.lt_iff_toInt_lt, Int32.le_iff_toInt_le] at *; omega))), rfl⟩
    · refine x_iload_n dX10_within_14 rfl ?_
      refine x_goto 19 dX10_within_15 ?_
      exact Ex.ret (v := some (.int _)) ⟨dX10_within_19, _, rfl, by first | rfl | decide⟩ ⟨congrArg (fun z => some (Value.int z)) (by first | rfl | ((unfold clp; repeat' split) <;> first | rfl | contradiction | (simp_all; done) | (exfalso; simp only [Int32.lt_iff_toInt_lt, Int32.le_iff_toInt_le] at *; omega))), rfl⟩
  · refine x_iload_n dX10_within_5 rfl ?_
    refine x_goto 19 dX10_within_6 ?_
    exact Ex.ret (v := some (.int _)) ⟨dX10_within_19, _, rfl, by first | rfl | decide⟩ ⟨congrArg (fun z => some (Value.int z)) (by first | rfl | ((unfold clp; repeat' split) <;> first | rfl | contradiction | (simp_all; done) | (exfalso; simp only [Int32.lt_iff_toInt_lt, Int32.le_iff_toInt_le] at *; omega))), rfl⟩
set_option maxRecDepth 100000 in
set_option maxHeartbeats 4000000 in
theorem c_X10_isHour {X : Nat × (Nat → Int32)} {x : Int32} {w : pc_W} : Mt X 1 0 0 yX10_isHour cX10_isHour 1 (some .boolean) [.int x] w (RI (bi (0 ≤ x ∧ x < 8)) w) := by
  refine Mt.of (by decide +kernel) (fun _ _ => Nat.le_of_ble_eq_true rfl) ?_
  show Ex X mX10_isHour _ _ _ _ _ _ _ _
  refine x_iload_n dX10_isHour_0 rfl ?_
  refine x_i2l dX10_isHour_1 ?_
  refine x_lconst 0 dX10_isHour_2 ?_
  refine x_ldc2_w dX10_isHour_3 kk_X10_80 ?_
  refine ii_X10_76 dX10_isHour_6 (c_X10_inC (a := 0) (b := 7) (by first | rfl | decide) (by first | rfl | decide)) (by decide) (Nat.le_of_ble_eq_true rfl) ?_
  exact Ex.ret (v := some (.int _)) ⟨dX10_isHour_9, _, rfl, bi_z⟩ ⟨congrArg (fun z => some (Value.int z)) (bi_cong (⟨fun q => ⟨q.1, Int32.lt_iff_toInt_lt.mpr (by have := Int32.le_iff_toInt_le.mp q.2; simp only [tI_7, tI_8] at *; omega)⟩, fun q => ⟨q.1, Int32.le_iff_toInt_le.mpr (by have := Int32.lt_iff_toInt_lt.mp q.2; simp only [tI_7, tI_8] at *; omega)⟩⟩)), rfl⟩
set_option maxRecDepth 100000 in
set_option maxHeartbeats 4000000 in
theorem c_X10_isSheet {X : Nat × (Nat → Int32)} {x : Int32} {w : pc_W} : Mt X 1 0 0 yX10_isSheet cX10_isSheet 1 (some .boolean) [.int x] w (RI (bi (0 ≤ x ∧ x < 4)) w) := by
  refine Mt.of (by decide +kernel) (fun _ _ => Nat.le_of_ble_eq_true rfl) ?_
  show Ex X mX10_isSheet _ _ _ _ _ _ _ _
  refine x_iload_n dX10_isSheet_0 rfl ?_
  refine x_i2l dX10_isSheet_1 ?_
  refine x_lconst 0 dX10_isSheet_2 ?_
  refine x_ldc2_w dX10_isSheet_3 kk_X10_430 ?_
  refine ii_X10_76 dX10_isSheet_6 (c_X10_inC (a := 0) (b := 3) (by first | rfl | decide) (by first | rfl | decide)) (by decide) (Nat.le_of_ble_eq_true rfl) ?_
  exact Ex.ret (v := some (.int _)) ⟨dX10_isSheet_9, _, rfl, bi_z⟩ ⟨congrArg (fun z => some (Value.int z)) (bi_cong (⟨fun q => ⟨q.1, Int32.lt_iff_toInt_lt.mpr (by have := Int32.le_iff_toInt_le.mp q.2; simp only [tI_3, tI_4] at *; omega)⟩, fun q => ⟨q.1, Int32.le_iff_toInt_le.mpr (by have := Int32.lt_iff_toInt_lt.mp q.2; simp only [tI_3, tI_4] at *; omega)⟩⟩)), rfl⟩
def leF (what : Int32) : Int32 := if what = 1 then -999 else if what = 2 then -99999 else if what = 3 then -9 else 0
def hiF (what : Int32) : Int32 := if what = 1 then 999 else if what = 2 then 99999 else if what = 3 ∨ what = 5 then 9 else if what = 4 then 1 else 99
def ovF (k : Int32) : Int32 := if k = 0 then -1 else if k = 3 then 1 else if k = 4 then 2 else 0
set_option maxRecDepth 100000 in
set_option maxHeartbeats 4000000 in
theorem c_X10_leastOf {X : Nat × (Nat → Int32)} {x : Int32} {w : pc_W} : Mt X 0 0 0 yX10_leastOf cX10_leastOf 1 (some .int) [.int x] w (RI (leF x) w) := by
  refine Mt.of (by decide +kernel) (fun _ _ => Nat.le_of_ble_eq_true rfl) ?_
  show Ex X mX10_leastOf _ _ _ _ _ _ _ _
  refine x_iload_n dX10_leastOf_0 rfl ?_
  refine x_iconst 1 dX10_leastOf_1 ?_
  refine x_icmp_ne 11 dX10_leastOf_2 (fun h_2 => ?_) (fun h_2 => ?_)
  · refine x_iload_n dX10_leastOf_11 rfl ?_
    refine x_iconst 2 dX10_leastOf_12 ?_
    refine x_icmp_ne 21 dX10_leastOf_13 (fun h_13 => ?_) (fun h_13 => ?_)
    · refine x_iload_n dX10_leastOf_21 rfl ?_
      refine x_iconst 3 dX10_leastOf_22 ?_
      refine x_icmp_ne 31 dX10_leastOf_23 (fun h_23 => ?_) (fun h_23 => ?_)
      · refine x_iconst 0 dX10_leastOf_31 ?_
        exact Ex.ret (v := some (.int _)) ⟨dX10_leastOf_32, _, rfl, by first | rfl | decide⟩ ⟨congrArg (fun z => some (Value.int z)) (by (unfold leF; (repeat' split) <;> first | rfl | contradiction | (simp_all; done) | omega)), rfl⟩
      · refine x_bipush (-9) dX10_leastOf_26 ?_
        refine x_goto 32 dX10_leastOf_28 ?_
        exact Ex.ret (v := some (.int _)) ⟨dX10_leastOf_32, _, rfl, by first | rfl | decide⟩ ⟨congrArg (fun z => some (Value.int z)) (by (unfold leF; (repeat' split) <;> first | rfl | contradiction | (simp_all; done) | omega)), rfl⟩
    · refine x_ldc dX10_leastOf_16 kk_X10_89 ?_
      refine x_goto 32 dX10_leastOf_18 ?_
      exact Ex.ret (v := some (.int _)) ⟨dX10_leastOf_32, _, rfl, by first | rfl | decide⟩ ⟨congrArg (fun z => some (Value.int z)) (by (unfold leF; (repeat' split) <;> first | rfl | contradiction | (simp_all; done) | omega)), rfl⟩
  · refine x_sipush (-999) dX10_leastOf_5 ?_
    refine x_goto 32 dX10_leastOf_8 ?_
    exact Ex.ret (v := some (.int _)) ⟨dX10_leastOf_32, _, rfl, by first | rfl | decide⟩ ⟨congrArg (fun z => some (Value.int z)) (by (unfold leF; (repeat' split) <;> first | rfl | contradiction | (simp_all; done) | omega)), rfl⟩
set_option maxRecDepth 100000 in
set_option maxHeartbeats 4000000 in
theorem c_X10_mostOf {X : Nat × (Nat → Int32)} {x : Int32} {w : pc_W} : Mt X 0 0 0 yX10_mostOf cX10_mostOf 1 (some .int) [.int x] w (RI (hiF x) w) := by
  refine Mt.of (by decide +kernel) (fun _ _ => Nat.le_of_ble_eq_true rfl) ?_
  show Ex X mX10_mostOf _ _ _ _ _ _ _ _
  refine x_iload_n dX10_mostOf_0 rfl ?_
  refine x_iconst 1 dX10_mostOf_1 ?_
  refine x_icmp_ne 11 dX10_mostOf_2 (fun h_2 => ?_) (fun h_2 => ?_)
  · refine x_iload_n dX10_mostOf_11 rfl ?_
    refine x_iconst 2 dX10_mostOf_12 ?_
    refine x_icmp_ne 21 dX10_mostOf_13 (fun h_13 => ?_) (fun h_13 => ?_)
    · refine x_iload_n dX10_mostOf_21 rfl ?_
      refine x_iconst 3 dX10_mostOf_22 ?_
      refine x_icmp_eq 31 dX10_mostOf_23 (fun h_23 => ?_) (fun h_23 => ?_)
      · refine x_bipush 9 dX10_mostOf_31 ?_
        refine x_goto 47 dX10_mostOf_33 ?_
        exact Ex.ret (v := some (.int _)) ⟨dX10_mostOf_47, _, rfl, by first | rfl | decide⟩ ⟨congrArg (fun z => some (Value.int z)) (by (unfold hiF; (repeat' split) <;> first | rfl | contradiction | (simp_all; done) | omega)), rfl⟩
      · refine x_iload_n dX10_mostOf_26 rfl ?_
        refine x_iconst 5 dX10_mostOf_27 ?_
        refine x_icmp_ne 36 dX10_mostOf_28 (fun h_28 => ?_) (fun h_28 => ?_)
        · refine x_iload_n dX10_mostOf_36 rfl ?_
          refine x_iconst 4 dX10_mostOf_37 ?_
          refine x_icmp_ne 45 dX10_mostOf_38 (fun h_38 => ?_) (fun h_38 => ?_)
          · refine x_bipush 99 dX10_mostOf_45 ?_
            exact Ex.ret (v := some (.int _)) ⟨dX10_mostOf_47, _, rfl, by first | rfl | decide⟩ ⟨congrArg (fun z => some (Value.int z)) (by (unfold hiF; (repeat' split) <;> first | rfl | contradiction | (simp_all; done) | omega)), rfl⟩
          · refine x_iconst 1 dX10_mostOf_41 ?_
            refine x_goto 47 dX10_mostOf_42 ?_
            exact Ex.ret (v := some (.int _)) ⟨dX10_mostOf_47, _, rfl, by first | rfl | decide⟩ ⟨congrArg (fun z => some (Value.int z)) (by (unfold hiF; (repeat' split) <;> first | rfl | contradiction | (simp_all; done) | omega)), rfl⟩
        · refine x_bipush 9 dX10_mostOf_31 ?_
          refine x_goto 47 dX10_mostOf_33 ?_
          exact Ex.ret (v := some (.int _)) ⟨dX10_mostOf_47, _, rfl, by first | rfl | decide⟩ ⟨congrArg (fun z => some (Value.int z)) (by (unfold hiF; (repeat' split) <;> first | rfl | contradiction | (simp_all; done) | omega)), rfl⟩
    · refine x_ldc dX10_mostOf_16 kk_X10_90 ?_
      refine x_goto 47 dX10_mostOf_18 ?_
      exact Ex.ret (v := some (.int _)) ⟨dX10_mostOf_47, _, rfl, by first | rfl | decide⟩ ⟨congrArg (fun z => some (Value.int z)) (by (unfold hiF; (repeat' split) <;> first | rfl | contradiction | (simp_all; done) | omega)), rfl⟩
  · refine x_sipush 999 dX10_mostOf_5 ?_
    refine x_goto 47 dX10_mostOf_8 ?_
    exact Ex.ret (v := some (.int _)) ⟨dX10_mostOf_47, _, rfl, by first | rfl | decide⟩ ⟨congrArg (fun z => some (Value.int z)) (by (unfold hiF; (repeat' split) <;> first | rfl | contradiction | (simp_all; done) | omega)), rfl⟩
set_option maxRecDepth 100000 in
set_option maxHeartbeats 4000000 in
theorem c_X10_over {X : Nat × (Nat → Int32)} {x : Int32} {w : pc_W} : Mt X 0 0 0 yX10_over cX10_over 1 (some .int) [.int x] w (RI (ovF x) w) := by
  refine Mt.of (by decide +kernel) (fun _ _ => Nat.le_of_ble_eq_true rfl) ?_
  show Ex X mX10_over _ _ _ _ _ _ _ _
  refine x_iload_n dX10_over_0 rfl ?_
  refine x_if_ne 8 dX10_over_1 (fun h_1 => ?_) (fun h_1 => ?_)
  · refine x_iload_n dX10_over_8 rfl ?_
    refine x_iconst 3 dX10_over_9 ?_
    refine x_icmp_ne 17 dX10_over_10 (fun h_10 => ?_) (fun h_10 => ?_)
    · refine x_iload_n dX10_over_17 rfl ?_
      refine x_iconst 4 dX10_over_18 ?_
      refine x_icmp_ne 26 dX10_over_19 (fun h_19 => ?_) (fun h_19 => ?_)
      · refine x_iconst 0 dX10_over_26 ?_
        exact Ex.ret (v := some (.int _)) ⟨dX10_over_27, _, rfl, by first | rfl | decide⟩ ⟨congrArg (fun z => some (Value.int z)) (by (unfold ovF; (repeat' split) <;> first | rfl | contradiction | (simp_all; done) | omega)), rfl⟩
      · refine x_iconst 2 dX10_over_22 ?_
        refine x_goto 27 dX10_over_23 ?_
        exact Ex.ret (v := some (.int _)) ⟨dX10_over_27, _, rfl, by first | rfl | decide⟩ ⟨congrArg (fun z => some (Value.int z)) (by (unfold ovF; (repeat' split) <;> first | rfl | contradiction | (simp_all; done) | omega)), rfl⟩
    · refine x_iconst 1 dX10_over_13 ?_
      refine x_goto 27 dX10_over_14 ?_
      exact Ex.ret (v := some (.int _)) ⟨dX10_over_27, _, rfl, by first | rfl | decide⟩ ⟨congrArg (fun z => some (Value.int z)) (by (unfold ovF; (repeat' split) <;> first | rfl | contradiction | (simp_all; done) | omega)), rfl⟩
  · refine x_iconst (-1) dX10_over_4 ?_
    refine x_goto 27 dX10_over_5 ?_
    exact Ex.ret (v := some (.int _)) ⟨dX10_over_27, _, rfl, by first | rfl | decide⟩ ⟨congrArg (fun z => some (Value.int z)) (by (unfold ovF; (repeat' split) <;> first | rfl | contradiction | (simp_all; done) | omega)), rfl⟩
theorem on_iff {z : Nat} {ma p : Int32} (hz : ma = nI z) (hz6 : z ≤ 6) : (0 ≤ p ∧ p ≤ ma - 1) ↔ onC z p := by
  unfold onC
  rw [hz]
  by_cases h0 : z = 0
  · subst h0
    constructor
    · rintro ⟨q1, q2⟩; exact absurd (Int32.le_trans q1 q2) (by decide)
    · rintro ⟨q1, q2⟩; exact absurd q2 (Int32.not_lt.mpr q1)
  · rw [isub1 (by omega)]
    constructor
    · rintro ⟨q1, q2⟩; exact ⟨q1, Int32.lt_of_le_of_lt q2 (nI_lt (by omega) (by omega))⟩
    · rintro ⟨q1, q2⟩
      obtain ⟨k, hk, rfl⟩ := nat_of q1 q2 (by omega)
      exact ⟨q1, nI_le (by omega) (by omega)⟩
set_option maxRecDepth 100000 in
set_option maxHeartbeats 4000000 in
theorem c_X10_isOne {X : Nat × (Nat → Int32)} {S : CS} {tl : pc_W} {T : MT} {ru : Int32} {ou : (Nat → Int32)} {we : (Nat → Int32)} {me : Int32} {ki : (Nat → Int32)} {ro : (Nat → Int32)} {ma : Int32} {Λ : ML} {C : MC} {K : MK} {H : MH} {z : Nat} {p : Int32} (hz : ma = nI z) (hz6 : z ≤ 6): Mt X 1 0 0 yX10_isOne cX10_isOne 2 (some .boolean) [.ref 42, .int p] (cst S ++ (mw T (ru, ou, we, me, ki, ro, ma) Λ C K H ++ tl)) (RI (bi (onC z p)) (cst S ++ (mw T (ru, ou, we, me, ki, ro, ma) Λ C K H ++ tl))) := by
  refine Mt.of (by decide +kernel) (fun _ _ => Nat.le_of_ble_eq_true rfl) ?_
  show Ex X mX10_isOne _ _ _ _ _ _ _ _
  refine x_iload_n dX10_isOne_0 rfl ?_
  refine x_i2l dX10_isOne_1 ?_
  refine x_lconst 0 dX10_isOne_2 ?_
  refine x_aload_n dX10_isOne_3 rfl ?_
  refine mg_73 dX10_isOne_4 ?_
  refine x_iconst 1 dX10_isOne_7 ?_
  refine x_isub dX10_isOne_8 ?_
  refine x_i2l dX10_isOne_9 ?_
  refine ii_X10_76 dX10_isOne_10 (c_X10_inC (a := 0) (b := ma - 1) (by first | rfl | decide) (by first | rfl | decide)) (by decide) (Nat.le_of_ble_eq_true rfl) ?_
  exact Ex.ret (v := some (.int _)) ⟨dX10_isOne_13, _, rfl, bi_z⟩ ⟨congrArg (fun z => some (Value.int z)) (bi_cong (on_iff hz hz6)), rfl⟩
