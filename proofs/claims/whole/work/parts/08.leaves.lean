/-! leaves: what the methods without a world answer -/
section
variable {X : Nat × (Nat → Int32)} {M : MI} {d : Nat} {Ret : Option Value → pc_W → Prop} {cb sb : Nat} {pc : Nat} {L : List (Option Value)} {st : List Value} {w : pc_W}
theorem x_swC {x : Int32} (c : Int32) (h1 : x = c → Ex X M d Ret cb sb pc L (.int c :: st) w) (h2 : ¬ x = c → Ex X M d Ret cb sb pc L (.int x :: st) w) : Ex X M d Ret cb sb pc L (.int x :: st) w := by
  by_cases h : x = c
  · subst h; exact h1 rfl
  · exact h2 h
end
/-- a truth as an int -/
def bi (c : Prop) [Decidable c] : Int32 := if c then 1 else 0
theorem bi_t {c : Prop} [Decidable c] (h : c) : bi c = 1 := if_pos h
theorem bi_f {c : Prop} [Decidable c] (h : ¬ c) : bi c = 0 := if_neg h
theorem bi0 {c : Prop} [Decidable c] : bi c = 0 ↔ ¬ c := by
  unfold bi
  by_cases h : c
  · simp [h]
  · simp [h]
theorem bi1 {c : Prop} [Decidable c] : ¬ bi c = 0 ↔ c := by
  rw [bi0]; exact Decidable.not_not
theorem bi_z {c : Prop} [Decidable c] : narrow .boolean (.int (bi c)) = .int (bi c) := by
  unfold bi
  by_cases h : c
  · rw [if_pos h]; rfl
  · rw [if_neg h]; rfl
def clp (lo v hi : Int32) : Int32 := if v < lo then lo else if hi < v then hi else v
def kTh (k v h y n : Int32) : Int32 :=
  if k = 1 then (if v < 0 then 0 else v) else if k = 2 then (if h = n - n / 8 * 8 then 2 * v else 0) else if k = 3 then (if y < n then (if v < 0 then 0 else v) - 5 else (if v < 0 then 0 else v)) else if k = 4 then (if h = 7 then 9 else (if h = n - n / 8 * 8 then 2 * v else 0)) else if k = 5 then (if v < 0 then -v else v) else v
def kMe (k v n : Int32) : Int32 := if k = 1 then v / 2 else if k = 2 then 1 else if k = 3 then v / 2 + n else if k = 4 then 1 else if k = 5 then 0 else v
def kCl (k v n : Int32) : Int32 := if k = 2 then 0 else if k = 3 then 2 * v else if k = 4 then 0 else if k = 5 then -n else v
set_option maxRecDepth 100000 in
set_option maxHeartbeats 4000000 in
theorem c_X9_within {X : Nat × (Nat → Int32)} {lo v hi : Int32} {w : pc_W} : Mt X 0 0 0 yX9_within cX9_within 3 (some .int) [.int lo, .int v, .int hi] w (RI (clp lo v hi) w) := by
  refine Mt.of (by decide +kernel) (fun _ _ => Nat.le_of_ble_eq_true rfl) ?_
  show Ex X mX9_within _ _ _ _ _ _ _ _
  refine x_iload_n dX9_within_0 rfl ?_
  refine x_iload_n dX9_within_1 rfl ?_
  refine x_icmp_ge 9 dX9_within_2 (fun h_2 => ?_) (fun h_2 => ?_)
  · refine x_iload_n dX9_within_9 rfl ?_
    refine x_iload_n dX9_within_10 rfl ?_
    refine x_icmp_le 18 dX9_within_11 (fun h_11 => ?_) (fun h_11 => ?_)
    · refine x_iload_n dX9_within_18 rfl ?_
      exact Ex.ret (v := some (.int _)) ⟨dX9_within_19, _, rfl, by first | rfl | decide⟩ ⟨congrArg (fun z => some (Value.int z)) (by first | rfl | ((unfold clp; repeat' split) <;> first | rfl | contradiction | (simp_all; done) | (exfalso; simp only [Int32.lt_iff_toInt_lt, Int32.le_iff_toInt_le] at *; omega))), rfl⟩
    · refine x_iload_n dX9_within_14 rfl ?_
      refine x_goto 19 dX9_within_15 ?_
      exact Ex.ret (v := some (.int _)) ⟨dX9_within_19, _, rfl, by first | rfl | decide⟩ ⟨congrArg (fun z => some (Value.int z)) (by first | rfl | ((unfold clp; repeat' split) <;> first | rfl | contradiction | (simp_all; done) | (exfalso; simp only [Int32.lt_iff_toInt_lt, Int32.le_iff_toInt_le] at *; omega))), rfl⟩
  · refine x_iload_n dX9_within_5 rfl ?_
    refine x_goto 19 dX9_within_6 ?_
    exact Ex.ret (v := some (.int _)) ⟨dX9_within_19, _, rfl, by first | rfl | decide⟩ ⟨congrArg (fun z => some (Value.int z)) (by first | rfl | ((unfold clp; repeat' split) <;> first | rfl | contradiction | (simp_all; done) | (exfalso; simp only [Int32.lt_iff_toInt_lt, Int32.le_iff_toInt_le] at *; omega))), rfl⟩
set_option maxRecDepth 100000 in
set_option maxHeartbeats 4000000 in
theorem c_X0_thinks {X : Nat × (Nat → Int32)} {k v h y n : Int32} {w : pc_W} : Mt X 0 0 0 yX0_thinks cX0_thinks 7 (some .int) [.int k, .int v, .int h, .int y, .int n] w (RI (kTh k v h y n) w) := by
  refine Mt.of (by decide +kernel) (fun _ _ => Nat.le_of_ble_eq_true rfl) ?_
  show Ex X mX0_thinks _ _ _ _ _ _ _ _
  refine x_iload_n dX0_thinks_0 rfl ?_
  refine x_if_ge 8 dX0_thinks_1 (fun h_1 => ?_) (fun h_1 => ?_)
  · refine x_iload_n dX0_thinks_8 rfl ?_
    refine x_istore dX0_thinks_9 (by decide) ?_
    refine x_iload_n dX0_thinks_11 rfl ?_
    refine x_iload dX0_thinks_12 rfl ?_
    refine x_bipush 8 dX0_thinks_14 ?_
    refine x_irem dX0_thinks_16 (by decide) ?_
    refine x_icmp_ne 26 dX0_thinks_17 (fun h_17 => ?_) (fun h_17 => ?_)
    · refine x_iconst 0 dX0_thinks_26 ?_
      refine x_istore dX0_thinks_27 (by decide) ?_
      refine x_iload_n dX0_thinks_29 rfl ?_
      refine x_swC 1 (fun s_30_0 => ?_) (fun s_30_0 => ?_)
      · refine x_tswIn 64 dX0_thinks_30 (by decide) (by decide) rfl ?_
        refine x_iload dX0_thinks_64 rfl ?_
        exact Ex.ret (v := some (.int _)) ⟨dX0_thinks_66, _, rfl, by first | rfl | decide⟩ ⟨congrArg (fun z => some (Value.int z)) (by first | rfl | ((unfold kTh; repeat' split) <;> first | rfl | contradiction | (simp_all; done) | (exfalso; simp only [Int32.lt_iff_toInt_lt, Int32.le_iff_toInt_le] at *; omega))), rfl⟩
      refine x_swC 2 (fun s_30_1 => ?_) (fun s_30_1 => ?_)
      · refine x_tswIn 67 dX0_thinks_30 (by decide) (by decide) rfl ?_
        refine x_iload dX0_thinks_67 rfl ?_
        exact Ex.ret (v := some (.int _)) ⟨dX0_thinks_69, _, rfl, by first | rfl | decide⟩ ⟨congrArg (fun z => some (Value.int z)) (by first | rfl | ((unfold kTh; repeat' split) <;> first | rfl | contradiction | (simp_all; done) | (exfalso; simp only [Int32.lt_iff_toInt_lt, Int32.le_iff_toInt_le] at *; omega))), rfl⟩
      refine x_swC 3 (fun s_30_2 => ?_) (fun s_30_2 => ?_)
      · refine x_tswIn 70 dX0_thinks_30 (by decide) (by decide) rfl ?_
        refine x_iload_n dX0_thinks_70 rfl ?_
        refine x_iload dX0_thinks_71 rfl ?_
        refine x_icmp_ge 83 dX0_thinks_73 (fun h_73 => ?_) (fun h_73 => ?_)
        · refine x_iload dX0_thinks_83 rfl ?_
          exact Ex.ret (v := some (.int _)) ⟨dX0_thinks_85, _, rfl, by first | rfl | decide⟩ ⟨congrArg (fun z => some (Value.int z)) (by first | rfl | ((unfold kTh; repeat' split) <;> first | rfl | contradiction | (simp_all; done) | (exfalso; simp only [Int32.lt_iff_toInt_lt, Int32.le_iff_toInt_le] at *; omega))), rfl⟩
        · refine x_iload dX0_thinks_76 rfl ?_
          refine x_iconst 5 dX0_thinks_78 ?_
          refine x_isub dX0_thinks_79 ?_
          refine x_goto 85 dX0_thinks_80 ?_
          exact Ex.ret (v := some (.int _)) ⟨dX0_thinks_85, _, rfl, by first | rfl | decide⟩ ⟨congrArg (fun z => some (Value.int z)) (by first | rfl | ((unfold kTh; repeat' split) <;> first | rfl | contradiction | (simp_all; done) | (exfalso; simp only [Int32.lt_iff_toInt_lt, Int32.le_iff_toInt_le] at *; omega))), rfl⟩
      refine x_swC 4 (fun s_30_3 => ?_) (fun s_30_3 => ?_)
      · refine x_tswIn 86 dX0_thinks_30 (by decide) (by decide) rfl ?_
        refine x_iload_n dX0_thinks_86 rfl ?_
        refine x_bipush 7 dX0_thinks_87 ?_
        refine x_icmp_ne 97 dX0_thinks_89 (fun h_89 => ?_) (fun h_89 => ?_)
        · refine x_iload dX0_thinks_97 rfl ?_
          exact Ex.ret (v := some (.int _)) ⟨dX0_thinks_99, _, rfl, by first | rfl | decide⟩ ⟨congrArg (fun z => some (Value.int z)) (by first | rfl | ((unfold kTh; repeat' split) <;> first | rfl | contradiction | (simp_all; done) | (exfalso; simp only [Int32.lt_iff_toInt_lt, Int32.le_iff_toInt_le] at *; omega))), rfl⟩
        · refine x_bipush 9 dX0_thinks_92 ?_
          refine x_goto 99 dX0_thinks_94 ?_
          exact Ex.ret (v := some (.int _)) ⟨dX0_thinks_99, _, rfl, by first | rfl | decide⟩ ⟨congrArg (fun z => some (Value.int z)) (by first | rfl | ((unfold kTh; repeat' split) <;> first | rfl | contradiction | (simp_all; done) | (exfalso; simp only [Int32.lt_iff_toInt_lt, Int32.le_iff_toInt_le] at *; omega))), rfl⟩
      refine x_swC 5 (fun s_30_4 => ?_) (fun s_30_4 => ?_)
      · refine x_tswIn 100 dX0_thinks_30 (by decide) (by decide) rfl ?_
        refine x_iload_n dX0_thinks_100 rfl ?_
        refine x_if_ge 109 dX0_thinks_101 (fun h_101 => ?_) (fun h_101 => ?_)
        · refine x_iload_n dX0_thinks_109 rfl ?_
          exact Ex.ret (v := some (.int _)) ⟨dX0_thinks_110, _, rfl, by first | rfl | decide⟩ ⟨congrArg (fun z => some (Value.int z)) (by first | rfl | ((unfold kTh; repeat' split) <;> first | rfl | contradiction | (simp_all; done) | (exfalso; simp only [Int32.lt_iff_toInt_lt, Int32.le_iff_toInt_le] at *; omega))), rfl⟩
        · refine x_iload_n dX0_thinks_104 rfl ?_
          refine x_ineg dX0_thinks_105 ?_
          refine x_goto 110 dX0_thinks_106 ?_
          exact Ex.ret (v := some (.int _)) ⟨dX0_thinks_110, _, rfl, by first | rfl | decide⟩ ⟨congrArg (fun z => some (Value.int z)) (by first | rfl | ((unfold kTh; repeat' split) <;> first | rfl | contradiction | (simp_all; done) | (exfalso; simp only [Int32.lt_iff_toInt_lt, Int32.le_iff_toInt_le] at *; omega))), rfl⟩
      refine x_tswOut 111 dX0_thinks_30 (by have e0 := lv_neT (a := 1) s_30_0 (by decide); have e1 := lv_neT (a := 2) s_30_1 (by decide); have e2 := lv_neT (a := 3) s_30_2 (by decide); have e3 := lv_neT (a := 4) s_30_3 (by decide); have e4 := lv_neT (a := 5) s_30_4 (by decide); omega) ?_
      refine x_iload_n dX0_thinks_111 rfl ?_
      exact Ex.ret (v := some (.int _)) ⟨dX0_thinks_112, _, rfl, by first | rfl | decide⟩ ⟨congrArg (fun z => some (Value.int z)) (by first | rfl | ((unfold kTh; repeat' split) <;> first | rfl | contradiction | (simp_all; done) | (exfalso; simp only [Int32.lt_iff_toInt_lt, Int32.le_iff_toInt_le] at *; omega))), rfl⟩
    · refine x_iconst 2 dX0_thinks_20 ?_
      refine x_iload_n dX0_thinks_21 rfl ?_
      refine x_imul dX0_thinks_22 ?_
      refine x_goto 27 dX0_thinks_23 ?_
      refine x_istore dX0_thinks_27 (by decide) ?_
      refine x_iload_n dX0_thinks_29 rfl ?_
      refine x_swC 1 (fun s_30_0 => ?_) (fun s_30_0 => ?_)
      · refine x_tswIn 64 dX0_thinks_30 (by decide) (by decide) rfl ?_
        refine x_iload dX0_thinks_64 rfl ?_
        exact Ex.ret (v := some (.int _)) ⟨dX0_thinks_66, _, rfl, by first | rfl | decide⟩ ⟨congrArg (fun z => some (Value.int z)) (by first | rfl | ((unfold kTh; repeat' split) <;> first | rfl | contradiction | (simp_all; done) | (exfalso; simp only [Int32.lt_iff_toInt_lt, Int32.le_iff_toInt_le] at *; omega))), rfl⟩
      refine x_swC 2 (fun s_30_1 => ?_) (fun s_30_1 => ?_)
      · refine x_tswIn 67 dX0_thinks_30 (by decide) (by decide) rfl ?_
        refine x_iload dX0_thinks_67 rfl ?_
        exact Ex.ret (v := some (.int _)) ⟨dX0_thinks_69, _, rfl, by first | rfl | decide⟩ ⟨congrArg (fun z => some (Value.int z)) (by first | rfl | ((unfold kTh; repeat' split) <;> first | rfl | contradiction | (simp_all; done) | (exfalso; simp only [Int32.lt_iff_toInt_lt, Int32.le_iff_toInt_le] at *; omega))), rfl⟩
      refine x_swC 3 (fun s_30_2 => ?_) (fun s_30_2 => ?_)
      · refine x_tswIn 70 dX0_thinks_30 (by decide) (by decide) rfl ?_
        refine x_iload_n dX0_thinks_70 rfl ?_
        refine x_iload dX0_thinks_71 rfl ?_
        refine x_icmp_ge 83 dX0_thinks_73 (fun h_73 => ?_) (fun h_73 => ?_)
        · refine x_iload dX0_thinks_83 rfl ?_
          exact Ex.ret (v := some (.int _)) ⟨dX0_thinks_85, _, rfl, by first | rfl | decide⟩ ⟨congrArg (fun z => some (Value.int z)) (by first | rfl | ((unfold kTh; repeat' split) <;> first | rfl | contradiction | (simp_all; done) | (exfalso; simp only [Int32.lt_iff_toInt_lt, Int32.le_iff_toInt_le] at *; omega))), rfl⟩
        · refine x_iload dX0_thinks_76 rfl ?_
          refine x_iconst 5 dX0_thinks_78 ?_
          refine x_isub dX0_thinks_79 ?_
          refine x_goto 85 dX0_thinks_80 ?_
          exact Ex.ret (v := some (.int _)) ⟨dX0_thinks_85, _, rfl, by first | rfl | decide⟩ ⟨congrArg (fun z => some (Value.int z)) (by first | rfl | ((unfold kTh; repeat' split) <;> first | rfl | contradiction | (simp_all; done) | (exfalso; simp only [Int32.lt_iff_toInt_lt, Int32.le_iff_toInt_le] at *; omega))), rfl⟩
      refine x_swC 4 (fun s_30_3 => ?_) (fun s_30_3 => ?_)
      · refine x_tswIn 86 dX0_thinks_30 (by decide) (by decide) rfl ?_
        refine x_iload_n dX0_thinks_86 rfl ?_
        refine x_bipush 7 dX0_thinks_87 ?_
        refine x_icmp_ne 97 dX0_thinks_89 (fun h_89 => ?_) (fun h_89 => ?_)
        · refine x_iload dX0_thinks_97 rfl ?_
          exact Ex.ret (v := some (.int _)) ⟨dX0_thinks_99, _, rfl, by first | rfl | decide⟩ ⟨congrArg (fun z => some (Value.int z)) (by first | rfl | ((unfold kTh; repeat' split) <;> first | rfl | contradiction | (simp_all; done) | (exfalso; simp only [Int32.lt_iff_toInt_lt, Int32.le_iff_toInt_le] at *; omega))), rfl⟩
        · refine x_bipush 9 dX0_thinks_92 ?_
          refine x_goto 99 dX0_thinks_94 ?_
          exact Ex.ret (v := some (.int _)) ⟨dX0_thinks_99, _, rfl, by first | rfl | decide⟩ ⟨congrArg (fun z => some (Value.int z)) (by first | rfl | ((unfold kTh; repeat' split) <;> first | rfl | contradiction | (simp_all; done) | (exfalso; simp only [Int32.lt_iff_toInt_lt, Int32.le_iff_toInt_le] at *; omega))), rfl⟩
      refine x_swC 5 (fun s_30_4 => ?_) (fun s_30_4 => ?_)
      · refine x_tswIn 100 dX0_thinks_30 (by decide) (by decide) rfl ?_
        refine x_iload_n dX0_thinks_100 rfl ?_
        refine x_if_ge 109 dX0_thinks_101 (fun h_101 => ?_) (fun h_101 => ?_)
        · refine x_iload_n dX0_thinks_109 rfl ?_
          exact Ex.ret (v := some (.int _)) ⟨dX0_thinks_110, _, rfl, by first | rfl | decide⟩ ⟨congrArg (fun z => some (Value.int z)) (by first | rfl | ((unfold kTh; repeat' split) <;> first | rfl | contradiction | (simp_all; done) | (exfalso; simp only [Int32.lt_iff_toInt_lt, Int32.le_iff_toInt_le] at *; omega))), rfl⟩
        · refine x_iload_n dX0_thinks_104 rfl ?_
          refine x_ineg dX0_thinks_105 ?_
          refine x_goto 110 dX0_thinks_106 ?_
          exact Ex.ret (v := some (.int _)) ⟨dX0_thinks_110, _, rfl, by first | rfl | decide⟩ ⟨congrArg (fun z => some (Value.int z)) (by first | rfl | ((unfold kTh; repeat' split) <;> first | rfl | contradiction | (simp_all; done) | (exfalso; simp only [Int32.lt_iff_toInt_lt, Int32.le_iff_toInt_le] at *; omega))), rfl⟩
      refine x_tswOut 111 dX0_thinks_30 (by have e0 := lv_neT (a := 1) s_30_0 (by decide); have e1 := lv_neT (a := 2) s_30_1 (by decide); have e2 := lv_neT (a := 3) s_30_2 (by decide); have e3 := lv_neT (a := 4) s_30_3 (by decide); have e4 := lv_neT (a := 5) s_30_4 (by decide); omega) ?_
      refine x_iload_n dX0_thinks_111 rfl ?_
      exact Ex.ret (v := some (.int _)) ⟨dX0_thinks_112, _, rfl, by first | rfl | decide⟩ ⟨congrArg (fun z => some (Value.int z)) (by first | rfl | ((unfold kTh; repeat' split) <;> first | rfl | contradiction | (simp_all; done) | (exfalso; simp only [Int32.lt_iff_toInt_lt, Int32.le_iff_toInt_le] at *; omega))), rfl⟩
  · refine x_iconst 0 dX0_thinks_4 ?_
    refine x_goto 9 dX0_thinks_5 ?_
    refine x_istore dX0_thinks_9 (by decide) ?_
    refine x_iload_n dX0_thinks_11 rfl ?_
    refine x_iload dX0_thinks_12 rfl ?_
    refine x_bipush 8 dX0_thinks_14 ?_
    refine x_irem dX0_thinks_16 (by decide) ?_
    refine x_icmp_ne 26 dX0_thinks_17 (fun h_17 => ?_) (fun h_17 => ?_)
    · refine x_iconst 0 dX0_thinks_26 ?_
      refine x_istore dX0_thinks_27 (by decide) ?_
      refine x_iload_n dX0_thinks_29 rfl ?_
      refine x_swC 1 (fun s_30_0 => ?_) (fun s_30_0 => ?_)
      · refine x_tswIn 64 dX0_thinks_30 (by decide) (by decide) rfl ?_
        refine x_iload dX0_thinks_64 rfl ?_
        exact Ex.ret (v := some (.int _)) ⟨dX0_thinks_66, _, rfl, by first | rfl | decide⟩ ⟨congrArg (fun z => some (Value.int z)) (by first | rfl | ((unfold kTh; repeat' split) <;> first | rfl | contradiction | (simp_all; done) | (exfalso; simp only [Int32.lt_iff_toInt_lt, Int32.le_iff_toInt_le] at *; omega))), rfl⟩
      refine x_swC 2 (fun s_30_1 => ?_) (fun s_30_1 => ?_)
      · refine x_tswIn 67 dX0_thinks_30 (by decide) (by decide) rfl ?_
        refine x_iload dX0_thinks_67 rfl ?_
        exact Ex.ret (v := some (.int _)) ⟨dX0_thinks_69, _, rfl, by first | rfl | decide⟩ ⟨congrArg (fun z => some (Value.int z)) (by first | rfl | ((unfold kTh; repeat' split) <;> first | rfl | contradiction | (simp_all; done) | (exfalso; simp only [Int32.lt_iff_toInt_lt, Int32.le_iff_toInt_le] at *; omega))), rfl⟩
      refine x_swC 3 (fun s_30_2 => ?_) (fun s_30_2 => ?_)
      · refine x_tswIn 70 dX0_thinks_30 (by decide) (by decide) rfl ?_
        refine x_iload_n dX0_thinks_70 rfl ?_
        refine x_iload dX0_thinks_71 rfl ?_
        refine x_icmp_ge 83 dX0_thinks_73 (fun h_73 => ?_) (fun h_73 => ?_)
        · refine x_iload dX0_thinks_83 rfl ?_
          exact Ex.ret (v := some (.int _)) ⟨dX0_thinks_85, _, rfl, by first | rfl | decide⟩ ⟨congrArg (fun z => some (Value.int z)) (by first | rfl | ((unfold kTh; repeat' split) <;> first | rfl | contradiction | (simp_all; done) | (exfalso; simp only [Int32.lt_iff_toInt_lt, Int32.le_iff_toInt_le] at *; omega))), rfl⟩
        · refine x_iload dX0_thinks_76 rfl ?_
          refine x_iconst 5 dX0_thinks_78 ?_
          refine x_isub dX0_thinks_79 ?_
          refine x_goto 85 dX0_thinks_80 ?_
          exact Ex.ret (v := some (.int _)) ⟨dX0_thinks_85, _, rfl, by first | rfl | decide⟩ ⟨congrArg (fun z => some (Value.int z)) (by first | rfl | ((unfold kTh; repeat' split) <;> first | rfl | contradiction | (simp_all; done) | (exfalso; simp only [Int32.lt_iff_toInt_lt, Int32.le_iff_toInt_le] at *; omega))), rfl⟩
      refine x_swC 4 (fun s_30_3 => ?_) (fun s_30_3 => ?_)
      · refine x_tswIn 86 dX0_thinks_30 (by decide) (by decide) rfl ?_
        refine x_iload_n dX0_thinks_86 rfl ?_
        refine x_bipush 7 dX0_thinks_87 ?_
        refine x_icmp_ne 97 dX0_thinks_89 (fun h_89 => ?_) (fun h_89 => ?_)
        · refine x_iload dX0_thinks_97 rfl ?_
          exact Ex.ret (v := some (.int _)) ⟨dX0_thinks_99, _, rfl, by first | rfl | decide⟩ ⟨congrArg (fun z => some (Value.int z)) (by first | rfl | ((unfold kTh; repeat' split) <;> first | rfl | contradiction | (simp_all; done) | (exfalso; simp only [Int32.lt_iff_toInt_lt, Int32.le_iff_toInt_le] at *; omega))), rfl⟩
        · refine x_bipush 9 dX0_thinks_92 ?_
          refine x_goto 99 dX0_thinks_94 ?_
          exact Ex.ret (v := some (.int _)) ⟨dX0_thinks_99, _, rfl, by first | rfl | decide⟩ ⟨congrArg (fun z => some (Value.int z)) (by first | rfl | ((unfold kTh; repeat' split) <;> first | rfl | contradiction | (simp_all; done) | (exfalso; simp only [Int32.lt_iff_toInt_lt, Int32.le_iff_toInt_le] at *; omega))), rfl⟩
      refine x_swC 5 (fun s_30_4 => ?_) (fun s_30_4 => ?_)
      · refine x_tswIn 100 dX0_thinks_30 (by decide) (by decide) rfl ?_
        refine x_iload_n dX0_thinks_100 rfl ?_
        refine x_if_ge 109 dX0_thinks_101 (fun h_101 => ?_) (fun h_101 => ?_)
        · refine x_iload_n dX0_thinks_109 rfl ?_
          exact Ex.ret (v := some (.int _)) ⟨dX0_thinks_110, _, rfl, by first | rfl | decide⟩ ⟨congrArg (fun z => some (Value.int z)) (by first | rfl | ((unfold kTh; repeat' split) <;> first | rfl | contradiction | (simp_all; done) | (exfalso; simp only [Int32.lt_iff_toInt_lt, Int32.le_iff_toInt_le] at *; omega))), rfl⟩
        · refine x_iload_n dX0_thinks_104 rfl ?_
          refine x_ineg dX0_thinks_105 ?_
          refine x_goto 110 dX0_thinks_106 ?_
          exact Ex.ret (v := some (.int _)) ⟨dX0_thinks_110, _, rfl, by first | rfl | decide⟩ ⟨congrArg (fun z => some (Value.int z)) (by first | rfl | ((unfold kTh; repeat' split) <;> first | rfl | contradiction | (simp_all; done) | (exfalso; simp only [Int32.lt_iff_toInt_lt, Int32.le_iff_toInt_le] at *; omega))), rfl⟩
      refine x_tswOut 111 dX0_thinks_30 (by have e0 := lv_neT (a := 1) s_30_0 (by decide); have e1 := lv_neT (a := 2) s_30_1 (by decide); have e2 := lv_neT (a := 3) s_30_2 (by decide); have e3 := lv_neT (a := 4) s_30_3 (by decide); have e4 := lv_neT (a := 5) s_30_4 (by decide); omega) ?_
      refine x_iload_n dX0_thinks_111 rfl ?_
      exact Ex.ret (v := some (.int _)) ⟨dX0_thinks_112, _, rfl, by first | rfl | decide⟩ ⟨congrArg (fun z => some (Value.int z)) (by first | rfl | ((unfold kTh; repeat' split) <;> first | rfl | contradiction | (simp_all; done) | (exfalso; simp only [Int32.lt_iff_toInt_lt, Int32.le_iff_toInt_le] at *; omega))), rfl⟩
    · refine x_iconst 2 dX0_thinks_20 ?_
      refine x_iload_n dX0_thinks_21 rfl ?_
      refine x_imul dX0_thinks_22 ?_
      refine x_goto 27 dX0_thinks_23 ?_
      refine x_istore dX0_thinks_27 (by decide) ?_
      refine x_iload_n dX0_thinks_29 rfl ?_
      refine x_swC 1 (fun s_30_0 => ?_) (fun s_30_0 => ?_)
      · refine x_tswIn 64 dX0_thinks_30 (by decide) (by decide) rfl ?_
        refine x_iload dX0_thinks_64 rfl ?_
        exact Ex.ret (v := some (.int _)) ⟨dX0_thinks_66, _, rfl, by first | rfl | decide⟩ ⟨congrArg (fun z => some (Value.int z)) (by first | rfl | ((unfold kTh; repeat' split) <;> first | rfl | contradiction | (simp_all; done) | (exfalso; simp only [Int32.lt_iff_toInt_lt, Int32.le_iff_toInt_le] at *; omega))), rfl⟩
      refine x_swC 2 (fun s_30_1 => ?_) (fun s_30_1 => ?_)
      · refine x_tswIn 67 dX0_thinks_30 (by decide) (by decide) rfl ?_
        refine x_iload dX0_thinks_67 rfl ?_
        exact Ex.ret (v := some (.int _)) ⟨dX0_thinks_69, _, rfl, by first | rfl | decide⟩ ⟨congrArg (fun z => some (Value.int z)) (by first | rfl | ((unfold kTh; repeat' split) <;> first | rfl | contradiction | (simp_all; done) | (exfalso; simp only [Int32.lt_iff_toInt_lt, Int32.le_iff_toInt_le] at *; omega))), rfl⟩
      refine x_swC 3 (fun s_30_2 => ?_) (fun s_30_2 => ?_)
      · refine x_tswIn 70 dX0_thinks_30 (by decide) (by decide) rfl ?_
        refine x_iload_n dX0_thinks_70 rfl ?_
        refine x_iload dX0_thinks_71 rfl ?_
        refine x_icmp_ge 83 dX0_thinks_73 (fun h_73 => ?_) (fun h_73 => ?_)
        · refine x_iload dX0_thinks_83 rfl ?_
          exact Ex.ret (v := some (.int _)) ⟨dX0_thinks_85, _, rfl, by first | rfl | decide⟩ ⟨congrArg (fun z => some (Value.int z)) (by first | rfl | ((unfold kTh; repeat' split) <;> first | rfl | contradiction | (simp_all; done) | (exfalso; simp only [Int32.lt_iff_toInt_lt, Int32.le_iff_toInt_le] at *; omega))), rfl⟩
        · refine x_iload dX0_thinks_76 rfl ?_
          refine x_iconst 5 dX0_thinks_78 ?_
          refine x_isub dX0_thinks_79 ?_
          refine x_goto 85 dX0_thinks_80 ?_
          exact Ex.ret (v := some (.int _)) ⟨dX0_thinks_85, _, rfl, by first | rfl | decide⟩ ⟨congrArg (fun z => some (Value.int z)) (by first | rfl | ((unfold kTh; repeat' split) <;> first | rfl | contradiction | (simp_all; done) | (exfalso; simp only [Int32.lt_iff_toInt_lt, Int32.le_iff_toInt_le] at *; omega))), rfl⟩
      refine x_swC 4 (fun s_30_3 => ?_) (fun s_30_3 => ?_)
      · refine x_tswIn 86 dX0_thinks_30 (by decide) (by decide) rfl ?_
        refine x_iload_n dX0_thinks_86 rfl ?_
        refine x_bipush 7 dX0_thinks_87 ?_
        refine x_icmp_ne 97 dX0_thinks_89 (fun h_89 => ?_) (fun h_89 => ?_)
        · refine x_iload dX0_thinks_97 rfl ?_
          exact Ex.ret (v := some (.int _)) ⟨dX0_thinks_99, _, rfl, by first | rfl | decide⟩ ⟨congrArg (fun z => some (Value.int z)) (by first | rfl | ((unfold kTh; repeat' split) <;> first | rfl | contradiction | (simp_all; done) | (exfalso; simp only [Int32.lt_iff_toInt_lt, Int32.le_iff_toInt_le] at *; omega))), rfl⟩
        · refine x_bipush 9 dX0_thinks_92 ?_
          refine x_goto 99 dX0_thinks_94 ?_
          exact Ex.ret (v := some (.int _)) ⟨dX0_thinks_99, _, rfl, by first | rfl | decide⟩ ⟨congrArg (fun z => some (Value.int z)) (by first | rfl | ((unfold kTh; repeat' split) <;> first | rfl | contradiction | (simp_all; done) | (exfalso; simp only [Int32.lt_iff_toInt_lt, Int32.le_iff_toInt_le] at *; omega))), rfl⟩
      refine x_swC 5 (fun s_30_4 => ?_) (fun s_30_4 => ?_)
      · refine x_tswIn 100 dX0_thinks_30 (by decide) (by decide) rfl ?_
        refine x_iload_n dX0_thinks_100 rfl ?_
        refine x_if_ge 109 dX0_thinks_101 (fun h_101 => ?_) (fun h_101 => ?_)
        · refine x_iload_n dX0_thinks_109 rfl ?_
          exact Ex.ret (v := some (.int _)) ⟨dX0_thinks_110, _, rfl, by first | rfl | decide⟩ ⟨congrArg (fun z => some (Value.int z)) (by first | rfl | ((unfold kTh; repeat' split) <;> first | rfl | contradiction | (simp_all; done) | (exfalso; simp only [Int32.lt_iff_toInt_lt, Int32.le_iff_toInt_le] at *; omega))), rfl⟩
        · refine x_iload_n dX0_thinks_104 rfl ?_
          refine x_ineg dX0_thinks_105 ?_
          refine x_goto 110 dX0_thinks_106 ?_
          exact Ex.ret (v := some (.int _)) ⟨dX0_thinks_110, _, rfl, by first | rfl | decide⟩ ⟨congrArg (fun z => some (Value.int z)) (by first | rfl | ((unfold kTh; repeat' split) <;> first | rfl | contradiction | (simp_all; done) | (exfalso; simp only [Int32.lt_iff_toInt_lt, Int32.le_iff_toInt_le] at *; omega))), rfl⟩
      refine x_tswOut 111 dX0_thinks_30 (by have e0 := lv_neT (a := 1) s_30_0 (by decide); have e1 := lv_neT (a := 2) s_30_1 (by decide); have e2 := lv_neT (a := 3) s_30_2 (by decide); have e3 := lv_neT (a := 4) s_30_3 (by decide); have e4 := lv_neT (a := 5) s_30_4 (by decide); omega) ?_
      refine x_iload_n dX0_thinks_111 rfl ?_
      exact Ex.ret (v := some (.int _)) ⟨dX0_thinks_112, _, rfl, by first | rfl | decide⟩ ⟨congrArg (fun z => some (Value.int z)) (by first | rfl | ((unfold kTh; repeat' split) <;> first | rfl | contradiction | (simp_all; done) | (exfalso; simp only [Int32.lt_iff_toInt_lt, Int32.le_iff_toInt_le] at *; omega))), rfl⟩
set_option maxRecDepth 100000 in
set_option maxHeartbeats 4000000 in
theorem c_X0_mending {X : Nat × (Nat → Int32)} {k v n : Int32} {w : pc_W} : Mt X 0 0 0 yX0_mending cX0_mending 3 (some .int) [.int k, .int v, .int n] w (RI (kMe k v n) w) := by
  refine Mt.of (by decide +kernel) (fun _ _ => Nat.le_of_ble_eq_true rfl) ?_
  show Ex X mX0_mending _ _ _ _ _ _ _ _
  refine x_iload_n dX0_mending_0 rfl ?_
  refine x_swC 1 (fun s_1_0 => ?_) (fun s_1_0 => ?_)
  · refine x_tswIn 36 dX0_mending_1 (by decide) (by decide) rfl ?_
    refine x_iload_n dX0_mending_36 rfl ?_
    refine x_iconst 2 dX0_mending_37 ?_
    refine x_idiv dX0_mending_38 (by decide) ?_
    exact Ex.ret (v := some (.int _)) ⟨dX0_mending_39, _, rfl, by first | rfl | decide⟩ ⟨congrArg (fun z => some (Value.int z)) (by first | rfl | ((unfold kMe; repeat' split) <;> first | rfl | contradiction | (simp_all; done) | (exfalso; simp only [Int32.lt_iff_toInt_lt, Int32.le_iff_toInt_le] at *; omega))), rfl⟩
  refine x_swC 2 (fun s_1_1 => ?_) (fun s_1_1 => ?_)
  · refine x_tswIn 40 dX0_mending_1 (by decide) (by decide) rfl ?_
    refine x_iconst 1 dX0_mending_40 ?_
    exact Ex.ret (v := some (.int _)) ⟨dX0_mending_41, _, rfl, by first | rfl | decide⟩ ⟨congrArg (fun z => some (Value.int z)) (by first | rfl | ((unfold kMe; repeat' split) <;> first | rfl | contradiction | (simp_all; done) | (exfalso; simp only [Int32.lt_iff_toInt_lt, Int32.le_iff_toInt_le] at *; omega))), rfl⟩
  refine x_swC 3 (fun s_1_2 => ?_) (fun s_1_2 => ?_)
  · refine x_tswIn 42 dX0_mending_1 (by decide) (by decide) rfl ?_
    refine x_iload_n dX0_mending_42 rfl ?_
    refine x_iconst 2 dX0_mending_43 ?_
    refine x_idiv dX0_mending_44 (by decide) ?_
    refine x_iload_n dX0_mending_45 rfl ?_
    refine x_iadd dX0_mending_46 ?_
    exact Ex.ret (v := some (.int _)) ⟨dX0_mending_47, _, rfl, by first | rfl | decide⟩ ⟨congrArg (fun z => some (Value.int z)) (by first | rfl | ((unfold kMe; repeat' split) <;> first | rfl | contradiction | (simp_all; done) | (exfalso; simp only [Int32.lt_iff_toInt_lt, Int32.le_iff_toInt_le] at *; omega))), rfl⟩
  refine x_swC 4 (fun s_1_3 => ?_) (fun s_1_3 => ?_)
  · refine x_tswIn 40 dX0_mending_1 (by decide) (by decide) rfl ?_
    refine x_iconst 1 dX0_mending_40 ?_
    exact Ex.ret (v := some (.int _)) ⟨dX0_mending_41, _, rfl, by first | rfl | decide⟩ ⟨congrArg (fun z => some (Value.int z)) (by first | rfl | ((unfold kMe; repeat' split) <;> first | rfl | contradiction | (simp_all; done) | (exfalso; simp only [Int32.lt_iff_toInt_lt, Int32.le_iff_toInt_le] at *; omega))), rfl⟩
  refine x_swC 5 (fun s_1_4 => ?_) (fun s_1_4 => ?_)
  · refine x_tswIn 48 dX0_mending_1 (by decide) (by decide) rfl ?_
    refine x_iconst 0 dX0_mending_48 ?_
    exact Ex.ret (v := some (.int _)) ⟨dX0_mending_49, _, rfl, by first | rfl | decide⟩ ⟨congrArg (fun z => some (Value.int z)) (by first | rfl | ((unfold kMe; repeat' split) <;> first | rfl | contradiction | (simp_all; done) | (exfalso; simp only [Int32.lt_iff_toInt_lt, Int32.le_iff_toInt_le] at *; omega))), rfl⟩
  refine x_tswOut 50 dX0_mending_1 (by have e0 := lv_neT (a := 1) s_1_0 (by decide); have e1 := lv_neT (a := 2) s_1_1 (by decide); have e2 := lv_neT (a := 3) s_1_2 (by decide); have e3 := lv_neT (a := 4) s_1_3 (by decide); have e4 := lv_neT (a := 5) s_1_4 (by decide); omega) ?_
  refine x_iload_n dX0_mending_50 rfl ?_
  exact Ex.ret (v := some (.int _)) ⟨dX0_mending_51, _, rfl, by first | rfl | decide⟩ ⟨congrArg (fun z => some (Value.int z)) (by first | rfl | ((unfold kMe; repeat' split) <;> first | rfl | contradiction | (simp_all; done) | (exfalso; simp only [Int32.lt_iff_toInt_lt, Int32.le_iff_toInt_le] at *; omega))), rfl⟩
set_option maxRecDepth 100000 in
set_option maxHeartbeats 4000000 in
theorem c_X0_claims {X : Nat × (Nat → Int32)} {k v n : Int32} {w : pc_W} : Mt X 0 0 0 yX0_claims cX0_claims 3 (some .int) [.int k, .int v, .int n] w (RI (kCl k v n) w) := by
  refine Mt.of (by decide +kernel) (fun _ _ => Nat.le_of_ble_eq_true rfl) ?_
  show Ex X mX0_claims _ _ _ _ _ _ _ _
  refine x_iload_n dX0_claims_0 rfl ?_
  refine x_swC 2 (fun s_1_0 => ?_) (fun s_1_0 => ?_)
  · refine x_tswIn 32 dX0_claims_1 (by decide) (by decide) rfl ?_
    refine x_iconst 0 dX0_claims_32 ?_
    exact Ex.ret (v := some (.int _)) ⟨dX0_claims_33, _, rfl, by first | rfl | decide⟩ ⟨congrArg (fun z => some (Value.int z)) (by first | rfl | ((unfold kCl; repeat' split) <;> first | rfl | contradiction | (simp_all; done) | (exfalso; simp only [Int32.lt_iff_toInt_lt, Int32.le_iff_toInt_le] at *; omega))), rfl⟩
  refine x_swC 3 (fun s_1_1 => ?_) (fun s_1_1 => ?_)
  · refine x_tswIn 34 dX0_claims_1 (by decide) (by decide) rfl ?_
    refine x_iconst 2 dX0_claims_34 ?_
    refine x_iload_n dX0_claims_35 rfl ?_
    refine x_imul dX0_claims_36 ?_
    exact Ex.ret (v := some (.int _)) ⟨dX0_claims_37, _, rfl, by first | rfl | decide⟩ ⟨congrArg (fun z => some (Value.int z)) (by first | rfl | ((unfold kCl; repeat' split) <;> first | rfl | contradiction | (simp_all; done) | (exfalso; simp only [Int32.lt_iff_toInt_lt, Int32.le_iff_toInt_le] at *; omega))), rfl⟩
  refine x_swC 4 (fun s_1_2 => ?_) (fun s_1_2 => ?_)
  · refine x_tswIn 32 dX0_claims_1 (by decide) (by decide) rfl ?_
    refine x_iconst 0 dX0_claims_32 ?_
    exact Ex.ret (v := some (.int _)) ⟨dX0_claims_33, _, rfl, by first | rfl | decide⟩ ⟨congrArg (fun z => some (Value.int z)) (by first | rfl | ((unfold kCl; repeat' split) <;> first | rfl | contradiction | (simp_all; done) | (exfalso; simp only [Int32.lt_iff_toInt_lt, Int32.le_iff_toInt_le] at *; omega))), rfl⟩
  refine x_swC 5 (fun s_1_3 => ?_) (fun s_1_3 => ?_)
  · refine x_tswIn 38 dX0_claims_1 (by decide) (by decide) rfl ?_
    refine x_iload_n dX0_claims_38 rfl ?_
    refine x_ineg dX0_claims_39 ?_
    exact Ex.ret (v := some (.int _)) ⟨dX0_claims_40, _, rfl, by first | rfl | decide⟩ ⟨congrArg (fun z => some (Value.int z)) (by first | rfl | ((unfold kCl; repeat' split) <;> first | rfl | contradiction | (simp_all; done) | (exfalso; simp only [Int32.lt_iff_toInt_lt, Int32.le_iff_toInt_le] at *; omega))), rfl⟩
  refine x_tswOut 41 dX0_claims_1 (by have e0 := lv_neT (a := 2) s_1_0 (by decide); have e1 := lv_neT (a := 3) s_1_1 (by decide); have e2 := lv_neT (a := 4) s_1_2 (by decide); have e3 := lv_neT (a := 5) s_1_3 (by decide); omega) ?_
  refine x_iload_n dX0_claims_41 rfl ?_
  exact Ex.ret (v := some (.int _)) ⟨dX0_claims_42, _, rfl, by first | rfl | decide⟩ ⟨congrArg (fun z => some (Value.int z)) (by first | rfl | ((unfold kCl; repeat' split) <;> first | rfl | contradiction | (simp_all; done) | (exfalso; simp only [Int32.lt_iff_toInt_lt, Int32.le_iff_toInt_le] at *; omega))), rfl⟩
set_option maxRecDepth 100000 in
set_option maxHeartbeats 4000000 in
theorem c_X9_isHour {X : Nat × (Nat → Int32)} {x : Int32} {w : pc_W} : Mt X 0 0 0 yX9_isHour cX9_isHour 1 (some .boolean) [.int x] w (RI (bi (0 ≤ x ∧ x < 8)) w) := by
  refine Mt.of (by decide +kernel) (fun _ _ => Nat.le_of_ble_eq_true rfl) ?_
  show Ex X mX9_isHour _ _ _ _ _ _ _ _
  refine x_iload_n dX9_isHour_0 rfl ?_
  refine x_if_lt 14 dX9_isHour_1 (fun h_1 => ?_) (fun h_1 => ?_)
  · refine x_iconst 0 dX9_isHour_14 ?_
    exact Ex.ret (v := some (.int _)) ⟨dX9_isHour_15, _, rfl, by first | rfl | decide⟩ ⟨congrArg (fun z => some (Value.int z)) (by first | rfl | ((unfold bi; repeat' split) <;> first | rfl | contradiction | (simp_all; done) | (exfalso; simp only [Int32.lt_iff_toInt_lt, Int32.le_iff_toInt_le] at *; omega))), rfl⟩
  · refine x_iload_n dX9_isHour_4 rfl ?_
    refine x_bipush 8 dX9_isHour_5 ?_
    refine x_icmp_ge 14 dX9_isHour_7 (fun h_7 => ?_) (fun h_7 => ?_)
    · refine x_iconst 0 dX9_isHour_14 ?_
      exact Ex.ret (v := some (.int _)) ⟨dX9_isHour_15, _, rfl, by first | rfl | decide⟩ ⟨congrArg (fun z => some (Value.int z)) (by first | rfl | ((unfold bi; repeat' split) <;> first | rfl | contradiction | (simp_all; done) | (exfalso; simp only [Int32.lt_iff_toInt_lt, Int32.le_iff_toInt_le] at *; omega))), rfl⟩
    · refine x_iconst 1 dX9_isHour_10 ?_
      refine x_goto 15 dX9_isHour_11 ?_
      exact Ex.ret (v := some (.int _)) ⟨dX9_isHour_15, _, rfl, by first | rfl | decide⟩ ⟨congrArg (fun z => some (Value.int z)) (by first | rfl | ((unfold bi; repeat' split) <;> first | rfl | contradiction | (simp_all; done) | (exfalso; simp only [Int32.lt_iff_toInt_lt, Int32.le_iff_toInt_le] at *; omega))), rfl⟩
set_option maxRecDepth 100000 in
set_option maxHeartbeats 4000000 in
theorem c_X9_isSheet {X : Nat × (Nat → Int32)} {x : Int32} {w : pc_W} : Mt X 0 0 0 yX9_isSheet cX9_isSheet 1 (some .boolean) [.int x] w (RI (bi (0 ≤ x ∧ x < 4)) w) := by
  refine Mt.of (by decide +kernel) (fun _ _ => Nat.le_of_ble_eq_true rfl) ?_
  show Ex X mX9_isSheet _ _ _ _ _ _ _ _
  refine x_iload_n dX9_isSheet_0 rfl ?_
  refine x_if_lt 13 dX9_isSheet_1 (fun h_1 => ?_) (fun h_1 => ?_)
  · refine x_iconst 0 dX9_isSheet_13 ?_
    exact Ex.ret (v := some (.int _)) ⟨dX9_isSheet_14, _, rfl, by first | rfl | decide⟩ ⟨congrArg (fun z => some (Value.int z)) (by first | rfl | ((unfold bi; repeat' split) <;> first | rfl | contradiction | (simp_all; done) | (exfalso; simp only [Int32.lt_iff_toInt_lt, Int32.le_iff_toInt_le] at *; omega))), rfl⟩
  · refine x_iload_n dX9_isSheet_4 rfl ?_
    refine x_iconst 4 dX9_isSheet_5 ?_
    refine x_icmp_ge 13 dX9_isSheet_6 (fun h_6 => ?_) (fun h_6 => ?_)
    · refine x_iconst 0 dX9_isSheet_13 ?_
      exact Ex.ret (v := some (.int _)) ⟨dX9_isSheet_14, _, rfl, by first | rfl | decide⟩ ⟨congrArg (fun z => some (Value.int z)) (by first | rfl | ((unfold bi; repeat' split) <;> first | rfl | contradiction | (simp_all; done) | (exfalso; simp only [Int32.lt_iff_toInt_lt, Int32.le_iff_toInt_le] at *; omega))), rfl⟩
    · refine x_iconst 1 dX9_isSheet_9 ?_
      refine x_goto 14 dX9_isSheet_10 ?_
      exact Ex.ret (v := some (.int _)) ⟨dX9_isSheet_14, _, rfl, by first | rfl | decide⟩ ⟨congrArg (fun z => some (Value.int z)) (by first | rfl | ((unfold bi; repeat' split) <;> first | rfl | contradiction | (simp_all; done) | (exfalso; simp only [Int32.lt_iff_toInt_lt, Int32.le_iff_toInt_le] at *; omega))), rfl⟩
set_option maxRecDepth 100000 in
set_option maxHeartbeats 4000000 in
theorem c_X9_isSort {X : Nat × (Nat → Int32)} {x : Int32} {w : pc_W} : Mt X 0 0 0 yX9_isSort cX9_isSort 1 (some .boolean) [.int x] w (RI (bi (0 ≤ x ∧ x ≤ 2)) w) := by
  refine Mt.of (by decide +kernel) (fun _ _ => Nat.le_of_ble_eq_true rfl) ?_
  show Ex X mX9_isSort _ _ _ _ _ _ _ _
  refine x_iload_n dX9_isSort_0 rfl ?_
  refine x_if_lt 13 dX9_isSort_1 (fun h_1 => ?_) (fun h_1 => ?_)
  · refine x_iconst 0 dX9_isSort_13 ?_
    exact Ex.ret (v := some (.int _)) ⟨dX9_isSort_14, _, rfl, by first | rfl | decide⟩ ⟨congrArg (fun z => some (Value.int z)) (by first | rfl | ((unfold bi; repeat' split) <;> first | rfl | contradiction | (simp_all; done) | (exfalso; simp only [Int32.lt_iff_toInt_lt, Int32.le_iff_toInt_le] at *; omega))), rfl⟩
  · refine x_iload_n dX9_isSort_4 rfl ?_
    refine x_iconst 2 dX9_isSort_5 ?_
    refine x_icmp_gt 13 dX9_isSort_6 (fun h_6 => ?_) (fun h_6 => ?_)
    · refine x_iconst 0 dX9_isSort_13 ?_
      exact Ex.ret (v := some (.int _)) ⟨dX9_isSort_14, _, rfl, by first | rfl | decide⟩ ⟨congrArg (fun z => some (Value.int z)) (by first | rfl | ((unfold bi; repeat' split) <;> first | rfl | contradiction | (simp_all; done) | (exfalso; simp only [Int32.lt_iff_toInt_lt, Int32.le_iff_toInt_le] at *; omega))), rfl⟩
    · refine x_iconst 1 dX9_isSort_9 ?_
      refine x_goto 14 dX9_isSort_10 ?_
      exact Ex.ret (v := some (.int _)) ⟨dX9_isSort_14, _, rfl, by first | rfl | decide⟩ ⟨congrArg (fun z => some (Value.int z)) (by first | rfl | ((unfold bi; repeat' split) <;> first | rfl | contradiction | (simp_all; done) | (exfalso; simp only [Int32.lt_iff_toInt_lt, Int32.le_iff_toInt_le] at *; omega))), rfl⟩
set_option maxRecDepth 100000 in
set_option maxHeartbeats 4000000 in
theorem c_X4_isLetter {X : Nat × (Nat → Int32)} {x : Int32} {w : pc_W} : Mt X 0 0 0 yX4_isLetter cX4_isLetter 1 (some .boolean) [.int x] w (RI (bi (97 ≤ x ∧ x ≤ 122)) w) := by
  refine Mt.of (by decide +kernel) (fun _ _ => Nat.le_of_ble_eq_true rfl) ?_
  show Ex X mX4_isLetter _ _ _ _ _ _ _ _
  refine x_iload_n dX4_isLetter_0 rfl ?_
  refine x_bipush 97 dX4_isLetter_1 ?_
  refine x_icmp_lt 16 dX4_isLetter_3 (fun h_3 => ?_) (fun h_3 => ?_)
  · refine x_iconst 0 dX4_isLetter_16 ?_
    exact Ex.ret (v := some (.int _)) ⟨dX4_isLetter_17, _, rfl, by first | rfl | decide⟩ ⟨congrArg (fun z => some (Value.int z)) (by first | rfl | ((unfold bi; repeat' split) <;> first | rfl | contradiction | (simp_all; done) | (exfalso; simp only [Int32.lt_iff_toInt_lt, Int32.le_iff_toInt_le] at *; omega))), rfl⟩
  · refine x_iload_n dX4_isLetter_6 rfl ?_
    refine x_bipush 122 dX4_isLetter_7 ?_
    refine x_icmp_gt 16 dX4_isLetter_9 (fun h_9 => ?_) (fun h_9 => ?_)
    · refine x_iconst 0 dX4_isLetter_16 ?_
      exact Ex.ret (v := some (.int _)) ⟨dX4_isLetter_17, _, rfl, by first | rfl | decide⟩ ⟨congrArg (fun z => some (Value.int z)) (by first | rfl | ((unfold bi; repeat' split) <;> first | rfl | contradiction | (simp_all; done) | (exfalso; simp only [Int32.lt_iff_toInt_lt, Int32.le_iff_toInt_le] at *; omega))), rfl⟩
    · refine x_iconst 1 dX4_isLetter_12 ?_
      refine x_goto 17 dX4_isLetter_13 ?_
      exact Ex.ret (v := some (.int _)) ⟨dX4_isLetter_17, _, rfl, by first | rfl | decide⟩ ⟨congrArg (fun z => some (Value.int z)) (by first | rfl | ((unfold bi; repeat' split) <;> first | rfl | contradiction | (simp_all; done) | (exfalso; simp only [Int32.lt_iff_toInt_lt, Int32.le_iff_toInt_le] at *; omega))), rfl⟩
set_option maxRecDepth 100000 in
set_option maxHeartbeats 4000000 in
theorem c_X4_isDigit {X : Nat × (Nat → Int32)} {x : Int32} {w : pc_W} : Mt X 0 0 0 yX4_isDigit cX4_isDigit 1 (some .boolean) [.int x] w (RI (bi (48 ≤ x ∧ x ≤ 57)) w) := by
  refine Mt.of (by decide +kernel) (fun _ _ => Nat.le_of_ble_eq_true rfl) ?_
  show Ex X mX4_isDigit _ _ _ _ _ _ _ _
  refine x_iload_n dX4_isDigit_0 rfl ?_
  refine x_bipush 48 dX4_isDigit_1 ?_
  refine x_icmp_lt 16 dX4_isDigit_3 (fun h_3 => ?_) (fun h_3 => ?_)
  · refine x_iconst 0 dX4_isDigit_16 ?_
    exact Ex.ret (v := some (.int _)) ⟨dX4_isDigit_17, _, rfl, by first | rfl | decide⟩ ⟨congrArg (fun z => some (Value.int z)) (by first | rfl | ((unfold bi; repeat' split) <;> first | rfl | contradiction | (simp_all; done) | (exfalso; simp only [Int32.lt_iff_toInt_lt, Int32.le_iff_toInt_le] at *; omega))), rfl⟩
  · refine x_iload_n dX4_isDigit_6 rfl ?_
    refine x_bipush 57 dX4_isDigit_7 ?_
    refine x_icmp_gt 16 dX4_isDigit_9 (fun h_9 => ?_) (fun h_9 => ?_)
    · refine x_iconst 0 dX4_isDigit_16 ?_
      exact Ex.ret (v := some (.int _)) ⟨dX4_isDigit_17, _, rfl, by first | rfl | decide⟩ ⟨congrArg (fun z => some (Value.int z)) (by first | rfl | ((unfold bi; repeat' split) <;> first | rfl | contradiction | (simp_all; done) | (exfalso; simp only [Int32.lt_iff_toInt_lt, Int32.le_iff_toInt_le] at *; omega))), rfl⟩
    · refine x_iconst 1 dX4_isDigit_12 ?_
      refine x_goto 17 dX4_isDigit_13 ?_
      exact Ex.ret (v := some (.int _)) ⟨dX4_isDigit_17, _, rfl, by first | rfl | decide⟩ ⟨congrArg (fun z => some (Value.int z)) (by first | rfl | ((unfold bi; repeat' split) <;> first | rfl | contradiction | (simp_all; done) | (exfalso; simp only [Int32.lt_iff_toInt_lt, Int32.le_iff_toInt_le] at *; omega))), rfl⟩
set_option maxRecDepth 100000 in
set_option maxHeartbeats 4000000 in
theorem c_X8_isName {X : Nat × (Nat → Int32)} {x : Int32} {w : pc_W} : Mt X 0 0 0 yX8_isName cX8_isName 1 (some .boolean) [.int x] w (RI (bi (200 ≤ x ∧ x ≤ 205)) w) := by
  refine Mt.of (by decide +kernel) (fun _ _ => Nat.le_of_ble_eq_true rfl) ?_
  show Ex X mX8_isName _ _ _ _ _ _ _ _
  refine x_iload_n dX8_isName_0 rfl ?_
  refine x_sipush 200 dX8_isName_1 ?_
  refine x_icmp_lt 18 dX8_isName_4 (fun h_4 => ?_) (fun h_4 => ?_)
  · refine x_iconst 0 dX8_isName_18 ?_
    exact Ex.ret (v := some (.int _)) ⟨dX8_isName_19, _, rfl, by first | rfl | decide⟩ ⟨congrArg (fun z => some (Value.int z)) (by first | rfl | ((unfold bi; repeat' split) <;> first | rfl | contradiction | (simp_all; done) | (exfalso; simp only [Int32.lt_iff_toInt_lt, Int32.le_iff_toInt_le] at *; omega))), rfl⟩
  · refine x_iload_n dX8_isName_7 rfl ?_
    refine x_sipush 205 dX8_isName_8 ?_
    refine x_icmp_gt 18 dX8_isName_11 (fun h_11 => ?_) (fun h_11 => ?_)
    · refine x_iconst 0 dX8_isName_18 ?_
      exact Ex.ret (v := some (.int _)) ⟨dX8_isName_19, _, rfl, by first | rfl | decide⟩ ⟨congrArg (fun z => some (Value.int z)) (by first | rfl | ((unfold bi; repeat' split) <;> first | rfl | contradiction | (simp_all; done) | (exfalso; simp only [Int32.lt_iff_toInt_lt, Int32.le_iff_toInt_le] at *; omega))), rfl⟩
    · refine x_iconst 1 dX8_isName_14 ?_
      refine x_goto 19 dX8_isName_15 ?_
      exact Ex.ret (v := some (.int _)) ⟨dX8_isName_19, _, rfl, by first | rfl | decide⟩ ⟨congrArg (fun z => some (Value.int z)) (by first | rfl | ((unfold bi; repeat' split) <;> first | rfl | contradiction | (simp_all; done) | (exfalso; simp only [Int32.lt_iff_toInt_lt, Int32.le_iff_toInt_le] at *; omega))), rfl⟩
