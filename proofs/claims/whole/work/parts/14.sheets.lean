theorem tI_0 : Int32.toInt (0) = 0 := by decide
theorem tI_1 : Int32.toInt (1) = 1 := by decide
theorem tI_2 : Int32.toInt (2) = 2 := by decide
theorem tI_3 : Int32.toInt (3) = 3 := by decide
theorem tI_4 : Int32.toInt (4) = 4 := by decide
theorem tI_5 : Int32.toInt (5) = 5 := by decide
theorem tI_6 : Int32.toInt (6) = 6 := by decide
theorem tI_7 : Int32.toInt (7) = 7 := by decide
theorem tI_8 : Int32.toInt (8) = 8 := by decide
theorem tI_9 : Int32.toInt (9) = 9 := by decide
theorem tI_10 : Int32.toInt (10) = 10 := by decide
theorem tI_11 : Int32.toInt (11) = 11 := by decide
theorem tI_19 : Int32.toInt (19) = 19 := by decide
theorem tI_20 : Int32.toInt (20) = 20 := by decide
theorem tI_30 : Int32.toInt (30) = 30 := by decide
theorem tI_37 : Int32.toInt (37) = 37 := by decide
theorem tI_40 : Int32.toInt (40) = 40 := by decide
theorem tI_41 : Int32.toInt (41) = 41 := by decide
theorem tI_48 : Int32.toInt (48) = 48 := by decide
theorem tI_57 : Int32.toInt (57) = 57 := by decide
theorem tI_97 : Int32.toInt (97) = 97 := by decide
theorem tI_99 : Int32.toInt (99) = 99 := by decide
theorem tI_100 : Int32.toInt (100) = 100 := by decide
theorem tI_122 : Int32.toInt (122) = 122 := by decide
theorem tI_160 : Int32.toInt (160) = 160 := by decide
theorem tI_255 : Int32.toInt (255) = 255 := by decide
theorem tI_256 : Int32.toInt (256) = 256 := by decide
theorem tI_999 : Int32.toInt (999) = 999 := by decide
theorem tI_m1 : Int32.toInt (-1) = -1 := by decide
theorem tI_m2 : Int32.toInt (-2) = -2 := by decide
theorem tI_m3 : Int32.toInt (-3) = -3 := by decide
theorem tI_m4 : Int32.toInt (-4) = -4 := by decide
theorem tI_m11 : Int32.toInt (-11) = -11 := by decide
theorem tI_m12 : Int32.toInt (-12) = -12 := by decide
theorem tI_m13 : Int32.toInt (-13) = -13 := by decide
theorem tI_m14 : Int32.toInt (-14) = -14 := by decide
section
variable {X : Nat × (Nat → Int32)} {M : MI} {d : Nat} {Ret : Option Value → pc_W → Prop} {cb sb : Nat} {pc : Nat} {L : List (Option Value)} {st : List Value} {w : pc_W}
variable {S : CS} {tl : pc_W} {f : Nat → ST} {k : Nat} {a b x : Int32} {c g : Nat → Int32}
def cshF (F : Nat → ST) : pc_W := [.inr (5, [.int (F 0).1, .int (F 0).2.1, .ref 32]), .inl (0, (40, .inl (F 0).2.2)), .inr (5, [.int (F 1).1, .int (F 1).2.1, .ref 34]), .inl (0, (40, .inl (F 1).2.2)), .inr (5, [.int (F 2).1, .int (F 2).2.1, .ref 36]), .inl (0, (40, .inl (F 2).2.2)), .inr (5, [.int (F 3).1, .int (F 3).2.1, .ref 38]), .inl (0, (40, .inl (F 3).2.2))]
theorem cst_cut (S : CS) (F : Nat → ST) (tl : pc_W) : cst (u_sh S F) ++ tl = (cst S).take 31 ++ (cshF F ++ ((cst S).drop 39 ++ tl)) := rfl
theorem csh_at {F : Nat → ST} {k : Nat} (h : k < 4) : (cshF F)[2 * k]? = some (.inr (5, [.int (F k).1, .int (F k).2.1, .ref (shP k + 1)])) ∧ (cshF F)[2 * k + 1]? = some (.inl (0, (40, .inl (F k).2.2))) := by
  match k, h with
  | 0, _ => exact ⟨rfl, rfl⟩
  | 1, _ => exact ⟨rfl, rfl⟩
  | 2, _ => exact ⟨rfl, rfl⟩
  | 3, _ => exact ⟨rfl, rfl⟩
theorem shU_s (f : Nat → ST) (k : Nat) (x : ST) : shU f k x k = x := by simp [shU]
theorem shU_n (f : Nat → ST) {k j : Nat} (x : ST) (h : j ≠ k) : shU f k x j = f j := by simp [shU, h]
theorem csh_set {f : Nat → ST} {k : Nat} {a b x : Int32} {c g : Nat → Int32} (h : k < 4) : (cshF (shU f k (a, b, c))).set (2 * k) (.inr (5, [.int x, .int b, .ref (shP k + 1)])) = cshF (shU f k (x, b, c)) ∧ (cshF (shU f k (a, b, c))).set (2 * k) (.inr (5, [.int a, .int x, .ref (shP k + 1)])) = cshF (shU f k (a, x, c)) ∧ (cshF (shU f k (a, b, c))).set (2 * k + 1) (.inl (0, (40, .inl g))) = cshF (shU f k (a, b, g)) := by
  match k, h with
  | 0, _ => simp [cshF, shU, shP]
  | 1, _ => simp [cshF, shU, shP]
  | 2, _ => simp [cshF, shU, shP]
  | 3, _ => simp [cshF, shU, shP]
theorem csh_eta {F : Nat → ST} {k : Nat} (h : k < 4) : cshF F = cshF (shU F k ((F k).1, (F k).2.1, (F k).2.2)) := by
  match k, h with
  | 0, _ => simp [cshF, shU]
  | 1, _ => simp [cshF, shU]
  | 2, _ => simp [cshF, shU]
  | 3, _ => simp [cshF, shU]
theorem cut31 (S : CS) : ((cst S).take 31).length = 31 := rfl
theorem cut8 (F : Nat → ST) : (cshF F).length = 8 := rfl
theorem cut_get (S : CS) (F : Nat → ST) (tl : pc_W) {i : Nat} (h : i < 8) : (cst (u_sh S F) ++ tl)[31 + i]? = (cshF F)[i]? := by
  rw [cst_cut, List.getElem?_append_right (by rw [cut31]; omega), cut31, show 31 + i - 31 = i by omega, List.getElem?_append_left (by rw [cut8]; exact h)]
theorem cut_set (S : CS) (F : Nat → ST) (tl : pc_W) {i : Nat} (h : i < 8) (x : pc_E) : (cst (u_sh S F) ++ tl).set (31 + i) x = (cst S).take 31 ++ ((cshF F).set i x ++ ((cst S).drop 39 ++ tl)) := by
  rw [cst_cut, List.set_append_right _ _ (by rw [cut31]; omega), cut31, show 31 + i - 31 = i by omega, List.set_append_left _ _ (by rw [cut8]; exact h)]
theorem sw_eta (S : CS) (tl : pc_W) {k : Nat} (h : k < 4) : cst S ++ tl = cst (u_sh S (shU (s_sh S) k ((s_sh S k).1, (s_sh S k).2.1, (s_sh S k).2.2))) ++ tl := (cst_cut S (s_sh S) tl).trans ((congrArg (fun z => (cst S).take 31 ++ (z ++ ((cst S).drop 39 ++ tl))) (csh_eta h)).trans (cst_cut S _ tl).symm)
theorem sw_obj (h : k < 4) : (cst (u_sh S (shU f k (a, b, c))) ++ tl)[shP k]? = some (.inr (5, [.int a, .int b, .ref (shP k + 1)])) := by
  show (cst (u_sh S (shU f k (a, b, c))) ++ tl)[31 + 2 * k]? = _
  rw [cut_get S _ tl (by omega), (csh_at h).1, shU_s]
theorem sw_row (h : k < 4) : (cst (u_sh S (shU f k (a, b, c))) ++ tl)[shP k + 1]? = some (.inl (0, (40, .inl c))) := by
  show (cst (u_sh S (shU f k (a, b, c))) ++ tl)[31 + (2 * k + 1)]? = _
  rw [cut_get S _ tl (by omega), (csh_at h).2, shU_s]
theorem sw_so (h : k < 4) : (cst (u_sh S (shU f k (a, b, c))) ++ tl).set (shP k) (.inr (5, [.int x, .int b, .ref (shP k + 1)])) = (cst (u_sh S (shU f k (x, b, c))) ++ tl) := by
  show (cst (u_sh S (shU f k (a, b, c))) ++ tl).set (31 + 2 * k) _ = _
  rw [cut_set S _ tl (by omega), (csh_set (g := c) h).1, ← cst_cut]
theorem sw_si (h : k < 4) : (cst (u_sh S (shU f k (a, b, c))) ++ tl).set (shP k) (.inr (5, [.int a, .int x, .ref (shP k + 1)])) = (cst (u_sh S (shU f k (a, x, c))) ++ tl) := by
  show (cst (u_sh S (shU f k (a, b, c))) ++ tl).set (31 + 2 * k) _ = _
  rw [cut_set S _ tl (by omega), (csh_set (g := c) h).2.1, ← cst_cut]
theorem sw_ro (h : k < 4) : (cst (u_sh S (shU f k (a, b, c))) ++ tl).set (shP k + 1) (.inl (0, (40, .inl g))) = (cst (u_sh S (shU f k (a, b, g))) ++ tl) := by
  show (cst (u_sh S (shU f k (a, b, c))) ++ tl).set (31 + (2 * k + 1)) _ = _
  rw [cut_set S _ tl (by omega), (csh_set (x := a) h).2.2, ← cst_cut]
end
def zrow : Nat → (Nat → Int32) → Nat → Int32
  | 0, c => c
  | n + 1, c => upd (zrow n c) n 0
theorem zrow_at (c : Nat → Int32) : ∀ (n j : Nat), zrow n c j = if j < n then 0 else c j
  | 0, j => by simp [zrow]
  | n + 1, j => by
    show (if j = n then 0 else zrow n c j) = _
    rw [zrow_at c n j]
    by_cases h : j = n
    · subst h; simp
    · by_cases h2 : j < n
      · simp [h, h2]; omega
      · simp [h, h2]; omega
def wrV (a v : Int32) : Int32 := if a = 0 then v.toInt8.toInt32 else if a = 1 then v.toInt16.toInt32 else v
set_option maxRecDepth 100000 in
set_option maxHeartbeats 4000000 in
theorem c_X6_isMissing {X : Nat × (Nat → Int32)} {S : CS} {tl : pc_W} {f : Nat → ST} {k : Nat} {a b : Int32} {c : Nat → Int32} (hk : k < 4): Mt X 0 0 0 yX6_isMissing cX6_isMissing 1 (some .boolean) [.ref (shP k)] (cst (u_sh S (shU f k (a, b, c))) ++ tl) (RI (bi (a = -1)) (cst (u_sh S (shU f k (a, b, c))) ++ tl)) := by
  refine Mt.of (by decide +kernel) (fun _ _ => Nat.le_of_ble_eq_true rfl) ?_
  show Ex X mX6_isMissing _ _ _ _ _ _ _ _
  refine x_aload_n dX6_isMissing_0 rfl ?_
  refine gf_X6_11 dX6_isMissing_1 (sw_obj hk) rfl ?_
  refine x_iconst (-1) dX6_isMissing_4 ?_
  refine x_icmp_ne 12 dX6_isMissing_5 (fun h_5 => ?_) (fun h_5 => ?_)
  · refine x_iconst 0 dX6_isMissing_12 ?_
    exact Ex.ret (v := some (.int _)) ⟨dX6_isMissing_13, _, rfl, by first | rfl | decide⟩ ⟨congrArg (fun z => some (Value.int z)) (by ((try unfold bi); (repeat' split) <;> first | rfl | (exfalso; simp only [bi0, bi1, Int32.lt_iff_toInt_lt, Int32.le_iff_toInt_le, ← Int32.toInt_inj, tI_0, tI_1, tI_2, tI_3, tI_4, tI_5, tI_6, tI_7, tI_8, tI_9, tI_10, tI_11, tI_19, tI_20, tI_30, tI_37, tI_40, tI_41, tI_48, tI_57, tI_97, tI_99, tI_100, tI_122, tI_160, tI_255, tI_256, tI_999, tI_m1, tI_m2, tI_m3, tI_m4, tI_m11, tI_m12, tI_m13, tI_m14] at *; omega))), rfl⟩
  · refine x_iconst 1 dX6_isMissing_8 ?_
    refine x_goto 13 dX6_isMissing_9 ?_
    exact Ex.ret (v := some (.int _)) ⟨dX6_isMissing_13, _, rfl, by first | rfl | decide⟩ ⟨congrArg (fun z => some (Value.int z)) (by ((try unfold bi); (repeat' split) <;> first | rfl | (exfalso; simp only [bi0, bi1, Int32.lt_iff_toInt_lt, Int32.le_iff_toInt_le, ← Int32.toInt_inj, tI_0, tI_1, tI_2, tI_3, tI_4, tI_5, tI_6, tI_7, tI_8, tI_9, tI_10, tI_11, tI_19, tI_20, tI_30, tI_37, tI_40, tI_41, tI_48, tI_57, tI_97, tI_99, tI_100, tI_122, tI_160, tI_255, tI_256, tI_999, tI_m1, tI_m2, tI_m3, tI_m4, tI_m11, tI_m12, tI_m13, tI_m14] at *; omega))), rfl⟩
set_option maxRecDepth 100000 in
set_option maxHeartbeats 4000000 in
theorem c_X6_has {X : Nat × (Nat → Int32)} {S : CS} {tl : pc_W} {f : Nat → ST} {k : Nat} {a b : Int32} {c : Nat → Int32} {i : Int32} (hk : k < 4): Mt X 0 0 0 yX6_has cX6_has 2 (some .boolean) [.ref (shP k), .int i] (cst (u_sh S (shU f k (a, b, c))) ++ tl) (RI (bi (0 ≤ i ∧ i < b)) (cst (u_sh S (shU f k (a, b, c))) ++ tl)) := by
  refine Mt.of (by decide +kernel) (fun _ _ => Nat.le_of_ble_eq_true rfl) ?_
  show Ex X mX6_has _ _ _ _ _ _ _ _
  refine x_iload_n dX6_has_0 rfl ?_
  refine x_if_lt 16 dX6_has_1 (fun h_1 => ?_) (fun h_1 => ?_)
  · refine x_iconst 0 dX6_has_16 ?_
    exact Ex.ret (v := some (.int _)) ⟨dX6_has_17, _, rfl, by first | rfl | decide⟩ ⟨congrArg (fun z => some (Value.int z)) (by ((try unfold bi); (repeat' split) <;> first | rfl | (exfalso; simp only [bi0, bi1, Int32.lt_iff_toInt_lt, Int32.le_iff_toInt_le, ← Int32.toInt_inj, tI_0, tI_1, tI_2, tI_3, tI_4, tI_5, tI_6, tI_7, tI_8, tI_9, tI_10, tI_11, tI_19, tI_20, tI_30, tI_37, tI_40, tI_41, tI_48, tI_57, tI_97, tI_99, tI_100, tI_122, tI_160, tI_255, tI_256, tI_999, tI_m1, tI_m2, tI_m3, tI_m4, tI_m11, tI_m12, tI_m13, tI_m14] at *; omega))), rfl⟩
  · refine x_iload_n dX6_has_4 rfl ?_
    refine x_aload_n dX6_has_5 rfl ?_
    refine gf_X6_15 dX6_has_6 (sw_obj hk) rfl ?_
    refine x_icmp_ge 16 dX6_has_9 (fun h_9 => ?_) (fun h_9 => ?_)
    · refine x_iconst 0 dX6_has_16 ?_
      exact Ex.ret (v := some (.int _)) ⟨dX6_has_17, _, rfl, by first | rfl | decide⟩ ⟨congrArg (fun z => some (Value.int z)) (by ((try unfold bi); (repeat' split) <;> first | rfl | (exfalso; simp only [bi0, bi1, Int32.lt_iff_toInt_lt, Int32.le_iff_toInt_le, ← Int32.toInt_inj, tI_0, tI_1, tI_2, tI_3, tI_4, tI_5, tI_6, tI_7, tI_8, tI_9, tI_10, tI_11, tI_19, tI_20, tI_30, tI_37, tI_40, tI_41, tI_48, tI_57, tI_97, tI_99, tI_100, tI_122, tI_160, tI_255, tI_256, tI_999, tI_m1, tI_m2, tI_m3, tI_m4, tI_m11, tI_m12, tI_m13, tI_m14] at *; omega))), rfl⟩
    · refine x_iconst 1 dX6_has_12 ?_
      refine x_goto 17 dX6_has_13 ?_
      exact Ex.ret (v := some (.int _)) ⟨dX6_has_17, _, rfl, by first | rfl | decide⟩ ⟨congrArg (fun z => some (Value.int z)) (by ((try unfold bi); (repeat' split) <;> first | rfl | (exfalso; simp only [bi0, bi1, Int32.lt_iff_toInt_lt, Int32.le_iff_toInt_le, ← Int32.toInt_inj, tI_0, tI_1, tI_2, tI_3, tI_4, tI_5, tI_6, tI_7, tI_8, tI_9, tI_10, tI_11, tI_19, tI_20, tI_30, tI_37, tI_40, tI_41, tI_48, tI_57, tI_97, tI_99, tI_100, tI_122, tI_160, tI_255, tI_256, tI_999, tI_m1, tI_m2, tI_m3, tI_m4, tI_m11, tI_m12, tI_m13, tI_m14] at *; omega))), rfl⟩
set_option maxRecDepth 100000 in
set_option maxHeartbeats 4000000 in
theorem c_X6_hasRun {X : Nat × (Nat → Int32)} {S : CS} {tl : pc_W} {f : Nat → ST} {k : Nat} {a b : Int32} {c : Nat → Int32} {i n : Int32} (hk : k < 4): Mt X 0 0 0 yX6_hasRun cX6_hasRun 3 (some .boolean) [.ref (shP k), .int i, .int n] (cst (u_sh S (shU f k (a, b, c))) ++ tl) (RI (bi (0 ≤ i ∧ 0 ≤ n ∧ n ≤ b ∧ i ≤ b - n)) (cst (u_sh S (shU f k (a, b, c))) ++ tl)) := by
  refine Mt.of (by decide +kernel) (fun _ _ => Nat.le_of_ble_eq_true rfl) ?_
  show Ex X mX6_hasRun _ _ _ _ _ _ _ _
  refine x_iload_n dX6_hasRun_0 rfl ?_
  refine x_if_lt 30 dX6_hasRun_1 (fun h_1 => ?_) (fun h_1 => ?_)
  · refine x_iconst 0 dX6_hasRun_30 ?_
    exact Ex.ret (v := some (.int _)) ⟨dX6_hasRun_31, _, rfl, by first | rfl | decide⟩ ⟨congrArg (fun z => some (Value.int z)) (by ((try unfold bi); (repeat' split) <;> first | rfl | (exfalso; simp only [bi0, bi1, Int32.lt_iff_toInt_lt, Int32.le_iff_toInt_le, ← Int32.toInt_inj, tI_0, tI_1, tI_2, tI_3, tI_4, tI_5, tI_6, tI_7, tI_8, tI_9, tI_10, tI_11, tI_19, tI_20, tI_30, tI_37, tI_40, tI_41, tI_48, tI_57, tI_97, tI_99, tI_100, tI_122, tI_160, tI_255, tI_256, tI_999, tI_m1, tI_m2, tI_m3, tI_m4, tI_m11, tI_m12, tI_m13, tI_m14] at *; omega))), rfl⟩
  · refine x_iload_n dX6_hasRun_4 rfl ?_
    refine x_if_lt 30 dX6_hasRun_5 (fun h_5 => ?_) (fun h_5 => ?_)
    · refine x_iconst 0 dX6_hasRun_30 ?_
      exact Ex.ret (v := some (.int _)) ⟨dX6_hasRun_31, _, rfl, by first | rfl | decide⟩ ⟨congrArg (fun z => some (Value.int z)) (by ((try unfold bi); (repeat' split) <;> first | rfl | (exfalso; simp only [bi0, bi1, Int32.lt_iff_toInt_lt, Int32.le_iff_toInt_le, ← Int32.toInt_inj, tI_0, tI_1, tI_2, tI_3, tI_4, tI_5, tI_6, tI_7, tI_8, tI_9, tI_10, tI_11, tI_19, tI_20, tI_30, tI_37, tI_40, tI_41, tI_48, tI_57, tI_97, tI_99, tI_100, tI_122, tI_160, tI_255, tI_256, tI_999, tI_m1, tI_m2, tI_m3, tI_m4, tI_m11, tI_m12, tI_m13, tI_m14] at *; omega))), rfl⟩
    · refine x_iload_n dX6_hasRun_8 rfl ?_
      refine x_aload_n dX6_hasRun_9 rfl ?_
      refine gf_X6_15 dX6_hasRun_10 (sw_obj hk) rfl ?_
      refine x_icmp_gt 30 dX6_hasRun_13 (fun h_13 => ?_) (fun h_13 => ?_)
      · refine x_iconst 0 dX6_hasRun_30 ?_
        exact Ex.ret (v := some (.int _)) ⟨dX6_hasRun_31, _, rfl, by first | rfl | decide⟩ ⟨congrArg (fun z => some (Value.int z)) (by ((try unfold bi); (repeat' split) <;> first | rfl | (exfalso; simp only [bi0, bi1, Int32.lt_iff_toInt_lt, Int32.le_iff_toInt_le, ← Int32.toInt_inj, tI_0, tI_1, tI_2, tI_3, tI_4, tI_5, tI_6, tI_7, tI_8, tI_9, tI_10, tI_11, tI_19, tI_20, tI_30, tI_37, tI_40, tI_41, tI_48, tI_57, tI_97, tI_99, tI_100, tI_122, tI_160, tI_255, tI_256, tI_999, tI_m1, tI_m2, tI_m3, tI_m4, tI_m11, tI_m12, tI_m13, tI_m14] at *; omega))), rfl⟩
      · refine x_iload_n dX6_hasRun_16 rfl ?_
        refine x_aload_n dX6_hasRun_17 rfl ?_
        refine gf_X6_15 dX6_hasRun_18 (sw_obj hk) rfl ?_
        refine x_iload_n dX6_hasRun_21 rfl ?_
        refine x_isub dX6_hasRun_22 ?_
        refine x_icmp_gt 30 dX6_hasRun_23 (fun h_23 => ?_) (fun h_23 => ?_)
        · refine x_iconst 0 dX6_hasRun_30 ?_
          exact Ex.ret (v := some (.int _)) ⟨dX6_hasRun_31, _, rfl, by first | rfl | decide⟩ ⟨congrArg (fun z => some (Value.int z)) (by ((try unfold bi); (repeat' split) <;> first | rfl | (exfalso; simp only [bi0, bi1, Int32.lt_iff_toInt_lt, Int32.le_iff_toInt_le, ← Int32.toInt_inj, tI_0, tI_1, tI_2, tI_3, tI_4, tI_5, tI_6, tI_7, tI_8, tI_9, tI_10, tI_11, tI_19, tI_20, tI_30, tI_37, tI_40, tI_41, tI_48, tI_57, tI_97, tI_99, tI_100, tI_122, tI_160, tI_255, tI_256, tI_999, tI_m1, tI_m2, tI_m3, tI_m4, tI_m11, tI_m12, tI_m13, tI_m14] at *; omega))), rfl⟩
        · refine x_iconst 1 dX6_hasRun_26 ?_
          refine x_goto 31 dX6_hasRun_27 ?_
          exact Ex.ret (v := some (.int _)) ⟨dX6_hasRun_31, _, rfl, by first | rfl | decide⟩ ⟨congrArg (fun z => some (Value.int z)) (by ((try unfold bi); (repeat' split) <;> first | rfl | (exfalso; simp only [bi0, bi1, Int32.lt_iff_toInt_lt, Int32.le_iff_toInt_le, ← Int32.toInt_inj, tI_0, tI_1, tI_2, tI_3, tI_4, tI_5, tI_6, tI_7, tI_8, tI_9, tI_10, tI_11, tI_19, tI_20, tI_30, tI_37, tI_40, tI_41, tI_48, tI_57, tI_97, tI_99, tI_100, tI_122, tI_160, tI_255, tI_256, tI_999, tI_m1, tI_m2, tI_m3, tI_m4, tI_m11, tI_m12, tI_m13, tI_m14] at *; omega))), rfl⟩
set_option maxRecDepth 100000 in
set_option maxHeartbeats 4000000 in
theorem c_X6_lay {X : Nat × (Nat → Int32)} {S : CS} {tl : pc_W} {f : Nat → ST} {k : Nat} {a b : Int32} {c : Nat → Int32} {x n : Int32} (hk : k < 4): Mt X 0 0 0 yX6_lay cX6_lay 4 none [.ref (shP k), .int x, .int n] (cst (u_sh S (shU f k (a, b, c))) ++ tl) (RV (cst (u_sh S (shU f k (x, n, (zrow 40 c)))) ++ tl)) := by
  refine Mt.of (by decide +kernel) (fun _ _ => Nat.le_of_ble_eq_true rfl) ?_
  show Ex X mX6_lay _ _ _ _ _ _ _ _
  refine x_aload_n dX6_lay_0 rfl ?_
  refine x_iload_n dX6_lay_1 rfl ?_
  refine pf_X6_11 dX6_lay_2 (sw_obj hk) (Nat.le_of_ble_eq_true rfl) (fun _ _ => ⟨rfl, rfl⟩) ?_
  refine Ex.eqW (sw_so hk) ?_
  refine x_aload_n dX6_lay_5 rfl ?_
  refine x_iload_n dX6_lay_6 rfl ?_
  refine pf_X6_15 dX6_lay_7 (sw_obj hk) (Nat.le_of_ble_eq_true rfl) (fun _ _ => ⟨rfl, rfl⟩) ?_
  refine Ex.eqW (sw_si hk) ?_
  refine x_iconst 0 dX6_lay_10 ?_
  refine x_istore_n dX6_lay_11 (by decide) ?_
  refine for_up (P := fun i => Ex X mX6_lay 0 (RV (cst (u_sh S (shU f k (x, n, (zrow 40 c)))) ++ tl)) 0 0 12 [some (.ref (shP k)), some (.int x), some (.int n), some (.int (nI i))] [] (cst (u_sh S (shU f k (x, n, (zrow i c)))) ++ tl)) 40 ?_ (fun i hii ihi => ?_) 0 (by omega)
  · skip
    refine x_iload_n dX6_lay_12 rfl ?_
    refine x_bipush 40 dX6_lay_13 ?_
    refine x_icmp_ge 31 dX6_lay_15 (fun _ => ?_) (fun hx => absurd (by decide) hx)
    exact Ex.ret (v := none) ⟨rfl, dX6_lay_31⟩ ⟨rfl, rfl⟩
  · skip
    refine x_iload_n dX6_lay_12 rfl ?_
    refine x_bipush 40 dX6_lay_13 ?_
    refine x_icmp_ge 31 dX6_lay_15 (fun hx => absurd hx (nI_ge hii (by decide))) (fun _ => ?_)
    refine x_aload_n dX6_lay_18 rfl ?_
    refine gf_X6_18 dX6_lay_19 (sw_obj hk) rfl ?_
    refine x_iload_n dX6_lay_22 rfl ?_
    refine x_iconst 0 dX6_lay_23 ?_
    refine x_iastoreN dX6_lay_24 (sw_row hk) hii (by decide) ?_
    refine Ex.eqW (sw_ro hk) ?_
    refine x_iincN dX6_lay_25 rfl (by decide) ?_
    refine x_goto 12 dX6_lay_28 ?_
    exact ihi
set_option maxRecDepth 100000 in
set_option maxHeartbeats 4000000 in
theorem c_X6_write {X : Nat × (Nat → Int32)} {S : CS} {tl : pc_W} {f : Nat → ST} {k : Nat} {a b : Int32} {c : Nat → Int32} {i v : Int32} (hk : k < 4) (hi : vp_in i 40): Mt X 0 0 0 yX6_write cX6_write 3 none [.ref (shP k), .int i, .int v] (cst (u_sh S (shU f k (a, b, c))) ++ tl) (RV (cst (u_sh S (shU f k (a, b, (upd c i.toNatClampNeg (wrV a v))))) ++ tl)) := by
  refine Mt.of (by decide +kernel) (fun _ _ => Nat.le_of_ble_eq_true rfl) ?_
  show Ex X mX6_write _ _ _ _ _ _ _ _
  refine x_aload_n dX6_write_0 rfl ?_
  refine gf_X6_11 dX6_write_1 (sw_obj hk) rfl ?_
  refine x_swC 0 (fun s_4_0 => ?_) (fun s_4_0 => ?_)
  · refine x_lsw (off := 28) 32 dX6_write_4 (by decide) (by decide) ?_
    refine x_aload_n dX6_write_32 rfl ?_
    refine gf_X6_18 dX6_write_33 (sw_obj hk) rfl ?_
    refine x_iload_n dX6_write_36 rfl ?_
    refine x_iload_n dX6_write_37 rfl ?_
    refine x_i2b dX6_write_38 ?_
    refine x_iastore dX6_write_39 (sw_row hk) hi ?_
    refine Ex.eqW (sw_ro hk) ?_
    refine x_goto 61 dX6_write_40 ?_
    exact Ex.ret (v := none) ⟨rfl, dX6_write_61⟩ ⟨rfl, by rw [show wrV a v = v.toInt8.toInt32 from by rw [s_4_0]; rfl]⟩
  refine x_swC 1 (fun s_4_1 => ?_) (fun s_4_1 => ?_)
  · refine x_lsw (off := 39) 43 dX6_write_4 (by decide) (by decide) ?_
    refine x_aload_n dX6_write_43 rfl ?_
    refine gf_X6_18 dX6_write_44 (sw_obj hk) rfl ?_
    refine x_iload_n dX6_write_47 rfl ?_
    refine x_iload_n dX6_write_48 rfl ?_
    refine x_i2s dX6_write_49 ?_
    refine x_iastore dX6_write_50 (sw_row hk) hi ?_
    refine Ex.eqW (sw_ro hk) ?_
    refine x_goto 61 dX6_write_51 ?_
    exact Ex.ret (v := none) ⟨rfl, dX6_write_61⟩ ⟨rfl, by rw [show wrV a v = v.toInt16.toInt32 from by rw [s_4_1]; rfl]⟩
  refine x_lsw (off := 50) 54 dX6_write_4 (by decide) (by show lookupswitch.offset _ _ _ = _; simp only [List.toList_toArray]; rw [lv_osw (a := 0) s_4_0 (by decide), lv_osw (a := 1) s_4_1 (by decide)]; rfl) ?_
  refine x_aload_n dX6_write_54 rfl ?_
  refine gf_X6_18 dX6_write_55 (sw_obj hk) rfl ?_
  refine x_iload_n dX6_write_58 rfl ?_
  refine x_iload_n dX6_write_59 rfl ?_
  refine x_iastore dX6_write_60 (sw_row hk) hi ?_
  refine Ex.eqW (sw_ro hk) ?_
  exact Ex.ret (v := none) ⟨rfl, dX6_write_61⟩ ⟨rfl, by rw [show wrV a v = v from by unfold wrV; rw [if_neg s_4_0, if_neg s_4_1]]⟩
