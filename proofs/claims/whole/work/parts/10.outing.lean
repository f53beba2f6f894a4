section
variable {X : Nat × (Nat → Int32)} {M : MI} {d : Nat} {Ret : Option Value → pc_W → Prop} {cb sb : Nat} {pc : Nat} {L : List (Option Value)} {st : List Value} {w : pc_W}
/-- a counted loop, upward: what holds at its end holds at every count -/
theorem for_up {P : Nat → Prop} (N : Nat) (hend : P N) (hs : ∀ i, i < N → P (i + 1) → P i) : ∀ i, i ≤ N → P i := by
  intro i hi
  obtain ⟨k, rfl⟩ : ∃ k, N = i + k := ⟨N - i, by omega⟩
  induction k generalizing i with
  | zero => exact hend
  | succ k ih => exact hs i (by omega) (ih (i + 1) (by rw [show i + 1 + k = i + (k + 1) by omega]; exact hend) (fun j hj => hs j (by omega)) (by omega))
def sumI (f : Nat → Int32) : Nat → Int32
  | 0 => 0
  | n + 1 => sumI f n + f n
theorem sumI_cong {f g : Nat → Int32} : ∀ {n : Nat}, (∀ i, i < n → f i = g i) → sumI f n = sumI g n
  | 0, _ => rfl
  | n + 1, h => by
    show sumI f n + f n = sumI g n + g n
    rw [sumI_cong (fun i hi => h i (by omega)), h n (by omega)]
theorem vin {i n : Nat} (h : i < n) (hn : n < 2 ^ 31) : vp_in (nI i) n := vp_in_nI h hn
theorem x_ialoadN {r n i : Nat} {f : Nat → Int32} (hd : decode M.2.2.1 pc = .ok (.iaload, 1)) (hq : w[r]? = some (.inl (0, (n, .inl f)))) (hi : i < n) (hn : n < 2 ^ 31) (kk : Ex X M d Ret cb sb (pc + 1) L (.int (f i) :: st) w) : Ex X M d Ret cb sb pc L (.int (nI i) :: .ref r :: st) w :=
  x_iaload hd hq (vin hi hn) (by rw [nI_clamp (by omega)]; exact kk)
theorem x_zaloadN {r n i : Nat} {f : Nat → Int32} (hd : decode M.2.2.1 pc = .ok (.baload, 1)) (hq : w[r]? = some (.inl (1, (n, .inl f)))) (hi : i < n) (hn : n < 2 ^ 31) (kk : Ex X M d Ret cb sb (pc + 1) L (.int (f i) :: st) w) : Ex X M d Ret cb sb pc L (.int (nI i) :: .ref r :: st) w :=
  x_zaload hd hq (vin hi hn) (by rw [nI_clamp (by omega)]; exact kk)
theorem x_iastoreN {r n i : Nat} {f : Nat → Int32} {x : Int32} (hd : decode M.2.2.1 pc = .ok (.iastore, 1)) (hq : w[r]? = some (.inl (0, (n, .inl f)))) (hi : i < n) (hn : n < 2 ^ 31) (kk : Ex X M d Ret cb sb (pc + 1) L st (w.set r (.inl (0, (n, .inl (upd f i x)))))) : Ex X M d Ret cb sb pc L (.int x :: .int (nI i) :: .ref r :: st) w :=
  x_iastore hd hq (vin hi hn) (by rw [nI_clamp (by omega)]; exact kk)
theorem x_aaloadN {r n r' t i : Nat} {C : String} {f : Nat → Option Nat} (hd : decode M.2.2.1 pc = .ok (.aaload, 1)) (ht : ∀ ty : Nat → ClassId, (tys4 ty)[t]? = some (ty t, .object C)) (hq : w[r]? = some (.inl (t, (n, .inr (.inr (.inr (.inr f))))))) (hi : i < n) (hn : n < 2 ^ 31) (hf : f i = some r') (kk : Ex X M d Ret cb sb (pc + 1) L (.ref r' :: st) w) : Ex X M d Ret cb sb pc L (.int (nI i) :: .ref r :: st) w :=
  x_aaload hd ht hq (vin hi hn) (by rw [nI_clamp (by omega)]; exact hf) kk
theorem x_iincN {i n : Nat} (hd : decode M.2.2.1 pc = .ok (.iinc n 1, 3)) (h0 : L[n]? = some (some (.int (nI i)))) (hn : n < M.2.2.2.1) (k : Ex X M d Ret cb sb (pc + 3) (lset (.int (nI (i + 1))) false n L) st w) : Ex X M d Ret cb sb pc L st w :=
  x_iinc 1 hd h0 hn (by rw [nI_1]; exact k)
theorem Ex.eqL {L' : List (Option Value)} (h : L = L') (k : Ex X M d Ret cb sb pc L' st w) : Ex X M d Ret cb sb pc L st w := h ▸ k
theorem Ex.eqW {w' : pc_W} (h : w = w') (k : Ex X M d Ret cb sb pc L st w') : Ex X M d Ret cb sb pc L st w := h ▸ k
end
/-- one more of the people -/
def o_wel (O : OT) (k n : Int32) (i : Nat) : OT := uo_sz (uo_pr (uo_nu (uo_ki O (upd (o_ki O) i k)) (upd (o_nu O) i n)) (upd (o_pr O) i 5)) (o_sz O + 1)
def o_ear (O : OT) (x : Int32) : OT := uo_pu O (clp (-99999) (o_pu O + x) 99999)
def o_ahe (O : OT) (h : Int32) : Int32 := if 0 < h then o_we O (h - 1).toNatClampNeg else 0
def o_mAt (O : OT) (h : Int32) : Int32 := (o_me O >>> (h &&& 31)) &&& 1
def o_bec (T O : OT) : OT := (va_cpy (o_we O) (o_we T) 0 0 8, o_me O, o_ye O, o_li O, o_pu O, o_ru O, o_sz O, va_cpy (o_ki O) (o_ki T) 0 0 6, va_cpy (o_nu O) (o_nu T) 0 0 6, va_cpy (o_pr O) (o_pr T) 0 0 6)
set_option maxRecDepth 100000 in
set_option maxHeartbeats 4000000 in
theorem c_X3_has {X : Nat × (Nat → Int32)} {S : CS} {tl : pc_W} {x : Int32} : Mt X 0 0 0 yX3_has cX3_has 2 (some .boolean) [.ref 1, .int x] (cst S ++ tl) (RI (bi (0 ≤ x ∧ x < o_sz (s_now S))) (cst S ++ tl)) := by
  refine Mt.of (by decide +kernel) (fun _ _ => Nat.le_of_ble_eq_true rfl) ?_
  show Ex X mX3_has _ _ _ _ _ _ _ _
  refine x_iload_n dX3_has_0 rfl ?_
  refine x_if_lt 16 dX3_has_1 (fun h_1 => ?_) (fun h_1 => ?_)
  · refine x_iconst 0 dX3_has_16 ?_
    exact Ex.ret (v := some (.int _)) ⟨dX3_has_17, _, rfl, by first | rfl | decide⟩ ⟨congrArg (fun z => some (Value.int z)) (by first | rfl | ((unfold bi; repeat' split) <;> first | rfl | contradiction | (simp_all; done) | (exfalso; simp only [Int32.lt_iff_toInt_lt, Int32.le_iff_toInt_le] at *; omega))), rfl⟩
  · refine x_iload_n dX3_has_4 rfl ?_
    refine x_aload_n dX3_has_5 rfl ?_
    refine gf_X3_31 dX3_has_6 rfl rfl ?_
    refine x_icmp_ge 16 dX3_has_9 (fun h_9 => ?_) (fun h_9 => ?_)
    · refine x_iconst 0 dX3_has_16 ?_
      exact Ex.ret (v := some (.int _)) ⟨dX3_has_17, _, rfl, by first | rfl | decide⟩ ⟨congrArg (fun z => some (Value.int z)) (by first | rfl | ((unfold bi; repeat' split) <;> first | rfl | contradiction | (simp_all; done) | (exfalso; simp only [Int32.lt_iff_toInt_lt, Int32.le_iff_toInt_le] at *; omega))), rfl⟩
    · refine x_iconst 1 dX3_has_12 ?_
      refine x_goto 17 dX3_has_13 ?_
      exact Ex.ret (v := some (.int _)) ⟨dX3_has_17, _, rfl, by first | rfl | decide⟩ ⟨congrArg (fun z => some (Value.int z)) (by first | rfl | ((unfold bi; repeat' split) <;> first | rfl | contradiction | (simp_all; done) | (exfalso; simp only [Int32.lt_iff_toInt_lt, Int32.le_iff_toInt_le] at *; omega))), rfl⟩
set_option maxRecDepth 100000 in
set_option maxHeartbeats 4000000 in
theorem c_X3_mendedAt_n {X : Nat × (Nat → Int32)} {S : CS} {tl : pc_W} {h : Int32} : Mt X 0 0 0 yX3_mendedAt cX3_mendedAt 2 (some .int) [.ref 1, .int h] (cst S ++ tl) (RI (o_mAt (s_now S) h) (cst S ++ tl)) := by
  refine Mt.of (by decide +kernel) (fun _ _ => Nat.le_of_ble_eq_true rfl) ?_
  show Ex X mX3_mendedAt _ _ _ _ _ _ _ _
  refine x_aload_n dX3_mendedAt_0 rfl ?_
  refine gf_X3_15 dX3_mendedAt_1 rfl rfl ?_
  refine x_iload_n dX3_mendedAt_4 rfl ?_
  refine x_ishr dX3_mendedAt_5 ?_
  refine x_iconst 1 dX3_mendedAt_6 ?_
  refine x_iand dX3_mendedAt_7 ?_
  exact Ex.ret (v := some (.int _)) ⟨dX3_mendedAt_8, _, rfl, by first | rfl | decide⟩ ⟨congrArg (fun z => some (Value.int z)) (by rfl), rfl⟩
set_option maxRecDepth 100000 in
set_option maxHeartbeats 4000000 in
theorem c_X3_weatherAhead_n {X : Nat × (Nat → Int32)} {S : CS} {tl : pc_W} {h : Int32} (hh : 0 < h → vp_in (h - 1) 8): Mt X 0 0 0 yX3_weatherAhead cX3_weatherAhead 2 (some .int) [.ref 1, .int h] (cst S ++ tl) (RI (o_ahe (s_now S) h) (cst S ++ tl)) := by
  refine Mt.of (by decide +kernel) (fun _ _ => Nat.le_of_ble_eq_true rfl) ?_
  show Ex X mX3_weatherAhead _ _ _ _ _ _ _ _
  refine x_iload_n dX3_weatherAhead_0 rfl ?_
  refine x_if_le 15 dX3_weatherAhead_1 (fun h_1 => ?_) (fun h_1 => ?_)
  · refine x_iconst 0 dX3_weatherAhead_15 ?_
    exact Ex.ret (v := some (.int _)) ⟨dX3_weatherAhead_16, _, rfl, by first | rfl | decide⟩ ⟨congrArg (fun z => some (Value.int z)) (by first | rfl | ((unfold o_ahe; repeat' split) <;> first | rfl | contradiction | (simp_all; done) | (exfalso; simp only [Int32.lt_iff_toInt_lt, Int32.le_iff_toInt_le] at *; omega))), rfl⟩
  · refine x_aload_n dX3_weatherAhead_4 rfl ?_
    refine gf_X3_9 dX3_weatherAhead_5 rfl rfl ?_
    refine x_iload_n dX3_weatherAhead_8 rfl ?_
    refine x_iconst 1 dX3_weatherAhead_9 ?_
    refine x_isub dX3_weatherAhead_10 ?_
    refine x_iaload dX3_weatherAhead_11 rfl (hh (by simp only [Int32.lt_iff_toInt_lt, Int32.le_iff_toInt_le] at *; omega)) ?_
    refine x_goto 16 dX3_weatherAhead_12 ?_
    exact Ex.ret (v := some (.int _)) ⟨dX3_weatherAhead_16, _, rfl, by first | rfl | decide⟩ ⟨congrArg (fun z => some (Value.int z)) (by first | rfl | ((unfold o_ahe; repeat' split) <;> first | rfl | contradiction | (simp_all; done) | (exfalso; simp only [Int32.lt_iff_toInt_lt, Int32.le_iff_toInt_le] at *; omega))), rfl⟩
set_option maxRecDepth 100000 in
set_option maxHeartbeats 4000000 in
theorem c_X3_premiumsOfAll_n {X : Nat × (Nat → Int32)} {S : CS} {tl : pc_W} {n : Nat} (hn : n ≤ 6) (hsz : o_sz (s_now S) = nI n): Mt X 0 0 0 yX3_premiumsOfAll cX3_premiumsOfAll 3 (some .int) [.ref 1] (cst S ++ tl) (RI (sumI (o_pr (s_now S)) n) (cst S ++ tl)) := by
  refine Mt.of (by decide +kernel) (fun _ _ => Nat.le_of_ble_eq_true rfl) ?_
  show Ex X mX3_premiumsOfAll _ _ _ _ _ _ _ _
  refine x_iconst 0 dX3_premiumsOfAll_0 ?_
  refine x_istore_n dX3_premiumsOfAll_1 (by decide) ?_
  refine x_iconst 0 dX3_premiumsOfAll_2 ?_
  refine x_istore_n dX3_premiumsOfAll_3 (by decide) ?_
  refine for_up (P := fun i => Ex X mX3_premiumsOfAll 0 (RI (sumI (o_pr (s_now S)) n) (cst S ++ tl)) 0 0 4 [some (.ref 1), some (.int (sumI (o_pr (s_now S)) i)), some (.int (nI i))] [] (cst S ++ tl)) n ?_ (fun i hii ihi => ?_) 0 (by omega)
  · skip
    refine x_iload_n dX3_premiumsOfAll_4 rfl ?_
    refine x_aload_n dX3_premiumsOfAll_5 rfl ?_
    refine gf_X3_31 dX3_premiumsOfAll_6 rfl rfl ?_
    refine x_icmp_ge 27 dX3_premiumsOfAll_9 (fun _ => ?_) (fun hx => absurd (by rw [hsz]; exact Int32.le_refl _) hx)
    refine x_iload_n dX3_premiumsOfAll_27 rfl ?_
    exact Ex.ret (v := some (.int _)) ⟨dX3_premiumsOfAll_28, _, rfl, by first | rfl | decide⟩ ⟨congrArg (fun z => some (Value.int z)) (by rfl), rfl⟩
  · skip
    refine x_iload_n dX3_premiumsOfAll_4 rfl ?_
    refine x_aload_n dX3_premiumsOfAll_5 rfl ?_
    refine gf_X3_31 dX3_premiumsOfAll_6 rfl rfl ?_
    refine x_icmp_ge 27 dX3_premiumsOfAll_9 (fun hx => absurd hx (by rw [hsz]; exact nI_ge hii (by omega))) (fun _ => ?_)
    refine x_iload_n dX3_premiumsOfAll_12 rfl ?_
    refine x_aload_n dX3_premiumsOfAll_13 rfl ?_
    refine gf_X3_40 dX3_premiumsOfAll_14 rfl rfl ?_
    refine x_iload_n dX3_premiumsOfAll_17 rfl ?_
    refine x_ialoadN dX3_premiumsOfAll_18 rfl (by omega) (by decide) ?_
    refine x_iadd dX3_premiumsOfAll_19 ?_
    refine x_istore_n dX3_premiumsOfAll_20 (by decide) ?_
    refine x_iincN dX3_premiumsOfAll_21 rfl (by decide) ?_
    refine x_goto 4 dX3_premiumsOfAll_24 ?_
    exact ihi
set_option maxRecDepth 100000 in
set_option maxHeartbeats 4000000 in
theorem c_X3_earn_n {X : Nat × (Nat → Int32)} {S : CS} {tl : pc_W} {x : Int32} : Mt X 1 0 0 yX3_earn cX3_earn 2 none [.ref 1, .int x] (cst S ++ tl) (RV (cst (u_now S (o_ear (s_now S) x)) ++ tl)) := by
  refine Mt.of (by decide +kernel) (fun _ _ => Nat.le_of_ble_eq_true rfl) ?_
  show Ex X mX3_earn _ _ _ _ _ _ _ _
  refine x_aload_n dX3_earn_0 rfl ?_
  refine x_getsAN (C := "RememberedAsSunny") (n := "LOWEST") (host := "RememberedAsSunny") 100 dX3_earn_1 (fun _ _ _ _ h => h.2.1.1) (by decide +kernel) ?_
  refine x_iconst 2 dX3_earn_4 ?_
  refine x_taload dX3_earn_5 (Or.inl rfl) (show vp_in 2 7 from by unfold vp_in; decide) ?_
  refine x_aload_n dX3_earn_6 rfl ?_
  refine gf_X3_25 dX3_earn_7 rfl rfl ?_
  refine x_iload_n dX3_earn_10 rfl ?_
  refine x_iadd dX3_earn_11 ?_
  refine x_getsAN (C := "RememberedAsSunny") (n := "HIGHEST") (host := "RememberedAsSunny") 101 dX3_earn_12 (fun _ _ _ _ h => h.2.1.2.1) (by decide +kernel) ?_
  refine x_iconst 2 dX3_earn_15 ?_
  refine x_taload dX3_earn_16 (Or.inr (Or.inl rfl)) (show vp_in 2 7 from by unfold vp_in; decide) ?_
  refine ii_X3_55 dX3_earn_17 c_X9_within (by decide) (by decide) ?_
  refine pf_X3_25 dX3_earn_20 rfl (Nat.le_of_ble_eq_true rfl) (fun _ _ => ⟨rfl, rfl⟩) ?_
  exact Ex.ret (v := none) ⟨rfl, dX3_earn_23⟩ ⟨rfl, rfl⟩
set_option maxRecDepth 100000 in
set_option maxHeartbeats 4000000 in
theorem c_X3_mendedAt_t {X : Nat × (Nat → Int32)} {S : CS} {tl : pc_W} {h : Int32} : Mt X 0 0 0 yX3_mendedAt cX3_mendedAt 2 (some .int) [.ref 11, .int h] (cst S ++ tl) (RI (o_mAt (s_tho S) h) (cst S ++ tl)) := by
  refine Mt.of (by decide +kernel) (fun _ _ => Nat.le_of_ble_eq_true rfl) ?_
  show Ex X mX3_mendedAt _ _ _ _ _ _ _ _
  refine x_aload_n dX3_mendedAt_0 rfl ?_
  refine gf_X3_15 dX3_mendedAt_1 rfl rfl ?_
  refine x_iload_n dX3_mendedAt_4 rfl ?_
  refine x_ishr dX3_mendedAt_5 ?_
  refine x_iconst 1 dX3_mendedAt_6 ?_
  refine x_iand dX3_mendedAt_7 ?_
  exact Ex.ret (v := some (.int _)) ⟨dX3_mendedAt_8, _, rfl, by first | rfl | decide⟩ ⟨congrArg (fun z => some (Value.int z)) (by rfl), rfl⟩
set_option maxRecDepth 100000 in
set_option maxHeartbeats 4000000 in
theorem c_X3_weatherAhead_t {X : Nat × (Nat → Int32)} {S : CS} {tl : pc_W} {h : Int32} (hh : 0 < h → vp_in (h - 1) 8): Mt X 0 0 0 yX3_weatherAhead cX3_weatherAhead 2 (some .int) [.ref 11, .int h] (cst S ++ tl) (RI (o_ahe (s_tho S) h) (cst S ++ tl)) := by
  refine Mt.of (by decide +kernel) (fun _ _ => Nat.le_of_ble_eq_true rfl) ?_
  show Ex X mX3_weatherAhead _ _ _ _ _ _ _ _
  refine x_iload_n dX3_weatherAhead_0 rfl ?_
  refine x_if_le 15 dX3_weatherAhead_1 (fun h_1 => ?_) (fun h_1 => ?_)
  · refine x_iconst 0 dX3_weatherAhead_15 ?_
    exact Ex.ret (v := some (.int _)) ⟨dX3_weatherAhead_16, _, rfl, by first | rfl | decide⟩ ⟨congrArg (fun z => some (Value.int z)) (by first | rfl | ((unfold o_ahe; repeat' split) <;> first | rfl | contradiction | (simp_all; done) | (exfalso; simp only [Int32.lt_iff_toInt_lt, Int32.le_iff_toInt_le] at *; omega))), rfl⟩
  · refine x_aload_n dX3_weatherAhead_4 rfl ?_
    refine gf_X3_9 dX3_weatherAhead_5 rfl rfl ?_
    refine x_iload_n dX3_weatherAhead_8 rfl ?_
    refine x_iconst 1 dX3_weatherAhead_9 ?_
    refine x_isub dX3_weatherAhead_10 ?_
    refine x_iaload dX3_weatherAhead_11 rfl (hh (by simp only [Int32.lt_iff_toInt_lt, Int32.le_iff_toInt_le] at *; omega)) ?_
    refine x_goto 16 dX3_weatherAhead_12 ?_
    exact Ex.ret (v := some (.int _)) ⟨dX3_weatherAhead_16, _, rfl, by first | rfl | decide⟩ ⟨congrArg (fun z => some (Value.int z)) (by first | rfl | ((unfold o_ahe; repeat' split) <;> first | rfl | contradiction | (simp_all; done) | (exfalso; simp only [Int32.lt_iff_toInt_lt, Int32.le_iff_toInt_le] at *; omega))), rfl⟩
set_option maxRecDepth 100000 in
set_option maxHeartbeats 4000000 in
theorem c_X3_premiumsOfAll_t {X : Nat × (Nat → Int32)} {S : CS} {tl : pc_W} {n : Nat} (hn : n ≤ 6) (hsz : o_sz (s_tho S) = nI n): Mt X 0 0 0 yX3_premiumsOfAll cX3_premiumsOfAll 3 (some .int) [.ref 11] (cst S ++ tl) (RI (sumI (o_pr (s_tho S)) n) (cst S ++ tl)) := by
  refine Mt.of (by decide +kernel) (fun _ _ => Nat.le_of_ble_eq_true rfl) ?_
  show Ex X mX3_premiumsOfAll _ _ _ _ _ _ _ _
  refine x_iconst 0 dX3_premiumsOfAll_0 ?_
  refine x_istore_n dX3_premiumsOfAll_1 (by decide) ?_
  refine x_iconst 0 dX3_premiumsOfAll_2 ?_
  refine x_istore_n dX3_premiumsOfAll_3 (by decide) ?_
  refine for_up (P := fun i => Ex X mX3_premiumsOfAll 0 (RI (sumI (o_pr (s_tho S)) n) (cst S ++ tl)) 0 0 4 [some (.ref 11), some (.int (sumI (o_pr (s_tho S)) i)), some (.int (nI i))] [] (cst S ++ tl)) n ?_ (fun i hii ihi => ?_) 0 (by omega)
  · skip
    refine x_iload_n dX3_premiumsOfAll_4 rfl ?_
    refine x_aload_n dX3_premiumsOfAll_5 rfl ?_
    refine gf_X3_31 dX3_premiumsOfAll_6 rfl rfl ?_
    refine x_icmp_ge 27 dX3_premiumsOfAll_9 (fun _ => ?_) (fun hx => absurd (by rw [hsz]; exact Int32.le_refl _) hx)
    refine x_iload_n dX3_premiumsOfAll_27 rfl ?_
    exact Ex.ret (v := some (.int _)) ⟨dX3_premiumsOfAll_28, _, rfl, by first | rfl | decide⟩ ⟨congrArg (fun z => some (Value.int z)) (by rfl), rfl⟩
  · skip
    refine x_iload_n dX3_premiumsOfAll_4 rfl ?_
    refine x_aload_n dX3_premiumsOfAll_5 rfl ?_
    refine gf_X3_31 dX3_premiumsOfAll_6 rfl rfl ?_
    refine x_icmp_ge 27 dX3_premiumsOfAll_9 (fun hx => absurd hx (by rw [hsz]; exact nI_ge hii (by omega))) (fun _ => ?_)
    refine x_iload_n dX3_premiumsOfAll_12 rfl ?_
    refine x_aload_n dX3_premiumsOfAll_13 rfl ?_
    refine gf_X3_40 dX3_premiumsOfAll_14 rfl rfl ?_
    refine x_iload_n dX3_premiumsOfAll_17 rfl ?_
    refine x_ialoadN dX3_premiumsOfAll_18 rfl (by omega) (by decide) ?_
    refine x_iadd dX3_premiumsOfAll_19 ?_
    refine x_istore_n dX3_premiumsOfAll_20 (by decide) ?_
    refine x_iincN dX3_premiumsOfAll_21 rfl (by decide) ?_
    refine x_goto 4 dX3_premiumsOfAll_24 ?_
    exact ihi
set_option maxRecDepth 100000 in
set_option maxHeartbeats 4000000 in
theorem c_X3_earn_t {X : Nat × (Nat → Int32)} {S : CS} {tl : pc_W} {x : Int32} : Mt X 1 0 0 yX3_earn cX3_earn 2 none [.ref 11, .int x] (cst S ++ tl) (RV (cst (u_tho S (o_ear (s_tho S) x)) ++ tl)) := by
  refine Mt.of (by decide +kernel) (fun _ _ => Nat.le_of_ble_eq_true rfl) ?_
  show Ex X mX3_earn _ _ _ _ _ _ _ _
  refine x_aload_n dX3_earn_0 rfl ?_
  refine x_getsAN (C := "RememberedAsSunny") (n := "LOWEST") (host := "RememberedAsSunny") 100 dX3_earn_1 (fun _ _ _ _ h => h.2.1.1) (by decide +kernel) ?_
  refine x_iconst 2 dX3_earn_4 ?_
  refine x_taload dX3_earn_5 (Or.inl rfl) (show vp_in 2 7 from by unfold vp_in; decide) ?_
  refine x_aload_n dX3_earn_6 rfl ?_
  refine gf_X3_25 dX3_earn_7 rfl rfl ?_
  refine x_iload_n dX3_earn_10 rfl ?_
  refine x_iadd dX3_earn_11 ?_
  refine x_getsAN (C := "RememberedAsSunny") (n := "HIGHEST") (host := "RememberedAsSunny") 101 dX3_earn_12 (fun _ _ _ _ h => h.2.1.2.1) (by decide +kernel) ?_
  refine x_iconst 2 dX3_earn_15 ?_
  refine x_taload dX3_earn_16 (Or.inr (Or.inl rfl)) (show vp_in 2 7 from by unfold vp_in; decide) ?_
  refine ii_X3_55 dX3_earn_17 c_X9_within (by decide) (by decide) ?_
  refine pf_X3_25 dX3_earn_20 rfl (Nat.le_of_ble_eq_true rfl) (fun _ _ => ⟨rfl, rfl⟩) ?_
  exact Ex.ret (v := none) ⟨rfl, dX3_earn_23⟩ ⟨rfl, rfl⟩
set_option maxRecDepth 100000 in
set_option maxHeartbeats 4000000 in
theorem c_X3_welcome {X : Nat × (Nat → Int32)} {S : CS} {tl : pc_W} {k n : Int32} {i : Nat} (hi : i < 6) (hsz : o_sz (s_now S) = nI i): Mt X 0 0 0 yX3_welcome cX3_welcome 4 (some .int) [.ref 1, .int k, .int n] (cst S ++ tl) (RI (nI i) (cst (u_now S (o_wel (s_now S) k n i)) ++ tl)) := by
  refine Mt.of (by decide +kernel) (fun _ _ => Nat.le_of_ble_eq_true rfl) ?_
  show Ex X mX3_welcome _ _ _ _ _ _ _ _
  rcases S with ⟨⟨a0, a1, a2, a3, a4, a5, a6, a7⟩, S⟩
  change a6 = nI i at hsz
  subst hsz
  refine x_aload_n dX3_welcome_0 rfl ?_
  refine gf_X3_31 dX3_welcome_1 rfl rfl ?_
  refine x_bipush 6 dX3_welcome_4 ?_
  refine x_icmp_lt 12 dX3_welcome_6 (fun _ => ?_) (fun hx => absurd (nI_lt (b := 6) hi (by decide)) hx)
  refine x_aload_n dX3_welcome_12 rfl ?_
  refine gf_X3_31 dX3_welcome_13 rfl rfl ?_
  refine x_istore_n dX3_welcome_16 (by decide) ?_
  refine x_aload_n dX3_welcome_17 rfl ?_
  refine gf_X3_34 dX3_welcome_18 rfl rfl ?_
  refine x_iload_n dX3_welcome_21 rfl ?_
  refine x_iload_n dX3_welcome_22 rfl ?_
  refine x_iastoreN dX3_welcome_23 rfl hi (by decide) ?_
  refine x_aload_n dX3_welcome_24 rfl ?_
  refine gf_X3_37 dX3_welcome_25 rfl rfl ?_
  refine x_iload_n dX3_welcome_28 rfl ?_
  refine x_iload_n dX3_welcome_29 rfl ?_
  refine x_iastoreN dX3_welcome_30 rfl hi (by decide) ?_
  refine x_aload_n dX3_welcome_31 rfl ?_
  refine gf_X3_40 dX3_welcome_32 rfl rfl ?_
  refine x_iload_n dX3_welcome_35 rfl ?_
  refine x_iconst 5 dX3_welcome_36 ?_
  refine x_iastoreN dX3_welcome_37 rfl hi (by decide) ?_
  refine x_aload_n dX3_welcome_38 rfl ?_
  refine x_dup dX3_welcome_39 ?_
  refine gf_X3_31 dX3_welcome_40 rfl rfl ?_
  refine x_iconst 1 dX3_welcome_43 ?_
  refine x_iadd dX3_welcome_44 ?_
  refine pf_X3_31 dX3_welcome_45 rfl (Nat.le_of_ble_eq_true rfl) (fun _ _ => ⟨rfl, rfl⟩) ?_
  refine x_iload_n dX3_welcome_48 rfl ?_
  exact Ex.ret (v := some (.int _)) ⟨dX3_welcome_49, _, rfl, by first | rfl | decide⟩ ⟨congrArg (fun z => some (Value.int z)) (by rfl), rfl⟩
set_option maxRecDepth 100000 in
set_option maxHeartbeats 4000000 in
theorem c_X3_welcome_f {X : Nat × (Nat → Int32)} {S : CS} {tl : pc_W} {k n : Int32} {i : Nat} (hi : 6 ≤ i) (hi6 : i ≤ 6) (hsz : o_sz (s_now S) = nI i): Mt X 0 0 0 yX3_welcome cX3_welcome 4 (some .int) [.ref 1, .int k, .int n] (cst S ++ tl) (RI (-4) (cst S ++ tl)) := by
  refine Mt.of (by decide +kernel) (fun _ _ => Nat.le_of_ble_eq_true rfl) ?_
  show Ex X mX3_welcome _ _ _ _ _ _ _ _
  rcases S with ⟨⟨a0, a1, a2, a3, a4, a5, a6, a7⟩, S⟩
  change a6 = nI i at hsz
  subst hsz
  refine x_aload_n dX3_welcome_0 rfl ?_
  refine gf_X3_31 dX3_welcome_1 rfl rfl ?_
  refine x_bipush 6 dX3_welcome_4 ?_
  refine x_icmp_lt 12 dX3_welcome_6 (fun hx => absurd hx (nI_nlt (b := 6) hi (by omega))) (fun _ => ?_)
  refine x_bipush (-4) dX3_welcome_9 ?_
  exact Ex.ret (v := some (.int _)) ⟨dX3_welcome_11, _, rfl, by first | rfl | decide⟩ ⟨congrArg (fun z => some (Value.int z)) (by rfl), rfl⟩
set_option maxRecDepth 100000 in
set_option maxHeartbeats 4000000 in
theorem c_X3_become_tn {X : Nat × (Nat → Int32)} {S : CS} {tl : pc_W} : Mt X 1 0 0 yX3_become cX3_become 2 none [.ref 11, .ref 1] (cst S ++ tl) (RV (cst (u_tho S (o_bec (s_tho S) (s_now S))) ++ tl)) := by
  refine Mt.of (by decide +kernel) (fun _ _ => Nat.le_of_ble_eq_true rfl) ?_
  show Ex X mX3_become _ _ _ _ _ _ _ _
  refine x_aload_n dX3_become_0 rfl ?_
  refine gf_X3_9 dX3_become_1 rfl rfl ?_
  refine x_iconst 0 dX3_become_4 ?_
  refine x_aload_n dX3_become_5 rfl ?_
  refine gf_X3_9 dX3_become_6 rfl rfl ?_
  refine x_iconst 0 dX3_become_9 ?_
  refine x_bipush 8 dX3_become_10 ?_
  refine x_arraycopy dX3_become_12 ky_X3_43 kna_acopy kt_acopy ki_System rfl rfl (by decide) (by decide) (by decide) (by decide) (by decide) (by decide) (by decide) ?_
  refine x_aload_n dX3_become_15 rfl ?_
  refine x_aload_n dX3_become_16 rfl ?_
  refine gf_X3_15 dX3_become_17 rfl rfl ?_
  refine pf_X3_15 dX3_become_20 rfl (Nat.le_of_ble_eq_true rfl) (fun _ _ => ⟨rfl, rfl⟩) ?_
  refine x_aload_n dX3_become_23 rfl ?_
  refine x_aload_n dX3_become_24 rfl ?_
  refine gf_X3_19 dX3_become_25 rfl rfl ?_
  refine pf_X3_19 dX3_become_28 rfl (Nat.le_of_ble_eq_true rfl) (fun _ _ => ⟨rfl, rfl⟩) ?_
  refine x_aload_n dX3_become_31 rfl ?_
  refine x_aload_n dX3_become_32 rfl ?_
  refine gf_X3_22 dX3_become_33 rfl rfl ?_
  refine pf_X3_22 dX3_become_36 rfl (Nat.le_of_ble_eq_true rfl) (fun _ _ => ⟨rfl, rfl⟩) ?_
  refine x_aload_n dX3_become_39 rfl ?_
  refine x_aload_n dX3_become_40 rfl ?_
  refine gf_X3_25 dX3_become_41 rfl rfl ?_
  refine pf_X3_25 dX3_become_44 rfl (Nat.le_of_ble_eq_true rfl) (fun _ _ => ⟨rfl, rfl⟩) ?_
  refine x_aload_n dX3_become_47 rfl ?_
  refine x_aload_n dX3_become_48 rfl ?_
  refine gf_X3_28 dX3_become_49 rfl rfl ?_
  refine pf_X3_28 dX3_become_52 rfl (Nat.le_of_ble_eq_true rfl) (fun _ _ => ⟨rfl, rfl⟩) ?_
  refine x_aload_n dX3_become_55 rfl ?_
  refine x_aload_n dX3_become_56 rfl ?_
  refine gf_X3_31 dX3_become_57 rfl rfl ?_
  refine pf_X3_31 dX3_become_60 rfl (Nat.le_of_ble_eq_true rfl) (fun _ _ => ⟨rfl, rfl⟩) ?_
  refine x_aload_n dX3_become_63 rfl ?_
  refine gf_X3_34 dX3_become_64 rfl rfl ?_
  refine x_iconst 0 dX3_become_67 ?_
  refine x_aload_n dX3_become_68 rfl ?_
  refine gf_X3_34 dX3_become_69 rfl rfl ?_
  refine x_iconst 0 dX3_become_72 ?_
  refine x_bipush 6 dX3_become_73 ?_
  refine x_arraycopy dX3_become_75 ky_X3_43 kna_acopy kt_acopy ki_System rfl rfl (by decide) (by decide) (by decide) (by decide) (by decide) (by decide) (by decide) ?_
  refine x_aload_n dX3_become_78 rfl ?_
  refine gf_X3_37 dX3_become_79 rfl rfl ?_
  refine x_iconst 0 dX3_become_82 ?_
  refine x_aload_n dX3_become_83 rfl ?_
  refine gf_X3_37 dX3_become_84 rfl rfl ?_
  refine x_iconst 0 dX3_become_87 ?_
  refine x_bipush 6 dX3_become_88 ?_
  refine x_arraycopy dX3_become_90 ky_X3_43 kna_acopy kt_acopy ki_System rfl rfl (by decide) (by decide) (by decide) (by decide) (by decide) (by decide) (by decide) ?_
  refine x_aload_n dX3_become_93 rfl ?_
  refine gf_X3_40 dX3_become_94 rfl rfl ?_
  refine x_iconst 0 dX3_become_97 ?_
  refine x_aload_n dX3_become_98 rfl ?_
  refine gf_X3_40 dX3_become_99 rfl rfl ?_
  refine x_iconst 0 dX3_become_102 ?_
  refine x_bipush 6 dX3_become_103 ?_
  refine x_arraycopy dX3_become_105 ky_X3_43 kna_acopy kt_acopy ki_System rfl rfl (by decide) (by decide) (by decide) (by decide) (by decide) (by decide) (by decide) ?_
  exact Ex.ret (v := none) ⟨rfl, dX3_become_108⟩ ⟨rfl, rfl⟩
set_option maxRecDepth 100000 in
set_option maxHeartbeats 4000000 in
theorem c_X3_become_kn {X : Nat × (Nat → Int32)} {S : CS} {tl : pc_W} : Mt X 1 0 0 yX3_become cX3_become 2 none [.ref 6, .ref 1] (cst S ++ tl) (RV (cst (u_kep S (o_bec (s_kep S) (s_now S))) ++ tl)) := by
  refine Mt.of (by decide +kernel) (fun _ _ => Nat.le_of_ble_eq_true rfl) ?_
  show Ex X mX3_become _ _ _ _ _ _ _ _
  refine x_aload_n dX3_become_0 rfl ?_
  refine gf_X3_9 dX3_become_1 rfl rfl ?_
  refine x_iconst 0 dX3_become_4 ?_
  refine x_aload_n dX3_become_5 rfl ?_
  refine gf_X3_9 dX3_become_6 rfl rfl ?_
  refine x_iconst 0 dX3_become_9 ?_
  refine x_bipush 8 dX3_become_10 ?_
  refine x_arraycopy dX3_become_12 ky_X3_43 kna_acopy kt_acopy ki_System rfl rfl (by decide) (by decide) (by decide) (by decide) (by decide) (by decide) (by decide) ?_
  refine x_aload_n dX3_become_15 rfl ?_
  refine x_aload_n dX3_become_16 rfl ?_
  refine gf_X3_15 dX3_become_17 rfl rfl ?_
  refine pf_X3_15 dX3_become_20 rfl (Nat.le_of_ble_eq_true rfl) (fun _ _ => ⟨rfl, rfl⟩) ?_
  refine x_aload_n dX3_become_23 rfl ?_
  refine x_aload_n dX3_become_24 rfl ?_
  refine gf_X3_19 dX3_become_25 rfl rfl ?_
  refine pf_X3_19 dX3_become_28 rfl (Nat.le_of_ble_eq_true rfl) (fun _ _ => ⟨rfl, rfl⟩) ?_
  refine x_aload_n dX3_become_31 rfl ?_
  refine x_aload_n dX3_become_32 rfl ?_
  refine gf_X3_22 dX3_become_33 rfl rfl ?_
  refine pf_X3_22 dX3_become_36 rfl (Nat.le_of_ble_eq_true rfl) (fun _ _ => ⟨rfl, rfl⟩) ?_
  refine x_aload_n dX3_become_39 rfl ?_
  refine x_aload_n dX3_become_40 rfl ?_
  refine gf_X3_25 dX3_become_41 rfl rfl ?_
  refine pf_X3_25 dX3_become_44 rfl (Nat.le_of_ble_eq_true rfl) (fun _ _ => ⟨rfl, rfl⟩) ?_
  refine x_aload_n dX3_become_47 rfl ?_
  refine x_aload_n dX3_become_48 rfl ?_
  refine gf_X3_28 dX3_become_49 rfl rfl ?_
  refine pf_X3_28 dX3_become_52 rfl (Nat.le_of_ble_eq_true rfl) (fun _ _ => ⟨rfl, rfl⟩) ?_
  refine x_aload_n dX3_become_55 rfl ?_
  refine x_aload_n dX3_become_56 rfl ?_
  refine gf_X3_31 dX3_become_57 rfl rfl ?_
  refine pf_X3_31 dX3_become_60 rfl (Nat.le_of_ble_eq_true rfl) (fun _ _ => ⟨rfl, rfl⟩) ?_
  refine x_aload_n dX3_become_63 rfl ?_
  refine gf_X3_34 dX3_become_64 rfl rfl ?_
  refine x_iconst 0 dX3_become_67 ?_
  refine x_aload_n dX3_become_68 rfl ?_
  refine gf_X3_34 dX3_become_69 rfl rfl ?_
  refine x_iconst 0 dX3_become_72 ?_
  refine x_bipush 6 dX3_become_73 ?_
  refine x_arraycopy dX3_become_75 ky_X3_43 kna_acopy kt_acopy ki_System rfl rfl (by decide) (by decide) (by decide) (by decide) (by decide) (by decide) (by decide) ?_
  refine x_aload_n dX3_become_78 rfl ?_
  refine gf_X3_37 dX3_become_79 rfl rfl ?_
  refine x_iconst 0 dX3_become_82 ?_
  refine x_aload_n dX3_become_83 rfl ?_
  refine gf_X3_37 dX3_become_84 rfl rfl ?_
  refine x_iconst 0 dX3_become_87 ?_
  refine x_bipush 6 dX3_become_88 ?_
  refine x_arraycopy dX3_become_90 ky_X3_43 kna_acopy kt_acopy ki_System rfl rfl (by decide) (by decide) (by decide) (by decide) (by decide) (by decide) (by decide) ?_
  refine x_aload_n dX3_become_93 rfl ?_
  refine gf_X3_40 dX3_become_94 rfl rfl ?_
  refine x_iconst 0 dX3_become_97 ?_
  refine x_aload_n dX3_become_98 rfl ?_
  refine gf_X3_40 dX3_become_99 rfl rfl ?_
  refine x_iconst 0 dX3_become_102 ?_
  refine x_bipush 6 dX3_become_103 ?_
  refine x_arraycopy dX3_become_105 ky_X3_43 kna_acopy kt_acopy ki_System rfl rfl (by decide) (by decide) (by decide) (by decide) (by decide) (by decide) (by decide) ?_
  exact Ex.ret (v := none) ⟨rfl, dX3_become_108⟩ ⟨rfl, rfl⟩
set_option maxRecDepth 100000 in
set_option maxHeartbeats 4000000 in
theorem c_X3_become_nk {X : Nat × (Nat → Int32)} {S : CS} {tl : pc_W} : Mt X 1 0 0 yX3_become cX3_become 2 none [.ref 1, .ref 6] (cst S ++ tl) (RV (cst (u_now S (o_bec (s_now S) (s_kep S))) ++ tl)) := by
  refine Mt.of (by decide +kernel) (fun _ _ => Nat.le_of_ble_eq_true rfl) ?_
  show Ex X mX3_become _ _ _ _ _ _ _ _
  refine x_aload_n dX3_become_0 rfl ?_
  refine gf_X3_9 dX3_become_1 rfl rfl ?_
  refine x_iconst 0 dX3_become_4 ?_
  refine x_aload_n dX3_become_5 rfl ?_
  refine gf_X3_9 dX3_become_6 rfl rfl ?_
  refine x_iconst 0 dX3_become_9 ?_
  refine x_bipush 8 dX3_become_10 ?_
  refine x_arraycopy dX3_become_12 ky_X3_43 kna_acopy kt_acopy ki_System rfl rfl (by decide) (by decide) (by decide) (by decide) (by decide) (by decide) (by decide) ?_
  refine x_aload_n dX3_become_15 rfl ?_
  refine x_aload_n dX3_become_16 rfl ?_
  refine gf_X3_15 dX3_become_17 rfl rfl ?_
  refine pf_X3_15 dX3_become_20 rfl (Nat.le_of_ble_eq_true rfl) (fun _ _ => ⟨rfl, rfl⟩) ?_
  refine x_aload_n dX3_become_23 rfl ?_
  refine x_aload_n dX3_become_24 rfl ?_
  refine gf_X3_19 dX3_become_25 rfl rfl ?_
  refine pf_X3_19 dX3_become_28 rfl (Nat.le_of_ble_eq_true rfl) (fun _ _ => ⟨rfl, rfl⟩) ?_
  refine x_aload_n dX3_become_31 rfl ?_
  refine x_aload_n dX3_become_32 rfl ?_
  refine gf_X3_22 dX3_become_33 rfl rfl ?_
  refine pf_X3_22 dX3_become_36 rfl (Nat.le_of_ble_eq_true rfl) (fun _ _ => ⟨rfl, rfl⟩) ?_
  refine x_aload_n dX3_become_39 rfl ?_
  refine x_aload_n dX3_become_40 rfl ?_
  refine gf_X3_25 dX3_become_41 rfl rfl ?_
  refine pf_X3_25 dX3_become_44 rfl (Nat.le_of_ble_eq_true rfl) (fun _ _ => ⟨rfl, rfl⟩) ?_
  refine x_aload_n dX3_become_47 rfl ?_
  refine x_aload_n dX3_become_48 rfl ?_
  refine gf_X3_28 dX3_become_49 rfl rfl ?_
  refine pf_X3_28 dX3_become_52 rfl (Nat.le_of_ble_eq_true rfl) (fun _ _ => ⟨rfl, rfl⟩) ?_
  refine x_aload_n dX3_become_55 rfl ?_
  refine x_aload_n dX3_become_56 rfl ?_
  refine gf_X3_31 dX3_become_57 rfl rfl ?_
  refine pf_X3_31 dX3_become_60 rfl (Nat.le_of_ble_eq_true rfl) (fun _ _ => ⟨rfl, rfl⟩) ?_
  refine x_aload_n dX3_become_63 rfl ?_
  refine gf_X3_34 dX3_become_64 rfl rfl ?_
  refine x_iconst 0 dX3_become_67 ?_
  refine x_aload_n dX3_become_68 rfl ?_
  refine gf_X3_34 dX3_become_69 rfl rfl ?_
  refine x_iconst 0 dX3_become_72 ?_
  refine x_bipush 6 dX3_become_73 ?_
  refine x_arraycopy dX3_become_75 ky_X3_43 kna_acopy kt_acopy ki_System rfl rfl (by decide) (by decide) (by decide) (by decide) (by decide) (by decide) (by decide) ?_
  refine x_aload_n dX3_become_78 rfl ?_
  refine gf_X3_37 dX3_become_79 rfl rfl ?_
  refine x_iconst 0 dX3_become_82 ?_
  refine x_aload_n dX3_become_83 rfl ?_
  refine gf_X3_37 dX3_become_84 rfl rfl ?_
  refine x_iconst 0 dX3_become_87 ?_
  refine x_bipush 6 dX3_become_88 ?_
  refine x_arraycopy dX3_become_90 ky_X3_43 kna_acopy kt_acopy ki_System rfl rfl (by decide) (by decide) (by decide) (by decide) (by decide) (by decide) (by decide) ?_
  refine x_aload_n dX3_become_93 rfl ?_
  refine gf_X3_40 dX3_become_94 rfl rfl ?_
  refine x_iconst 0 dX3_become_97 ?_
  refine x_aload_n dX3_become_98 rfl ?_
  refine gf_X3_40 dX3_become_99 rfl rfl ?_
  refine x_iconst 0 dX3_become_102 ?_
  refine x_bipush 6 dX3_become_103 ?_
  refine x_arraycopy dX3_become_105 ky_X3_43 kna_acopy kt_acopy ki_System rfl rfl (by decide) (by decide) (by decide) (by decide) (by decide) (by decide) (by decide) ?_
  exact Ex.ret (v := none) ⟨rfl, dX3_become_108⟩ ⟨rfl, rfl⟩
