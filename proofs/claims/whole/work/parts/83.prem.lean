/-! premiums, chances, bytes: the same two ways -/
theorem prT_f (T : OT) : ∀ i, prT T i = uo_ye T (o_ye (prT T i))
  | 0 => rfl
  | i + 1 => (congrArg yr1 (prT_f T i)).trans rfl
section PRM
variable {τ : TV} {U : MU} {r z : Nat} {x : Int32}
theorem opr_0 : ∀ i, opr τ U r z x i 0 = o_ye (prT (mO U) i)
  | 0 => rfl
  | i + 1 => by
    rw [opr]
    unfold oyr
    rw [pk_us, opr_0 i]
    rfl
theorem opr_O (i : Nat) : duF τ (mO (U.1, opr τ U r z x i, U.2.2)) r z = duF τ (prT (mO U) i) r z := by
  have e : mO (U.1, opr τ U r z x i, U.2.2) = uo_pu (uo_ye (mO U) (opr τ U r z x i 0)) (opr τ U r z x i 2) := by
    show ((U.2.2.1, U.2.2.2.1, opr τ U r z x i 0, opr τ U r z x i 1, opr τ U r z x i 2, U.1, U.2.2.2.2.2.2, U.2.2.2.2.1, (fun i => U.2.2.2.2.2.1 (2 * i)), fun i => U.2.2.2.2.2.1 (2 * i + 1)) : OT) = _
    rw [opr_o τ U r z x (show (1 : Nat) ≠ 0 by decide) (show (1 : Nat) ≠ 2 by decide) i]
    rfl
  rw [e, opr_0, prT_f (mO U) i]
  rfl
theorem opr_2 (i : Nat) : opr τ U r z x (i + 1) 2 = clp (-99999) (clp (-99999) (opr τ U r z x i 2 + x) 99999 - duF τ (prT (mO U) i) r z) 99999 := by
  rw [opr]
  unfold oyr
  rw [pk_un (by decide), pk_us, opr_O]
theorem la_ok {du : Nat → Int32} (hd : ∀ j, j < 10 → du j = duF τ (prT (mO U) j) r z) : ∀ n i, i + n ≤ 10 → (laP du x n i (opr τ U r z x i 2) = 0 ↔ ∃ j, i ≤ j ∧ j < i + n ∧ opr τ U r z x (j + 1) 2 < 0)
  | 0, i, _ => ⟨fun h => absurd h (by unfold laP; decide), fun ⟨j, h1, h2, _⟩ => absurd h1 (by omega)⟩
  | n + 1, i, hn => by
    unfold laP
    have e : clp (-99999) (clp (-99999) (opr τ U r z x i 2 + x) 99999 + -(du i)) 99999 = opr τ U r z x (i + 1) 2 := by
      rw [opr_2, hd i (by omega), Int32.sub_eq_add_neg]
    rw [e]
    by_cases q : opr τ U r z x (i + 1) 2 < 0
    · rw [if_pos q]
      exact ⟨fun _ => ⟨i, Nat.le_refl _, by omega, q⟩, fun _ => rfl⟩
    · rw [if_neg q, la_ok hd n (i + 1) (by omega)]
      constructor
      · rintro ⟨j, h1, h2, h3⟩
        exact ⟨j, by omega, by omega, h3⟩
      · rintro ⟨j, h1, h2, h3⟩
        refine ⟨j, ?_, by omega, h3⟩
        rcases Nat.lt_or_ge i j with w | w
        · exact w
        · have : j = i := by omega
          subst this
          exact absurd h3 q
theorem ok_ok : ∀ k, okM τ U r z x k = 0 ↔ ∃ j, j < k ∧ opr τ U r z x (j + 1) 2 < 0
  | 0 => ⟨fun h => absurd h (by unfold okM; decide), fun ⟨j, h1, _⟩ => absurd h1 (by omega)⟩
  | k + 1 => by
    unfold okM
    have ih := ok_ok k
    by_cases q : ¬ okM τ U r z x k = 0 ∧ 0 ≤ opr τ U r z x (k + 1) 2
    · rw [if_pos q]
      refine ⟨fun h => absurd h (by decide), ?_⟩
      rintro ⟨j, h1, h2⟩
      rcases Nat.lt_or_ge j k with w | w
      · exact absurd (ih.mpr ⟨j, w, h2⟩) q.1
      · have : j = k := by omega
        subst this
        exact absurd h2 (Int32.not_lt.mpr q.2)
    · rw [if_neg q]
      refine ⟨fun _ => ?_, fun _ => rfl⟩
      by_cases w : okM τ U r z x k = 0
      · obtain ⟨j, h1, h2⟩ := ih.mp w
        exact ⟨j, by omega, h2⟩
      · exact ⟨k, by omega, Int32.not_le.mp (fun y => q ⟨w, y⟩)⟩
end PRM
theorem pm_eq {τ : TV} {U : MU} {r z : Nat} {du : Nat → Int32} (hd : ∀ j, j < 10 → du j = duF τ (prT (mO U) j) r z) : ∀ n v, pmF du z (U.2.1 2) n v = pmM τ U r z n v
  | 0, _ => rfl
  | n + 1, v => by
    unfold pmF pmM
    rw [pm_eq hd n (v + 1)]
    have e : (laP du (nI v * nI z) 10 0 (U.2.1 2) = 0) = (okM τ U r z (nI v * nI z) 10 = 0) := by
      refine propext ?_
      have h1 := la_ok (x := nI v * nI z) hd 10 0 (Nat.le_refl _)
      have h2 := ok_ok (τ := τ) (U := U) (r := r) (z := z) (x := nI v * nI z) 10
      change (laP du (nI v * nI z) 10 0 (U.2.1 2) = 0 ↔ _) at h1
      rw [h1, h2]
      constructor
      · rintro ⟨j, _, h3, h4⟩
        exact ⟨j, by omega, h4⟩
      · rintro ⟨j, h3, h4⟩
        exact ⟨j, Nat.zero_le _, by omega, h4⟩
    simp only [e]
theorem prem_eq {τ : TV} {U : MU} {T : OT} {r z : Nat} {du : Nat → Int32} (h : OEq z T (mO U)) : pmF (pdF τ T r z du 10) z (U.2.1 2) 100 0 = pmM τ U r z 100 0 :=
  pm_eq (fun j hj => (pd_at τ T r z du 10 j hj).trans (eq_du (h.prt j))) 100 0
theorem cn_eq : ∀ k, k < 256 → pcF (nI k) = sumI (cnM (nI k)) 8 := by decide +kernel
theorem wth_eq (z : Int32) : wthr z = wthM z := (Int32.sub_eq_add_neg _ _).symm
theorem zz_eq {ZZ : Nat → Int32} {seed : Int32} (z0 : ZZ 0 = seed) (z1 : ∀ i, ZZ (i + 1) = ZZ i * 1103515245 + 12345) : ∀ i, ZZ i = zzM seed i
  | 0 => z0
  | i + 1 => by rw [z1, zz_eq z0 z1 i]; rfl
theorem we_at {ZZ : Nat → Int32} {WE : Nat → Nat → Int32} (w1 : ∀ i, WE (i + 1) = upd (WE i) i (wthr (ZZ (i + 1)))) : ∀ n j, j < n → WE n j = wthr (ZZ (j + 1))
  | 0, j, h => absurd h (by omega)
  | n + 1, j, h => by
    rw [w1]
    by_cases e : j = n
    · subst e; rw [pk_us]
    · rw [pk_un e]; exact we_at w1 n j (by omega)
theorem weM_at (seed : Int32) (we : Nat → Int32) : ∀ n j, j < n → weM seed we n j = wthM (zzM seed (j + 1))
  | 0, j, h => absurd h (by omega)
  | n + 1, j, h => by
    rw [weM]
    by_cases e : j = n
    · subst e; rw [pk_us]
    · rw [pk_un e]; exact weM_at seed we n j (by omega)
theorem drawn_w {ZZ : Nat → Int32} {WE : Nat → Nat → Int32} {seed : Int32} {we : Nat → Int32} (z0 : ZZ 0 = seed) (z1 : ∀ i, ZZ (i + 1) = ZZ i * 1103515245 + 12345) (w1 : ∀ i, WE (i + 1) = upd (WE i) i (wthr (ZZ (i + 1)))) {j : Nat} (hj : j < 8) : WE 8 j = weM seed we 8 j := by
  rw [we_at w1 8 j hj, weM_at seed we 8 j hj, wth_eq, zz_eq z0 z1]
def weC (seed : Int32) (f : Nat → Int32) : Nat → Nat → Int32
  | 0 => f
  | j + 1 => upd (weC seed f j) j (wthr (zzM seed (j + 1)))
def FWc (seed : Int32) (f : Nat → Int32) : Nat → Nat → Int32
  | 0 => f
  | i + 1 => weC (seed + nI i) (FWc seed f i) 8
theorem fw_ex (seed : Int32) (f : Nat → Int32) : ∃ F : Nat → Nat → Int32, F 0 = f ∧ (∀ i, ∃ (ZZ : Nat → Int32) (WE : Nat → Nat → Int32), ZZ 0 = seed + nI i ∧ (∀ j, ZZ (j + 1) = ZZ j * 1103515245 + 12345) ∧ WE 0 = F i ∧ (∀ j, WE (j + 1) = upd (WE j) j (wthr (ZZ (j + 1)))) ∧ WE 8 = F (i + 1)) ∧ ∀ (we : Nat → Int32) i j, j < 8 → F (i + 1) j = weM (seed + nI i) we 8 j :=
  ⟨FWc seed f, rfl, fun i => ⟨zzM (seed + nI i), weC (seed + nI i) (FWc seed f i), rfl, fun _ => rfl, rfl, fun _ => rfl, rfl⟩, fun we i j hj => drawn_w (ZZ := zzM (seed + nI i)) (WE := weC (seed + nI i) (FWc seed f i)) rfl (fun _ => rfl) (fun _ => rfl) hj⟩
theorem we_ex (seed : Int32) (f : Nat → Int32) : ∃ (ZZ : Nat → Int32) (WE : Nat → Nat → Int32), ZZ 0 = seed ∧ (∀ i, ZZ (i + 1) = ZZ i * 1103515245 + 12345) ∧ WE 0 = f ∧ (∀ i, WE (i + 1) = upd (WE i) i (wthr (ZZ (i + 1)))) := ⟨zzM seed, weC seed f, rfl, fun _ => rfl, rfl, fun _ => rfl⟩
theorem chM_cong {F G : Nat → Int32} {kk : Int32} (h : ∀ t, F t = G t) : ∀ n, chM F kk n = chM G kk n
  | 0 => rfl
  | n + 1 => by unfold chM; rw [h n, chM_cong h n]
theorem cn_ex (F : Nat → Int32) (kk : Int32) : ∃ CN : Nat → Nat, CN 0 = 0 ∧ (∀ i, CN (i + 1) = if kk ≤ F i then CN i + 1 else CN i) ∧ ∀ n, CN n = chM F kk n := ⟨chM F kk, rfl, fun _ => rfl, fun _ => rfl⟩
theorem gcd_all : ∀ m, m < 21 → 1 ≤ m → ∀ a, a < m + 1 → (nI a / cdF (nI a) (nI m) m).toInt64 = lN (a / Nat.gcd a m) ∧ (nI m / cdF (nI a) (nI m) m).toInt64 = lN (m / Nat.gcd a m) := by decide +kernel
theorem chance_eq {F : Nat → Int32} {CN : Nat → Nat} {m kk part : Int32} (hC : ∀ n, CN n = chM F kk n) : (if (m < 1 ∨ 20 < m ∨ kk < 0 ∨ 6 < kk ∨ part < 0 ∨ 1 < part) then (-4611686018427387904 : Int64) else ((if part = 0 then nI (CN m.toNatClampNeg) else m) / cdF (nI (CN m.toNatClampNeg)) m m.toNatClampNeg).toInt64) = chZ F m kk part := by
  unfold chZ
  by_cases h : m < 1 ∨ 20 < m ∨ kk < 0 ∨ 6 < kk ∨ part < 0 ∨ 1 < part
  · rw [if_pos h, if_pos]
    rcases h with h | h | h | h | h | h
    · exact Or.inl (fun y => absurd y.1 (Int32.not_le.mpr h))
    · exact Or.inl (fun y => absurd y.2 (Int32.not_le.mpr h))
    · exact Or.inr (Or.inl (fun y => absurd y.1 (Int32.not_le.mpr h)))
    · exact Or.inr (Or.inl (fun y => absurd y.2 (Int32.not_le.mpr h)))
    · exact Or.inr (Or.inr (fun y => absurd y.1 (Int32.not_le.mpr h)))
    · exact Or.inr (Or.inr (fun y => absurd y.2 (Int32.not_le.mpr h)))
  · have h1 : 1 ≤ m := Int32.not_lt.mp (fun y => h (Or.inl y))
    have h2 : m ≤ 20 := Int32.not_lt.mp (fun y => h (Or.inr (Or.inl y)))
    have hB : ¬ chB m kk part := by
      rintro (y | y | y)
      · exact y ⟨h1, h2⟩
      · exact y ⟨Int32.not_lt.mp (fun w => h (Or.inr (Or.inr (Or.inl w)))), Int32.not_lt.mp (fun w => h (Or.inr (Or.inr (Or.inr (Or.inl w)))))⟩
      · exact y ⟨Int32.not_lt.mp (fun w => h (Or.inr (Or.inr (Or.inr (Or.inr (Or.inl w)))))), Int32.not_lt.mp (fun w => h (Or.inr (Or.inr (Or.inr (Or.inr (Or.inr w))))))⟩
    rw [if_neg h, if_neg hB]
    obtain ⟨k, hk, rfl⟩ := nat_of (n := 21) (Int32.le_trans (by decide) h1) (Int32.lt_of_le_of_lt h2 (by decide)) (by decide)
    have hk1 : 1 ≤ k := Nat.pos_of_ne_zero (fun e => by subst e; exact absurd h1 (by decide))
    rw [nI_clamp (by omega), hC k]
    obtain ⟨g1, g2⟩ := gcd_all k hk hk1 (chM F kk k) (Nat.lt_succ_of_le (chM_le F kk k))
    by_cases hp : part = 0
    · rw [if_pos hp, if_pos hp]; exact g1
    · rw [if_neg hp, if_neg hp]; exact g2
theorem clp99 (x : Int32) : -99 ≤ clp (-99) x 99 ∧ clp (-99) x 99 ≤ 99 := by
  unfold clp
  by_cases h1 : x < -99
  · rw [if_pos h1]; decide
  · rw [if_neg h1]
    by_cases h2 : 99 < x
    · rw [if_pos h2]; decide
    · rw [if_neg h2]; exact ⟨Int32.not_lt.mp h1, Int32.not_lt.mp h2⟩
theorem wr_byte {v : Int32} (h : -99 ≤ v ∧ v ≤ 99) : wrV 0 v = v := by
  unfold wrV
  rw [if_pos rfl]
  obtain ⟨h1, h2⟩ := h
  rw [Int32.le_iff_toInt_le] at h1 h2
  have e1 : (-99 : Int32).toInt = -99 := by decide
  have e2 : (99 : Int32).toInt = 99 := by decide
  rw [e1] at h1
  rw [e2] at h2
  refine Int32.toInt_inj.mp ?_
  rw [Int8.toInt_toInt32, Int32.toInt_toInt8, Int.bmod_eq_of_le (by omega) (by omega)]
