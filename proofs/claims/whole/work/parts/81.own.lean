/-! the same question asked two ways -/
theorem b_one {i : Nat} (hi : i < 32) : bt 1 i = decide (i = 0) := (by decide +kernel : ∀ i, i < 32 → bt 1 i = decide (i = 0)) i hi
theorem b_1sh {n i : Nat} (hn : n < 32) (hi : i < 32) : bt ((1 : Int32) <<< (nI n &&& 31)) i = decide (i = n) := by
  rw [b_shl n hn 1 hi, b_one (by omega)]
  by_cases h : i = n
  · subst h; simp
  · rw [decide_eq_false h]
    by_cases q : n ≤ i
    · rw [decide_eq_false (show ¬ i - n = 0 by omega), Bool.and_false]
    · rw [decide_eq_false q, Bool.false_and]
theorem b_0sh {n : Nat} (hn : n < 32) : (0 : Int32) <<< (nI n &&& 31) = 0 := b_ext (fun i hi => by rw [b_shl n hn 0 hi, b_0, b_0, Bool.and_false])
theorem or_0 (x : Int32) : x ||| 0 = x := b_ext (fun i _ => by rw [b_or, b_0, Bool.or_false])
theorem b_not {x : Int32} {i : Nat} (hi : i < 32) : bt (x ^^^ (-1)) i = !bt x i := by rw [b_xor, b_m1 i hi, Bool.xor_true]
theorem b_if {c : Bool} {i : Nat} (hi : i < 32) : bt (if c = true then 1 else 0) i = (decide (i = 0) && c) := by
  cases c
  · rw [if_neg (by decide), b_0, Bool.and_false]
  · rw [if_pos rfl, b_one hi, Bool.and_true]
theorem b_and1 {x : Int32} {n : Nat} (hn : n < 31) : (x >>> (nI n &&& 31)) &&& 1 = if bt x n = true then 1 else 0 := by
  refine b_ext (fun i hi => ?_)
  rw [b_and, b_sshr n (by omega) x hi, b_one hi, b_if hi, Bool.and_comm]
  by_cases h : i = 0
  · subst h; rw [if_pos (by omega)]; rfl
  · rw [decide_eq_false h, Bool.false_and, Bool.false_and]
theorem sel_1 {x : Int32} {n : Nat} (hn : n < 31) : ((x >>> (nI n &&& 31)) &&& 1 = 1) ↔ bt x n = true := by
  rw [b_and1 hn]
  cases bt x n
  · rw [if_neg (by decide)]; exact ⟨fun h => absurd h (by decide), fun h => absurd h (by decide)⟩
  · rw [if_pos rfl]; exact ⟨fun _ => rfl, fun _ => rfl⟩
theorem sel_0 {x : Int32} {n : Nat} (hn : n < 31) : ((x >>> (nI n &&& 31)) &&& 1 = 0) ↔ bt x n = false := by
  rw [b_and1 hn]
  cases bt x n
  · rw [if_neg (by decide)]; exact ⟨fun _ => rfl, fun _ => rfl⟩
  · rw [if_pos rfl]; exact ⟨fun h => absurd h (by decide), fun h => absurd h (by decide)⟩
theorem b_nI (s : Nat) {n : Nat} (hn : n < 32) : bt (nI s) n = s.testBit n := by
  show (BitVec.ofNat 32 s).getLsbD n = _
  rw [BitVec.getLsbD_ofNat, decide_eq_true hn, Bool.true_and]
section TWO
variable {τ : TV} {O : OT} {r p q z : Nat} {c : Nat → Int32}
theorem ag_eq : ∀ n, n ≤ 8 → agF τ O r p q n = agM τ O r p q n
  | 0, _ => rfl
  | n + 1, hn => by
    unfold agF agM
    rw [ag_eq n (by omega)]
    by_cases h : thF τ O r p n = thF τ O r q n
    · rw [if_pos h, if_pos h]
    · rw [if_neg h, if_neg h, b_0sh (by omega), or_0]
theorem agA_eq (one other : Int32) : agA τ O r z one other = agB τ O r z one other := by
  unfold agA agB
  rw [ag_eq 8 (Nat.le_refl _)]
theorem ls_eq : ∀ z, z ≤ 31 → btF (gtP τ O r c) z = lsM τ O r c z
  | 0, _ => rfl
  | n + 1, hn => by
    unfold btF lsM
    rw [ls_eq n (by omega)]
    by_cases h : foF (thF τ O r n) c 8 0 = -1
    · rw [if_pos h, if_pos h]
    · rw [if_neg h, if_neg h, b_0sh (by omega), or_0]
theorem bh_eq : ∀ n, bhF τ O r p n = (bhM τ O r p n, thF τ O r p (bhM τ O r p n))
  | 0 => rfl
  | n + 1 => by
    unfold bhF bhM
    rw [bh_eq n]
    show (if thF τ O r p (bhM τ O r p n) < thF τ O r p (n + 1) then _ else _) = _
    by_cases h : thF τ O r p (bhM τ O r p n) < thF τ O r p (n + 1)
    · rw [if_pos h, if_pos h]
    · rw [if_neg h, if_neg h]
/-- does one like that hour -/
def pB (τ : TV) (O : OT) (r h q : Nat) : Bool := decide (0 < thF τ O r q h)
def noO (f : Nat → Bool) (p : Nat) : Nat → Bool
  | 0 => true
  | q + 1 => noO f p q && (decide (q = p) || !f q)
def ctN (f : Nat → Bool) : Nat → Nat
  | 0 => 0
  | q + 1 => ctN f q + if f q = true then 1 else 0
theorem ctN_le (f : Nat → Bool) : ∀ n, ctN f n ≤ n
  | 0 => Nat.le_refl _
  | n + 1 => by
    have := ctN_le f n
    unfold ctN
    split <;> omega
theorem ct_no {f : Nat → Bool} {p : Nat} (hp : f p = true) : ∀ n, (if p < n then 1 else 0) ≤ ctN f n ∧ (ctN f n = (if p < n then 1 else 0) ↔ noO f p n = true)
  | 0 => ⟨Nat.le_refl _, fun _ => rfl, fun _ => rfl⟩
  | n + 1 => by
    obtain ⟨h1, h2⟩ := ct_no hp n
    unfold ctN noO
    by_cases e : n = p
    · subst e
      rw [if_pos hp, if_pos (Nat.lt_succ_self n), decide_eq_true rfl, Bool.true_or, Bool.and_true]
      rw [if_neg (Nat.lt_irrefl n)] at h1 h2
      exact ⟨by omega, ⟨fun y => h2.mp (by omega), fun y => by have := h2.mpr y; omega⟩⟩
    · rw [decide_eq_false e, Bool.false_or]
      have hpn : (p < n + 1) = (p < n) := propext ⟨fun y => by omega, fun y => by omega⟩
      simp only [hpn]
      cases hf : f n
      · rw [if_neg (show ¬ false = true by decide), Nat.add_zero, Bool.not_false, Bool.and_true]
        exact ⟨h1, h2⟩
      · rw [if_pos (show true = true from rfl)]
        refine ⟨by omega, ⟨fun y => absurd y (by omega), fun y => absurd y (by rw [Bool.not_true, Bool.and_false]; decide)⟩⟩
theorem lk_bit {i : Nat} (hi : i < 32) : ∀ n, n ≤ 8 → bt (lkF τ O r p n) i = (decide (i < n) && pB τ O r i p)
  | 0, _ => by rw [decide_eq_false (by omega)]; exact b_0 i
  | n + 1, hn => by
    unfold lkF
    have ih := lk_bit hi n (by omega)
    by_cases h : 0 < thF τ O r p n
    · rw [if_pos h, b_or, ih, b_1sh (by omega) hi]
      by_cases e : i = n
      · subst e
        rw [decide_eq_true rfl, Bool.or_true, decide_eq_true (Nat.lt_succ_self i)]
        unfold pB; rw [decide_eq_true h]; rfl
      · rw [decide_eq_false e, Bool.or_false]
        have : (i < n + 1) = (i < n) := propext ⟨fun y => by omega, fun y => by omega⟩
        simp only [this]
    · rw [if_neg h, ih]
      by_cases e : i = n
      · subst e
        rw [decide_eq_false (Nat.lt_irrefl i)]
        unfold pB; rw [decide_eq_false h, Bool.and_false, Bool.and_false]
      · have : (i < n + 1) = (i < n) := propext ⟨fun y => by omega, fun y => by omega⟩
        simp only [this]
theorem al_bit {i : Nat} (hi : i < 32) : ∀ n, bt (alF τ O r p n) i = (decide (i < 8) && (pB τ O r i p && noO (pB τ O r i) p n))
  | 0 => by
    unfold alF noO
    rw [lk_bit hi 8 (Nat.le_refl _), Bool.and_true]
  | n + 1 => by
    unfold alF noO
    have ih := al_bit hi n
    by_cases e : n = p
    · rw [if_pos e, decide_eq_true e, Bool.true_or, Bool.and_true]; exact ih
    · rw [if_neg e, decide_eq_false e, Bool.false_or, b_and, b_not hi, lk_bit hi 8 (Nat.le_refl _), ih]
      cases decide (i < 8) <;> cases pB τ O r i p <;> cases noO (pB τ O r i) p n <;> cases pB τ O r i n <;> rfl
theorem as_bit {i : Nat} (hi : i < 32) : ∀ n, n ≤ 8 → bt (asM τ O r z p n) i = (decide (i < n) && decide (sumI (ctM τ O r i) z = 1 ∧ 0 < thF τ O r p i))
  | 0, _ => by rw [decide_eq_false (by omega)]; exact b_0 i
  | n + 1, hn => by
    unfold asM
    have ih := as_bit hi n (by omega)
    rw [b_or, ih]
    by_cases h : sumI (ctM τ O r n) z = 1 ∧ 0 < thF τ O r p n
    · rw [if_pos h, b_1sh (by omega) hi]
      by_cases e : i = n
      · subst e
        rw [decide_eq_true h, decide_eq_true rfl, Bool.or_true, decide_eq_true (Nat.lt_succ_self i)]; rfl
      · rw [decide_eq_false e, Bool.or_false]
        have : (i < n + 1) = (i < n) := propext ⟨fun y => by omega, fun y => by omega⟩
        simp only [this]
    · rw [if_neg h, b_0sh (by omega), b_0, Bool.or_false]
      by_cases e : i = n
      · subst e
        rw [decide_eq_false (Nat.lt_irrefl i), decide_eq_false h, Bool.and_false, Bool.and_false]
      · have : (i < n + 1) = (i < n) := propext ⟨fun y => by omega, fun y => by omega⟩
        simp only [this]
theorem ctP_sum {h : Nat} : ∀ n, sumI (ctM τ O r h) n = nI (ctN (pB τ O r h) n)
  | 0 => rfl
  | n + 1 => by
    show sumI (ctM τ O r h) n + ctM τ O r h n = nI (ctN (pB τ O r h) n + if pB τ O r h n = true then 1 else 0)
    rw [ctP_sum n, ← nI_add]
    congr 1
    unfold ctM pB
    by_cases q : 0 < thF τ O r n h
    · rw [if_pos q, if_pos (decide_eq_true q)]; rfl
    · rw [if_neg q, if_neg (by rw [decide_eq_false q]; decide)]; rfl
theorem al_eq (hp : p < z) (hz : z ≤ 6) : alF τ O r p z = asM τ O r z p 8 := by
  refine b_ext (fun i hi => ?_)
  rw [al_bit hi, as_bit hi 8 (Nat.le_refl _)]
  congr 1
  rw [ctP_sum]
  have hc := ctN_le (pB τ O r i) z
  cases hf : pB τ O r i p
  · rw [Bool.false_and]
    refine (decide_eq_false (fun y => ?_)).symm
    unfold pB at hf
    exact absurd y.2 (of_decide_eq_false hf)
  · rw [Bool.true_and]
    have h0 : 0 < thF τ O r p i := by unfold pB at hf; exact of_decide_eq_true hf
    obtain ⟨h1, h2⟩ := ct_no hf z
    rw [if_pos hp] at h1 h2
    cases hn : noO (pB τ O r i) p z
    · refine (decide_eq_false (fun y => ?_)).symm
      rw [hn] at h2
      exact absurd (h2.mp ((nI_eq (b := 1) (by omega) (by omega)).mp y.1)) (by decide)
    · exact (decide_eq_true ⟨by rw [h2.mpr hn]; rfl, h0⟩).symm
theorem be_eq (hz : z ≤ 6) (one what : Int32) : beF τ O r z one what = beM τ O r z one what := by
  unfold beF beM
  by_cases h : onC z one ∧ 0 ≤ what ∧ what ≤ 2
  · rw [if_pos h, if_pos h]
    obtain ⟨p, hp, e, e2⟩ := on_nat h.1 hz
    rw [e2, al_eq hp hz, bh_eq]
  · rw [if_neg h, if_neg h]
theorem and_255 (x m : Int32) (h : x &&& 255 = x) : (x &&& m) &&& 255 = x &&& m ∧ x &&& (255 &&& m) = x &&& m := by
  have hb : ∀ i, (bt x i && bt 255 i) = bt x i := fun i => by rw [← b_and, h]
  constructor
  · refine b_ext (fun i _ => ?_)
    have := hb i
    rw [b_and, b_and]
    revert this
    cases bt x i <;> cases bt m i <;> cases bt 255 i <;> decide
  · refine b_ext (fun i _ => ?_)
    have := hb i
    rw [b_and, b_and, b_and]
    revert this
    cases bt x i <;> cases bt m i <;> cases bt 255 i <;> decide
theorem nv1_eq {b : Int32} (hb : b &&& 255 = b) : ∀ n, nv1 τ O r p b n = mv1 τ O r p b n ∧ nv1 τ O r p b n &&& 255 = nv1 τ O r p b n
  | 0 => ⟨rfl, hb⟩
  | n + 1 => by
    obtain ⟨h1, h2⟩ := nv1_eq hb n
    unfold nv1 mv1
    rw [← h1]
    by_cases h : thF τ O r p n = 0
    · rw [if_pos h, if_pos h]; exact ⟨h2.symm, h2⟩
    · rw [if_neg h, if_neg h]
      have := and_255 (nv1 τ O r p b n) ((1 <<< (nI n &&& 31)) ^^^ (-1)) h2
      exact ⟨this.2.symm, this.1⟩
theorem nv2_eq : ∀ n, nv2 τ O r n = mv2 τ O r n ∧ nv2 τ O r n &&& 255 = nv2 τ O r n
  | 0 => ⟨rfl, by show (255 : Int32) &&& 255 = 255; decide⟩
  | n + 1 => by
    obtain ⟨h1, h2⟩ := nv2_eq n
    unfold nv2 mv2
    rw [← h1]
    exact nv1_eq h2 8
theorem cr_eq : ∀ n, n ≤ 8 → crF τ O r z n = sumI (cbM τ O r z (255 &&& (o_me O ^^^ (-1)))) n
  | 0, _ => rfl
  | n + 1, hn => by
    unfold crF
    show _ = sumI (cbM τ O r z (255 &&& (o_me O ^^^ (-1)))) n + cbM τ O r z (255 &&& (o_me O ^^^ (-1))) n
    rw [cr_eq n (by omega)]
    unfold cbM
    have hb : bt (255 &&& (o_me O ^^^ (-1))) n = !bt (o_me O) n := by
      rw [b_and, b_255, b_not (by omega), decide_eq_true (show n < 8 by omega), Bool.true_and]
    have e : o_mAt O (nI n) = 0 ↔ bt (o_me O) n = false := by unfold o_mAt; exact sel_0 (by omega)
    cases hm : bt (o_me O) n
    · rw [if_pos (e.mpr hm), if_pos ((sel_1 (by omega)).mpr (by rw [hb, hm]; rfl))]
    · rw [if_neg (fun y => by rw [e.mp y] at hm; exact absurd hm (by decide)), if_neg (fun y => by have := (sel_1 (by omega)).mp y; rw [hb, hm] at this; exact absurd this (by decide)), Int32.add_zero]
theorem so_eq (what : Int32) : soF τ O r z what = soM τ O r z what := by
  unfold soF soM
  rw [(nv2_eq z).1, cr_eq 8 (Nat.le_refl _)]
  by_cases h0 : what = 0
  · rw [if_pos h0, if_neg (by rw [h0]; decide), if_neg (by rw [h0]; decide), if_pos h0]
  by_cases h1 : what = 1
  · rw [if_neg h0, if_pos h1, if_neg (by rw [h1]; decide), if_neg (by rw [h1]; decide), if_neg h0, if_pos h1]
  by_cases h2 : what = 2
  · rw [if_neg h0, if_neg h1, if_pos h2, if_neg (by rw [h2]; decide), if_neg (by rw [h2]; decide), if_neg h0, if_neg h1, if_pos h2]
  by_cases h3 : what = 3
  · rw [if_neg h0, if_neg h1, if_neg h2, if_pos h3, if_neg (by rw [h3]; decide), if_pos h3]
  by_cases h4 : what = 4
  · rw [if_neg h0, if_neg h1, if_neg h2, if_neg h3, if_pos h4, if_neg (by rw [h4]; decide), if_neg h3, if_neg h0, if_neg h1, if_neg h2]
  rw [if_neg h0, if_neg h1, if_neg h2, if_neg h3, if_neg h4, if_pos]
  rintro ⟨y1, y2⟩
  rcases le8 ⟨y1, Int32.le_trans y2 (by decide)⟩ with e | e | e | e | e | e | e | e | e <;> first | contradiction | exact absurd y2 (by rw [e]; decide)
end TWO
section TWO2
variable {z : Nat} {A B : OT} {τ : TV} {r p q : Nat}
theorem eq_nv1 (h : OEq z A B) (hp : p < z) (b : Int32) : ∀ n, n ≤ 8 → nv1 τ A r p b n = nv1 τ B r p b n
  | 0, _ => rfl
  | n + 1, hn => by
    unfold nv1
    rw [eq_th h hp (show n < 8 by omega), eq_nv1 h hp b n (by omega)]
theorem eq_nv2 (h : OEq z A B) : ∀ n, n ≤ z → nv2 τ A r n = nv2 τ B r n
  | 0, _ => rfl
  | n + 1, hn => by
    unfold nv2
    rw [eq_nv2 h n (by omega), eq_nv1 h (by omega) _ 8 (Nat.le_refl _)]
theorem eq_cr (h : OEq z A B) : ∀ n, n ≤ 8 → crF τ A r z n = crF τ B r z n
  | 0, _ => rfl
  | n + 1, hn => by
    unfold crF
    rw [eq_mAt h, eq_co h (show n < 8 by omega), eq_cr h n (by omega)]
theorem eq_so (h : OEq z A B) (what : Int32) : soF τ A r z what = soF τ B r z what := by
  unfold soF
  rw [eq_hp h, eq_du h, eq_ps h, eq_nv2 h z (Nat.le_refl _), eq_cr h 8 (Nat.le_refl _)]
theorem eq_al (h : OEq z A B) (hp : p < z) : ∀ n, n ≤ z → alF τ A r p n = alF τ B r p n
  | 0, _ => eq_lk h hp 8 (Nat.le_refl _)
  | n + 1, hn => by
    unfold alF
    rw [eq_al h hp n (by omega), eq_lk h (show n < z by omega) 8 (Nat.le_refl _)]
theorem eq_bh (h : OEq z A B) (hp : p < z) : ∀ n, n ≤ 7 → bhF τ A r p n = bhF τ B r p n
  | 0, _ => by unfold bhF; rw [eq_th h hp (show 0 < 8 by omega)]
  | n + 1, hn => by
    unfold bhF
    rw [eq_bh h hp n (by omega), eq_th h hp (show n + 1 < 8 by omega)]
theorem eq_be (h : OEq z A B) (hz : z ≤ 6) (one what : Int32) : beF τ A r z one what = beF τ B r z one what := by
  unfold beF
  by_cases hq : onC z one ∧ 0 ≤ what ∧ what ≤ 2
  · rw [if_pos hq, if_pos hq]
    obtain ⟨p, hp, e, e2⟩ := on_nat hq.1 hz
    have hb : (bhF τ B r p 7).1 < 8 := by rw [bh_eq]; exact Nat.lt_succ_of_le (bhM_le τ B r p 7)
    rw [e2, eq_al h hp z (Nat.le_refl _), eq_bh h hp 7 (Nat.le_refl _), eq_th h hp hb]
  · rw [if_neg hq, if_neg hq]
theorem eq_ag (h : OEq z A B) (hp : p < z) (hq : q < z) : ∀ n, n ≤ 8 → agF τ A r p q n = agF τ B r p q n
  | 0, _ => rfl
  | n + 1, hn => by
    unfold agF
    rw [eq_ag h hp hq n (by omega), eq_th h hp (show n < 8 by omega), eq_th h hq (show n < 8 by omega)]
theorem eq_agA (h : OEq z A B) (hz : z ≤ 6) (one other : Int32) : agA τ A r z one other = agA τ B r z one other := by
  unfold agA
  by_cases hq : twC z one other
  · rw [if_pos hq, if_pos hq]
    obtain ⟨p, hp, e, e2⟩ := on_nat hq.1 hz
    obtain ⟨q, hq2, f, f2⟩ := on_nat hq.2.1 hz
    rw [e2, f2, eq_ag h hp hq2 8 (Nat.le_refl _)]
  · rw [if_neg hq, if_neg hq]
end TWO2
