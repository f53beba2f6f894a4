/-! memories that were told: the same two ways -/
theorem foF_cong {th th' c : Nat → Int32} : ∀ n i, (∀ j, i ≤ j → j < i + n → th j = th' j) → foF th c n i = foF th' c n i
  | 0, _, _ => rfl
  | n + 1, i, h => by
    unfold foF
    rw [h i (Nat.le_refl _) (by omega), foF_cong n (i + 1) (fun j h1 h2 => h j (by omega) (by omega))]
theorem foF_m1 {th c : Nat → Int32} : ∀ n i, i + n ≤ 8 → (foF th c n i = -1 ↔ ∀ j, i ≤ j → j < i + n → c j = th j)
  | 0, i, _ => ⟨fun _ j h1 h2 => absurd h1 (by omega), fun _ => rfl⟩
  | n + 1, i, hn => by
    unfold foF
    by_cases q : c i = th i
    · rw [if_pos q, foF_m1 n (i + 1) (by omega)]
      constructor
      · intro h j h1 h2
        by_cases e : j = i
        · subst e; exact q
        · exact h j (by omega) (by omega)
      · intro h j h1 h2
        exact h j (by omega) (by omega)
    · rw [if_neg q]
      exact ⟨fun e => absurd e (nI_nm1 (by omega)), fun h => absurd (h i (Nat.le_refl _) (by omega)) q⟩
theorem foF_all {th c : Nat → Int32} : foF th c 8 0 = -1 ↔ ∀ j, j < 8 → c j = th j := by
  rw [foF_m1 8 0 (Nat.le_refl _)]
  exact ⟨fun h j hj => h j (Nat.zero_le _) (by omega), fun h j _ hj => h j (by omega)⟩
theorem bt_btF {g : Nat → Int32} {i : Nat} (hi : i < 32) : ∀ n, n ≤ 31 → bt (btF g n) i = (decide (i < n) && decide (g i = -1))
  | 0, _ => by rw [decide_eq_false (by omega)]; exact b_0 i
  | n + 1, hn => by
    unfold btF
    have ih := bt_btF (g := g) hi n (by omega)
    by_cases h : g n = -1
    · rw [if_pos h, b_or, ih, b_1sh (by omega) hi]
      by_cases e : i = n
      · subst e
        rw [decide_eq_true rfl, Bool.or_true, decide_eq_true (Nat.lt_succ_self i), decide_eq_true h]; rfl
      · rw [decide_eq_false e, Bool.or_false]
        have : (i < n + 1) = (i < n) := propext ⟨fun y => by omega, fun y => by omega⟩
        simp only [this]
    · rw [if_neg h, ih]
      by_cases e : i = n
      · subst e
        rw [decide_eq_false h, Bool.and_false, Bool.and_false]
      · have : (i < n + 1) = (i < n) := propext ⟨fun y => by omega, fun y => by omega⟩
        simp only [this]
theorem bt_tlS {ok : Nat → Int32} {N i : Nat} (hN : N < 20) (hi : i < 32) : ∀ n, n ≤ N + 1 → bt (tlS ok N n) i = (decide (N < i + n ∧ i ≤ N) && decide (ok i = -1))
  | 0, _ => by
    rw [decide_eq_false (by omega)]; exact b_0 i
  | n + 1, hn => by
    unfold tlS
    have ih := bt_tlS (ok := ok) hN hi n (by omega)
    rw [if_pos (show N - n < 20 by omega)]
    by_cases h : ok (N - n) = -1
    · rw [if_pos h, b_or, ih, b_1sh (by omega) hi]
      by_cases e : i = N - n
      · subst e
        rw [decide_eq_true rfl, Bool.or_true, decide_eq_true (by omega), decide_eq_true h]; rfl
      · rw [decide_eq_false e, Bool.or_false]
        have : (N < i + (n + 1) ∧ i ≤ N) = (N < i + n ∧ i ≤ N) := propext ⟨fun y => by omega, fun y => by omega⟩
        simp only [this]
    · rw [if_neg h, ih]
      by_cases e : i = N - n
      · subst e
        rw [decide_eq_false h, Bool.and_false, Bool.and_false]
      · have : (N < i + (n + 1) ∧ i ≤ N) = (N < i + n ∧ i ≤ N) := propext ⟨fun y => by omega, fun y => by omega⟩
        simp only [this]
theorem tl_bt {g ok : Nat → Int32} {N : Nat} (hN : N < 20) (h : ∀ i, i ≤ N → (g i = -1 ↔ ok i = -1)) : btF g (N + 1) = tlS ok N (N + 1) := by
  refine b_ext (fun i hi => ?_)
  rw [bt_btF hi (N + 1) (by omega), bt_tlS hN hi (N + 1) (Nat.le_refl _)]
  by_cases q : i ≤ N
  · rw [decide_eq_true (show i < N + 1 by omega), decide_eq_true (show N < i + (N + 1) ∧ i ≤ N by omega)]
    have : (g i = -1) = (ok i = -1) := propext (h i q)
    simp only [this]
  · rw [decide_eq_false (show ¬ i < N + 1 by omega), decide_eq_false (show ¬ (N < i + (N + 1) ∧ i ≤ N) by omega)]; rfl
theorem tlN_cong {g ok : Nat → Int32} {N : Nat} (h : ∀ i, i ≤ N → (g i = -1 ↔ ok i = -1)) : ∀ n, tlN g N n = tlN ok N n
  | 0 => rfl
  | n + 1 => by
    unfold tlN
    have e : (g (N - n) = -1) = (ok (N - n) = -1) := propext (h _ (by omega))
    rw [tlN_cong h n]
    simp only [e]
theorem tlL_cong {lo : Int32} {g ok : Nat → Int32} {N : Nat} (h : ∀ i, i ≤ N → (g i = -1 ↔ ok i = -1)) : ∀ n, tlL lo g N n = tlL lo ok N n
  | 0 => rfl
  | n + 1 => by
    unfold tlL
    have e : (g (N - n) = -1) = (ok (N - n) = -1) := propext (h _ (by omega))
    rw [tlL_cong h n]
    simp only [e]
theorem and_z (x y : Int32) : x &&& y = 0 ↔ ∀ i, i < 32 → (bt x i && bt y i) = false := by
  constructor
  · intro h i _
    rw [← b_and, h, b_0]
  · intro h
    refine b_ext (fun i hi => ?_)
    rw [b_and, h i hi, b_0]
section TEL
variable {z : Nat} {T O : OT} {τ : TV} {r p : Nat} {c : Nat → Int32}
theorem fo_eq {A B : OT} (h : OEq z A B) (hp : p < z) : foF (thF τ A r p) c 8 0 = foF (thF τ B r p) c 8 0 := foF_cong 8 0 (fun j _ hj => eq_th h hp (by omega))
theorem gtD_iff (h : OEq z T O) (hp : p < z) {i : Nat} (hi : i < 256) : gtD (btF (gtH τ T r p c 0) 8) (btF (gtH τ T r p c 255) 8) i = -1 ↔ okD τ O r p c i = -1 := by
  show (if (255 &&& ((btF (gtH τ T r p c 0) 8) ^^^ -1)) &&& (nI i ^^^ -1) = 0 ∧ nI i &&& ((btF (gtH τ T r p c 255) 8) ^^^ -1) = 0 then (-1 : Int32) else 0) = -1 ↔ foF (thF τ (uo_me O (nI i)) r p) c 8 0 = -1
  rw [m1_iff, foF_all, and_z, and_z]
  have hb : ∀ (m : Int32) k, k < 32 → bt (btF (gtH τ T r p c m) 8) k = (decide (k < 8) && decide (c k = thF τ (uo_me T m) r p k)) := fun m k hk => by
    rw [bt_btF hk 8 (by omega)]
    congr 1
    have : (gtH τ T r p c m k = -1) = (c k = thF τ (uo_me T m) r p k) := propext m1_iff
    simp only [this]
  have ht : ∀ k, k < 8 → thF τ (uo_me O (nI i)) r p k = if i.testBit k = true then thF τ (uo_me T 255) r p k else thF τ (uo_me T 0) r p k := fun k hk => by
    by_cases w : i.testBit k = true
    · rw [if_pos w, eq_th (h.ume 255) hp hk]
      exact th_me (by omega) (by rw [b_nI i (by omega), w, b_255, decide_eq_true hk])
    · rw [if_neg w, eq_th (h.ume 0) hp hk]
      exact th_me (by omega) (by rw [b_nI i (by omega), Bool.eq_false_iff.mpr w, b_0])
  constructor
  · rintro ⟨h1, h2⟩ k hk
    rw [ht k hk]
    by_cases w : i.testBit k = true
    · rw [if_pos w]
      have := h2 k (by omega)
      rw [b_nI i (by omega), w, Bool.true_and, b_not (by omega), hb 255 k (by omega), decide_eq_true hk, Bool.true_and] at this
      exact of_decide_eq_true (by simpa using this)
    · rw [if_neg w]
      have := h1 k (by omega)
      rw [b_and, b_255, decide_eq_true hk, Bool.true_and, b_not (by omega), b_not (by omega), b_nI i (by omega), Bool.eq_false_iff.mpr w, Bool.not_false, Bool.and_true, hb 0 k (by omega), decide_eq_true hk, Bool.true_and] at this
      exact of_decide_eq_true (by simpa using this)
  · intro hk
    constructor
    · intro k h32
      rw [b_and, b_255]
      by_cases w8 : k < 8
      · rw [decide_eq_true w8, Bool.true_and, b_not h32, b_not h32, b_nI i h32, hb 0 k h32, decide_eq_true w8, Bool.true_and]
        have := hk k w8
        rw [ht k w8] at this
        by_cases w : i.testBit k = true
        · rw [w]; simp
        · rw [if_neg w] at this
          rw [decide_eq_true this]; rfl
      · rw [decide_eq_false w8]; rfl
    · intro k h32
      rw [b_nI i h32, b_not h32, hb 255 k h32]
      by_cases w8 : k < 8
      · rw [decide_eq_true w8, Bool.true_and]
        have := hk k w8
        rw [ht k w8] at this
        by_cases w : i.testBit k = true
        · rw [if_pos w] at this
          rw [decide_eq_true this]; simp
        · rw [Bool.eq_false_iff.mpr w]; rfl
      · have : i.testBit k = false := Nat.testBit_lt_two_pow (Nat.lt_of_lt_of_le hi (Nat.pow_le_pow_right (n := 2) (by decide) (show 8 ≤ k by omega)))
        rw [this]; rfl
theorem tc_eq (h : OEq z T O) (hp : p < z) (hz : z ≤ 6) {m : Nat} (hm1 : 1 ≤ m) (hm6 : m ≤ 6) {what : Int32} (hw : (0 ≤ what ∧ what ≤ 8) ∨ (10 ≤ what ∧ what ≤ 17)) : tcF τ T r z m p c what = teM τ O r z m p c what := by
  unfold tcF teM
  by_cases h0 : what = 0
  · rw [if_pos h0, if_pos h0]; exact fo_eq h hp
  rw [if_neg h0, if_neg h0]
  by_cases h8 : what = 8
  · rw [if_pos h8, if_neg (by rw [h8]; decide), if_neg (by rw [h8]; decide), if_neg (by rw [h8]; decide), if_neg (by rw [h8]; decide), if_neg (by rw [h8]; decide), if_neg (by rw [h8]; decide), if_neg (by rw [h8]; decide), if_pos h8, ls_eq z (by omega)]
    have e : ∀ n, n ≤ z → lsM τ T r c n = lsM τ O r c n := by
      intro n
      induction n with
      | zero => intro _; rfl
      | succ n ih =>
        intro hn
        unfold lsM
        rw [ih (by omega), fo_eq h (show n < z by omega)]
    exact e z (Nat.le_refl _)
  rw [if_neg h8, if_neg h8]
  by_cases h1 : what = 1
  · rw [if_pos h1, if_pos h1]
    refine tl_bt (N := 5) (by decide) (fun i _ => ?_)
    show foF (thF τ (suF T p what (nI i)) r p) c 8 0 = -1 ↔ _
    unfold suF
    rw [if_pos h1, fo_eq (h.uki p (nI i)) hp]
  rw [if_neg h1, if_neg h1]
  by_cases h2 : what = 2
  · rw [if_pos h2, if_pos h2]
    refine tl_bt (N := 9) (by decide) (fun i _ => ?_)
    show foF (thF τ (suF T p what (nI i)) r p) c 8 0 = -1 ↔ _
    unfold suF
    rw [if_neg h1, if_pos h2, fo_eq (h.unu p (nI i)) hp]
  rw [if_neg h2, if_neg h2]
  have hy : ∀ i, i ≤ 99 → (gtY τ T r p c i = -1 ↔ okY τ O r p c i = -1) := fun i _ => by
    show foF (thF τ (uo_ye T (nI i)) r p) c 8 0 = -1 ↔ _
    rw [fo_eq (h.uye (nI i)) hp]
  by_cases h3 : what = 3
  · rw [if_pos h3, if_pos h3, tlN_cong hy]
  rw [if_neg h3, if_neg h3]
  by_cases h4 : what = 4
  · rw [if_pos h4, if_pos h4, tlL_cong hy]
  rw [if_neg h4, if_neg h4]
  have hd : ∀ i, i ≤ 255 → (gtD (btF (gtH τ T r p c 0) 8) (btF (gtH τ T r p c 255) 8) i = -1 ↔ okD τ O r p c i = -1) := fun i hi => gtD_iff h hp (by omega)
  by_cases h5 : what = 5
  · rw [if_pos h5, if_pos h5, tlN_cong hd]
  rw [if_neg h5, if_neg h5]
  by_cases h6 : what = 6
  · rw [if_pos h6, if_pos h6, tlL_cong hd]
  rw [if_neg h6, if_neg h6]
  by_cases h7 : what = 7
  · rw [if_pos h7, if_pos h7]
    obtain ⟨m', rfl⟩ : ∃ m', m = m' + 1 := ⟨m - 1, by omega⟩
    refine tl_bt (N := m') (by omega) (fun i _ => ?_)
    show foF (thF τ (suF T p what (nI i)) i p) c 8 0 = -1 ↔ _
    unfold suF
    rw [if_neg h1, if_neg h2, if_pos h7, fo_eq (h.uru (nI i)) hp]
  rw [if_neg h7, if_neg h7]
  refine tl_bt (N := 18) (by decide) (fun i _ => ?_)
  show foF (thF τ (suF T p what (nI i)) r p) c 8 0 = -1 ↔ _
  unfold suF
  rw [if_neg h1, if_neg h2, if_neg h7, fo_eq (h.uwe _ _) hp]
end TEL
theorem te_eq {τ : TV} {S : CS} {H : MH} {T O : OT} {r z m : Nat} {s one what : Int32} (h : OEq z T O) (hs : SEq H (s_sh S)) (hz : z ≤ 6) (hm1 : 1 ≤ m) (hm6 : m ≤ 6) : tcA τ S T r z m s one what = teA τ H O r z m s one what := by
  unfold tcA teA
  by_cases hB : teB z s one what
  · rw [if_pos hB, if_pos hB]
  rw [if_neg hB, if_neg hB]
  have h1 : 0 ≤ s ∧ s < 4 := Classical.byContradiction (fun y => hB (Or.inl y))
  have h2 : onC z one := Classical.byContradiction (fun y => hB (Or.inr (Or.inl y)))
  have h3 : (0 ≤ what ∧ what ≤ 8) ∨ (10 ≤ what ∧ what ≤ 17) := Classical.byContradiction (fun y => hB (Or.inr (Or.inr ⟨fun w => y (Or.inl w), fun w => y (Or.inr w)⟩)))
  obtain ⟨k, hk, rfl⟩ := nat_of h1.1 (show s < nI 4 from h1.2) (by omega)
  obtain ⟨p, hp, e, e2⟩ := on_nat h2 hz
  rw [nI_clamp (by omega), e2]
  obtain ⟨m', a1, a2, a3, a4⟩ := hs k hk
  by_cases q : H.1 k = 0
  · rw [if_pos q, if_pos (a3.mp q)]
  rw [if_neg q, if_neg (fun y => q (a3.mpr y)), (a4 q).2.1, a2]
  by_cases q8 : ¬ nI m' = 8
  · rw [if_pos q8, if_pos q8]
  rw [if_neg q8, if_neg q8]
  have hm8 : m' = 8 := (nI_eq (b := 8) (by omega) (by decide)).mp (Classical.byContradiction q8)
  subst hm8
  have ec : ∀ (A : OT) (r p what), teM τ A r z m p (s_sh S k).2.2 what = teM τ A r z m p (fun j => H.2.2.2 (40 * k + j)) what := by
    intro A r p what
    have hc : ∀ j, j < 8 → (s_sh S k).2.2 j = H.2.2.2 (40 * k + j) := fun j hj => ((a4 q).2.2 j hj).symm
    have hf : ∀ (th : Nat → Int32), foF th (s_sh S k).2.2 8 0 = foF th (fun j => H.2.2.2 (40 * k + j)) 8 0 := by
      intro th
      have g : ∀ n i, i + n ≤ 8 → foF th (s_sh S k).2.2 n i = foF th (fun j => H.2.2.2 (40 * k + j)) n i := by
        intro n
        induction n with
        | zero => intro i _; rfl
        | succ n ih =>
          intro i hi
          unfold foF
          rw [hc i (by omega), ih (i + 1) (by omega)]
      exact g 8 0 (Nat.le_refl _)
    have hl : ∀ n, lsM τ A r (s_sh S k).2.2 n = lsM τ A r (fun j => H.2.2.2 (40 * k + j)) n := by
      intro n
      induction n with
      | zero => rfl
      | succ n ih => unfold lsM; rw [ih, hf]
    unfold teM
    rw [hf, hl]
    have k1 : okK τ A r p (s_sh S k).2.2 = okK τ A r p (fun j => H.2.2.2 (40 * k + j)) := funext fun i => hf _
    have k2 : okN τ A r p (s_sh S k).2.2 = okN τ A r p (fun j => H.2.2.2 (40 * k + j)) := funext fun i => hf _
    have k3 : okY τ A r p (s_sh S k).2.2 = okY τ A r p (fun j => H.2.2.2 (40 * k + j)) := funext fun i => hf _
    have k4 : okD τ A r p (s_sh S k).2.2 = okD τ A r p (fun j => H.2.2.2 (40 * k + j)) := funext fun i => hf _
    have k5 : okT τ A p (s_sh S k).2.2 = okT τ A p (fun j => H.2.2.2 (40 * k + j)) := funext fun i => hf _
    have k6 : okW τ A r p (what - 10).toNatClampNeg (s_sh S k).2.2 = okW τ A r p (what - 10).toNatClampNeg (fun j => H.2.2.2 (40 * k + j)) := funext fun i => hf _
    rw [k1, k2, k3, k4, k5, k6]
  rw [tc_eq h hp hz hm1 hm6 h3, ec]
