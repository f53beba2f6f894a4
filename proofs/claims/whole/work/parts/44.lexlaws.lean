/-! laws of the pure reader -/
def WF (n : Nat) (s : PS) : Prop := g_pl s ≤ n ∧ g_nx s ≤ n ∧ ((g_fa s = -1 ∧ ¬ g_to s = 2 ∧ (g_to s = 0 → n ≤ g_pl s) ∧ (¬ g_to s = 0 → g_pl s < g_nx s)) ∨ (¬ g_fa s = -1 ∧ g_to s = 2))
def LTS (b : Nat → Int32) (t h : Nat) : Prop := ∀ i, t ≤ i → i < h → 97 ≤ b i
def TK (b : Nat → Int32) (s : PS) (h : Nat) (to : Int32) (t : Nat) (tw : Int64) : Prop :=
  (g_to s = 0 ∧ to = 0) ∨ (g_to s = 1 ∧ to = 2 ∧ tw.toInt32 = g_nu s ∧ ∃ m, m < 10000 ∧ g_nu s = nI m) ∨ (qSn (g_to s) = true ∧ to = 3 ∧ tw = (g_to s).toInt64) ∨ (200 ≤ g_to s ∧ g_to s ≤ 211 ∧ to = 1 ∧ wtk b t h 12 200 = g_to s ∧ LTS b t h)
/-- the reference's reader stands as the pure one -/
def LR (b : Nat → Int32) (n : Nat) (s : PS) (h : Nat) (to : Int32) (t : Nat) (tw : Int64) (ba fa : Int32) : Prop :=
  WF n s ∧ h ≤ n ∧ t ≤ n ∧ ((g_fa s = -1 ∧ ba = 0 ∧ h = g_nx s ∧ t = g_pl s ∧ TK b s h to t tw) ∨ (¬ g_fa s = -1 ∧ g_to s = 2 ∧ ((ba = 1 ∧ fa = g_fa s) ∨ (ba = 0 ∧ nI t = g_fa s ∧ (to = 4 ∨ (to = 1 ∧ wtk b t h 12 200 = 2 ∧ LTS b t h))))))
theorem nI_nm1 {k : Nat} (h : k ≤ 160) : ¬ nI k = -1 := by
  intro q
  have := congrArg Int32.toInt q
  rw [nI_toInt (by omega)] at this
  simp at this
theorem nI_w2 {w : Nat} (h : 200 ≤ w) (h2 : w ≤ 211) : ¬ (2 : Int32) = nI w := by
  intro q
  have := congrArg Int32.toInt q
  rw [nI_toInt (by omega)] at this
  rw [tI_2] at this
  omega
theorem rfu_of {s : PS} (h : ¬ g_fa s = -1) (h2 : g_to s = 2) : rfu s = s := by
  obtain ⟨pl, nx, to, nu, fa, op, cz, co⟩ := s
  change ¬ fa = -1 at h
  change to = 2 at h2
  subst h2
  unfold rfu
  simp only [if_neg h]
theorem emt_g (c : Int32) (s : PS) : g_pl (emt c s) = g_pl s ∧ g_nx (emt c s) = g_nx s ∧ g_to (emt c s) = g_to s ∧ g_nu (emt c s) = g_nu s ∧ g_fa (emt c s) = g_fa s ∧ g_op (emt c s) = g_op s := by
  unfold emt
  split <;> exact ⟨rfl, rfl, rfl, rfl, rfl, rfl⟩
theorem WF_same {n : Nat} {s s' : PS} (h1 : g_pl s' = g_pl s) (h2 : g_nx s' = g_nx s) (h3 : g_to s' = g_to s) (h4 : g_fa s' = g_fa s) (h : WF n s) : WF n s' := by
  unfold WF at h ⊢
  rw [h1, h2, h3, h4]; exact h
theorem LR_same {b : Nat → Int32} {n : Nat} {s s' : PS} {h : Nat} {to : Int32} {t : Nat} {tw : Int64} {ba fa : Int32} (h1 : g_pl s' = g_pl s) (h2 : g_nx s' = g_nx s) (h3 : g_to s' = g_to s) (h4 : g_fa s' = g_fa s) (h5 : g_nu s' = g_nu s) (q : LR b n s h to t tw ba fa) : LR b n s' h to t tw ba fa := by
  unfold LR TK WF at q ⊢
  rw [h1, h2, h3, h4, h5]; exact q
theorem LR_emt {b : Nat → Int32} {n : Nat} {s : PS} {h : Nat} {to : Int32} {t : Nat} {tw : Int64} {ba fa c : Int32} (q : LR b n s h to t tw ba fa) : LR b n (emt c s) h to t tw ba fa :=
  LR_same (emt_g c s).1 (emt_g c s).2.1 (emt_g c s).2.2.1 (emt_g c s).2.2.2.2.1 (emt_g c s).2.2.2.1 q
theorem LR_inc {b : Nat → Int32} {n : Nat} {s : PS} {h : Nat} {to : Int32} {t : Nat} {tw : Int64} {ba fa : Int32} (q : LR b n s h to t tw ba fa) : LR b n (inc1 s) h to t tw ba fa := LR_same (s' := inc1 s) rfl rfl rfl rfl rfl q
theorem LR_dec {b : Nat → Int32} {n : Nat} {s : PS} {h : Nat} {to : Int32} {t : Nat} {tw : Int64} {ba fa : Int32} (q : LR b n s h to t tw ba fa) : LR b n (dec1 s) h to t tw ba fa := LR_same (s' := dec1 s) rfl rfl rfl rfl rfl q
/-! words -/
theorem spB_iff (b : Nat → Int32) : ∀ (l : List Int32) (i : Nat), spB b l i = true ↔ ∀ k, k < l.length → l.getD k 0 = b (i + k)
  | [], i => by simp [spB]
  | c :: l, i => by
    rw [spB, Bool.and_eq_true, decide_eq_true_iff, spB_iff b l (i + 1)]
    constructor
    · rintro ⟨h1, h2⟩ k hk
      cases k with
      | zero => simpa using h1
      | succ k =>
        have := h2 k (by simpa using hk)
        rw [List.getD_cons_succ, this, show i + 1 + k = i + (k + 1) by omega]
    · intro h
      refine ⟨by simpa using h 0 (by simp), fun k hk => ?_⟩
      have := h (k + 1) (by simpa using hk)
      rw [List.getD_cons_succ] at this
      rw [this, show i + 1 + k = i + (k + 1) by omega]
theorem ltB_iff {b : Nat → Int32} {t h k : Nat} {c : Int32} : ltB b t h k c = true ↔ (t + k < h ∧ b (t + k) = c) ∨ (¬ t + k < h ∧ c = 0) := by
  unfold ltB
  by_cases q : t + k < h
  · rw [if_pos q, decide_eq_true_iff]; simp [q]
  · rw [if_neg q, decide_eq_true_iff]; simp [q]
theorem wd_iff {b : Nat → Int32} {t h : Nat} {l : List Int32} (hl : l.length ≤ 7) (hz : ∀ k, k < l.length → ¬ l.getD k 0 = 0) (hL : LTS b t h) : (h ≤ t + 8 ∧ ∀ k, k < 8 → ltB b t h k (l.getD k 0) = true) ↔ (h - t = l.length ∧ spB b l t = true) := by
  have h0 : ∀ k, l.length ≤ k → l.getD k 0 = 0 := fun k hk => by rw [List.getD_eq_getElem?_getD, List.getElem?_eq_none hk]; rfl
  rw [spB_iff]
  constructor
  · rintro ⟨-, hk⟩
    have hlow : ∀ k, k < l.length → t + k < h ∧ b (t + k) = l.getD k 0 := fun k q => by
      rcases ltB_iff.mp (hk k (by omega)) with q1 | q1
      · exact q1
      · exact absurd q1.2 (hz k q)
    have hup : ¬ t + l.length < h := fun q => by
      rcases ltB_iff.mp (hk l.length (by omega)) with q1 | q1
      · have := hL _ (Nat.le_add_right t l.length) q
        rw [q1.2, h0 _ (Nat.le_refl _)] at this
        exact absurd this (by decide)
      · exact q1.1 q
    refine ⟨?_, fun k q => (hlow k q).2.symm⟩
    by_cases q : l.length = 0
    · omega
    · have := (hlow (l.length - 1) (by omega)).1; omega
  · rintro ⟨h1, h2⟩
    refine ⟨by omega, fun k hk => ltB_iff.mpr ?_⟩
    by_cases q : k < l.length
    · exact Or.inl ⟨by omega, (h2 k q).symm⟩
    · by_cases q2 : t + k < h
      · exact absurd q2 (by omega)
      · exact Or.inr ⟨q2, h0 k (by omega)⟩
theorem spW_iff {b : Nat → Int32} {j e w : Nat} : spW b j e w = true ↔ (e - j = (strB (w - 199)).length ∧ spB b (strB (w - 199)) j = true) := by
  unfold spW
  rw [Bool.and_eq_true, decide_eq_true_iff]
theorem strB_ok : ∀ w, w < 212 → 200 ≤ w → (strB (w - 199)).length ≤ 7 ∧ ∀ k, k < (strB (w - 199)).length → ¬ (strB (w - 199)).getD k 0 = 0 := by
  have h : ∀ d, d < 12 → (strB (d + 1)).length ≤ 7 ∧ ∀ k, k < (strB (d + 1)).length → ¬ (strB (d + 1)).getD k 0 = 0 := by decide +kernel
  intro w h1 h2
  have := h (w - 200) (by omega)
  rwa [show w - 200 + 1 = w - 199 by omega] at this
theorem strB_inj : ∀ w, w < 212 → 200 ≤ w → ∀ v, v < 212 → 200 ≤ v → strB (w - 199) = strB (v - 199) → w = v := by
  have h : ∀ d, d < 12 → ∀ e, e < 12 → strB (d + 1) = strB (e + 1) → d = e := by decide +kernel
  intro w h1 h2 v h3 h4 q
  have := h (w - 200) (by omega) (v - 200) (by omega) (by rwa [show w - 200 + 1 = w - 199 by omega, show v - 200 + 1 = v - 199 by omega])
  omega
theorem spW_u {b : Nat → Int32} {j e w v : Nat} (h1 : w < 212) (h2 : 200 ≤ w) (h3 : v < 212) (h4 : 200 ≤ v) (hw : spW b j e w = true) (hv : spW b j e v = true) : w = v := by
  obtain ⟨q1, q2⟩ := spW_iff.mp hw
  obtain ⟨q3, q4⟩ := spW_iff.mp hv
  rw [spB_iff] at q2 q4
  refine strB_inj w h1 h2 v h3 h4 (List.ext_getElem (by omega) (fun k k1 k2 => ?_))
  have a1 := q2 k k1
  have a2 := q4 k k2
  rw [List.getD_eq_getElem?_getD, List.getElem?_eq_getElem k1] at a1
  rw [List.getD_eq_getElem?_getD, List.getElem?_eq_getElem k2] at a2
  exact a1.trans a2.symm
theorem wtk_or (b : Nat → Int32) (j e : Nat) : ∀ f w, wtk b j e f w = 2 ∧ (∀ v, w ≤ v → v < w + f → ¬ spW b j e v = true) ∨ ∃ v, w ≤ v ∧ v < w + f ∧ wtk b j e f w = nI v ∧ spW b j e v = true
  | 0, w => Or.inl ⟨rfl, fun v h1 h2 => absurd h2 (by omega)⟩
  | f + 1, w => by
    rw [wtk]
    by_cases q : spW b j e w = true
    · rw [if_pos q]; exact Or.inr ⟨w, Nat.le_refl _, by omega, rfl, q⟩
    · rw [if_neg q]
      rcases wtk_or b j e f (w + 1) with ⟨h1, h2⟩ | ⟨v, h1, h2, h3, h4⟩
      · refine Or.inl ⟨h1, fun v a1 a2 => ?_⟩
        by_cases hv : v = w
        · rw [hv]; exact q
        · exact h2 v (by omega) (by omega)
      · exact Or.inr ⟨v, by omega, by omega, h3, h4⟩
theorem wtk_iff {b : Nat → Int32} {j e w : Nat} (h1 : w < 212) (h2 : 200 ≤ w) : wtk b j e 12 200 = nI w ↔ spW b j e w = true := by
  rcases wtk_or b j e 12 200 with ⟨q1, q2⟩ | ⟨v, q1, q2, q3, q4⟩
  · rw [q1]
    exact ⟨fun h => absurd h (nI_w2 h2 (by omega)), fun h => absurd h (q2 w h2 (by omega))⟩
  · rw [q3]
    constructor
    · intro h
      have : v = w := (nI_eq (by omega) (by omega)).mp h
      rw [← this]; exact q4
    · intro h
      rw [spW_u (by omega) q1 h1 h2 q4 h]
theorem wtk_r {b : Nat → Int32} {j e : Nat} (h : ¬ wtk b j e 12 200 = 2) : ∃ v, 200 ≤ v ∧ v < 212 ∧ wtk b j e 12 200 = nI v := by
  rcases wtk_or b j e 12 200 with ⟨q1, q2⟩ | ⟨v, q1, q2, q3, q4⟩
  · exact absurd q1 h
  · exact ⟨v, q1, q2, q3⟩
theorem nI_rng {v : Nat} (h1 : 200 ≤ v) (h2 : v < 212) : (200 : Int32) ≤ nI v ∧ nI v ≤ 211 := ⟨nI_le (a := 200) h1 (by omega), nI_le (b := 211) (by omega) (by decide)⟩
/-! what the reference asks of its token -/
theorem LR_word {b : Nat → Int32} {n : Nat} {s : PS} {h : Nat} {to : Int32} {t : Nat} {tw : Int64} {ba fa : Int32} {w : Nat} (q : LR b n s h to t tw ba fa) (h1 : w < 212) (h2 : 200 ≤ w) : (ba = 0 ∧ to = 1 ∧ spW b t h w = true) ↔ g_to s = nI w := by
  obtain ⟨-, -, -, ⟨q1, q2, q3, q4, q5⟩ | ⟨q1, q2, q5⟩⟩ := q
  · rcases q5 with ⟨e1, e2⟩ | ⟨e1, e2, -⟩ | ⟨e1, e2, -⟩ | ⟨e1, e2, e3, e4, -⟩
    · constructor
      · rintro ⟨-, z, -⟩; rw [e2] at z; exact absurd z (by decide)
      · intro z; rw [e1] at z
        have := congrArg Int32.toInt z; rw [nI_toInt (by omega), tI_0] at this; omega
    · constructor
      · rintro ⟨-, z, -⟩; rw [e2] at z; exact absurd z (by decide)
      · intro z; rw [e1] at z
        have := congrArg Int32.toInt z; rw [nI_toInt (by omega), tI_1] at this; omega
    · constructor
      · rintro ⟨-, z, -⟩; rw [e2] at z; exact absurd z (by decide)
      · intro z
        rw [z, qSn_iff] at e1
        simp only [← Int32.toInt_inj, nI_toInt (show w < 2 ^ 31 by omega)] at e1
        rcases e1 with e | e | e | e | e | e | e | e <;> (revert e; simp; omega)
    · rw [← e4, wtk_iff h1 h2]
      exact ⟨fun z => z.2.2, fun z => ⟨q2, e3, z⟩⟩
  · rw [q2]
    constructor
    · rintro ⟨z1, z2, z3⟩
      rcases q5 with ⟨e1, -⟩ | ⟨-, -, e1 | ⟨-, e1, -⟩⟩
      · rw [z1] at e1; exact absurd e1 (by decide)
      · rw [z2] at e1; exact absurd e1 (by decide)
      · rw [(wtk_iff h1 h2).mpr z3] at e1; exact absurd e1.symm (nI_w2 h2 (by omega))
    · intro z; exact absurd z (nI_w2 h2 (by omega))
theorem LR_lts {b : Nat → Int32} {n : Nat} {s : PS} {h : Nat} {to : Int32} {t : Nat} {tw : Int64} {ba fa : Int32} (q : LR b n s h to t tw ba fa) (h0 : ba = 0) (h1 : to = 1) : LTS b t h := by
  obtain ⟨-, -, -, ⟨q1, q2, q3, q4, q5⟩ | ⟨q1, q2, q5⟩⟩ := q
  · rcases q5 with ⟨e1, e2⟩ | ⟨e1, e2, -⟩ | ⟨e1, e2, -⟩ | ⟨e1, e2, e3, e4, e5⟩
    · rw [h1] at e2; exact absurd e2 (by decide)
    · rw [h1] at e2; exact absurd e2 (by decide)
    · rw [h1] at e2; exact absurd e2 (by decide)
    · exact e5
  · rcases q5 with ⟨e1, -⟩ | ⟨-, -, e1 | ⟨-, -, e1⟩⟩
    · rw [h0] at e1; exact absurd e1 (by decide)
    · rw [h1] at e1; exact absurd e1 (by decide)
    · exact e1
theorem LR_wd {b : Nat → Int32} {n : Nat} {s : PS} {h : Nat} {to : Int32} {t : Nat} {tw : Int64} {ba fa : Int32} {w : Nat} {a0 a1 a2 a3 a4 a5 a6 a7 : Int32} (q : LR b n s h to t tw ba fa) (h1 : w < 212) (h2 : 200 ≤ w) (hl : ∀ k, k < 8 → (strB (w - 199)).getD k 0 = [a0, a1, a2, a3, a4, a5, a6, a7].getD k 0) : wdP b t h to ba a0 a1 a2 a3 a4 a5 a6 a7 ↔ g_to s = nI w := by
  rw [← LR_word q h1 h2]
  constructor
  · rintro ⟨z1, z2, z3, y0, y1, y2, y3, y4, y5, y6, y7⟩
    refine ⟨z1, z2, spW_iff.mpr ((wd_iff (strB_ok w h1 h2).1 (strB_ok w h1 h2).2 (LR_lts q z1 z2)).mp ⟨z3, fun k hk => ?_⟩)⟩
    rw [hl k hk]
    match k, hk with
    | 0, _ => exact y0
    | 1, _ => exact y1
    | 2, _ => exact y2
    | 3, _ => exact y3
    | 4, _ => exact y4
    | 5, _ => exact y5
    | 6, _ => exact y6
    | 7, _ => exact y7
  · rintro ⟨z1, z2, z3⟩
    obtain ⟨y, z⟩ := (wd_iff (strB_ok w h1 h2).1 (strB_ok w h1 h2).2 (LR_lts q z1 z2)).mpr (spW_iff.mp z3)
    have zz : ∀ k, k < 8 → ltB b t h k ([a0, a1, a2, a3, a4, a5, a6, a7].getD k 0) = true := fun k hk => by rw [← hl k hk]; exact z k hk
    exact ⟨z1, z2, y, zz 0 (by decide), zz 1 (by decide), zz 2 (by decide), zz 3 (by decide), zz 4 (by decide), zz 5 (by decide), zz 6 (by decide), zz 7 (by decide)⟩
theorem i64_inj {x y : Int32} (h : x.toInt64 = y.toInt64) : x = y := by
  have := congrArg Int64.toInt h
  rw [Int32.toInt_toInt64, Int32.toInt_toInt64] at this
  exact Int32.toInt_inj.mp this
theorem LR_sign {b : Nat → Int32} {n : Nat} {s : PS} {h : Nat} {to : Int32} {t : Nat} {tw : Int64} {ba fa c : Int32} (q : LR b n s h to t tw ba fa) (hc : qSn c = true) : (ba = 0 ∧ to = 3 ∧ tw = c.toInt64) ↔ g_to s = c := by
  obtain ⟨-, -, -, ⟨q1, q2, q3, q4, q5⟩ | ⟨q1, q2, q5⟩⟩ := q
  · rcases q5 with ⟨e1, e2⟩ | ⟨e1, e2, -⟩ | ⟨e1, e2, e3⟩ | ⟨e1, e2, e3, e4, -⟩
    · constructor
      · rintro ⟨-, z, -⟩; rw [e2] at z; exact absurd z (by decide)
      · intro z; rw [← z, e1] at hc; exact absurd hc (by decide)
    · constructor
      · rintro ⟨-, z, -⟩; rw [e2] at z; exact absurd z (by decide)
      · intro z; rw [← z, e1] at hc; exact absurd hc (by decide)
    · rw [e3]
      exact ⟨fun z => i64_inj z.2.2, fun z => ⟨q2, e2, by rw [z]⟩⟩
    · constructor
      · rintro ⟨-, z, -⟩; rw [e3] at z; exact absurd z (by decide)
      · intro z
        rw [← z, qSn_iff] at hc
        rcases hc with e | e | e | e | e | e | e | e <;> (rw [e] at e1; exact absurd e1 (by decide))
  · constructor
    · rintro ⟨z1, z2, -⟩
      rcases q5 with ⟨e1, -⟩ | ⟨-, -, e1 | ⟨e1, -, -⟩⟩
      · rw [z1] at e1; exact absurd e1 (by decide)
      · rw [z2] at e1; exact absurd e1 (by decide)
      · rw [z2] at e1; exact absurd e1 (by decide)
    · intro z; rw [← z, q2] at hc; exact absurd hc (by decide)
theorem LR_num {b : Nat → Int32} {n : Nat} {s : PS} {h : Nat} {to : Int32} {t : Nat} {tw : Int64} {ba fa : Int32} (q : LR b n s h to t tw ba fa) : ((ba = 0 ∧ to = 2) ↔ g_to s = 1) ∧ (g_to s = 1 → tw.toInt32 = g_nu s ∧ ∃ m, m < 10000 ∧ g_nu s = nI m) := by
  obtain ⟨-, -, -, ⟨q1, q2, q3, q4, q5⟩ | ⟨q1, q2, q5⟩⟩ := q
  · rcases q5 with ⟨e1, e2⟩ | ⟨e1, e2, e3⟩ | ⟨e1, e2, e3⟩ | ⟨e1, e2, e3, e4, -⟩
    · rw [e1, e2]; exact ⟨⟨fun z => absurd z.2 (by decide), fun z => absurd z (by decide)⟩, fun z => absurd z (by decide)⟩
    · exact ⟨⟨fun _ => e1, fun _ => ⟨q2, e2⟩⟩, fun _ => e3⟩
    · have hne : ¬ g_to s = 1 := fun z => by rw [z] at e1; exact absurd e1 (by decide)
      exact ⟨⟨fun z => absurd z.2 (by rw [e2]; decide), fun z => absurd z hne⟩, fun z => absurd z hne⟩
    · have hne : ¬ g_to s = 1 := fun z => by rw [z] at e1; exact absurd e1 (by decide)
      exact ⟨⟨fun z => absurd z.2 (by rw [e3]; decide), fun z => absurd z hne⟩, fun z => absurd z hne⟩
  · have hne : ¬ g_to s = 1 := fun z => by rw [z] at q2; exact absurd q2 (by decide)
    refine ⟨⟨fun z => ?_, fun z => absurd z hne⟩, fun z => absurd z hne⟩
    rcases q5 with ⟨e1, -⟩ | ⟨-, -, e1 | ⟨e1, -, -⟩⟩
    · rw [z.1] at e1; exact absurd e1 (by decide)
    · rw [z.2] at e1; exact absurd e1 (by decide)
    · rw [z.2] at e1; exact absurd e1 (by decide)
/-- a word stands there, of names, of keys or of neither -/
theorem LR_isw {b : Nat → Int32} {n : Nat} {s : PS} {h : Nat} {to : Int32} {t : Nat} {tw : Int64} {ba fa : Int32} (q : LR b n s h to t tw ba fa) : ((ba = 0 ∧ to = 1) → (200 ≤ g_to s ∧ g_to s ≤ 211 ∧ g_fa s = -1) ∨ g_to s = 2) ∧ ((200 ≤ g_to s ∧ g_to s ≤ 211) → ba = 0 ∧ to = 1) := by
  obtain ⟨-, -, -, ⟨q1, q2, q3, q4, q5⟩ | ⟨q1, q2, q5⟩⟩ := q
  · rcases q5 with ⟨e1, e2⟩ | ⟨e1, e2, e3⟩ | ⟨e1, e2, e3⟩ | ⟨e1, e2, e3, e4, -⟩
    · rw [e1, e2]; exact ⟨fun z => absurd z.2 (by decide), fun z => absurd z.1 (by decide)⟩
    · rw [e1, e2]; exact ⟨fun z => absurd z.2 (by decide), fun z => absurd z.1 (by decide)⟩
    · refine ⟨fun z => absurd z.2 (by rw [e2]; decide), fun z => ?_⟩
      rw [qSn_iff] at e1
      rcases e1 with e | e | e | e | e | e | e | e <;> (rw [e] at z; exact absurd z.1 (by decide))
    · exact ⟨fun _ => Or.inl ⟨e1, e2, q1⟩, fun _ => ⟨q2, e3⟩⟩
  · exact ⟨fun _ => Or.inr q2, fun z => by rw [q2] at z; exact absurd z.1 (by decide)⟩
theorem LR_fail {b : Nat → Int32} {n : Nat} {s : PS} {h : Nat} {to : Int32} {t : Nat} {tw : Int64} {ba fa : Int32} (hn : n ≤ 160) (q : LR b n s h to t tw ba fa) : LR b n (rfu s) h to t tw 1 (if ba = 0 then nI t else fa) := by
  obtain ⟨q0, qh, qt, q⟩ := q
  rcases q with ⟨q1, q2, q3, q4, q5⟩ | ⟨q1, q2, q5⟩
  · have e : g_fa (rfu s) = nI (g_pl s) := by unfold rfu; show (if g_fa s = -1 then nI (g_pl s) else g_fa s) = _; rw [if_pos q1]
    have hp := nI_nm1 (k := g_pl s) (by have := q0.1; omega)
    refine ⟨⟨q0.1, q0.2.1, Or.inr ⟨by rw [e]; exact hp, rfl⟩⟩, qh, qt, Or.inr ⟨by rw [e]; exact hp, rfl, Or.inl ⟨rfl, ?_⟩⟩⟩
    rw [if_pos q2, e, q4]
  · rw [rfu_of q1 q2]
    refine ⟨q0, qh, qt, Or.inr ⟨q1, q2, Or.inl ⟨rfl, ?_⟩⟩⟩
    rcases q5 with ⟨e1, e2⟩ | ⟨e1, e2, -⟩
    · rw [e1, if_neg (by decide)]; exact e2
    · rw [if_pos e1]; exact e2
theorem LR_ba {b : Nat → Int32} {n : Nat} {s : PS} {h : Nat} {to : Int32} {t : Nat} {tw : Int64} {ba fa : Int32} (q : LR b n s h to t tw ba fa) : ba = 0 ∨ ba = 1 := by
  obtain ⟨-, -, -, ⟨-, q2, -⟩ | ⟨-, -, ⟨q2, -⟩ | ⟨q2, -⟩⟩⟩ := q
  · exact Or.inl q2
  · exact Or.inr q2
  · exact Or.inl q2
theorem LR_ok {b : Nat → Int32} {n : Nat} {s : PS} {h : Nat} {to : Int32} {t : Nat} {tw : Int64} {ba fa : Int32} (q : LR b n s h to t tw ba fa) (h2 : ¬ g_to s = 2) : g_fa s = -1 ∧ ba = 0 ∧ h = g_nx s ∧ t = g_pl s := by
  obtain ⟨-, -, -, ⟨q1, q2, q3, q4, q5⟩ | ⟨q1, q2, q5⟩⟩ := q
  · exact ⟨q1, q2, q3, q4⟩
  · exact absurd q2 h2
/-! the next token -/
theorem nuv_nI {b : Nat → Int32} : ∀ (k j a : Nat), (∀ i, j ≤ i → i < j + k → 48 ≤ b i ∧ b i ≤ 57) → k ≤ 4 → a < 10 ^ (4 - k) → ∃ m, m < 10000 ∧ nuv b k j (nI a) = nI m
  | 0, j, a, _, _, ha => ⟨a, by simpa using ha, rfl⟩
  | k + 1, j, a, h, hk, ha => by
    obtain ⟨h1, h2⟩ := h j (Nat.le_refl _) (by omega)
    obtain ⟨d, hd, e⟩ := nat_of (x := b j) (n := 58) (Int32.le_trans (by decide) h1) (Int32.lt_of_le_of_lt h2 (by decide)) (by decide)
    rw [e] at h1
    have hd2 : 48 ≤ d := (nI_leI (a := 48) (by decide) (by omega)).mp h1
    rw [nuv, e]
    have e2 : nI a * 10 + nI d - 48 = nI (a * 10 + (d - 48)) := by
      rw [show nI a * 10 = nI (a * 10) from pk_mul a 10, nI_add, show nI (a * 10 + d) - 48 = nI (a * 10 + d) - nI 48 from rfl, pk_sub (by omega), show a * 10 + d - 48 = a * 10 + (d - 48) by omega]
    rw [e2]
    refine nuv_nI k (j + 1) _ (fun i a1 a2 => h i (by omega) (by omega)) (by omega) ?_
    have : 4 - k = (4 - (k + 1)) + 1 := by omega
    rw [this, Nat.pow_succ]
    omega
theorem nuv_rng {b : Nat → Int32} {k j : Nat} (hk : k ≤ 4) (h : ∀ i, j ≤ i → i < j + k → 48 ≤ b i ∧ b i ≤ 57) : ∃ m, m < 10000 ∧ nuv b k j 0 = nI m :=
  nuv_nI k j 0 h hk (Nat.pow_pos (by decide))
theorem wtk_big {b : Nat → Int32} {j e : Nat} (h : ¬ wtk b j e 12 200 = 2) : (200 : Int32) ≤ wtk b j e 12 200 ∧ wtk b j e 12 200 ≤ 211 := by
  obtain ⟨v, h1, h2, h3⟩ := wtk_r h
  rw [h3]; exact nI_rng h1 h2
theorem LR_adv {b : Nat → Int32} {n : Nat} {s : PS} {h' : Nat} {to' : Int32} {t' : Nat} {tw' : Int64} {fa : Int32} (hn : n ≤ 160) (hf : g_fa s = -1) (hx : g_nx s ≤ n) (q : NX b n (spn qBk b (n - g_nx s) (g_nx s)) h' to' t' tw') : LR b n (adv b n s) h' to' t' tw' 0 fa := by
  obtain ⟨pl, nx, to, nu, f0, op, cz, co⟩ := s
  change f0 = -1 at hf
  subst hf
  change nx ≤ n at hx
  unfold adv
  change NX b n (spn qBk b (n - nx) nx) h' to' t' tw' at q
  show LR b n (ad1 b n (pl, nx, to, nu, -1, op, cz, co) (spn qBk b (n - nx) nx)) h' to' t' tw' 0 fa
  have hjn : spn qBk b (n - nx) nx ≤ n := sp_n hx
  generalize spn qBk b (n - nx) nx = j at q hjn ⊢
  unfold ad1
  rcases q with ⟨h1, rfl, rfl, rfl⟩ | ⟨h1, rfl, q⟩
  · rw [if_pos h1]
    have : h' = t' := by omega
    subst this
    exact ⟨⟨Nat.le_refl _, Nat.le_refl _, Or.inl ⟨rfl, (by decide : ¬ (0 : Int32) = 2), fun _ => Nat.le_refl _, fun z => absurd rfl z⟩⟩, Nat.le_refl _, Nat.le_refl _, Or.inl ⟨rfl, rfl, rfl, rfl, Or.inl ⟨rfl, rfl⟩⟩⟩
  · rw [if_neg (by omega)]
    have hp := nI_nm1 (k := t') (by omega)
    rcases q with ⟨l1, rfl, rfl⟩ | ⟨l1, l2, rfl, rfl, l3⟩ | ⟨l1, l2, l3, rfl, rfl, rfl⟩ | ⟨l1, l2, l3, rfl, rfl⟩
    · rw [if_pos l1]
      have he : spn qLt b (n - t') t' ≤ n := sp_n hjn
      have hgt : t' < spn qLt b (n - t') t' := by rw [spn_t h1 l1]; exact Nat.lt_of_lt_of_le (Nat.lt_succ_self _) (spn_ge _ _ _ _)
      have hL : LTS b t' (spn qLt b (n - t') t') := fun i a1 a2 => (qLt_iff.mp (spn_all qLt b (n - t') t' i a1 a2)).1
      generalize spn qLt b (n - t') t' = e at he hgt hL ⊢
      unfold adW
      by_cases hw : wtk b t' e 12 200 = 2
      · rw [if_pos hw]
        exact ⟨⟨hjn, he, Or.inr ⟨by show ¬ (if (-1 : Int32) = -1 then nI t' else -1) = -1; rw [if_pos rfl]; exact hp, rfl⟩⟩, he, hjn, Or.inr ⟨by show ¬ (if (-1 : Int32) = -1 then nI t' else -1) = -1; rw [if_pos rfl]; exact hp, rfl, Or.inr ⟨rfl, by show nI t' = (if (-1 : Int32) = -1 then nI t' else -1); rw [if_pos rfl], Or.inr ⟨rfl, hw, hL⟩⟩⟩⟩
      · rw [if_neg hw]
        have hb := wtk_big hw
        exact ⟨⟨hjn, he, Or.inl ⟨rfl, hw, fun z => by exfalso; change wtk b t' e 12 200 = 0 at z; rw [z] at hb; exact absurd hb.1 (by decide), fun _ => hgt⟩⟩, he, hjn, Or.inl ⟨rfl, rfl, rfl, rfl, Or.inr (Or.inr (Or.inr ⟨hb.1, hb.2, rfl, rfl, hL⟩))⟩⟩
    · rw [if_neg l1, if_pos l2]
      have he : spn qDt b (n - t') t' ≤ n := sp_n hjn
      have hgt : t' < spn qDt b (n - t') t' := by rw [spn_t h1 l2]; exact Nat.lt_of_lt_of_le (Nat.lt_succ_self _) (spn_ge _ _ _ _)
      have hall : ∀ i, t' ≤ i → i < spn qDt b (n - t') t' → 48 ≤ b i ∧ b i ≤ 57 := fun i a1 a2 => qDt_iff.mp (spn_all qDt b (n - t') t' i a1 a2)
      generalize spn qDt b (n - t') t' = e at he hgt l3 hall ⊢
      unfold adN
      by_cases hw : 4 < e - t'
      · rw [if_pos hw, if_pos hw]
        exact ⟨⟨hjn, he, Or.inr ⟨by show ¬ (if (-1 : Int32) = -1 then nI t' else -1) = -1; rw [if_pos rfl]; exact hp, rfl⟩⟩, he, hjn, Or.inr ⟨by show ¬ (if (-1 : Int32) = -1 then nI t' else -1) = -1; rw [if_pos rfl]; exact hp, rfl, Or.inr ⟨rfl, by show nI t' = (if (-1 : Int32) = -1 then nI t' else -1); rw [if_pos rfl], Or.inl rfl⟩⟩⟩
      · rw [if_neg hw, if_neg hw]
        exact ⟨⟨hjn, he, Or.inl ⟨rfl, (by decide : ¬ (1 : Int32) = 2), fun z => absurd z (by decide : ¬ (1 : Int32) = 0), fun _ => hgt⟩⟩, he, hjn, Or.inl ⟨rfl, rfl, rfl, rfl, Or.inr (Or.inl ⟨rfl, rfl, l3 (by omega), nuv_rng (by omega) (fun i a1 a2 => hall i a1 (by omega))⟩)⟩⟩
    · rw [if_neg l1, if_neg l2, if_pos l3]
      have hne : ¬ b t' = 2 ∧ ¬ b t' = 0 := ⟨fun z => by rw [z] at l3; exact absurd l3 (by decide), fun z => by rw [z] at l3; exact absurd l3 (by decide)⟩
      exact ⟨⟨hjn, h1, Or.inl ⟨rfl, hne.1, fun z => absurd z hne.2, fun _ => Nat.lt_succ_self _⟩⟩, h1, hjn, Or.inl ⟨rfl, rfl, rfl, rfl, Or.inr (Or.inr (Or.inl ⟨l3, rfl, rfl⟩))⟩⟩
    · rw [if_neg l1, if_neg l2, if_neg l3]
      exact ⟨⟨hjn, hjn, Or.inr ⟨by show ¬ (if (-1 : Int32) = -1 then nI h' else -1) = -1; rw [if_pos rfl]; exact hp, rfl⟩⟩, hjn, hjn, Or.inr ⟨by show ¬ (if (-1 : Int32) = -1 then nI h' else -1) = -1; rw [if_pos rfl]; exact hp, rfl, Or.inr ⟨rfl, by show nI h' = (if (-1 : Int32) = -1 then nI h' else -1); rw [if_pos rfl], Or.inl rfl⟩⟩⟩
