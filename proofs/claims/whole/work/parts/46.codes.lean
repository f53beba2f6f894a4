/-! what a piece of code is worth -/
def msg (nm co : Nat → Int32) : Nat → Nat → Nat → (Nat → Int32) → Option (Nat × (Nat → Int32))
  | 0, _, top, sk => some (top, sk)
  | n + 1, i, top, sk => match mstep nm (co i) top sk with
    | none => none
    | some q => msg nm co n (i + 1) q.1 q.2
theorem msg_s {nm co : Nat → Int32} {n i top t' : Nat} {sk s' : Nat → Int32} (h : mstep nm (co i) top sk = some (t', s')) : msg nm co (n + 1) i top sk = msg nm co n (i + 1) t' s' := by rw [msg, h]
theorem msg_add {nm co : Nat → Int32} : ∀ (a c i top : Nat) (sk : Nat → Int32) (t' : Nat) (s' : Nat → Int32), msg nm co a i top sk = some (t', s') → msg nm co (a + c) i top sk = msg nm co c (i + a) t' s'
  | 0, c, i, top, sk, t', s', h => by
    rw [msg] at h
    cases h
    rw [Nat.zero_add, Nat.add_zero]
  | a + 1, c, i, top, sk, t', s', h => by
    rw [show a + 1 + c = (a + c) + 1 by omega, msg]
    rw [msg] at h
    cases hm : mstep nm (co i) top sk with
    | none => rw [hm] at h; cases h
    | some q =>
      rw [hm] at h
      show msg nm co (a + c) (i + 1) q.1 q.2 = _
      rw [msg_add a c (i + 1) q.1 q.2 t' s' h, show i + 1 + a = i + (a + 1) by omega]
theorem msg_run {nm co : Nat → Int32} : ∀ (a i top : Nat) (sk : Nat → Int32) (t' : Nat) (s' : Nat → Int32), msg nm co a i top sk = some (t', s') → mrun nm co a i top sk = (s' 0, s')
  | 0, i, top, sk, t', s', h => by
    rw [msg] at h
    cases h
    rfl
  | a + 1, i, top, sk, t', s', h => by
    rw [msg] at h
    cases hm : mstep nm (co i) top sk with
    | none => rw [hm] at h; cases h
    | some q =>
      rw [hm] at h
      rw [mrun, hm]
      exact msg_run a (i + 1) q.1 q.2 t' s' h
theorem msg_cong {nm co co' : Nat → Int32} : ∀ (a i top : Nat) (sk : Nat → Int32), (∀ m, i ≤ m → m < i + a → co m = co' m) → msg nm co a i top sk = msg nm co' a i top sk
  | 0, i, top, sk, h => rfl
  | a + 1, i, top, sk, h => by
    rw [msg, msg, h i (Nat.le_refl _) (by omega)]
    cases mstep nm (co' i) top sk with
    | none => rfl
    | some q => exact msg_cong a (i + 1) q.1 q.2 (fun m h1 h2 => h m (by omega) (by omega))
/-- a piece of code puts v on the stack, whatever lies there -/
def GC (nm co : Nat → Int32) (i j : Nat) (v : Int32) : Prop := i < j ∧ j ≤ 160 ∧ ∀ (top : Nat) (sk : Nat → Int32), top ≤ i → ∃ sk', msg nm co (j - i) i top sk = some (top + 1, sk') ∧ sk' top = v ∧ ∀ m, m < top → sk' m = sk m
theorem GC.cong {nm co co' : Nat → Int32} {i j : Nat} {v : Int32} (h : GC nm co i j v) (hc : ∀ m, i ≤ m → m < j → co' m = co m) : GC nm co' i j v := by
  obtain ⟨h1, h2, h3⟩ := h
  refine ⟨h1, h2, fun top sk ht => ?_⟩
  rw [msg_cong (co' := co) (j - i) i top sk (fun m a1 a2 => hc m a1 (by omega))]
  exact h3 top sk ht
theorem GC.run {nm co : Nat → Int32} {i j : Nat} {v : Int32} (h : GC nm co i j v) (sk : Nat → Int32) : (mrun nm co (j - i) i 0 sk).1 = v := by
  obtain ⟨h1, h2, h3⟩ := h
  obtain ⟨s', e1, e2, -⟩ := h3 0 sk (Nat.zero_le _)
  rw [msg_run _ _ _ _ _ _ e1]
  exact e2
theorem one_sub (i : Nat) : i + 1 - i = 0 + 1 := by omega
theorem GC.lit {nm co : Nat → Int32} {i m : Nat} (hm : m < 10000) (hi : i < 160) (h : co i = nI m) : GC nm co i (i + 1) (nI m) := by
  refine ⟨by omega, by omega, fun top sk ht => ⟨upd sk top (nI m), ?_, pk_us, fun k hk => pk_un (by omega)⟩⟩
  have hneg : -nI m ≤ 0 := by
    rw [Int32.le_iff_toInt_le, Int32.toInt_neg, nI_toInt (by omega)]
    simp only [tI_0]
    rw [Int.bmod_eq_of_le (by omega) (by omega)]
    omega
  rw [one_sub, msg_s (t' := top + 1) (s' := upd sk top (nI m)), msg]
  rw [h]
  unfold mstep
  rw [if_pos (Or.inl hneg), if_neg (by omega), if_pos hneg, Int32.neg_neg]
theorem GC.name {nm co : Nat → Int32} {i : Nat} {w : Int32} (hw : 200 ≤ w ∧ w ≤ 205) (hi : i < 160) (h : co i = -w) : GC nm co i (i + 1) (nm (w - 200).toNatClampNeg) := by
  refine ⟨by omega, by omega, fun top sk ht => ⟨upd sk top (nm (w - 200).toNatClampNeg), ?_, pk_us, fun k hk => pk_un (by omega)⟩⟩
  have hneg : ¬ w ≤ 0 := fun q => absurd (Int32.le_trans hw.1 q) (by decide)
  rw [one_sub, msg_s (t' := top + 1) (s' := upd sk top (nm (w - 200).toNatClampNeg)), msg]
  rw [h]
  unfold mstep
  rw [Int32.neg_neg, if_pos (Or.inr hw), if_neg (by omega), if_neg hneg]
theorem j_sub {i j : Nat} (h : i < j) : j + 1 - i = (j - i) + 1 := by omega
theorem GC.neg {nm co : Nat → Int32} {i j : Nat} {v : Int32} (h : GC nm co i j v) (hj : j < 160) (hc : co j = -3) : GC nm co i (j + 1) (-v) := by
  obtain ⟨h1, h2, h3⟩ := h
  refine ⟨by omega, by omega, fun top sk ht => ?_⟩
  obtain ⟨s', e1, e2, e3⟩ := h3 top sk ht
  refine ⟨upd s' top (-v), ?_, pk_us, fun k hk => (pk_un (by omega)).trans (e3 k hk)⟩
  rw [j_sub h1, msg_add _ 1 _ _ _ _ _ e1, show i + (j - i) = j by omega, msg_s (t' := top + 1) (s' := upd s' top (-v)), msg]
  rw [hc]
  unfold mstep
  rw [if_neg (by decide), if_pos (by decide), if_neg (by omega), if_pos (by decide), show top + 1 - 1 = top by omega, e2]
theorem GC.nt {nm co : Nat → Int32} {i j : Nat} {v : Int32} (h : GC nm co i j v) (hj : j < 160) (hc : co j = -211) : GC nm co i (j + 1) (bi (v = 0)) := by
  obtain ⟨h1, h2, h3⟩ := h
  refine ⟨by omega, by omega, fun top sk ht => ?_⟩
  obtain ⟨s', e1, e2, e3⟩ := h3 top sk ht
  refine ⟨upd s' top (bi (v = 0)), ?_, pk_us, fun k hk => (pk_un (by omega)).trans (e3 k hk)⟩
  rw [j_sub h1, msg_add _ 1 _ _ _ _ _ e1, show i + (j - i) = j by omega, msg_s (t' := top + 1) (s' := upd s' top (bi (v = 0))), msg]
  rw [hc]
  unfold mstep
  rw [if_neg (by decide), if_pos (by decide), if_neg (by omega), if_neg (by decide), show top + 1 - 1 = top by omega, e2]
abbrev isOp (t : Int32) : Prop := t = 43 ∨ t = 45 ∨ t = 42 ∨ t = 60 ∨ t = 61 ∨ t = 209 ∨ t = 210
theorem op_facts {t : Int32} (h : isOp t) : ¬ t ≤ 0 ∧ ¬ (200 ≤ t ∧ t ≤ 205) ∧ ¬ t = 3 ∧ ¬ t = 211 := by
  rcases h with rfl | rfl | rfl | rfl | rfl | rfl | rfl <;> decide +kernel
theorem GC.bin {nm co : Nat → Int32} {i j k : Nat} {v w t : Int32} (h : GC nm co i j v) (g : GC nm co j k w) (hk : k < 160) (ht : isOp t) (hc : co k = -t) : GC nm co i (k + 1) (jn t v w) := by
  obtain ⟨h1, h2, h3⟩ := h
  obtain ⟨g1, g2, g3⟩ := g
  obtain ⟨o2, o3, o4, o5⟩ := op_facts ht
  refine ⟨by omega, by omega, fun top sk htp => ?_⟩
  obtain ⟨s1, e1, e2, e3⟩ := h3 top sk htp
  obtain ⟨s2, f1, f2, f3⟩ := g3 (top + 1) s1 (by omega)
  refine ⟨upd s2 top (jn t v w), ?_, pk_us, fun m hm => (pk_un (by omega)).trans ((f3 m (by omega)).trans (e3 m hm))⟩
  rw [show k + 1 - i = (j - i) + ((k - j) + 1) by omega, msg_add _ _ _ _ _ _ _ e1, show i + (j - i) = j by omega, msg_add _ 1 _ _ _ _ _ f1, show j + (k - j) = k by omega, msg_s (t' := top + 1) (s' := upd s2 top (jn t v w)), msg]
  rw [hc]
  unfold mstep
  rw [Int32.neg_neg, if_neg (by rintro (q | q); exact o2 q; exact o3 q), if_neg (by rintro (q | q); exact o4 q; exact o5 q), if_neg (by omega), show top + 1 + 1 - 1 = top + 1 by omega, show top + 1 + 1 - 2 = top by omega, f2, f3 top (by omega), e2]
/-- what the reference has read of one piece: the worth of the code that the pure reader laid -/
def VR (nm : Nat → Int32) (c0 : Nat) (s : PS) (x : Int32) : Prop := g_fa s = -1 → GC nm (g_co s) c0 (g_cz s) x
