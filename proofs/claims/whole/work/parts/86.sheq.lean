/-! sheets: what the two sides have in common -/
def SEq (H : MH) (F : Nat → ST) : Prop := ∀ k, k < 4 → ∃ m, m ≤ 40 ∧ (F k).2.1 = nI m ∧ (H.1 k = 0 ↔ (F k).1 = -1) ∧ (¬ H.1 k = 0 → H.2.1 k = (F k).1 ∧ H.2.2.1 k = nI m ∧ ∀ j, j < m → H.2.2.2 (40 * k + j) = (F k).2.2 j)
section SHE
variable {H : MH} {F : Nat → ST}
theorem SEq.hss (h : SEq H F) : ∀ k, k < 4 → ¬ H.1 k = 0 → ∃ m, m ≤ 40 ∧ H.2.2.1 k = nI m := fun k hk q => by
  obtain ⟨m, h1, -, -, h4⟩ := h k hk
  exact ⟨m, h1, (h4 q).2.1⟩
theorem SEq.hsz (h : SEq H F) : ∀ k, k < 4 → ∃ m, m ≤ 40 ∧ (F k).2.1 = nI m := fun k hk => by
  obtain ⟨m, h1, h2, -⟩ := h k hk
  exact ⟨m, h1, h2⟩
theorem SEq.hle (h : SEq H F) : ∀ k, k < 4 → (F k).2.1 ≤ nI 40 := fun k hk => by
  obtain ⟨m, h1, h2, -⟩ := h k hk
  rw [h2]; exact nI_le h1 (by decide)
/-- one sheet changes, in its own forty places -/
theorem SEq.one {H' : MH} {k : Nat} {x : ST} (h : SEq H F) (h1 : ∀ j, ¬ j = k → H'.1 j = H.1 j ∧ H'.2.1 j = H.2.1 j ∧ H'.2.2.1 j = H.2.2.1 j) (h2 : ∀ j i, j < 4 → ¬ j = k → i < 40 → H'.2.2.2 (40 * j + i) = H.2.2.2 (40 * j + i)) (hk : ∃ m, m ≤ 40 ∧ x.2.1 = nI m ∧ (H'.1 k = 0 ↔ x.1 = -1) ∧ (¬ H'.1 k = 0 → H'.2.1 k = x.1 ∧ H'.2.2.1 k = nI m ∧ ∀ j, j < m → H'.2.2.2 (40 * k + j) = x.2.2 j)) : SEq H' (shU F k x) := by
  intro j hj
  by_cases e : j = k
  · subst e
    rw [shU_s]; exact hk
  · rw [shU_n _ _ e]
    obtain ⟨m, a1, a2, a3, a4⟩ := h j hj
    obtain ⟨b1, b2, b3⟩ := h1 j e
    refine ⟨m, a1, a2, by rw [b1]; exact a3, fun q => ?_⟩
    rw [b1] at q
    obtain ⟨c1, c2, c3⟩ := a4 q
    exact ⟨b2.trans c1, b3.trans c2, fun i hi => (h2 j i hj e (by omega)).trans (c3 i hi)⟩
theorem so3 {x : Int32} (h : 0 ≤ x) : ¬ x = -1 := fun e => by rw [e] at h; exact absurd h (by decide)
theorem SEq.sheet {S : CS} (h : SEq H (s_sh S)) (a so n : Int32) : SEq (shH H a so n) (s_sh (shS S a so n)) := by
  unfold shH shS
  by_cases q : shF a so n = 1
  · rw [if_pos q, if_pos q]
    have hb : ¬ shBad a so := fun y => by unfold shF at q; rw [if_pos y] at q; exact absurd q (by decide)
    have ha : 0 ≤ a ∧ a < 4 := Classical.byContradiction (fun y => hb (Or.inl y))
    obtain ⟨k, hk, rfl⟩ := nat_of ha.1 (show a < nI 4 from ha.2) (by omega)
    rw [nI_clamp (by omega)]
    show SEq _ (shU (s_sh S) k (so, (if so = -1 then 0 else n), zrow 40 (s_sh S k).2.2))
    refine h.one (fun j e => ⟨pk_un e, pk_un e, pk_un e⟩) (fun j i hj e hi => ?_) ?_
    · by_cases w : so < 0
      · show (if so < 0 then H.2.2.2 else zrM H.2.2.2 k n.toNatClampNeg) (40 * j + i) = _
        rw [if_pos w]
      · show (if so < 0 then H.2.2.2 else zrM H.2.2.2 k n.toNatClampNeg) (40 * j + i) = _
        rw [if_neg w]
        have hn40 : ¬ 40 < n := fun y => by
          unfold shF at q
          rw [if_neg hb, if_neg (so3 (Int32.not_lt.mp w)), if_pos y] at q
          exact absurd q (by decide)
        have hn0 : ¬ n < 0 := fun y => by
          unfold shF at q
          rw [if_neg hb, if_neg (so3 (Int32.not_lt.mp w)), if_neg hn40, if_pos y] at q
          exact absurd q (by decide)
        obtain ⟨m, hm, rfl⟩ := nat_of (n := 41) (Int32.not_lt.mp hn0) (Int32.lt_of_le_of_lt (Int32.not_lt.mp hn40) (by decide)) (by decide)
        rw [nI_clamp (by omega)]
        unfold zrM
        rw [if_neg (by omega)]
    · by_cases w : so = -1
      · subst w
        refine ⟨0, by omega, by rw [if_pos rfl]; rfl, ?_, ?_⟩
        · show upd H.1 k (if (-1 : Int32) < 0 then 0 else 1) k = 0 ↔ (-1 : Int32) = -1
          rw [pk_us, if_pos (by decide)]
          exact ⟨fun _ => rfl, fun _ => rfl⟩
        · intro y
          exact absurd (show upd H.1 k (if (-1 : Int32) < 0 then 0 else 1) k = 0 by rw [pk_us, if_pos (by decide)]) y
      · have hs : 0 ≤ so ∧ so ≤ 2 := Classical.byContradiction (fun y => hb (Or.inr ⟨w, y⟩))
        have hn40 : ¬ 40 < n := fun y => by
          unfold shF at q
          rw [if_neg hb, if_neg w, if_pos y] at q
          exact absurd q (by decide)
        have hn0 : ¬ n < 0 := fun y => by
          unfold shF at q
          rw [if_neg hb, if_neg w, if_neg hn40, if_pos y] at q
          exact absurd q (by decide)
        obtain ⟨m, hm, rfl⟩ := nat_of (n := 41) (Int32.not_lt.mp hn0) (Int32.lt_of_le_of_lt (Int32.not_lt.mp hn40) (by decide)) (by decide)
        have ws : ¬ so < 0 := Int32.not_lt.mpr hs.1
        refine ⟨m, by omega, by rw [if_neg w], ?_, fun _ => ⟨pk_us, pk_us, fun j hj => ?_⟩⟩
        · show upd H.1 k (if so < 0 then 0 else 1) k = 0 ↔ so = -1
          rw [pk_us, if_neg ws]
          exact ⟨fun y => absurd y (by decide), fun y => absurd y w⟩
        · show (if so < 0 then H.2.2.2 else zrM H.2.2.2 k (nI m).toNatClampNeg) (40 * k + j) = zrow 40 (s_sh S k).2.2 j
          rw [if_neg ws, nI_clamp (by omega), zrow_at, if_pos (by omega)]
          unfold zrM
          rw [if_pos (by omega)]
  · rw [if_neg q, if_neg q]; exact h
theorem ce_eq {S : CS} (h : SEq H (s_sh S)) (a i : Int32) : ceF S a i = ceM H a i := by
  unfold ceF ceM
  by_cases ha : 0 ≤ a ∧ a < 4
  · rw [if_neg (fun y : ¬ (0 ≤ a ∧ a < 4) => y ha), if_neg (fun y : ¬ (0 ≤ a ∧ a < 4) => y ha)]
    obtain ⟨k, hk, rfl⟩ := nat_of ha.1 (show a < nI 4 from ha.2) (by omega)
    rw [nI_clamp (by omega)]
    obtain ⟨m, h1, h2, h3, h4⟩ := h k hk
    by_cases q : H.1 k = 0
    · rw [if_pos q, if_pos (h3.mp q)]
    · rw [if_neg q, if_neg (fun y => q (h3.mpr y)), h2, (h4 q).2.1]
  · rw [if_pos ha, if_pos ha]
theorem SEq.cell {S : CS} (h : SEq H (s_sh S)) (a i v : Int32) : SEq (ceH H a i v) (s_sh (ceS S a i v)) := by
  unfold ceH ceS
  rw [ce_eq h]
  by_cases q : ceM H a i = 1
  · rw [if_pos q, if_pos q]
    have ha : 0 ≤ a ∧ a < 4 := Classical.byContradiction (fun y => by unfold ceM at q; rw [if_pos y] at q; exact absurd q (by decide))
    obtain ⟨k, hk, rfl⟩ := nat_of ha.1 (show a < nI 4 from ha.2) (by omega)
    have hck : (nI k).toNatClampNeg = k := nI_clamp (by omega)
    rw [hck]
    obtain ⟨m, h1, h2, h3, h4⟩ := h k hk
    have h0 : ¬ H.1 k = 0 := fun y => by
      unfold ceM at q; rw [if_neg (fun w => w ha), hck, if_pos y] at q; exact absurd q (by decide)
    obtain ⟨c1, c2, c3⟩ := h4 h0
    have hi : 0 ≤ i ∧ i < nI m := Classical.byContradiction (fun y => by
      unfold ceM at q; rw [if_neg (fun w => w ha), hck, if_neg h0, c2, if_pos y] at q; exact absurd q (by decide))
    obtain ⟨x, hx, rfl⟩ := nat_of hi.1 hi.2 (by omega)
    rw [nI_clamp (by omega), c1]
    show SEq _ (shU (s_sh S) k ((s_sh S k).1, (s_sh S k).2.1, upd (s_sh S k).2.2 x (wrV (s_sh S k).1 v)))
    refine h.one (fun _ _ => ⟨rfl, rfl, rfl⟩) (fun j i hj e hi => pk_un (by omega)) ⟨m, h1, h2, h3, fun _ => ⟨c1, c2, fun j hj => ?_⟩⟩
    by_cases e : j = x
    · subst e
      show upd H.2.2.2 (40 * k + j) _ (40 * k + j) = upd _ j _ j
      rw [pk_us, pk_us]
    · show upd H.2.2.2 (40 * k + x) _ (40 * k + j) = upd _ x _ j
      rw [pk_un (by omega), pk_un e]; exact c3 j hj
  · rw [if_neg q, if_neg q]; exact h
theorem fiM_at (is : Nat → Int32) (k : Nat) (th : Nat → Int32) : ∀ n, n ≤ 8 → ∀ x, fiM is k th n x = if 40 * k ≤ x ∧ x < 40 * k + n then th (x - 40 * k) else zrM is k 8 x
  | 0, _, x => by
    unfold fiM
    rw [if_neg (by omega)]
  | n + 1, hn, x => by
    unfold fiM
    by_cases e : x = 40 * k + n
    · subst e
      rw [pk_us, if_pos (by omega)]
      congr 1
      omega
    · rw [pk_un e, fiM_at is k th n (by omega) x]
      have e2 : (40 * k ≤ x ∧ x < 40 * k + (n + 1)) = (40 * k ≤ x ∧ x < 40 * k + n) := propext ⟨fun y => by omega, fun y => by omega⟩
      simp only [e2]
theorem FR_at {FR : Nat → Nat → Int32} {th : Nat → Int32} (f1 : ∀ i, FR (i + 1) = upd (FR i) i (th i)) : ∀ n j, j < n → FR n j = th j
  | 0, j, h => absurd h (by omega)
  | n + 1, j, h => by
    rw [f1]
    by_cases e : j = n
    · subst e; rw [pk_us]
    · rw [pk_un e]; exact FR_at f1 n j (by omega)
theorem SEq.film {S : CS} {k : Nat} {th : Nat → Int32} {row : Nat → Int32} (h : SEq H (s_sh S)) (hk : k < 4) (hr : ∀ j, j < 8 → row j = th j) : SEq (fiH H k th) (shU (s_sh S) k (0, 8, row)) := by
  refine h.one (fun j e => ⟨pk_un e, pk_un e, pk_un e⟩) (fun j i hj e hi => ?_) ⟨8, by omega, rfl, ?_, fun _ => ⟨pk_us, pk_us, fun j hj => ?_⟩⟩
  · show fiM H.2.2.2 k th 8 (40 * j + i) = _
    rw [fiM_at _ _ _ 8 (Nat.le_refl _), if_neg (by omega)]
    unfold zrM
    rw [if_neg (by omega)]
  · show upd H.1 k 1 k = 0 ↔ (0 : Int32) = -1
    rw [pk_us]
    exact ⟨fun y => absurd y (by decide), fun y => absurd y (by decide)⟩
  · show fiM H.2.2.2 k th 8 (40 * k + j) = row j
    rw [fiM_at _ _ _ 8 (Nat.le_refl _), if_pos (by omega), hr j hj]
    congr 1
    omega
theorem cp_ok {b i n : Int32} {m : Nat} (hb : b = nI m) (hm : m ≤ 40) : rnC b i n ↔ (0 ≤ n ∧ 0 ≤ i ∧ i ≤ b - n) := by
  constructor
  · rintro ⟨h1, h2, h3, h4⟩; exact ⟨h2, h1, h4⟩
  · rintro ⟨h1, h2, h3⟩
    refine ⟨h2, h1, ?_, h3⟩
    have e3 : b.toInt = (m : Int) := by rw [hb]; exact nI_toInt (by omega)
    rw [Int32.le_iff_toInt_le, tI_0] at h1 h2
    rw [Int32.le_iff_toInt_le] at h3 ⊢
    have h5 := Int32.toInt_lt n
    rw [Int32.toInt_sub, Int.bmod_eq_of_le (by omega) (by omega)] at h3
    omega
theorem cp_B4 {S : CS} (h : SEq H (s_sh S)) {k q : Nat} (hk : k < 4) (hq : q < 4) (h1 : ¬ H.1 k = 0) (h2 : ¬ H.1 q = 0) (i j n : Int32) : (¬ rnC (s_sh S k).2.1 i n ∨ ¬ rnC (s_sh S q).2.1 j n) ↔ ¬ (0 ≤ n ∧ 0 ≤ i ∧ 0 ≤ j ∧ i ≤ H.2.2.1 k - n ∧ j ≤ H.2.2.1 q - n) := by
  obtain ⟨m1, a1, a2, -, a4⟩ := h k hk
  obtain ⟨m2, b1, b2, -, b4⟩ := h q hq
  rw [cp_ok a2 a1, cp_ok b2 b1, (a4 h1).2.1, (b4 h2).2.1, a2, b2]
  constructor
  · rintro (y | y) ⟨z1, z2, z3, z4, z5⟩
    · exact y ⟨z1, z2, z4⟩
    · exact y ⟨z1, z3, z5⟩
  · intro y
    by_cases w : 0 ≤ n ∧ 0 ≤ i ∧ i ≤ nI m1 - n
    · exact Or.inr (fun z => y ⟨w.1, w.2.1, z.2.1, w.2.2, z.2.2⟩)
    · exact Or.inl w
theorem cp_eq {S : CS} (h : SEq H (s_sh S)) (s i t j n : Int32) : cpA S s i t j n = cyM H s i t j n := by
  unfold cpA cyM
  by_cases h1 : cpB1 s t
  · rw [if_pos h1, if_pos (show ¬ (0 ≤ s ∧ s < 4) ∨ ¬ (0 ≤ t ∧ t < 4) from h1)]
  rw [if_neg h1, if_neg (show ¬ (¬ (0 ≤ s ∧ s < 4) ∨ ¬ (0 ≤ t ∧ t < 4)) from h1)]
  have hs : 0 ≤ s ∧ s < 4 := Classical.byContradiction (fun y => h1 (Or.inl y))
  have ht : 0 ≤ t ∧ t < 4 := Classical.byContradiction (fun y => h1 (Or.inr y))
  obtain ⟨k, hk, rfl⟩ := nat_of hs.1 (show s < nI 4 from hs.2) (by omega)
  obtain ⟨q, hq, rfl⟩ := nat_of ht.1 (show t < nI 4 from ht.2) (by omega)
  unfold cpB2 cpB3 cpB4
  rw [nI_clamp (by omega), nI_clamp (by omega)]
  obtain ⟨m1, a1, a2, a3, a4⟩ := h k hk
  obtain ⟨m2, b1, b2, b3, b4⟩ := h q hq
  by_cases h2 : H.1 k = 0 ∨ H.1 q = 0
  · rw [if_pos h2, if_pos (h2.imp a3.mp b3.mp)]
  rw [if_neg h2, if_neg (fun y => h2 (y.imp a3.mpr b3.mpr))]
  have k0 : ¬ H.1 k = 0 := fun y => h2 (Or.inl y)
  have q0 : ¬ H.1 q = 0 := fun y => h2 (Or.inr y)
  rw [(a4 k0).1, (b4 q0).1]
  by_cases h3 : ¬ (s_sh S k).1 = (s_sh S q).1
  · rw [if_pos h3, if_pos h3]
  rw [if_neg h3, if_neg h3]
  have e := cp_B4 h hk hq k0 q0 i j n
  by_cases h4 : ¬ rnC (s_sh S k).2.1 i n ∨ ¬ rnC (s_sh S q).2.1 j n
  · rw [if_pos h4, if_pos (e.mp h4)]
  · rw [if_neg h4, if_neg (fun y => h4 (e.mpr y))]
theorem SEq.copy_n {S : CS} (h : SEq H (s_sh S)) {s i t j n : Int32} (hg : ¬ cyG H s i t j n) : cpW S s i t j n = S := by
  unfold cpW
  by_cases w : cpB1 s t ∨ cpB2 S s t ∨ cpB3 S s t ∨ cpB4 S s i t j n
  · rw [if_pos w]
  · refine absurd ?_ hg
    have hs : 0 ≤ s ∧ s < 4 := Classical.byContradiction (fun y => w (Or.inl (Or.inl y)))
    have ht : 0 ≤ t ∧ t < 4 := Classical.byContradiction (fun y => w (Or.inl (Or.inr y)))
    have w2 : ¬ cpB2 S s t := fun y => w (Or.inr (Or.inl y))
    have w3 : ¬ cpB3 S s t := fun y => w (Or.inr (Or.inr (Or.inl y)))
    have w4 : ¬ cpB4 S s i t j n := fun y => w (Or.inr (Or.inr (Or.inr y)))
    obtain ⟨k, hk, rfl⟩ := nat_of hs.1 (show s < nI 4 from hs.2) (by omega)
    obtain ⟨q, hq, rfl⟩ := nat_of ht.1 (show t < nI 4 from ht.2) (by omega)
    unfold cpB2 at w2
    unfold cpB3 at w3
    unfold cpB4 at w4
    rw [nI_clamp (by omega), nI_clamp (by omega)] at w2 w3 w4
    obtain ⟨m1, a1, a2, a3, a4⟩ := h k hk
    obtain ⟨m2, b1, b2, b3, b4⟩ := h q hq
    have k0 : ¬ H.1 k = 0 := fun y => w2 (Or.inl (a3.mp y))
    have q0 : ¬ H.1 q = 0 := fun y => w2 (Or.inr (b3.mp y))
    unfold cyG
    rw [nI_clamp (by omega), nI_clamp (by omega)]
    refine ⟨hs, ht, k0, q0, ?_, Classical.byContradiction (fun y => w4 ((cp_B4 h hk hq k0 q0 i j n).mpr y))⟩
    rw [(a4 k0).1, (b4 q0).1]
    exact Classical.byContradiction w3
theorem SEq.copy {S : CS} (h : SEq H (s_sh S)) {s i t j n : Int32} (hg : cyG H s i t j n) : SEq (cyH H s i t j n) (s_sh (cpW S s i t j n)) := by
  obtain ⟨hs, ht, k0, q0, hso, hr⟩ := hg
  obtain ⟨k, hk, rfl⟩ := nat_of hs.1 (show s < nI 4 from hs.2) (by omega)
  obtain ⟨q, hq, rfl⟩ := nat_of ht.1 (show t < nI 4 from ht.2) (by omega)
  have ck : (nI k).toNatClampNeg = k := nI_clamp (by omega)
  have cq : (nI q).toNatClampNeg = q := nI_clamp (by omega)
  rw [ck] at k0
  rw [cq] at q0
  rw [ck, cq] at hso hr
  obtain ⟨m1, a1, a2, a3, a4⟩ := h k hk
  obtain ⟨m2, b1, b2, b3, b4⟩ := h q hq
  have h4 : ¬ (¬ rnC (s_sh S k).2.1 i n ∨ ¬ rnC (s_sh S q).2.1 j n) := fun y => (cp_B4 h hk hq k0 q0 i j n).mp y hr
  have hw : ¬ (cpB1 (nI k) (nI q) ∨ cpB2 S (nI k) (nI q) ∨ cpB3 S (nI k) (nI q) ∨ cpB4 S (nI k) i (nI q) j n) := by
    unfold cpB2 cpB3 cpB4
    rw [ck, cq]
    rintro (y | y | y | y)
    · exact y.elim (fun z => z hs) (fun z => z ht)
    · exact y.elim (fun z => k0 (a3.mpr z)) (fun z => q0 (b3.mpr z))
    · exact y (by rw [← (a4 k0).1, ← (b4 q0).1]; exact hso)
    · exact h4 y
  unfold cpW
  rw [if_neg hw, ck, cq]
  have r1 : rnC (s_sh S k).2.1 i n := Classical.byContradiction (fun y => h4 (Or.inl y))
  have r2 : rnC (s_sh S q).2.1 j n := Classical.byContradiction (fun y => h4 (Or.inr y))
  have f1 := (rn_iff a2 a1 r1.1 r1.2.1).mp r1.2.2
  have f2 := (rn_iff b2 b1 r2.1 r2.2.1).mp r2.2.2
  unfold cyH
  rw [ck, cq]
  generalize i.toNatClampNeg = x at f1 ⊢
  generalize j.toNatClampNeg = y at f2 ⊢
  generalize n.toNatClampNeg = c at f1 f2 ⊢
  show SEq _ (shU (s_sh S) q ((s_sh S q).1, (s_sh S q).2.1, va_cpy (s_sh S k).2.2 (s_sh S q).2.2 x y c))
  refine h.one (fun _ _ => ⟨rfl, rfl, rfl⟩) (fun j' i' hj e hi => ?_) ⟨m2, b1, b2, b3, fun _ => ⟨(b4 q0).1, (b4 q0).2.1, fun j' hj => ?_⟩⟩
  · show mvA H.2.2.2 (40 * k + x) (40 * q + y) c (40 * j' + i') = _
    unfold mvA
    rw [if_neg (by omega)]
  · show mvA H.2.2.2 (40 * k + x) (40 * q + y) c (40 * q + j') = va_cpy (s_sh S k).2.2 (s_sh S q).2.2 x y c j'
    unfold mvA va_cpy
    by_cases w : y ≤ j' ∧ j' < y + c
    · rw [if_pos w, if_pos (by omega)]
      exact (congrArg H.2.2.2 (show 40 * q + j' - (40 * q + y) + (40 * k + x) = 40 * k + (x + (j' - y)) by omega)).trans ((a4 k0).2.2 (x + (j' - y)) (by omega))
    · rw [if_neg w, if_neg (by omega)]; exact (b4 q0).2.2 j' hj
end SHE
