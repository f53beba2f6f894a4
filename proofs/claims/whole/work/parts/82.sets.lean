/-! what sets of hours cost, and how many are hazy by them -/
theorem prM_bit {co : Nat → Int32} {s n : Nat} (hn : n < 31) : prM co (nI s) n = if s.testBit n = true then co n else 0 := by
  unfold prM
  by_cases h : s.testBit n = true
  · rw [if_pos h, if_pos ((sel_1 hn).mpr (by rw [b_nI s (by omega)]; exact h))]
  · rw [if_neg h, if_neg (fun y => h (by rw [← b_nI s (by omega)]; exact (sel_1 hn).mp y))]
theorem ss2_out {st g : Nat → Int32} {h j : Nat} (hj : j < 2 ^ h) : ∀ n, ss2 st h g n j = g j
  | 0 => rfl
  | n + 1 => by
    unfold ss2
    rw [pk_un (by omega), ss2_out hj n]
theorem ss2_in {st g : Nat → Int32} {h s : Nat} : ∀ n, s < n → n ≤ 2 ^ h → ss2 st h g n (2 ^ h + s) = g s + st h
  | 0, h1, _ => absurd h1 (by omega)
  | n + 1, h1, h2 => by
    unfold ss2
    by_cases e : s = n
    · subst e; rw [pk_us, ss2_out (by omega)]
    · rw [pk_un (by omega)]; exact ss2_in n (by omega) (by omega)
theorem ss1_at {st g : Nat → Int32} {x : Int32} : ∀ h, h ≤ 8 → ∀ s, s < 2 ^ h → ss1 st x g h s = x + sumI (prM st (nI s)) h
  | 0, _, s, hs => by
    have : s = 0 := by simpa using hs
    subst this
    unfold ss1
    rw [pk_us]
    exact (Int32.add_zero x).symm
  | h + 1, hh, s, hs => by
    unfold ss1
    show _ = x + (sumI (prM st (nI s)) h + prM st (nI s) h)
    rw [prM_bit (by omega)]
    by_cases q : s < 2 ^ h
    · rw [ss2_out q, ss1_at h (by omega) s q, if_neg (by rw [Nat.testBit_lt_two_pow q]; decide), Int32.add_zero]
    · obtain ⟨s', rfl⟩ : ∃ s', s = 2 ^ h + s' := ⟨s - 2 ^ h, by omega⟩
      have hs' : s' < 2 ^ h := by rw [Nat.pow_succ] at hs; omega
      rw [ss2_in (2 ^ h) hs' (Nat.le_refl _), ss1_at h (by omega) s' hs', if_pos (by rw [Nat.testBit_two_pow_add_eq, Nat.testBit_lt_two_pow hs']; rfl), Int32.add_assoc]
      congr 2
      refine sumI_cong (fun i hi => ?_)
      rw [prM_bit (by omega), prM_bit (by omega), Nat.testBit_two_pow_add_gt hi]
theorem ssA_at {st g : Nat → Int32} {x : Int32} {s : Nat} (hs : s < 256) : ssA st x g s = x + PRF st s := ss1_at 8 (Nat.le_refl _) s hs
theorem PRF_cong {a b : Nat → Int32} {s : Nat} (h : ∀ i, i < 8 → a i = b i) : PRF a s = PRF b s := by
  unfold PRF
  refine sumI_cong (fun i hi => ?_)
  rw [prM_bit (by omega), prM_bit (by omega), h i hi]
theorem stW_at {d g : Nat → Int32} : ∀ n j, j < n → stW d g n j = d j
  | 0, j, h => absurd h (by omega)
  | n + 1, j, h => by
    unfold stW
    by_cases e : j = n
    · subst e; rw [pk_us]
    · rw [pk_un e]; exact stW_at n j (by omega)
theorem stA_at {d g : Nat → Int32} {j : Nat} (h : j < 8) : stA d g j = d j := stW_at 8 j h
theorem chF_at {li : Int32} {me hz : Nat → Int32} : ∀ n s, chF li me hz n s = if s < n then hz s + bi (li ≤ me s) else hz s
  | 0, s => rfl
  | n + 1, s => by
    unfold chF
    by_cases e : s = n
    · subst e
      rw [if_pos (Nat.lt_succ_self s)]
      by_cases q : li ≤ me s
      · rw [if_pos q, pk_us, chF_at s s, if_neg (Nat.lt_irrefl s), bi_t q]
      · rw [if_neg q, chF_at s s, if_neg (Nat.lt_irrefl s), bi_f q, Int32.add_zero]
    · have e2 : (s < n + 1) = (s < n) := propext ⟨fun y => by omega, fun y => by omega⟩
      simp only [e2]
      rw [← chF_at n s]
      by_cases q : li ≤ me n
      · rw [if_pos q, pk_un e]
      · rw [if_neg q]
theorem th_me {τ : TV} {O : OT} {m m' : Int32} {r p h : Nat} (hh : h < 31) (hb : bt m h = bt m' h) : thF τ (uo_me O m) r p h = thF τ (uo_me O m') r p h := by
  have e : o_mAt (uo_me O m) (nI h) = o_mAt (uo_me O m') (nI h) := by
    unfold o_mAt
    show (m >>> (nI h &&& 31)) &&& 1 = (m' >>> (nI h &&& 31)) &&& 1
    rw [b_and1 hh, b_and1 hh, hb]
  unfold thF nmH kn2
  rw [e]
  rfl
theorem sumI_add (f g : Nat → Int32) : ∀ n, sumI (fun h => f h + g h) n = sumI f n + sumI g n
  | 0 => rfl
  | n + 1 => by
    show sumI (fun h => f h + g h) n + (f n + g n) = (sumI f n + f n) + (sumI g n + g n)
    rw [sumI_add f g n]
    rw [Int32.add_assoc, Int32.add_assoc, ← Int32.add_assoc (sumI g n), Int32.add_comm (sumI g n) (f n), Int32.add_assoc]
theorem mo_set {τ : TV} {O : OT} {r p s : Nat} : moF τ (uo_me O (o_me O ||| nI s)) r p = moF τ O r p + PRF (fun h => thF τ (uo_me O 255) r p h - thF τ O r p h) s := by
  unfold moF PRF
  rw [← sumI_add]
  refine sumI_cong (fun h hh => ?_)
  rw [prM_bit (by omega)]
  by_cases q : s.testBit h = true
  · rw [if_pos q, th_me (m' := 255) (by omega) (by rw [b_or, b_nI s (by omega), q, Bool.or_true, b_255, decide_eq_true hh]), Int32.add_comm, Int32.sub_add_cancel]
  · rw [if_neg q, Int32.add_zero, th_me (m' := o_me O) (by omega) (by rw [b_or, b_nI s (by omega), Bool.eq_false_iff.mpr q, Bool.or_false])]
/-- what is weighed, person by person -/
def wr3 (τ : TV) (A T : OT) (r z : Nat) (g0 m0 h0 : Nat → Int32) : Nat → (Nat → Int32) × (Nat → Int32) × (Nat → Int32)
  | 0 => (stA (fun h => coF τ A r z h) g0, m0, zrA h0)
  | p + 1 => (stA (fun h => thF τ (uo_me T 255) r p h - thF τ A r p h) (wr3 τ A T r z g0 m0 h0 p).1, ssA (stA (fun h => thF τ (uo_me T 255) r p h - thF τ A r p h) (wr3 τ A T r z g0 m0 h0 p).1) (moF τ A r p) (wr3 τ A T r z g0 m0 h0 p).2.1, chA (o_li A) (ssA (stA (fun h => thF τ (uo_me T 255) r p h - thF τ A r p h) (wr3 τ A T r z g0 m0 h0 p).1) (moF τ A r p) (wr3 τ A T r z g0 m0 h0 p).2.1) (wr3 τ A T r z g0 m0 h0 p).2.2)
theorem wr_ex (τ : TV) (A T : OT) (r z : Nat) (g0 m0 h0 c0 : Nat → Int32) : ∃ (WC : Nat → Int32) (SF MF HF : Nat → Nat → Int32), SF 0 = stA (fun h => coF τ A r z h) g0 ∧ MF 0 = m0 ∧ HF 0 = zrA h0 ∧ (∀ p, SF (p + 1) = stA (fun h => thF τ (uo_me T 255) r p h - thF τ A r p h) (SF p)) ∧ (∀ p, MF (p + 1) = ssA (SF (p + 1)) (moF τ A r p) (MF p)) ∧ (∀ p, HF (p + 1) = chA (o_li A) (MF (p + 1)) (HF p)) ∧ WC = ssA (SF 0) 0 c0 :=
  ⟨_, fun p => (wr3 τ A T r z g0 m0 h0 p).1, fun p => (wr3 τ A T r z g0 m0 h0 p).2.1, fun p => (wr3 τ A T r z g0 m0 h0 p).2.2, rfl, rfl, rfl, fun _ => rfl, fun _ => rfl, fun _ => rfl, rfl⟩
theorem hf_at {τ : TV} {A T : OT} {r z : Nat} {h0 : Nat → Int32} {SF MF HF : Nat → Nat → Int32} (hT : OEq z T A) (e3 : HF 0 = zrA h0) (e4 : ∀ p, SF (p + 1) = stA (fun h => thF τ (uo_me T 255) r p h - thF τ A r p h) (SF p)) (e5 : ∀ p, MF (p + 1) = ssA (SF (p + 1)) (moF τ A r p) (MF p)) (e6 : ∀ p, HF (p + 1) = chA (o_li A) (MF (p + 1)) (HF p)) {s : Nat} (hs : s < 256) : ∀ p, p ≤ z → HF p s = sumI (hzF τ (uo_me A (o_me A ||| nI s)) r) p
  | 0, _ => by
    rw [e3]
    unfold zrA
    rw [zrow_at, if_pos hs]; rfl
  | p + 1, hp => by
    rw [e6 p]
    unfold chA
    rw [chF_at, if_pos hs, hf_at hT e3 e4 e5 e6 hs p (by omega)]
    have em : MF (p + 1) s = moF τ (uo_me A (o_me A ||| nI s)) r p := by
      rw [e5 p, ssA_at hs, mo_set]
      exact congrArg (fun y => moF τ A r p + y) (PRF_cong (fun i hi => by rw [e4 p, stA_at hi, eq_th (hT.ume 255) (show p < z by omega) hi]))
    exact congrArg (fun y => sumI (hzF τ (uo_me A (o_me A ||| nI s)) r) p + bi (o_li A ≤ y)) em
theorem HBF_eq {τ : TV} {A B : OT} {r z s : Nat} (h : OEq z A B) : HBF τ A r z s = HBF τ B r z s := by
  unfold HBF
  rw [h.me]
  exact eq_hp (h.ume _)
theorem beO_cong {a b : Nat → Int32} {s : Nat} {o : Option Nat} (hs : a s = b s) (ho : ∀ k, o = some k → a k = b k) : beO a s o = beO b s o := by
  cases o with
  | none => rfl
  | some k => show decide (a s < a k) = decide (b s < b k); rw [hs, ho k rfl]
theorem cpF_cong {a b h g : Nat → Int32} {m me : Int32} (ha : ∀ s, s < 256 → a s = b s) (hh : ∀ s, s < 256 → h s = g s) : ∀ n, n ≤ 256 → cpF a h m me n = cpF b g m me n
  | 0, _ => rfl
  | n + 1, hn => by
    unfold cpF
    rw [hh n (by omega), beO_cong (b := b) (ha n (by omega)) (fun k hk => ha k (by have := cpF_lt a h m me n k hk; omega)), cpF_cong ha hh n (by omega)]
theorem chV_cong {a b : Nat → Int32} {what : Int32} {o : Option Nat} (ho : ∀ k, o = some k → a k = b k) : chV a what o = chV b what o := by
  cases o with
  | none => rfl
  | some k => show (if what = 0 then nI k else a k) = (if what = 0 then nI k else b k); rw [ho k rfl]
theorem mwF_cong {a b h g : Nat → Int32} {x me : Int32} (ha : ∀ s, s < 256 → a s = b s) (hh : ∀ s, s < 256 → h s = g s) : ∀ n, n ≤ 255 → mwF a h x me n = mwF b g x me n
  | 0, _ => rfl
  | n + 1, hn => by
    have hl := mwF_le b g x me n
    have ih := mwF_cong (x := x) (me := me) ha hh n (by omega)
    unfold mwF
    rw [ih]
    have e1 : (a (n + 1) ≤ x) = (b (n + 1) ≤ x) := by rw [ha (n + 1) (by omega)]
    have e : beC a h (n + 1) (mwF b g x me n) = beC b g (n + 1) (mwF b g x me n) := by
      unfold beC
      rw [ha (n + 1) (by omega), hh (n + 1) (by omega), ha (mwF b g x me n) (by omega), hh (mwF b g x me n) (by omega)]
    simp only [e, e1]
