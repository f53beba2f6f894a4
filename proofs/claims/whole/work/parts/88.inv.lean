/-! what holds between the two sides, call by call -/
theorem nx_and (a b : Nat) : nI a &&& nI b = nI (a &&& b) := by
  refine b_ext (fun i hi => ?_)
  rw [b_and, b_nI a hi, b_nI b hi, b_nI (a &&& b) hi, Nat.testBit_and]
theorem nI_of32 (x : Int32) : ∃ n, n < 2 ^ 32 ∧ x = nI n := ⟨x.toBitVec.toNat, x.toBitVec.isLt, Int32.toBitVec_inj.mp (by show _ = BitVec.ofNat 32 _; simp)⟩
theorem nI_255 {x : Int32} (h : x &&& 255 = x) : ∃ k, k < 256 ∧ x = nI k := by
  obtain ⟨n, -, rfl⟩ := nI_of32 x
  refine ⟨n &&& 255, Nat.and_lt_two_pow (n := 8) n (by decide), ?_⟩
  rw [← nx_and]
  exact h.symm
theorem me_all : ∀ k, k < 256 → ∀ o, o < 8 → ∀ v, v < 2 → meU (nI k) (nI o) (nI v) &&& 255 = meU (nI k) (nI o) (nI v) := by decide +kernel
theorem ri_all : ∀ k, k < 256 → ∀ o, o < 8 → (nI k ||| ((1 : Int32) <<< (nI o &&& 31))) &&& (255 : Int32) = (nI k ||| ((1 : Int32) <<< (nI o &&& 31))) := by decide +kernel
def Good (m z : Nat) (O : OT) : Prop := z ≤ 6 ∧ o_sz O = nI z ∧ (∃ r, r < m ∧ o_ru O = nI r) ∧ (∃ k, k < 256 ∧ o_me O = nI k) ∧ (∃ y, y < 100 ∧ o_ye O = nI y) ∧ (∀ i, i < z → (∃ j, j < 6 ∧ o_ki O i = nI j) ∧ (∃ j, j < 10 ∧ o_nu O i = nI j))
theorem Good.cong {m z : Nat} {A B : OT} (h : OEq z A B) (g : Good m z A) : Good m z B := by
  obtain ⟨g1, g2, g3, g4, g5, g6⟩ := g
  refine ⟨g1, h.sz ▸ g2, h.ru ▸ g3, h.me ▸ g4, h.ye ▸ g5, fun i hi => ?_⟩
  rw [← h.ki hi, ← h.nu hi]
  exact g6 i hi
theorem Good.mono {m m' z : Nat} {A : OT} (h : m ≤ m') (g : Good m z A) : Good m' z A := by
  obtain ⟨g1, g2, ⟨r, hr, e⟩, g4, g5, g6⟩ := g
  exact ⟨g1, g2, ⟨r, by omega, e⟩, g4, g5, g6⟩
/-- what was kept -/
def kO (K : MK) (ki : Nat → Int32) : OT := (K.2.1, K.2.2.2.1, K.1 0, K.1 1, K.1 2, K.2.2.2.2.2, K.2.2.2.2.1, ki, (fun i => K.2.2.1 (2 * i)), fun i => K.2.2.1 (2 * i + 1))
def KEq (m z : Nat) (S : CS) (K : MK) (ki : Nat → Int32) : Prop := (s_im S = 0 ∧ K.2.2.2.2.1 = -1) ∨ (¬ s_im S = 0 ∧ ∃ y, y ≤ z ∧ OEq y (s_kep S) (kO K ki) ∧ Good m y (kO K ki))
theorem kO_ki {K : MK} {ki ki' : Nat → Int32} {y : Nat} (h : ∀ i, i < y → ki i = ki' i) : OEq y (kO K ki) (kO K ki') := ⟨fun _ _ => rfl, rfl, rfl, rfl, rfl, rfl, rfl, fun i hi => ⟨h i hi, rfl, rfl⟩⟩
theorem KEq.up {m m' z z' : Nat} {S S' : CS} {K : MK} {ki ki' : Nat → Int32} (h : KEq m z S K ki) (hm : m ≤ m') (hz : z ≤ z') (h1 : s_im S' = s_im S) (h2 : s_kep S' = s_kep S) (hk : ∀ i, i < z → ki i = ki' i) : KEq m' z' S' K ki' := by
  unfold KEq at h ⊢
  rw [h1, h2]
  rcases h with h | ⟨a, y, b, c, d⟩
  · exact Or.inl h
  · have e := kO_ki (K := K) (y := y) (fun i hi => hk i (by omega))
    exact Or.inr ⟨a, y, by omega, c.trans e, (d.cong e).mono hm⟩
def TPx (m n pl : Nat) (τ : TV) (S : CS) (T : MT) (tl : pc_W) : Prop := 1 ≤ m ∧ m ≤ 6 ∧ s_mz S = nI m ∧ T.2.2.1 = nI m ∧ (∀ r, r < m → (∀ M : pc_W, M.length = 17 → TXr τ S (M ++ tl) r) ∧ TXm τ T.1 T.2.1 r) ∧ p_pl (s_P S) = nI pl ∧ n ≤ 160 ∧ s_tn S = nI n ∧ T.2.2.2.2 = nI n ∧ ∀ i, i < n → s_tp S i = T.2.2.2.1 i ∧ 0 ≤ T.2.2.2.1 i
theorem TCell_S {S S' : CS} {tl : pc_W} {t cr er n : Nat} {code ends : Nat → Int32} (h1 : s_tz S' = s_tz S) (h2 : s_tc S' = s_tc S) (h3 : s_te S' = s_te S) (h : TCell S tl t cr er n code ends) : TCell S' tl t cr er n code ends := by
  have := TCell_app (l := []) h1 h2 h3 h
  rw [List.append_nil] at this
  exact this
theorem TPx.cg {m n pl : Nat} {τ : TV} {S S' : CS} {T : MT} {tl : pc_W} (h : TPx m n pl τ S T tl) (e1 : s_mz S' = s_mz S) (e2 : s_mt S' = s_mt S) (e3 : s_P S' = s_P S) (e4 : s_tn S' = s_tn S) (e5 : s_tp S' = s_tp S) (e6 : s_tz S' = s_tz S) (e7 : s_tc S' = s_tc S) (e8 : s_te S' = s_te S) : TPx m n pl τ S' T tl := by
  obtain ⟨a1, a2, a3, a4, a5, a6, a7, a8, a9, a10⟩ := h
  refine ⟨a1, a2, e1.trans a3, a4, fun r hr => ⟨fun M hM => TXr_tr ((a5 r hr).1 M hM) (by rw [e2]) (fun t cr er n code ends q => TCell_S e6 e7 e8 q) rfl, (a5 r hr).2⟩, by rw [e3]; exact a6, a7, e4.trans a8, a9, fun i hi => by rw [e5]; exact a10 i hi⟩
def Inv (S : CS) (T : MT) (O : OT) (K : MK) (H : MH) (tl : pc_W) : Prop := ∃ (z m n pl : Nat) (τ : TV), TPx m n pl τ S T tl ∧ Good m z O ∧ OEq z (s_now S) O ∧ KEq m z S K (o_ki O) ∧ SEq H (s_sh S)
theorem Inv.uX {S : CS} {T : MT} {O : OT} {K : MK} {H : MH} {tl : pc_W} (h : Inv S T O K H tl) (T' : OT) (nm sk : Nat → Int32) (rm : (Nat → Int32) × (Nat → Int32) × (Nat → Int32) × (Nat → Int32)) (du : Nat → Int32) : Inv (uX S T' nm sk rm du) T O K H tl := by
  obtain ⟨z, m, n, pl, τ, h1, h2, h3, h4, h5⟩ := h
  exact ⟨z, m, n, pl, τ, h1.cg rfl rfl rfl rfl rfl rfl rfl rfl, h2, h3, h4, h5⟩
theorem Inv.ns {S : CS} {T : MT} {O : OT} {K : MK} {H : MH} {tl : pc_W} (h : Inv S T O K H tl) (nm sk : Nat → Int32) : Inv (u_sk (u_nm S nm) sk) T O K H tl := by
  obtain ⟨z, m, n, pl, τ, h1, h2, h3, h4, h5⟩ := h
  exact ⟨z, m, n, pl, τ, h1.cg rfl rfl rfl rfl rfl rfl rfl rfl, h2, h3, h4, h5⟩
abbrev WD (S : CS) (T : MT) (U : MU) (Λ : ML) (C : MC) (K : MK) (H : MH) (tl : pc_W) : pc_W := cst S ++ (mw T U Λ C K H ++ tl)
theorem WD_M (T : MT) (U : MU) (Λ : ML) (C : MC) (K : MK) (H : MH) : (mw T U Λ C K H).length = 17 := rfl
/-- all that a call may want to know -/
theorem Inv.get {S : CS} {T : MT} {K : MK} {H : MH} {tl : pc_W} {U : MU} (h : Inv S T (mO U) K H tl) : ∃ (z m n pl r : Nat) (τ : TV), r < m ∧ m ≤ 6 ∧ z ≤ 6 ∧ U.1 = nI r ∧ U.2.2.2.2.2.2 = nI z ∧ (∀ i, i < z → ∃ j, j < 10 ∧ U.2.2.2.2.2.1 (2 * i) = nI j) ∧ (∀ i, i < z → ∃ j, j < 6 ∧ U.2.2.2.2.1 i = nI j) ∧ o_ru (s_now S) = nI r ∧ o_sz (s_now S) = nI z ∧ OEq z (s_now S) (mO U) ∧ TXm τ T.1 T.2.1 r ∧ (∀ M : pc_W, M.length = 17 → TXr τ S (M ++ tl) r) ∧ TPx m n pl τ S T tl ∧ Good m z (mO U) ∧ KEq m z S K U.2.2.2.2.1 ∧ SEq H (s_sh S) := by
  obtain ⟨z, m, n, pl, τ, h1, h2, h3, h4, h5⟩ := h
  obtain ⟨r, hr, er⟩ := h2.2.2.1
  have ht := h1.2.2.2.2.1 r hr
  exact ⟨z, m, n, pl, r, τ, hr, h1.2.1, h2.1, er, h2.2.1, fun i hi => (h2.2.2.2.2.2 i hi).2, fun i hi => (h2.2.2.2.2.2 i hi).1, h3.ru.trans er, h3.sz.trans h2.2.1, h3, ht.2, ht.1, h1, h2, h4, h5⟩
/-- a call of both sides: they say the same, and stand as before -/
def Case (X : Nat × (Nat → Int32)) (d9 cm sm d10 : Nat) (y9 : MethodName) (c9 : ByteArray) (l9 : Nat) (as9 : List Value) (y10 : MethodName) (c10 : ByteArray) (l10 : Nat) (as10 : List Value) (S : CS) (T : MT) (U : MU) (Λ : ML) (C : MC) (K : MK) (H : MH) (tl : pc_W) : Prop :=
  ∃ (x : Int32) (R : CS → pc_W → Prop), Mt X d9 cm sm y9 c9 l9 (some .int) as9 (WD S T U Λ C K H tl) (fun v w' => v = some (.int x) ∧ ∃ S' tl', w' = WD S' T U Λ C K H tl' ∧ R S' tl') ∧ ∀ S' tl', R S' tl' → Mt X d10 0 0 y10 c10 l10 (some .int) as10 (WD S' T U Λ C K H tl') (fun v w' => v = some (.int x) ∧ ∃ T' U' Λ' C' K' H', w' = WD S' T' U' Λ' C' K' H' tl' ∧ Inv S' T' (mO U') K' H' tl')
