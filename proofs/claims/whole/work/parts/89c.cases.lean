/-! persons, lists of them, films, images, chances -/
def InvZ (z : Nat) (S : CS) (T : MT) (O : OT) (K : MK) (H : MH) (tl : pc_W) : Prop := ∃ (m n pl : Nat) (τ : TV), TPx m n pl τ S T tl ∧ Good m z O ∧ OEq z (s_now S) O ∧ KEq m z S K (o_ki O) ∧ SEq H (s_sh S)
theorem InvZ.inv {z : Nat} {S : CS} {T : MT} {O : OT} {K : MK} {H : MH} {tl : pc_W} (h : InvZ z S T O K H tl) : Inv S T O K H tl := ⟨z, h⟩
theorem pe_inv {z : Nat} {S : CS} {T : MT} {U : MU} {K : MK} {H : MH} {tl : pc_W} (hz : z ≤ 6) (h : InvZ z S T (mO U) K H tl) (k n0 : Int32) : InvZ (if peC k n0 ∧ z < 6 then z + 1 else z) (peS S z k n0) T (mO (peU U z k n0)) K H tl := by
  unfold peS peU
  by_cases q : peC k n0 ∧ z < 6
  · rw [if_pos q, if_pos q, if_pos q]
    obtain ⟨ru, ou, we, me, ki, ro, ma⟩ := U
    obtain ⟨m, n, pl, τ, hP, hG, hO, hK, hS⟩ := h
    obtain ⟨⟨k0, k1, k2, k3⟩, hz6⟩ := q
    obtain ⟨a, ha, rfl⟩ := nat_of k0 (show k < nI 6 from k1) (by omega)
    obtain ⟨c, hc, rfl⟩ := nat_of k2 (show n0 < nI 10 from k3) (by omega)
    obtain ⟨g1, g2, g3, g4, g5, g6⟩ := hG
    have nu_at : ∀ i, upd (upd ro (2 * z) (nI c)) (2 * z + 1) 5 (2 * i) = if i = z then nI c else ro (2 * i) := fun i => by
      rw [pk_un (by omega)]
      by_cases e : i = z
      · subst e; rw [pk_us, if_pos rfl]
      · rw [pk_un (by omega), if_neg e]
    have pr_at : ∀ i, upd (upd ro (2 * z) (nI c)) (2 * z + 1) 5 (2 * i + 1) = if i = z then 5 else ro (2 * i + 1) := fun i => by
      by_cases e : i = z
      · subst e; rw [pk_us, if_pos rfl]
      · rw [pk_un (by omega), pk_un (by omega), if_neg e]
    refine ⟨m, n, pl, τ, hP.cg rfl rfl rfl rfl rfl rfl rfl rfl, ⟨by omega, rfl, g3, g4, g5, fun i hi => ⟨?_, ?_⟩⟩, ⟨fun i hi => hO.we hi, hO.me, hO.ye, hO.li, hO.pu, hO.ru, ?_, fun i hi => ⟨?_, ?_, ?_⟩⟩, hK.up (Nat.le_refl _) (Nat.le_succ z) rfl rfl (fun i hi => ?_), hS⟩
    · show ∃ j, j < 6 ∧ upd ki z (nI a) i = nI j
      by_cases e : i = z
      · subst e; rw [pk_us]; exact ⟨a, ha, rfl⟩
      · rw [pk_un e]; exact (g6 i (by omega)).1
    · show ∃ j, j < 10 ∧ upd (upd ro (2 * z) (nI c)) (2 * z + 1) 5 (2 * i) = nI j
      rw [nu_at]
      by_cases e : i = z
      · rw [if_pos e]; exact ⟨c, hc, rfl⟩
      · rw [if_neg e]; exact (g6 i (by omega)).2
    · show o_sz (s_now S) + 1 = nI (z + 1)
      rw [hO.sz, g2, nI_succ]
    · show upd (o_ki (s_now S)) z (nI a) i = upd ki z (nI a) i
      exact upd_cong (fun e => hO.ki (show i < z by omega))
    · show upd (o_nu (s_now S)) z (nI c) i = upd (upd ro (2 * z) (nI c)) (2 * z + 1) 5 (2 * i)
      rw [nu_at]
      by_cases e : i = z
      · subst e; rw [pk_us, if_pos rfl]
      · rw [pk_un e, if_neg e]; exact hO.nu (show i < z by omega)
    · show upd (o_pr (s_now S)) z 5 i = upd (upd ro (2 * z) (nI c)) (2 * z + 1) 5 (2 * i + 1)
      rw [pr_at]
      by_cases e : i = z
      · subst e; rw [pk_us, if_pos rfl]
      · rw [pk_un e, if_neg e]; exact hO.pr (show i < z by omega)
    · show ki i = upd ki z (nI a) i
      rw [pk_un (by omega)]
  · rw [if_neg q, if_neg q, if_neg q]; exact h
theorem ppG_rel {α β : Type} {st : α → Nat → Int32 → Int32 → α} {st' : β → Nat → Int32 → Int32 → β} {R : Nat → α → β → Prop} {c c' : Nat → Int32} {b sz : Nat} (hc : ∀ j, j < sz → c j = c' j) (hst : ∀ z u u' k n, z ≤ 6 → R z u u' → R (if peC k n ∧ z < 6 then z + 1 else z) (st u z k n) (st' u' z k n)) : ∀ m k z cm u u', z ≤ 6 → R z u u' → (ppG st c b sz m k u z cm).1 = (ppG st' c' b sz m k u' z cm).1 ∧ ∃ z', R z' (ppG st c b sz m k u z cm).2.1 (ppG st' c' b sz m k u' z cm).2.1
  | 0, k, z, cm, u, u', hz, h => ⟨rfl, z, h⟩
  | m + 1, k, z, cm, u, u', hz, h => by
    unfold ppG
    by_cases q : b + 2 * k + 2 ≤ sz
    · rw [if_pos q, if_pos q, hc (b + 2 * k) (by omega), hc (b + 2 * k + 1) (by omega)]
      have hs := hst z u u' (c' (b + 2 * k)) (c' (b + 2 * k + 1)) hz h
      by_cases w : peC (c' (b + 2 * k)) (c' (b + 2 * k + 1)) ∧ z < 6
      · rw [if_pos w] at hs
        rw [if_pos w, if_pos w]
        exact ppG_rel hc hst m (k + 1) (z + 1) (cm + 1) _ _ (by omega) hs
      · rw [if_neg w] at hs
        rw [if_neg w, if_neg w]
        exact ppG_rel hc hst m (k + 1) z cm _ _ hz hs
    · rw [if_neg q, if_neg q]
      exact ⟨rfl, z, h⟩
theorem pp_rel {z : Nat} {S : CS} {T : MT} {U : MU} {K : MK} {H : MH} {tl : pc_W} (hz : z ≤ 6) (h : InvZ z S T (mO U) K H tl) (s sr at0 n0 : Int32) : (ppC S z s sr at0 n0).1 = (ppM H U z s sr at0 n0).1 ∧ Inv (ppC S z s sr at0 n0).2.1 T (mO (ppM H U z s sr at0 n0).2.1) K H tl := by
  have hS : SEq H (s_sh S) := by obtain ⟨m, n, pl, τ, hP, hG, hO, hK, hS⟩ := h; exact hS
  unfold ppC ppM
  by_cases h1 : ¬ (0 ≤ s ∧ s < 4) ∨ ¬ (0 ≤ sr ∧ sr ≤ 2) ∨ ¬ (0 ≤ n0 ∧ n0 ≤ 6)
  · rw [if_pos h1, if_pos h1]; exact ⟨rfl, h.inv⟩
  rw [if_neg h1, if_neg h1]
  have hs : 0 ≤ s ∧ s < 4 := Classical.byContradiction (fun y => h1 (Or.inl y))
  obtain ⟨k, hk, rfl⟩ := nat_of hs.1 (show s < nI 4 from hs.2) (by omega)
  rw [nI_clamp (by omega)]
  obtain ⟨M, a1, a2, a3, a4⟩ := hS k hk
  by_cases h2 : H.1 k = 0
  · rw [if_pos h2, if_pos (a3.mp h2)]; exact ⟨rfl, h.inv⟩
  rw [if_neg h2, if_neg (fun y => h2 (a3.mpr y)), (a4 h2).1]
  by_cases h3 : ¬ (s_sh S k).1 = sr
  · rw [if_pos h3, if_pos h3]; exact ⟨rfl, h.inv⟩
  rw [if_neg h3, if_neg h3]
  by_cases h4 : n0 = 0
  · rw [if_pos h4, if_pos h4]; exact ⟨rfl, h.inv⟩
  rw [if_neg h4, if_neg h4]
  by_cases h5 : at0 < 0
  · rw [if_pos h5, if_pos h5]; exact ⟨rfl, h.inv⟩
  rw [if_neg h5, if_neg h5, (a4 h2).2.1, a2, nI_clamp (n := M) (by omega)]
  obtain ⟨e1, z', e2⟩ := ppG_rel (st := peS) (st' := peU) (R := fun z S' U' => InvZ z S' T (mO U') K H tl) (c := (s_sh S k).2.2) (c' := fun j => H.2.2.2 (40 * k + j)) (b := at0.toNatClampNeg) (sz := M) (fun j hj => ((a4 h2).2.2 j hj).symm) (fun z u u' k n hz h => pe_inv hz h k n) n0.toNatClampNeg 0 z 0 S U hz h
  exact ⟨e1, e2.inv⟩
theorem fr_ex (g0 th : Nat → Int32) : ∃ FR : Nat → Nat → Int32, FR 0 = g0 ∧ ∀ i, FR (i + 1) = upd (FR i) i (th i) := ⟨fun n => Nat.rec g0 (fun i f => upd f i (th i)) n, rfl, fun _ => rfl⟩
section CHG2
variable {X : Nat × (Nat → Int32)} {S : CS} {T : MT} {U : MU} {Λ : ML} {C : MC} {K : MK} {H : MH} {tl : pc_W}
theorem k_person (hI : Inv S T (mO U) K H tl) (k n0 : Int32) : Case X 1 0 0 1 yX9_person cX9_person 3 [.ref 0, .int k, .int n0] yX10_person cX10_person 3 [.ref 42, .int k, .int n0] S T U Λ C K H tl := by
  obtain ⟨ru, ou, we, me, ki, ro, ma⟩ := U
  obtain ⟨z, m, n, pl, r, τ, hrm, hm6, hz6, hru, hma, hnu, hki, hr, hz, hO, hXm, hXr, hP, hG, hK, hS⟩ := hI.get
  have hma : ma = nI z := hma
  subst hma
  refine ⟨peF z k n0, fun S' tl' => S' = peS S z k n0 ∧ tl' = tl, (c_X9_person hz hz6).weaken ?_, ?_⟩
  · rintro w w' ⟨e1, e2⟩
    exact ⟨e1, _, tl, e2, rfl, rfl⟩
  · rintro S' tl' ⟨rfl, rfl⟩
    refine (c_X10_person hz6).weaken ?_
    rintro w w' ⟨e1, e2⟩
    exact ⟨e1, _, _, Λ, C, K, H, e2, (pe_inv hz6 ⟨m, n, pl, τ, hP, hG, hO, hK, hS⟩ k n0).inv⟩
theorem k_people (hI : Inv S T (mO U) K H tl) (s sr at0 n0 : Int32) : Case X 3 0 0 3 yX9_people cX9_people 8 [.ref 0, .int s, .int sr, .int at0, .int n0] yX10_people cX10_people 8 [.ref 42, .int s, .int sr, .int at0, .int n0] S T U Λ C K H tl := by
  obtain ⟨ru, ou, we, me, ki, ro, ma⟩ := U
  obtain ⟨it, so, ss, is⟩ := H
  obtain ⟨z, m, n, pl, r, τ, hrm, hm6, hz6, hru, hma, hnu, hki, hr, hz, hO, hXm, hXr, hP, hG, hK, hS⟩ := hI.get
  have hma : ma = nI z := hma
  subst hma
  obtain ⟨p1, p2⟩ := pp_rel (T := T) (K := K) hz6 ⟨m, n, pl, τ, hP, hG, hO, hK, hS⟩ s sr at0 n0
  refine ⟨(ppM (it, so, ss, is) (ru, ou, we, me, ki, ro, nI z) z s sr at0 n0).1, fun S' tl' => S' = (ppC S z s sr at0 n0).2.1 ∧ tl' = tl, (c_X9_people hz hz6 hS.hsz).weaken ?_, ?_⟩
  · rintro w w' ⟨e1, e2⟩
    exact ⟨by rw [e1, p1], _, tl, e2, rfl, rfl⟩
  · rintro S' tl' ⟨rfl, rfl⟩
    refine (c_X10_people hz6 hS.hss).weaken ?_
    rintro w w' ⟨e1, e2⟩
    exact ⟨e1, _, _, Λ, C, K, _, e2, p2⟩
theorem k_film (hI : Inv S T (mO U) K H tl) (a one : Int32) : Case X 5 0 0 46 yX9_film cX9_film 5 [.ref 0, .int a, .int one] yX10_film cX10_film 4 [.ref 42, .int a, .int one] S T U Λ C K H tl := by
  obtain ⟨ru, ou, we, me, ki, ro, ma⟩ := U
  obtain ⟨it, so, ss, is⟩ := H
  obtain ⟨z, m, n, pl, r, τ, hrm, hm6, hz6, hru, hma, hnu, hki, hr, hz, hO, hXm, hXr, hP, hG, hK, hS⟩ := hI.get
  obtain ⟨FR, f0, f1⟩ := fr_ex (zrow 40 (s_sh S a.toNatClampNeg).2.2) (fun i => wrV 0 (thF τ (s_now S) r one.toNatClampNeg i))
  refine ⟨(if fiC z a one then -1000000 else moF τ (mO (ru, ou, we, me, ki, ro, ma)) r one.toNatClampNeg), fun S' tl' => (∃ nm sk, S' = if (¬ (0 ≤ a ∧ a < 4) ∨ ¬ (0 ≤ one ∧ one < nI z)) then S else u_sh (u_sk (u_nm S nm) sk) (shU (s_sh S) a.toNatClampNeg (0, 8, FR 8))) ∧ tl' = tl, (c_X9_film (hXr _ rfl) hr hz hz6 f0 f1).weaken ?_, ?_⟩
  · rintro w w' ⟨nm, sk, e1, e2⟩
    refine ⟨?_, _, tl, e2, ⟨nm, sk, rfl⟩, rfl⟩
    rw [e1]
    by_cases q : fiC z a one
    · rw [if_pos (show (¬ (0 ≤ a ∧ a < 4) ∨ ¬ (0 ≤ one ∧ one < nI z)) from q), if_pos q]
    · rw [if_neg (show ¬ (¬ (0 ≤ a ∧ a < 4) ∨ ¬ (0 ≤ one ∧ one < nI z)) from q), if_neg q]
      have ho : 0 ≤ one ∧ one < nI z := Classical.byContradiction (fun y => q (Or.inr y))
      obtain ⟨p, hp, e, e2⟩ := on_nat ho hz6
      rw [e2, eq_mo hO hp]
  · rintro S' tl' ⟨⟨nm, sk, rfl⟩, rfl⟩
    refine (c_X10_film hXm hru hma hz6).weaken ?_
    rintro w w' ⟨Λ', e1, e2⟩
    refine ⟨e1, _, _, Λ', C, K, _, e2, ?_⟩
    by_cases q : fiC z a one
    · rw [if_pos (show (¬ (0 ≤ a ∧ a < 4) ∨ ¬ (0 ≤ one ∧ one < nI z)) from q), if_pos q]
      exact hI
    · rw [if_neg (show ¬ (¬ (0 ≤ a ∧ a < 4) ∨ ¬ (0 ≤ one ∧ one < nI z)) from q), if_neg q]
      have ho : 0 ≤ one ∧ one < nI z := Classical.byContradiction (fun y => q (Or.inr y))
      have ha : 0 ≤ a ∧ a < 4 := Classical.byContradiction (fun y => q (Or.inl y))
      obtain ⟨p, hp, e, ep⟩ := on_nat ho hz6
      obtain ⟨k, hk, rfl⟩ := nat_of ha.1 (show a < nI 4 from ha.2) (by omega)
      rw [nI_clamp (by omega), ep]
      rw [ep] at f1
      refine ⟨z, m, n, pl, τ, hP.cg rfl rfl rfl rfl rfl rfl rfl rfl, hG, hO, hK, ?_⟩
      exact hS.film hk (fun j hj => by
        rw [FR_at (th := fun i => wrV 0 (thF τ (s_now S) r p i)) f1 8 j hj]
        exact (wr_byte (v := thF τ (s_now S) r p j) (clp99 _)).trans (eq_th hO hp hj))
theorem k_image (hI : Inv S T (mO U) K H tl) : Case X 2 0 0 0 yX9_image cX9_image 1 [.ref 0] yX10_image cX10_image 2 [.ref 42] S T U Λ C K H tl := by
  obtain ⟨ru, ou, we, me, ki, ro, ma⟩ := U
  obtain ⟨ok, wk, rk, mk, nk, uk⟩ := K
  obtain ⟨z, m, n, pl, r, τ, hrm, hm6, hz6, hru, hma, hnu, hki, hr, hz, hO, hXm, hXr, hP, hG, hK, hS⟩ := hI.get
  refine ⟨ma, fun S' tl' => S' = u_im (u_kep S (o_bec (s_kep S) (s_now S))) 1 ∧ tl' = tl, c_X9_image.weaken ?_, ?_⟩
  · rintro w w' ⟨e1, e2⟩
    have es : o_sz (s_now S) = ma := hO.sz
    exact ⟨by rw [e1, es], _, tl, e2, rfl, rfl⟩
  · rintro S' tl' ⟨rfl, rfl⟩
    refine c_X10_image.weaken ?_
    rintro w w' ⟨e1, e2⟩
    refine ⟨e1, _, _, Λ, C, _, H, e2, ?_⟩
    have hk : OEq z (mO (ru, ou, we, me, ki, ro, ma)) (kO ((wwM ou ok 3), (wwM we wk 8), (wwM ro rk 12), me, ma, ru) ki) := by
      refine ⟨fun i hi => ?_, rfl, rfl, rfl, rfl, rfl, rfl, fun i hi => ⟨rfl, ?_, ?_⟩⟩
      · show we i = wwM we wk 8 i
        unfold wwM; rw [if_pos hi]
      · show ro (2 * i) = wwM ro rk 12 (2 * i)
        unfold wwM; rw [if_pos (by omega)]
      · show ro (2 * i + 1) = wwM ro rk 12 (2 * i + 1)
        unfold wwM; rw [if_pos (by omega)]
    refine ⟨z, m, n, pl, τ, hP.cg rfl rfl rfl rfl rfl rfl rfl rfl, hG, hO, Or.inr ⟨by show ¬ (1 : Int32) = 0; decide, z, Nat.le_refl _, ?_, hG.cong hk⟩, hS⟩
    exact ((OEq.bec (s_kep S) (s_now S) hz6).trans hO).trans hk
theorem k_back (hI : Inv S T (mO U) K H tl) : Case X 2 0 0 0 yX9_back cX9_back 1 [.ref 0] yX10_back cX10_back 2 [.ref 42] S T U Λ C K H tl := by
  obtain ⟨ru, ou, we, me, ki, ro, ma⟩ := U
  obtain ⟨ok, wk, rk, mk, nk, uk⟩ := K
  obtain ⟨z, m, n, pl, r, τ, hrm, hm6, hz6, hru, hma, hnu, hki, hr, hz, hO, hXm, hXr, hP, hG, hK, hS⟩ := hI.get
  have hx : (if s_im S = 0 then (-3 : Int32) else o_sz (s_kep S)) = if nk = -1 then -3 else nk := by
    rcases hK with ⟨h1, h2⟩ | ⟨h1, y, hy, h2, h3⟩
    · rw [if_pos h1, if_pos (show nk = -1 from h2)]
    · have en : nk = nI y := h3.2.1
      rw [if_neg h1, if_neg (by rw [en]; exact nI_nm1 (by omega)), h2.sz]
      rfl
  refine ⟨(if nk = -1 then -3 else nk), fun S' tl' => S' = (if s_im S = 0 then S else u_now S (o_bec (s_now S) (s_kep S))) ∧ tl' = tl, c_X9_back.weaken ?_, ?_⟩
  · rintro w w' ⟨e1, e2⟩
    exact ⟨by rw [e1, hx], _, tl, e2, rfl, rfl⟩
  · rintro S' tl' ⟨rfl, rfl⟩
    refine c_X10_back.weaken ?_
    rintro w w' ⟨e1, e2⟩
    refine ⟨e1, _, _, Λ, C, _, H, e2, ?_⟩
    unfold bkU
    rcases hK with ⟨h1, h2⟩ | ⟨h1, y, hy, h2, h3⟩
    · rw [if_pos h1, if_pos (show nk = -1 from h2)]
      exact hI
    · have en : nk = nI y := h3.2.1
      rw [if_neg h1, if_neg (show ¬ nk = -1 by rw [en]; exact nI_nm1 (by omega))]
      have hk : OEq y (kO (ok, wk, rk, mk, nk, uk) ki) (mO (uk, wwM ok ou 3, wwM wk we 8, mk, ki, wwM rk ro 12, nk)) := by
        refine ⟨fun i hi => ?_, rfl, rfl, rfl, rfl, rfl, rfl, fun i hi => ⟨rfl, ?_, ?_⟩⟩
        · show wk i = wwM wk we 8 i
          unfold wwM; rw [if_pos hi]
        · show rk (2 * i) = wwM rk ro 12 (2 * i)
          unfold wwM; rw [if_pos (by omega)]
        · show rk (2 * i + 1) = wwM rk ro 12 (2 * i + 1)
          unfold wwM; rw [if_pos (by omega)]
      exact ⟨y, m, n, pl, τ, hP.cg rfl rfl rfl rfl rfl rfl rfl rfl, h3.cong hk, ((OEq.bec (s_now S) (s_kep S) (by omega)).trans h2).trans hk, Or.inr ⟨h1, y, Nat.le_refl _, h2, h3⟩, hS⟩
/-- chance() alone answers a long -/
def CaseL (X : Nat × (Nat → Int32)) (d9 d10 : Nat) (y9 : MethodName) (c9 : ByteArray) (l9 : Nat) (as9 : List Value) (y10 : MethodName) (c10 : ByteArray) (l10 : Nat) (as10 : List Value) (S : CS) (T : MT) (U : MU) (Λ : ML) (C : MC) (K : MK) (H : MH) (tl : pc_W) : Prop :=
  ∃ (x : Int64) (R : CS → pc_W → Prop), Mt X d9 0 0 y9 c9 l9 (some .long) as9 (WD S T U Λ C K H tl) (fun v w' => v = some (.long x) ∧ ∃ S' tl', w' = WD S' T U Λ C K H tl' ∧ R S' tl') ∧ ∀ S' tl', R S' tl' → Mt X d10 0 0 y10 c10 l10 (some .long) as10 (WD S' T U Λ C K H tl') (fun v w' => v = some (.long x) ∧ ∃ T' U' Λ' C' K' H', w' = WD S' T' U' Λ' C' K' H' tl' ∧ Inv S' T' (mO U') K' H' tl')
theorem k_chance (hI : Inv S T (mO U) K H tl) (seed mm kk part : Int32) : CaseL X 8 49 yX9_chance cX9_chance 7 [.ref 0, .int seed, .int mm, .int kk, .int part] yX10_chance cX10_chance 13 [.ref 42, .int seed, .int mm, .int kk, .int part] S T U Λ C K H tl := by
  obtain ⟨ru, ou, we, me, ki, ro, ma⟩ := U
  obtain ⟨co, ww⟩ := C
  obtain ⟨z, m, n, pl, r, τ, hrm, hm6, hz6, hru, hma, hnu, hki, hr, hz, hO, hXm, hXr, -⟩ := hI.get
  obtain ⟨F, f0, fx, fw⟩ := fw_ex seed (o_we (o_bec (s_tho S) (s_now S)))
  have hT := (OEq.bec (s_tho S) (s_now S) hz6).trans hO
  obtain ⟨CN, c0, c1, c2⟩ := cn_ex (fun i => hpF τ (uo_we (o_bec (s_tho S) (s_now S)) (F (i + 1))) r z) kk
  refine ⟨chZ (fun t => hpF τ (mO (ru, ou, (weM (seed + nI t) we 8), me, ki, ro, ma)) r z) mm kk part, fun S' tl' => tl' = tl ∧ Inv S' T (mO (ru, ou, we, me, ki, ro, ma)) K H tl, (c_X9_chance (hXr _ rfl) hr hz hz6 f0 fx c0 c1).weaken ?_, ?_⟩
  · rintro w w' ⟨T', nm, sk, e1, e2⟩
    refine ⟨?_, _, tl, e2, rfl, hI.uX T' nm sk (s_rm S) (s_du S)⟩
    rw [e1, chance_eq (F := fun t => hpF τ (mO (ru, ou, (weM (seed + nI t) we 8), me, ki, ro, ma)) r z) (fun n => (c2 n).trans (chM_cong (fun t => ?_) n))]
    rw [eq_hp (hT.uweF (g := weM (seed + nI t) we 8) (fun i hi => fw we t i hi))]
    rfl
  · rintro S' tl' ⟨rfl, hI'⟩
    refine (c_X10_chance hXm hru hma hz6).weaken ?_
    rintro w w' ⟨Λ', ww', e1, e2⟩
    exact ⟨e1, _, _, Λ', _, K, H, e2, hI'⟩
end CHG2
