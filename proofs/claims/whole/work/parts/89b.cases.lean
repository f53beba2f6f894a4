/-! the calls that change something -/
theorem puF_ki {O : OT} {what of v : Int32} : o_ki (puF O what of v) = o_ki O := by
  unfold puF
  (repeat' split) <;> rfl
theorem Good.put {m z : Nat} {O : OT} {what of v : Int32} (g : Good m z O) (q : seC z what of v) : Good m z (puF O what of v) := by
  obtain ⟨g1, g2, g3, g4, g5, g6⟩ := g
  obtain ⟨q1, q2, q3⟩ := q
  rcases q1 with (rfl | rfl | rfl) | ⟨rfl | rfl, h1, h2⟩ | ⟨rfl | rfl, h1, h2⟩
  · obtain ⟨y, hy, e⟩ := nat_of (n := 100) (show (0 : Int32) ≤ v from q2) (Int32.lt_of_le_of_lt (show v ≤ 99 from q3) (by decide)) (by decide)
    have e1 : puF O 0 of v = uo_ye O v := if_pos rfl
    rw [e1]
    exact ⟨g1, g2, g3, g4, ⟨y, hy, e⟩, g6⟩
  · have e1 : puF O 1 of v = uo_li O v := by unfold puF; rw [if_neg (by decide), if_pos rfl]
    rw [e1]
    exact ⟨g1, g2, g3, g4, g5, g6⟩
  · have e1 : puF O 2 of v = uo_pu O v := by unfold puF; rw [if_neg (by decide), if_neg (by decide), if_pos rfl]
    rw [e1]
    exact ⟨g1, g2, g3, g4, g5, g6⟩
  · have e1 : puF O 3 of v = uo_we O (upd (o_we O) of.toNatClampNeg v) := by unfold puF; rw [if_neg (by decide), if_neg (by decide), if_neg (by decide), if_pos rfl]
    rw [e1]
    exact ⟨g1, g2, g3, g4, g5, g6⟩
  · have e1 : puF O 4 of v = uo_me O (meU (o_me O) of v) := by unfold puF; rw [if_neg (by decide), if_neg (by decide), if_neg (by decide), if_neg (by decide), if_pos rfl]
    rw [e1]
    obtain ⟨k, hk, ek⟩ := g4
    obtain ⟨o, ho, rfl⟩ := nat_of h1 (show of < nI 8 from h2) (by omega)
    obtain ⟨w, hw, rfl⟩ := nat_of (n := 2) (show (0 : Int32) ≤ v from q2) (Int32.lt_of_le_of_lt (show v ≤ 1 from q3) (by decide)) (by decide)
    refine ⟨g1, g2, g3, ?_, g5, g6⟩
    show ∃ k', k' < 256 ∧ meU (o_me O) (nI o) (nI w) = nI k'
    rw [ek]
    exact nI_255 (me_all k hk o ho w hw)
  · have e1 : puF O 5 of v = uo_nu O (upd (o_nu O) of.toNatClampNeg v) := by unfold puF; rw [if_neg (by decide), if_neg (by decide), if_neg (by decide), if_neg (by decide), if_neg (by decide), if_pos rfl]
    rw [e1]
    obtain ⟨w, hw, rfl⟩ := nat_of (n := 10) (show (0 : Int32) ≤ v from q2) (Int32.lt_of_le_of_lt (show v ≤ 9 from q3) (by decide)) (by decide)
    refine ⟨g1, g2, g3, g4, g5, fun i hi => ⟨(g6 i hi).1, ?_⟩⟩
    show ∃ j, j < 10 ∧ upd (o_nu O) of.toNatClampNeg (nI w) i = nI j
    by_cases e : i = of.toNatClampNeg
    · rw [← e, pk_us]; exact ⟨w, hw, rfl⟩
    · rw [pk_un e]; exact (g6 i hi).2
  · have e1 : puF O 6 of v = uo_pr O (upd (o_pr O) of.toNatClampNeg v) := by unfold puF; rw [if_neg (by decide), if_neg (by decide), if_neg (by decide), if_neg (by decide), if_neg (by decide), if_neg (by decide)]
    rw [e1]
    exact ⟨g1, g2, g3, g4, g5, g6⟩
theorem Good.yr {τ : TV} {m z r : Nat} {O : OT} (g : Good m z O) (h : ¬ o_ye O = 99) : Good m z (yrF τ O r z) := by
  obtain ⟨g1, g2, g3, g4, ⟨y, hy, ey⟩, g6⟩ := g
  refine ⟨g1, g2, g3, g4, ⟨y + 1, ?_, ?_⟩, g6⟩
  · rcases Nat.lt_or_ge y 99 with w | w
    · omega
    · have : y = 99 := by omega
      subst this
      exact absurd ey h
  · show o_ye O + 1 = _
    rw [ey, nI_succ]
theorem Good.ri {τ : TV} {m z r : Nat} {O : OT} (g : Good m z O) (x : Int32) : Good m z (riO τ O r z x) := by
  unfold riO
  by_cases q : hoC x ∧ ¬ o_mAt O x = 1
  · rw [if_pos q]
    obtain ⟨k, hk, rfl⟩ := nat_of q.1.1 (show x < nI 8 from q.1.2) (by omega)
    rw [nI_clamp (by omega)]
    obtain ⟨g1, g2, g3, ⟨w, hw, ew⟩, g5, g6⟩ := g
    refine ⟨g1, g2, g3, ?_, g5, g6⟩
    show ∃ k', k' < 256 ∧ o_me O ||| ((1 : Int32) <<< (nI k &&& 31)) = nI k'
    rw [ew]
    exact nI_255 (ri_all w hw k hk)
  · rw [if_neg q]; exact g
section CHG
variable {X : Nat × (Nat → Int32)} {S : CS} {T : MT} {U : MU} {Λ : ML} {C : MC} {K : MK} {H : MH} {tl : pc_W}
theorem k_set (hI : Inv S T (mO U) K H tl) (what of v : Int32) : Case X 2 0 0 49 yX9_set cX9_set 5 [.ref 0, .int what, .int of, .int v] yX10_set cX10_set 5 [.ref 42, .int what, .int of, .int v] S T U Λ C K H tl := by
  obtain ⟨ru, ou, we, me, ki, ro, ma⟩ := U
  obtain ⟨z, m, n, pl, r, τ, hrm, hm6, hz6, hru, hma, hnu, hki, hr, hz, hO, hXm, hXr, hP, hG, hK, hS⟩ := hI.get
  refine ⟨(if seC z what of v then plF (mO (ru, ou, we, me, ki, ro, ma)) what of else -1000000), fun S' tl' => S' = (if seC z what of v then u_now S (puF (s_now S) what of v) else S) ∧ tl' = tl, (c_X9_set hz hz6).weaken ?_, ?_⟩
  · rintro w w' ⟨e1, e2⟩
    refine ⟨?_, _, tl, e2, rfl, rfl⟩
    rw [e1]
    by_cases q : seC z what of v
    · rw [if_pos q, if_pos q, eq_pl hO hz6 q.1]
    · rw [if_neg q, if_neg q]
  · rintro S' tl' ⟨rfl, rfl⟩
    refine (c_X10_set hXm hru hma hz6 hnu).weaken ?_
    rintro w w' ⟨Λ', U', e1, e2, e3⟩
    refine ⟨e1, _, U', Λ', C, K, H, e2, ?_⟩
    rw [e3]
    by_cases q : seC z what of v
    · rw [if_pos q, if_pos q]
      exact ⟨z, m, n, pl, τ, hP.cg rfl rfl rfl rfl rfl rfl rfl rfl, hG.put q, hO.put what of v, hK.up (Nat.le_refl _) (Nat.le_refl _) rfl rfl (fun i _ => by rw [puF_ki]; rfl), hS⟩
    · rw [if_neg q, if_neg q]
      exact ⟨z, m, n, pl, τ, hP, hG, hO, hK, hS⟩
theorem k_force (hI : Inv S T (mO U) K H tl) (t : Int32) : Case X 0 0 0 1 yX9_force cX9_force 3 [.ref 0, .int t] yX10_force cX10_force 3 [.ref 42, .int t] S T U Λ C K H tl := by
  obtain ⟨ru, ou, we, me, ki, ro, ma⟩ := U
  obtain ⟨tx, ts, tc, tp, tn⟩ := T
  obtain ⟨z, m, n, pl, r, τ, hrm, hm6, hz6, hru, hma, hnu, hki, hr, hz, hO, hXm, hXr, hP, hG, hK, hS⟩ := hI.get
  refine ⟨(if foC m t then ru else -2), fun S' tl' => S' = (if foC m t then u_now S (uo_ru (s_now S) t) else S) ∧ tl' = tl, (c_X9_force hP.2.2.1).weaken ?_, ?_⟩
  · rintro w w' ⟨e1, e2⟩
    have er : o_ru (s_now S) = ru := hO.ru
    exact ⟨by rw [e1, er], _, tl, e2, rfl, rfl⟩
  · rintro S' tl' ⟨rfl, rfl⟩
    refine (c_X10_force hP.2.2.2.1 hm6).weaken ?_
    rintro w w' ⟨e1, e2⟩
    refine ⟨e1, _, _, Λ, C, K, H, e2, ?_⟩
    by_cases q : foC m t
    · rw [if_pos q, if_pos q]
      obtain ⟨j, hj, ej⟩ := nat_of q.1 q.2 (by omega)
      obtain ⟨g1, g2, g3, g4, g5, g6⟩ := hG
      exact ⟨z, m, n, pl, τ, hP.cg rfl rfl rfl rfl rfl rfl rfl rfl, ⟨g1, g2, ⟨j, hj, ej⟩, g4, g5, g6⟩, hO.uru t, hK.up (Nat.le_refl _) (Nat.le_refl _) rfl rfl (fun _ _ => rfl), hS⟩
    · rw [if_neg q, if_neg q]
      exact ⟨z, m, n, pl, τ, hP, hG, hO, hK, hS⟩
theorem k_year (hI : Inv S T (mO U) K H tl) : Case X 8 0 0 50 yX9_year cX9_year 1 [.ref 0] yX10_year cX10_year 1 [.ref 42] S T U Λ C K H tl := by
  obtain ⟨ru, ou, we, me, ki, ro, ma⟩ := U
  obtain ⟨z, m, n, pl, r, τ, hrm, hm6, hz6, hru, hma, hnu, hki, hr, hz, hO, hXm, hXr, hP, hG, hK, hS⟩ := hI.get
  have hy : 99 ≤ o_ye (s_now S) ↔ o_ye (mO (ru, ou, we, me, ki, ro, ma)) = 99 := by
    obtain ⟨y, hy, ey⟩ := hG.2.2.2.2.1
    rw [hO.ye, ey]
    constructor
    · intro q
      have := (nI_nlt (a := y) (b := 99))
      rcases Nat.lt_or_ge y 99 with w | w
      · exact absurd (nI_lt w (by decide)) (Int32.not_lt.mpr q)
      · have : y = 99 := by omega
        subst this; rfl
    · intro q
      rw [q]; exact Int32.le_refl _
  refine ⟨yeM τ (mO (ru, ou, we, me, ki, ro, ma)) r z, fun S' tl' => (∃ nm sk, S' = u_sk (u_nm (if 99 ≤ o_ye (s_now S) then S else u_now S (yrF τ (s_now S) r z)) nm) sk) ∧ tl' = tl, (c_X9_year (hXr _ rfl) hr hz hz6).weaken ?_, ?_⟩
  · rintro w w' ⟨nm, sk, e1, e2⟩
    refine ⟨?_, _, tl, e2, ⟨nm, sk, rfl⟩, rfl⟩
    rw [e1]
    unfold yeM
    by_cases q : 99 ≤ o_ye (s_now S)
    · rw [if_pos q, if_pos (hy.mp q)]
    · rw [if_neg q, if_neg (fun y => q (hy.mpr y)), (hO.yr (τ := τ) (r := r)).pu]
  · rintro S' tl' ⟨⟨nm, sk, rfl⟩, rfl⟩
    refine (c_X10_year hXm hru hma hz6 hnu).weaken ?_
    rintro w w' ⟨Λ', ou', e1, e2, e3⟩
    refine ⟨e1, _, _, Λ', C, K, H, e2, ?_⟩
    rw [e3]
    refine Inv.ns ?_ nm sk
    by_cases q : 99 ≤ o_ye (s_now S)
    · rw [if_pos q, if_pos (hy.mp q)]
      exact ⟨z, m, n, pl, τ, hP, hG, hO, hK, hS⟩
    · have q2 : ¬ o_ye (mO (ru, ou, we, me, ki, ro, ma)) = 99 := fun y => q (hy.mpr y)
      rw [if_neg q, if_neg q2]
      exact ⟨z, m, n, pl, τ, hP.cg rfl rfl rfl rfl rfl rfl rfl rfl, hG.yr q2, hO.yr, hK.up (Nat.le_refl _) (Nat.le_refl _) rfl rfl (fun _ _ => rfl), hS⟩
theorem k_right (hI : Inv S T (mO U) K H tl) (x : Int32) : Case X 5 0 0 46 yX9_right cX9_right 3 [.ref 0, .int x] yX10_right cX10_right 3 [.ref 42, .int x] S T U Λ C K H tl := by
  obtain ⟨ru, ou, we, me, ki, ro, ma⟩ := U
  obtain ⟨z, m, n, pl, r, τ, hrm, hm6, hz6, hru, hma, hnu, hki, hr, hz, hO, hXm, hXr, hP, hG, hK, hS⟩ := hI.get
  refine ⟨riF τ (mO (ru, ou, we, me, ki, ro, ma)) r z x, fun S' tl' => (∃ nm sk, S' = u_sk (u_nm (u_now S (riO τ (s_now S) r z x)) nm) sk) ∧ tl' = tl, (c_X9_right (hXr _ rfl) hr hz hz6).weaken ?_, ?_⟩
  · rintro w w' ⟨nm, sk, e1, e2⟩
    exact ⟨by rw [e1, eq_ri hO], _, tl, e2, ⟨nm, sk, rfl⟩, rfl⟩
  · rintro S' tl' ⟨⟨nm, sk, rfl⟩, rfl⟩
    refine (c_X10_right hXm hru hma hz6).weaken ?_
    rintro w w' ⟨Λ', ou', me', e1, e2, e3⟩
    refine ⟨e1, _, _, Λ', C, K, H, e2, ?_⟩
    rw [e3]
    refine Inv.ns ?_ nm sk
    have ek : o_ki (riO τ (mO (ru, ou, we, me, ki, ro, ma)) r z x) = ki := by unfold riO; split <;> rfl
    exact ⟨z, m, n, pl, τ, hP.cg rfl rfl rfl rfl rfl rfl rfl rfl, hG.ri x, hO.ri x, hK.up (Nat.le_refl _) (Nat.le_refl _) rfl rfl (fun i _ => by rw [ek]), hS⟩
theorem k_feed (hI : Inv S T (mO U) K H tl) (x : Int32) : Case X 1 0 0 1 yX9_feed cX9_feed 2 [.ref 0, .int x] yX10_feed cX10_feed 2 [.ref 42, .int x] S T U Λ C K H tl := by
  obtain ⟨tx, ts, tc, tp, tn⟩ := T
  obtain ⟨z, m, n, pl, r, τ, hrm, hm6, hz6, hru, hma, hnu, hki, hr, hz, hO, hXm, hXr, hP, hG, hK, hS⟩ := hI.get
  obtain ⟨a1, a2, a3, a4, a5, a6, a7, a8, a9, a10⟩ := hP
  have a9 : tn = nI n := a9
  subst a9
  refine ⟨feF n x, fun S' tl' => S' = feS S n x ∧ tl' = tl, (c_X9_feed a8 a7).weaken ?_, ?_⟩
  · rintro w w' ⟨e1, e2⟩
    exact ⟨e1, _, tl, e2, rfl, rfl⟩
  · rintro S' tl' ⟨rfl, rfl⟩
    refine (c_X10_feed a7).weaken ?_
    rintro w w' ⟨e1, e2⟩
    refine ⟨e1, _, U, Λ, C, K, H, e2, ?_⟩
    unfold feS feT
    by_cases q : feC x ∧ n < 160
    · rw [if_pos q, if_pos q]
      have hP' : TPx m n pl τ S (tx, ts, tc, tp, nI n) tl' := ⟨a1, a2, a3, a4, a5, a6, a7, a8, rfl, a10⟩
      have a5' : ∀ r, r < m → (∀ M : pc_W, M.length = 17 → TXr τ (u_tn (u_tp S (upd (s_tp S) n x)) (nI (n + 1))) (M ++ tl') r) ∧ TXm τ tx ts r := fun r hr => ⟨fun M hM => TXr_tr ((a5 r hr).1 M hM) rfl (fun t cr er n code ends q => TCell_S rfl rfl rfl q) rfl, (a5 r hr).2⟩
      refine ⟨z, m, n + 1, pl, τ, ⟨a1, a2, a3, a4, a5', a6, by omega, rfl, rfl, fun i hi => ?_⟩, hG, hO, hK, hS⟩
      by_cases e : i = n
      · subst e
        exact ⟨by show upd (s_tp S) i x i = upd tp i x i; rw [pk_us, pk_us], by show 0 ≤ upd tp i x i; rw [pk_us]; exact q.1.1⟩
      · refine ⟨?_, ?_⟩
        · show upd (s_tp S) n x i = upd tp n x i
          rw [pk_un e, pk_un e]; exact (a10 i (by omega)).1
        · show 0 ≤ upd tp n x i
          rw [pk_un e]; exact (a10 i (by omega)).2
    · rw [if_neg q, if_neg q]
      exact hI
theorem k_sheet (hI : Inv S T (mO U) K H tl) (a so n0 : Int32) : Case X 1 0 0 2 yX9_sheet cX9_sheet 4 [.ref 0, .int a, .int so, .int n0] yX10_sheet cX10_sheet 5 [.ref 42, .int a, .int so, .int n0] S T U Λ C K H tl := by
  obtain ⟨it, sr, ss, is⟩ := H
  obtain ⟨z, m, n, pl, r, τ, hrm, hm6, hz6, hru, hma, hnu, hki, hr, hz, hO, hXm, hXr, hP, hG, hK, hS⟩ := hI.get
  refine ⟨shF a so n0, fun S' tl' => S' = shS S a so n0 ∧ tl' = tl, c_X9_sheet.weaken ?_, ?_⟩
  · rintro w w' ⟨e1, e2⟩
    exact ⟨e1, _, tl, e2, rfl, rfl⟩
  · rintro S' tl' ⟨rfl, rfl⟩
    refine c_X10_sheet.weaken ?_
    rintro w w' ⟨e1, e2⟩
    refine ⟨e1, _, U, Λ, C, K, _, e2, ?_⟩
    have hs := hS.sheet a so n0
    revert hs
    unfold shS
    by_cases q : shF a so n0 = 1
    · rw [if_pos q]
      exact fun hs => ⟨z, m, n, pl, τ, hP.cg rfl rfl rfl rfl rfl rfl rfl rfl, hG, hO, hK, hs⟩
    · rw [if_neg q]
      exact fun hs => ⟨z, m, n, pl, τ, hP, hG, hO, hK, hs⟩
theorem k_cell (hI : Inv S T (mO U) K H tl) (a i v : Int32) : Case X 1 0 0 2 yX9_cell cX9_cell 5 [.ref 0, .int a, .int i, .int v] yX10_cell cX10_cell 4 [.ref 42, .int a, .int i, .int v] S T U Λ C K H tl := by
  obtain ⟨it, sr, ss, is⟩ := H
  obtain ⟨z, m, n, pl, r, τ, hrm, hm6, hz6, hru, hma, hnu, hki, hr, hz, hO, hXm, hXr, hP, hG, hK, hS⟩ := hI.get
  refine ⟨ceM (it, sr, ss, is) a i, fun S' tl' => S' = ceS S a i v ∧ tl' = tl, (c_X9_cell hS.hle).weaken ?_, ?_⟩
  · rintro w w' ⟨e1, e2⟩
    exact ⟨by rw [e1, ce_eq hS], _, tl, e2, rfl, rfl⟩
  · rintro S' tl' ⟨rfl, rfl⟩
    refine (c_X10_cell hS.hss).weaken ?_
    rintro w w' ⟨e1, e2⟩
    refine ⟨e1, _, U, Λ, C, K, _, e2, ?_⟩
    have hs := hS.cell a i v
    revert hs
    unfold ceS
    by_cases q : ceF S a i = 1
    · rw [if_pos q]
      exact fun hs => ⟨z, m, n, pl, τ, hP.cg rfl rfl rfl rfl rfl rfl rfl rfl, hG, hO, hK, hs⟩
    · rw [if_neg q]
      exact fun hs => ⟨z, m, n, pl, τ, hP, hG, hO, hK, hs⟩
theorem k_copy (hI : Inv S T (mO U) K H tl) (s i t j n0 : Int32) : Case X 1 0 0 2 yX9_copy cX9_copy 8 [.ref 0, .int s, .int i, .int t, .int j, .int n0] yX10_copy cX10_copy 9 [.ref 42, .int s, .int i, .int t, .int j, .int n0] S T U Λ C K H tl := by
  obtain ⟨it, sr, ss, is⟩ := H
  obtain ⟨z, m, n, pl, r, τ, hrm, hm6, hz6, hru, hma, hnu, hki, hr, hz, hO, hXm, hXr, hP, hG, hK, hS⟩ := hI.get
  refine ⟨cyM (it, sr, ss, is) s i t j n0, fun S' tl' => S' = cpW S s i t j n0 ∧ tl' = tl, (c_X9_copy hS.hsz).weaken ?_, ?_⟩
  · rintro w w' ⟨e1, e2⟩
    exact ⟨by rw [e1, cp_eq hS], _, tl, e2, rfl, rfl⟩
  · rintro S' tl' ⟨rfl, rfl⟩
    refine (c_X10_copy hS.hss).weaken ?_
    rintro w w' ⟨e1, ⟨hg, e2⟩ | ⟨hg, e2⟩⟩
    · refine ⟨e1, _, U, Λ, C, K, _, e2, ?_⟩
      have hs := hS.copy hg
      revert hs
      unfold cpW
      by_cases q : cpB1 s t ∨ cpB2 S s t ∨ cpB3 S s t ∨ cpB4 S s i t j n0
      · rw [if_pos q]
        exact fun hs => ⟨z, m, n, pl, τ, hP, hG, hO, hK, hs⟩
      · rw [if_neg q]
        exact fun hs => ⟨z, m, n, pl, τ, hP.cg rfl rfl rfl rfl rfl rfl rfl rfl, hG, hO, hK, hs⟩
    · refine ⟨e1, _, U, Λ, C, K, _, e2, ?_⟩
      rw [hS.copy_n hg]
      exact hI
end CHG
