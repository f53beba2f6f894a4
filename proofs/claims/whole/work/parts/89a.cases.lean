/-! the calls, one by one: those that only ask -/
section QRY
variable {X : Nat × (Nat → Int32)} {S : CS} {T : MT} {U : MU} {Λ : ML} {C : MC} {K : MK} {H : MH} {tl : pc_W}
theorem k_told (hI : Inv S T (mO U) K H tl) (of what : Int32) : Case X 6 0 0 48 yX9_told cX9_told 3 [.ref 0, .int of, .int what] yX10_told cX10_told 4 [.ref 42, .int of, .int what] S T U Λ C K H tl := by
  obtain ⟨ru, ou, we, me, ki, ro, ma⟩ := U
  obtain ⟨z, m, n, pl, r, τ, hrm, hm6, hz6, hru, hma, hnu, hki, hr, hz, hO, hXm, hXr, -⟩ := hI.get
  refine ⟨tdF τ (mO (ru, ou, we, me, ki, ro, ma)) r z of what, fun S' tl' => tl' = tl ∧ Inv S' T (mO (ru, ou, we, me, ki, ro, ma)) K H tl, (c_X9_told (hXr _ rfl) hr hz hz6).weaken ?_, ?_⟩
  · rintro v w' ⟨nm, sk, e1, e2⟩
    exact ⟨by rw [e1, eq_td hO hz6], _, tl, e2, rfl, hI.ns nm sk⟩
  · rintro S' tl' ⟨rfl, hI'⟩
    refine (c_X10_told hXm hru hma hz6 hnu).weaken ?_
    rintro v w' ⟨Λ', e1, e2⟩
    exact ⟨e1, _, _, Λ', C, K, H, e2, hI'⟩
theorem k_run (hI : Inv S T (mO U) K H tl) (n0 what : Int32) : Case X 8 0 0 50 yX9_run cX9_run 5 [.ref 0, .int n0, .int what] yX10_run cX10_run 7 [.ref 42, .int n0, .int what] S T U Λ C K H tl := by
  obtain ⟨ru, ou, we, me, ki, ro, ma⟩ := U
  obtain ⟨z, m, n, pl, r, τ, hrm, hm6, hz6, hru, hma, hnu, hki, hr, hz, hO, hXm, hXr, -⟩ := hI.get
  refine ⟨ruF τ r z (mO (ru, ou, we, me, ki, ro, ma)) n0 what, fun S' tl' => tl' = tl ∧ Inv S' T (mO (ru, ou, we, me, ki, ro, ma)) K H tl, (c_X9_run (hXr _ rfl) hr hz hz6).weaken ?_, ?_⟩
  · rintro v w' ⟨T', nm, sk, rm, du, e1, e2⟩
    exact ⟨by rw [e1, eq_ru ((OEq.bec (s_tho S) (s_now S) hz6).trans hO)], _, tl, e2, rfl, hI.uX _ _ _ _ _⟩
  · rintro S' tl' ⟨rfl, hI'⟩
    refine (c_X10_run hXm hru hma hz6 hnu).weaken ?_
    rintro v w' ⟨Λ', e1, e2⟩
    exact ⟨e1, _, _, Λ', C, K, H, e2, hI'⟩
theorem k_society (hI : Inv S T (mO U) K H tl) (what : Int32) : Case X 7 0 0 50 yX9_society cX9_society 2 [.ref 0, .int what] yX10_society cX10_society 5 [.ref 42, .int what] S T U Λ C K H tl := by
  obtain ⟨ru, ou, we, me, ki, ro, ma⟩ := U
  obtain ⟨z, m, n, pl, r, τ, hrm, hm6, hz6, hru, hma, hnu, hki, hr, hz, hO, hXm, hXr, -⟩ := hI.get
  refine ⟨soM τ (mO (ru, ou, we, me, ki, ro, ma)) r z what, fun S' tl' => tl' = tl ∧ Inv S' T (mO (ru, ou, we, me, ki, ro, ma)) K H tl, (c_X9_society (hXr _ rfl) hr hz hz6).weaken ?_, ?_⟩
  · rintro v w' ⟨nm, sk, e1, e2⟩
    exact ⟨by rw [e1, eq_so hO, so_eq], _, tl, e2, rfl, hI.ns nm sk⟩
  · rintro S' tl' ⟨rfl, hI'⟩
    refine (c_X10_society hXm hru hma hz6 hnu).weaken ?_
    rintro v w' ⟨Λ', e1, e2⟩
    exact ⟨e1, _, _, Λ', C, K, H, e2, hI'⟩
theorem k_cheapest (hI : Inv S T (mO U) K H tl) (mm what : Int32) : Case X 6 0 0 49 yX9_cheapest cX9_cheapest 4 [.ref 0, .int mm, .int what] yX10_cheapest cX10_cheapest 5 [.ref 42, .int mm, .int what] S T U Λ C K H tl := by
  obtain ⟨ru, ou, we, me, ki, ro, ma⟩ := U
  obtain ⟨co, ww⟩ := C
  obtain ⟨z, m, n, pl, r, τ, hrm, hm6, hz6, hru, hma, hnu, hki, hr, hz, hO, hXm, hXr, -⟩ := hI.get
  obtain ⟨WC, SF, MF, HF, e1, e2, e3, e4, e5, e6, e7⟩ := wr_ex τ (s_now S) (o_bec (s_tho S) (s_now S)) r z (s_rm S).2.2.2 (s_rm S).2.2.1 (s_rm S).2.1 (s_rm S).1
  have hT := OEq.bec (z := z) (s_tho S) (s_now S) hz6
  have hH : ∀ s, s < 256 → HF z s = HBF τ (mO (ru, ou, we, me, ki, ro, ma)) r z s := fun s hs => (hf_at hT e3 e4 e5 e6 hs z (Nat.le_refl _)).trans (HBF_eq hO)
  have hW : ∀ s, s < 256 → WC s = PRF (cprM co (fun j => coF τ (mO (ru, ou, we, me, ki, ro, ma)) r z j) 8) s := fun s hs => by
    rw [e7, ssA_at hs, Int32.zero_add]
    exact PRF_cong (fun i hi => by rw [e1, stA_at hi, cprM_at _ _ 8 i hi, eq_co hO hi])
  refine ⟨(if (mm < 0 ∨ 6 < mm ∨ what < 0 ∨ 1 < what) then -2 else chV (PRF (cprM co (fun j => coF τ (mO (ru, ou, we, me, ki, ro, ma)) r z j) 8)) what (cpF (PRF (cprM co (fun j => coF τ (mO (ru, ou, we, me, ki, ro, ma)) r z j) 8)) (HBF τ (mO (ru, ou, we, me, ki, ro, ma)) r z) mm me 256)), fun S' tl' => tl' = tl ∧ Inv S' T (mO (ru, ou, we, me, ki, ro, ma)) K H tl, (c_X9_cheapest (m := mm) (what := what) (CP := cpF WC (HF z) mm (o_me (s_now S))) (hXr _ rfl) hr hz hz6 e1 e2 e3 e4 e5 e6 e7 rfl (fun _ => rfl) (fun s k hk => cpF_lt _ _ _ _ s k hk)).weaken ?_, ?_⟩
  · rintro v w' ⟨T', nm, sk, rm, du, q1, q2⟩
    have em : o_me (s_now S) = me := hO.me
    refine ⟨?_, _, tl, q2, rfl, hI.uX _ _ _ _ _⟩
    rw [q1, cpF_cong hW hH 256 (Nat.le_refl _), em]
    by_cases hb : mm < 0 ∨ 6 < mm ∨ what < 0 ∨ 1 < what
    · rw [if_pos hb, if_pos hb]
    · rw [if_neg hb, if_neg hb, chV_cong (fun k hk => hW k (cpF_lt _ _ _ _ 256 k hk))]
  · rintro S' tl' ⟨rfl, hI'⟩
    refine (c_X10_cheapest hXm hru hma hz6).weaken ?_
    rintro v w' ⟨Λ', C', q1, q2⟩
    exact ⟨q1, _, _, Λ', C', K, H, q2, hI'⟩
theorem k_most (hI : Inv S T (mO U) K H tl) (x what : Int32) : Case X 6 0 0 49 yX9_most cX9_most 4 [.ref 0, .int x, .int what] yX10_most cX10_most 7 [.ref 42, .int x, .int what] S T U Λ C K H tl := by
  obtain ⟨ru, ou, we, me, ki, ro, ma⟩ := U
  obtain ⟨co, ww⟩ := C
  obtain ⟨z, m, n, pl, r, τ, hrm, hm6, hz6, hru, hma, hnu, hki, hr, hz, hO, hXm, hXr, -⟩ := hI.get
  obtain ⟨WC, SF, MF, HF, e1, e2, e3, e4, e5, e6, e7⟩ := wr_ex τ (s_now S) (o_bec (s_tho S) (s_now S)) r z (s_rm S).2.2.2 (s_rm S).2.2.1 (s_rm S).2.1 (s_rm S).1
  have hT := OEq.bec (z := z) (s_tho S) (s_now S) hz6
  have hH : ∀ s, s < 256 → HF z s = HBF τ (mO (ru, ou, we, me, ki, ro, ma)) r z s := fun s hs => (hf_at hT e3 e4 e5 e6 hs z (Nat.le_refl _)).trans (HBF_eq hO)
  have hW : ∀ s, s < 256 → WC s = PRF (cprM co (fun j => coF τ (mO (ru, ou, we, me, ki, ro, ma)) r z j) 8) s := fun s hs => by
    rw [e7, ssA_at hs, Int32.zero_add]
    exact PRF_cong (fun i hi => by rw [e1, stA_at hi, cprM_at _ _ 8 i hi, eq_co hO hi])
  refine ⟨(if (x < 0 ∨ 999 < x ∨ what < 0 ∨ 2 < what) then -2 else moV (PRF (cprM co (fun j => coF τ (mO (ru, ou, we, me, ki, ro, ma)) r z j) 8)) (HBF τ (mO (ru, ou, we, me, ki, ro, ma)) r z) what (mwF (PRF (cprM co (fun j => coF τ (mO (ru, ou, we, me, ki, ro, ma)) r z j) 8)) (HBF τ (mO (ru, ou, we, me, ki, ro, ma)) r z) x me 255)), fun S' tl' => tl' = tl ∧ Inv S' T (mO (ru, ou, we, me, ki, ro, ma)) K H tl, (c_X9_most (x := x) (what := what) (QF := mwF WC (HF z) x (o_me (s_now S))) (hXr _ rfl) hr hz hz6 e1 e2 e3 e4 e5 e6 e7 rfl (fun _ => rfl) (mwF_le _ _ _ _ 255)).weaken ?_, ?_⟩
  · rintro v w' ⟨T', nm, sk, rm, du, q1, q2⟩
    have em : o_me (s_now S) = me := hO.me
    refine ⟨?_, _, tl, q2, rfl, hI.uX _ _ _ _ _⟩
    rw [q1, mwF_cong hW hH 255 (Nat.le_refl _), em]
    have hl := mwF_le (PRF (cprM co (fun j => coF τ (mO (ru, ou, we, me, ki, ro, ma)) r z j) 8)) (HBF τ (mO (ru, ou, we, me, ki, ro, ma)) r z) x me 255
    unfold moV
    rw [hW _ (by omega), hH _ (by omega)]
  · rintro S' tl' ⟨rfl, hI'⟩
    refine (c_X10_most hXm hru hma hz6).weaken ?_
    rintro v w' ⟨Λ', C', q1, q2⟩
    exact ⟨q1, _, _, Λ', C', K, H, q2, hI'⟩
theorem k_haze (hI : Inv S T (mO U) K H tl) (one : Int32) : Case X 6 0 0 47 yX9_haze cX9_haze 3 [.ref 0, .int one] yX10_haze cX10_haze 4 [.ref 42, .int one] S T U Λ C K H tl := by
  obtain ⟨ru, ou, we, me, ki, ro, ma⟩ := U
  obtain ⟨z, m, n, pl, r, τ, hrm, hm6, hz6, hru, hma, hnu, hki, hr, hz, hO, hXm, hXr, -⟩ := hI.get
  refine ⟨hyA τ (mO (ru, ou, we, me, ki, ro, ma)) (ou 0) r z one, fun S' tl' => tl' = tl ∧ Inv S' T (mO (ru, ou, we, me, ki, ro, ma)) K H tl, (c_X9_haze (hXr _ rfl) hr hz hz6).weaken ?_, ?_⟩
  · rintro v w' ⟨T', nm, sk, rm, du, e1, e2⟩
    have ey : o_ye (s_now S) = ou 0 := hO.ye
    exact ⟨by rw [e1, eq_hyA ((OEq.bec (s_tho S) (s_now S) hz6).trans hO) hz6, ey], _, tl, e2, rfl, hI.uX _ _ _ _ _⟩
  · rintro S' tl' ⟨rfl, hI'⟩
    refine (c_X10_haze hXm hru hma hz6).weaken ?_
    rintro v w' ⟨Λ', e1, e2⟩
    exact ⟨e1, _, _, Λ', C, K, H, e2, hI'⟩
theorem k_premium (hI : Inv S T (mO U) K H tl) : Case X 7 0 0 50 yX9_premium cX9_premium 2 [.ref 0] yX10_premium cX10_premium 7 [.ref 42] S T U Λ C K H tl := by
  obtain ⟨ru, ou, we, me, ki, ro, ma⟩ := U
  obtain ⟨z, m, n, pl, r, τ, hrm, hm6, hz6, hru, hma, hnu, hki, hr, hz, hO, hXm, hXr, -⟩ := hI.get
  refine ⟨pmM τ (ru, ou, we, me, ki, ro, ma) r z 100 0, fun S' tl' => tl' = tl ∧ Inv S' T (mO (ru, ou, we, me, ki, ro, ma)) K H tl, (c_X9_premium (hXr _ rfl) hr hz hz6).weaken ?_, ?_⟩
  · rintro v w' ⟨T', nm, sk, rm, du, e1, e2⟩
    refine ⟨?_, _, tl, e2, rfl, hI.uX _ _ _ _ _⟩
    have ep : o_pu (s_now S) = ou 2 := hO.pu
    rw [e1, ep, ← prem_eq (U := (ru, ou, we, me, ki, ro, ma)) (du := s_du S) ((OEq.bec (s_tho S) (s_now S) hz6).trans hO)]
  · rintro S' tl' ⟨rfl, hI'⟩
    refine (c_X10_premium hXm hru hma hz6 hnu).weaken ?_
    rintro v w' ⟨Λ', e1, e2⟩
    exact ⟨e1, _, _, Λ', C, K, H, e2, hI'⟩
theorem k_best (hI : Inv S T (mO U) K H tl) (one what : Int32) : Case X 6 0 0 46 yX9_best cX9_best 4 [.ref 0, .int one, .int what] yX10_best cX10_best 5 [.ref 42, .int one, .int what] S T U Λ C K H tl := by
  obtain ⟨ru, ou, we, me, ki, ro, ma⟩ := U
  obtain ⟨z, m, n, pl, r, τ, hrm, hm6, hz6, hru, hma, hnu, hki, hr, hz, hO, hXm, hXr, -⟩ := hI.get
  refine ⟨beM τ (mO (ru, ou, we, me, ki, ro, ma)) r z one what, fun S' tl' => tl' = tl ∧ Inv S' T (mO (ru, ou, we, me, ki, ro, ma)) K H tl, (c_X9_best (hXr _ rfl) hr hz hz6).weaken ?_, ?_⟩
  · rintro v w' ⟨nm, sk, e1, e2⟩
    exact ⟨by rw [e1, eq_be hO hz6, be_eq hz6], _, tl, e2, rfl, hI.ns nm sk⟩
  · rintro S' tl' ⟨rfl, hI'⟩
    refine (c_X10_best hXm hru hma hz6).weaken ?_
    rintro v w' ⟨Λ', e1, e2⟩
    exact ⟨e1, _, _, Λ', C, K, H, e2, hI'⟩
theorem k_agree (hI : Inv S T (mO U) K H tl) (one other : Int32) : Case X 4 0 0 46 yX9_agree cX9_agree 5 [.ref 0, .int one, .int other] yX10_agree cX10_agree 5 [.ref 42, .int one, .int other] S T U Λ C K H tl := by
  obtain ⟨ru, ou, we, me, ki, ro, ma⟩ := U
  obtain ⟨z, m, n, pl, r, τ, hrm, hm6, hz6, hru, hma, hnu, hki, hr, hz, hO, hXm, hXr, -⟩ := hI.get
  refine ⟨agB τ (mO (ru, ou, we, me, ki, ro, ma)) r z one other, fun S' tl' => tl' = tl ∧ Inv S' T (mO (ru, ou, we, me, ki, ro, ma)) K H tl, (c_X9_agree (hXr _ rfl) hr hz hz6).weaken ?_, ?_⟩
  · rintro v w' ⟨nm, sk, e1, e2⟩
    exact ⟨by rw [e1, eq_agA hO hz6, agA_eq], _, tl, e2, rfl, hI.ns nm sk⟩
  · rintro S' tl' ⟨rfl, hI'⟩
    refine (c_X10_agree hXm hru hma hz6).weaken ?_
    rintro v w' ⟨Λ', e1, e2⟩
    exact ⟨e1, _, _, Λ', C, K, H, e2, hI'⟩
theorem Inv.wt {O : OT} (h : Inv S T O K H tl) (T' : OT) (nm sk : Nat → Int32) : Inv (wtS S T' nm sk (s_sh S)) T O K H tl := by
  obtain ⟨z, m, n, pl, τ, h1, h2, h3, h4, h5⟩ := h
  exact ⟨z, m, n, pl, τ, h1.cg rfl rfl rfl rfl rfl rfl rfl rfl, h2, h3, h4, h5⟩
theorem k_tells (hI : Inv S T (mO U) K H tl) (s one what : Int32) : Case X 8 0 0 51 yX9_tells cX9_tells 5 [.ref 0, .int s, .int one, .int what] yX10_tells cX10_tells 13 [.ref 42, .int s, .int one, .int what] S T U Λ C K H tl := by
  obtain ⟨ru, ou, we, me, ki, ro, ma⟩ := U
  obtain ⟨tx, ts, tc, tp, tn⟩ := T
  obtain ⟨it, so, ss, is⟩ := H
  obtain ⟨z, m, n, pl, r, τ, hrm, hm6, hz6, hru, hma, hnu, hki, hr, hz, hO, hXm, hXr, hP, -, -, hS⟩ := hI.get
  refine ⟨teA τ (it, so, ss, is) (mO (ru, ou, we, me, ki, ro, ma)) r z m s one what, fun S' tl' => tl' = tl ∧ Inv S' (tx, ts, tc, tp, tn) (mO (ru, ou, we, me, ki, ro, ma)) K (it, so, ss, is) tl, (c_X9_tells (m := m) (T := o_bec (s_tho S) (s_now S)) (fun i hi => (hP.2.2.2.2.1 i hi).1 _ rfl) hrm hm6 hP.2.2.1 rfl hr hz hz6).weaken ?_, ?_⟩
  · rintro v w' ⟨T', nm, sk, e1, e2⟩
    exact ⟨by rw [e1, te_eq ((OEq.bec (s_tho S) (s_now S) hz6).trans hO) hS hz6 hP.1 hm6], _, tl, e2, rfl, hI.wt _ _ _⟩
  · rintro S' tl' ⟨rfl, hI'⟩
    refine (c_X10_tells (m := m) hXm (fun k hk => (hP.2.2.2.2.1 k hk).2) hru hma hz6 hnu hP.2.2.2.1 hP.1 hm6).weaken ?_
    rintro v w' ⟨Λ', e1, e2⟩
    exact ⟨e1, _, _, Λ', C, K, _, e2, hI'⟩
theorem k_drawn (hI : Inv S T (mO U) K H tl) (seed : Int32) : Case X 8 0 0 49 yX9_drawn cX9_drawn 2 [.ref 0, .int seed] yX10_drawn cX10_drawn 2 [.ref 42, .int seed] S T U Λ C K H tl := by
  obtain ⟨ru, ou, we, me, ki, ro, ma⟩ := U
  obtain ⟨co, ww⟩ := C
  obtain ⟨z, m, n, pl, r, τ, hrm, hm6, hz6, hru, hma, hnu, hki, hr, hz, hO, hXm, hXr, -⟩ := hI.get
  obtain ⟨ZZ, WE, z0, z1, w0, w1⟩ := we_ex seed (o_we (o_bec (s_tho S) (s_now S)))
  refine ⟨hpF τ (mO (ru, ou, (weM seed we 8), me, ki, ro, ma)) r z, fun S' tl' => tl' = tl ∧ Inv S' T (mO (ru, ou, we, me, ki, ro, ma)) K H tl, (c_X9_drawn (hXr _ rfl) hr hz hz6 z0 z1 w0 w1).weaken ?_, ?_⟩
  · rintro v w' ⟨T', nm, sk, rm, du, e1, e2⟩
    refine ⟨?_, _, tl, e2, rfl, hI.uX _ _ _ _ _⟩
    rw [e1, eq_hp (((OEq.bec (s_tho S) (s_now S) hz6).trans hO).uweF (g := weM seed we 8) (fun i hi => drawn_w z0 z1 w1 hi))]
    rfl
  · rintro S' tl' ⟨rfl, hI'⟩
    refine (c_X10_drawn hXm hru hma hz6).weaken ?_
    rintro v w' ⟨Λ', ww', e1, e2⟩
    exact ⟨e1, _, _, Λ', _, K, H, e2, hI'⟩
theorem k_count (hI : Inv S T (mO U) K H tl) (of : Int32) : Case X 1 0 0 1 yX9_count cX9_count 2 [.ref 0, .int of] yX10_count cX10_count 4 [.ref 42, .int of] S T U Λ C K H tl := by
  obtain ⟨ru, ou, we, me, ki, ro, ma⟩ := U
  obtain ⟨tx, ts, tc, tp, tn⟩ := T
  obtain ⟨z, m, n, pl, r, τ, hrm, hm6, hz6, hru, hma, hnu, hki, hr, hz, hO, hXm, hXr, hP, hG, -⟩ := hI.get
  refine ⟨coM (tx, ts, tc, tp, tn) (ru, ou, we, me, ki, ro, ma) of, fun S' tl' => S' = S ∧ tl' = tl, c_X9_count.weaken ?_, ?_⟩
  · rintro v w' ⟨e1, e2⟩
    refine ⟨?_, S, tl, e2, rfl, rfl⟩
    rw [e1]
    congr 2
    obtain ⟨k, hk, ek⟩ := hG.2.2.2.1
    have ek : me = nI k := ek
    have h0 : o_sz (s_now S) = ma := hO.sz
    have h1 : o_me (s_now S) = me := hO.me
    have h2 : o_ye (s_now S) = ou 0 := hO.ye
    have h3 : s_mz S = tc := hP.2.2.1.trans hP.2.2.2.1.symm
    have h4 : s_tn S = tn := hP.2.2.2.2.2.2.2.1.trans hP.2.2.2.2.2.2.2.2.1.symm
    have h5 : o_ru (s_now S) = ru := hO.ru
    have h6 : pcF me = sumI (cnM me) 8 := by rw [ek]; exact cn_eq k hk
    unfold coCF coM
    rw [h0, h1, h2, h3, h4, h5, h6]
    by_cases c0 : of = 0
    · rw [if_pos c0, if_neg (by rw [c0]; decide), if_pos c0]
    by_cases c1 : of = 1
    · rw [if_neg c0, if_pos c1, if_neg (by rw [c1]; decide), if_neg c0, if_pos c1]
    by_cases c2 : of = 2
    · rw [if_neg c0, if_neg c1, if_pos c2, if_neg (by rw [c2]; decide), if_neg c0, if_neg c1, if_pos c2]
    by_cases c3 : of = 3
    · rw [if_neg c0, if_neg c1, if_neg c2, if_pos c3, if_neg (by rw [c3]; decide), if_neg c0, if_neg c1, if_neg c2, if_pos c3]
    by_cases c4 : of = 4
    · rw [if_neg c0, if_neg c1, if_neg c2, if_neg c3, if_pos c4, if_neg (by rw [c4]; decide), if_neg c0, if_neg c1, if_neg c2, if_neg c3, if_pos c4]
    by_cases c5 : of = 5
    · rw [if_neg c0, if_neg c1, if_neg c2, if_neg c3, if_neg c4, if_pos c5, if_neg (by rw [c5]; decide), if_neg c0, if_neg c1, if_neg c2, if_neg c3, if_neg c4]
    rw [if_neg c0, if_neg c1, if_neg c2, if_neg c3, if_neg c4, if_neg c5, if_pos]
    rintro ⟨y1, y2⟩
    rcases le8 ⟨y1, Int32.le_trans y2 (by decide)⟩ with e | e | e | e | e | e | e | e | e <;> first | contradiction | exact absurd y2 (by rw [e]; decide)
  · rintro S' tl' ⟨rfl, rfl⟩
    refine c_X10_count.weaken ?_
    rintro v w' ⟨e1, e2⟩
    exact ⟨e1, _, _, Λ, C, K, H, e2, hI⟩
theorem k_taken (hI : Inv S T (mO U) K H tl) (one k : Int32) : Case X 1 0 0 2 yX9_taken cX9_taken 3 [.ref 0, .int one, .int k] yX10_taken cX10_taken 4 [.ref 42, .int one, .int k] S T U Λ C K H tl := by
  obtain ⟨ru, ou, we, me, ki, ro, ma⟩ := U
  obtain ⟨z, m, n, pl, r, τ, hrm, hm6, hz6, hru, hma, hnu, hki, hr, hz, hO, hXm, hXr, -⟩ := hI.get
  refine ⟨taF (mO (ru, ou, we, me, ki, ro, ma)) z one k, fun S' tl' => S' = S ∧ tl' = tl, (c_X9_taken hz hz6).weaken ?_, ?_⟩
  · rintro v w' ⟨e1, e2⟩
    exact ⟨by rw [e1, eq_ta hO hz6], S, tl, e2, rfl, rfl⟩
  · rintro S' tl' ⟨rfl, rfl⟩
    refine (c_X10_taken hma hz6 hki).weaken ?_
    rintro v w' ⟨e1, e2⟩
    exact ⟨e1, _, _, Λ, C, K, H, e2, hI⟩
end QRY
