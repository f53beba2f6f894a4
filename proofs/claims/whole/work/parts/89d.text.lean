/-! text() -/
theorem app_at {M tl l : pc_W} {j : Nat} (hM : M.length = 17) : (M ++ (tl ++ l))[17 + tl.length + j]? = l[j]? := by
  rw [List.getElem?_append_right (by omega), List.getElem?_append_right (by omega), show 17 + tl.length + j - M.length - tl.length = j by omega]
theorem WD_len {S : CS} {T : MT} {U : MU} {Λ : ML} {C : MC} {K : MK} {H : MH} {tl : pc_W} : (cst S ++ (mw T U Λ C K H ++ tl)).length = 59 + tl.length := by
  rw [List.length_append, List.length_append, cst_len, mw_len]; omega
theorem TP_old {m n pl : Nat} {τ : TV} {v : Nat → (Nat → Int32) → Int32} {S S' : CS} {tx ts tp : Nat → Int32} {tc tn : Int32} {tl l : pc_W} (h : TPx m n pl τ S (tx, ts, tc, tp, tn) tl) (hmt : ∀ r, r < m → s_mt S' r = s_mt S r) (h1 : s_tz S' = s_tz S) (h2 : s_tc S' = s_tc S) (h3 : s_te S' = s_te S) (k : Nat) (hn : n ≤ 160) : ∀ r, r < m → (∀ M : pc_W, M.length = 17 → TXr (upT τ m v) S' (M ++ (tl ++ l)) r) ∧ TXm (upT τ m v) (txC tx tp m n) (upd ts m (nI k)) r := by
  intro r hr
  obtain ⟨a, b⟩ := h.2.2.2.2.1 r hr
  refine ⟨fun M hM => ?_, TXm_old b (by omega) (fun i hi => ?_) (pk_un (by omega))⟩
  · refine TXr_tr (a M hM) (hmt r hr) (fun t cr er n code ends q => ?_) (upT_n (by omega))
    have := TCell_app (l := l) h1 h2 h3 q
    rw [List.append_assoc] at this
    exact this
  · unfold txC
    rw [if_neg (by omega)]
set_option maxRecDepth 100000 in
set_option maxHeartbeats 4000000 in
theorem c_X10_text_f43 {X : Nat × (Nat → Int32)} {S : CS} {tl : pc_W} {tx : (Nat → Int32)} {ts : (Nat → Int32)} {tp : (Nat → Int32)} {U : MU} {Λ : ML} {C : MC} {K : MK} {H : MH} {n : Nat}     : Mt X 43 0 0 yX10_text cX10_text 2 (some .int) [.ref 42] (cst S ++ (mw (tx, ts, nI 6, tp, nI n) U Λ C K H ++ tl)) (RI (-4) (cst S ++ (mw (tx, ts, nI 6, tp, nI n) U Λ C K H ++ tl))) := by
  refine Mt.of (by decide +kernel) (fun _ _ => Nat.le_of_ble_eq_true rfl) ?_
  show Ex X mX10_text _ _ _ _ _ _ _ _
  refine x_aload_n dX10_text_0 rfl ?_
  refine mg_70 dX10_text_1 ?_
  refine x_bipush 6 dX10_text_4 ?_
  refine x_icmp_ne 12 dX10_text_6 (fun hx => absurd (rfl) hx) (fun _ => ?_)
  refine x_bipush (-4) dX10_text_9 ?_
  exact Ex.ret (v := some (.int _)) ⟨dX10_text_11, _, rfl, by first | rfl | decide⟩ ⟨congrArg (fun z => some (Value.int z)) (by rfl), rfl⟩
section TXT
variable {X : Nat × (Nat → Int32)} {S : CS} {T : MT} {U : MU} {Λ : ML} {C : MC} {K : MK} {H : MH} {tl : pc_W}
theorem k_text (hI : Inv S T (mO U) K H tl) : Case X 45 3 166 43 yX9_text cX9_text 2 [.ref 0] yX10_text cX10_text 2 [.ref 42] S T U Λ C K H tl := by
  obtain ⟨tx, ts, tc, tp, tn⟩ := T
  obtain ⟨z, m, n, pl, r, τ, hrm, hm6, hz6, hru, hma, hnu, hki, hr, hz, hO, hXm, hXr, hP, hG, hK, hS⟩ := hI.get
  have hP0 := hP
  obtain ⟨a1, a2, a3, a4, a5, a6, a7, a8, a9, a10⟩ := hP
  have a9 : tn = nI n := a9
  have a4 : tc = nI m := a4
  subst a9 a4
  have cl := c_X9_text (X := X) (tl := mw (tx, ts, nI m, tp, nI n) U Λ C K H ++ tl) a3 a2 a8 a7 a6
  by_cases h6 : 6 ≤ m
  · have em : m = 6 := by omega
    subst em
    refine ⟨-4, fun S' tl' => S' = S ∧ tl' = tl, cl.weaken ?_, ?_⟩
    · rintro w w' (⟨-, e1, e2⟩ | ⟨y, -⟩)
      · exact ⟨e1, S, tl, e2, rfl, rfl⟩
      · exact absurd y (by omega)
    · rintro S' tl' ⟨rfl, rfl⟩
      refine (c_X10_text_f43 (n := n)).weaken ?_
      rintro w w' ⟨e1, e2⟩
      exact ⟨e1, _, U, Λ, C, K, H, e2, hI⟩
  · have hm : m < 6 := by omega
    obtain ⟨s0, es0⟩ : ∃ s0, s0 = s00 (p_to (s_P S)) (p_nu (s_P S)) pl (p_co (s_P S)) := ⟨_, rfl⟩
    have hs0 : s0 = (pl, 0, p_to (s_P S), p_nu (s_P S), -1, 0, 0, p_co (s_P S)) := es0
    obtain ⟨q1, q2, q3, q4⟩ := ps_ext (b := s_tp S) (b' := tp) (n := n) (fun i hi => (a10 i hi).1) s0
    have hmo := fun S' tl' => c_X10_text (X := X) (S := S') (tl := tl') (tx := tx) (ts := ts) (tp := tp) (U := U) (Λ := Λ) (C := C) (K := K) (H := H) (m := m) (n := n) hm a7 (fun i hi => (a10 i hi).2) hs0 rfl
    have hprs : prs tp n s0 = fin0 (ps3 tp n s0) := by unfold prs; rfl
    rw [hprs] at q4
    have hN : (cst S ++ (mw (tx, ts, nI m, tp, nI n) U Λ C K H ++ tl)).length = 59 + tl.length := WD_len
    by_cases hf : g_fa (fin0 (ps3 tp n s0)) = -1
    · have hfin := (txt_wg a7 hs0 hf).1
      have hf3 : g_fa (ps3 tp n s0) = -1 := by have h := hf; rw [hfin] at h; exact h
      refine ⟨nI m, fun S' tl' => S' = u_mz (u_mt (u_tn (u_P S (psP n (ps3 tp n s0))) 0) (va_up (s_mt S) m (some (59 + tl.length + 1)))) (nI (m + 1)) ∧ tl' = tl ++ [.inl (0, (4, .inl (enF (g_cz (ps1 tp n s0)) (g_cz (ps2 tp n s0)) (g_cz (ps3 tp n s0))))), .inr (6, [.ref (59 + tl.length + 2), .ref (59 + tl.length)]), .inl (0, (g_cz (ps3 tp n s0), .inl (va_cpy (g_co (ps3 tp n s0)) (fun _ => 0) 0 0 (g_cz (ps3 tp n s0)))))], cl.weaken ?_, ?_⟩
      · rintro w w' (⟨y, -⟩ | ⟨-, e, s', es', ee, h⟩)
        · exact absurd y h6
        rw [← es0, q4, hfin] at es'
        rw [← es0, q1, q2, q3] at ee
        rw [hN] at h
        rcases h with ⟨-, e1, e2⟩ | ⟨y, -⟩
        · refine ⟨e1, _, _, ?_, rfl, rfl⟩
          rw [e2, es', ee, List.append_assoc]
        · exact absurd (by rw [es']; exact hf3) y
      · rintro S' tl' ⟨rfl, rfl⟩
        refine (hmo _ _).weaken ?_
        rintro w w' ⟨Λ', e1, e2⟩
        rw [if_pos hf] at e1 e2
        refine ⟨e1, _, U, Λ', C, K, H, e2, ?_⟩
        have hold := TP_old (v := tvF tp n s0) (l := [.inl (0, (4, .inl (enF (g_cz (ps1 tp n s0)) (g_cz (ps2 tp n s0)) (g_cz (ps3 tp n s0))))), .inr (6, [.ref (59 + tl.length + 2), .ref (59 + tl.length)]), .inl (0, (g_cz (ps3 tp n s0), .inl (va_cpy (g_co (ps3 tp n s0)) (fun _ => 0) 0 0 (g_cz (ps3 tp n s0)))))]) (S' := u_mz (u_mt (u_tn (u_P S (psP n (ps3 tp n s0))) 0) (va_up (s_mt S) m (some (59 + tl.length + 1)))) (nI (m + 1))) hP0 (fun r hr => (show va_up (s_mt S) m (some (59 + tl.length + 1)) r = s_mt S r from if_neg (by omega))) rfl rfl rfl n a7
        refine ⟨z, m + 1, 0, g_pl (ps3 tp n s0), upT τ m (tvF tp n s0), ⟨by omega, by omega, rfl, rfl, fun r hr => ?_, rfl, by omega, rfl, rfl, fun i hi => absurd hi (by omega)⟩, hG.mono (by omega), hO, hK.up (by omega) (Nat.le_refl _) rfl rfl (fun _ _ => rfl), hS⟩
        by_cases e : r = m
        · subst e
          refine ⟨fun M hM => ?_, TXm_new hm a7 hs0 hf pk_us (fun i hi => txC_at hi) (fun i hi => (a10 i hi).2)⟩
          refine TXr_new (t := 59 + tl.length + 1) (cr := 59 + tl.length + 2) (er := 59 + tl.length) hm a7 hs0 hf (show va_up (s_mt S) r (some (59 + tl.length + 1)) r = some (59 + tl.length + 1) from if_pos rfl) (Or.inr ⟨by omega, by omega, by omega, ?_, ?_, ?_⟩)
          · rw [show 59 + tl.length + 1 - 42 = 17 + tl.length + 1 by omega, app_at hM]; rfl
          · rw [show 59 + tl.length + 2 - 42 = 17 + tl.length + 2 by omega, app_at hM]; rfl
          · rw [show 59 + tl.length - 42 = 17 + tl.length + 0 by omega, app_at hM]; rfl
        · exact hold r (by omega)
    · refine ⟨-100 - g_fa (fin0 (ps3 tp n s0)), fun S' tl' => S' = u_tn (u_P S (psP n (fin0 (ps3 tp n s0)))) 0 ∧ tl' = tl ++ [.inl (0, (4, .inl (enF (g_cz (ps1 tp n s0)) (g_cz (ps2 tp n s0)) (g_cz (ps3 tp n s0)))))], cl.weaken ?_, ?_⟩
      · rintro w w' (⟨y, -⟩ | ⟨-, e, s', es', ee, h⟩)
        · exact absurd y h6
        rw [← es0, q4] at es'
        rw [← es0, q1, q2, q3] at ee
        rcases h with ⟨y, -⟩ | ⟨-, e1, e2⟩
        · exact absurd (by rw [← es']; exact y) hf
        · refine ⟨by rw [e1, es'], _, _, ?_, rfl, rfl⟩
          rw [e2, es', ee, List.append_assoc]
      · rintro S' tl' ⟨rfl, rfl⟩
        refine (hmo _ _).weaken ?_
        rintro w w' ⟨Λ', e1, e2⟩
        rw [if_neg hf] at e1 e2
        refine ⟨e1, _, U, Λ', C, K, H, e2, ?_⟩
        have hold := TP_old (v := tvF tp n s0) (l := [.inl (0, (4, .inl (enF (g_cz (ps1 tp n s0)) (g_cz (ps2 tp n s0)) (g_cz (ps3 tp n s0)))))]) (S' := u_tn (u_P S (psP n (fin0 (ps3 tp n s0)))) 0) hP0 (fun _ _ => rfl) rfl rfl rfl n a7
        exact ⟨z, m, 0, g_pl (fin0 (ps3 tp n s0)), upT τ m (tvF tp n s0), ⟨a1, a2, a3, rfl, hold, rfl, by omega, rfl, rfl, fun i hi => absurd hi (by omega)⟩, hG, hO, hK.up (Nat.le_refl _) (Nat.le_refl _) rfl rfl (fun _ _ => rfl), hS⟩
end TXT
