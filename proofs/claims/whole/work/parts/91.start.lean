/-! what both sides begin with -/
def SSx (tb : Nat → Int32) (s9 : PS) (e : Nat → Int32) : CS := u_mz (u_mt (CS0 tb s9 e) (va_up (fun _ => none) 0 (some 40))) (nI (0 + 1))
abbrev U00 : MU := (0, upd z0 2 100, z0, 0, z0, z0, 0)
abbrev K00 : MK := (z0, z0, z0, 0, -1, 0)
abbrev H00 : MH := (z0, z0, z0, z0)
theorem inv0 {tx tb e : Nat → Int32} {s9 : PS} (hs9 : s9 = ps3 tb 70 s70) (he : e = enF (g_cz (ps1 tb 70 s70)) (g_cz (ps2 tb 70 s70)) (g_cz (ps3 tb 70 s70))) (hf : g_fa (fin0 (ps3 tb 70 s70)) = -1) (htv : tvF tb 70 s70 = tvF m72 72 s70) (htx : ∀ i, i < 72 → tx i = m72 i) : Inv (SSx tb s9 e) (tx, upd z0 0 72, 1, z0, 0) (mO U00) K00 H00 [] := by
  refine ⟨0, 1, 0, g_pl s9, upT (fun _ _ _ => 0) 0 (tvF m72 72 s70), ⟨Nat.le_refl _, by omega, rfl, rfl, fun r hr => ?_, rfl, by omega, rfl, rfl, fun i hi => absurd hi (by omega)⟩, ⟨by omega, rfl, ⟨0, by omega, rfl⟩, ⟨0, by omega, rfl⟩, ⟨0, by omega, ?_⟩, fun i hi => absurd hi (by omega)⟩, ⟨fun _ _ => rfl, rfl, ?_, ?_, ?_, rfl, rfl, fun i hi => absurd hi (by omega)⟩, Or.inl ⟨rfl, rfl⟩, fun k hk => ⟨0, by omega, rfl, ⟨fun _ => rfl, fun _ => rfl⟩, fun q => absurd (show z0 k = 0 from rfl) q⟩⟩
  · have e0 : r = 0 := by omega
    subst e0
    refine ⟨fun M hM => ?_, ?_⟩
    · rw [← htv]
      exact TXr_new (t := 40) (cr := 41) (er := 39) (by omega) (by omega) s70_eq hf (show va_up (fun _ => none) 0 (some 40) 0 = some 40 from if_pos rfl) (Or.inl ⟨rfl, rfl, rfl, by rw [← hs9]; rfl, by rw [← hs9]; rfl, by rw [← he]; rfl⟩)
    · exact TXm_new (by omega) (by omega) s70_eq t72_fa (show upd z0 0 72 0 = nI 72 by rw [pk_us]; rfl) (fun i hi => by rw [Nat.mul_zero, Nat.zero_add]; exact htx i hi) m72_b
  · show upd z0 2 100 0 = nI 0
    rw [pk_un (by decide)]; rfl
  · show (0 : Int32) = upd z0 2 100 0
    rw [pk_un (by decide)]
  · show (0 : Int32) = upd z0 2 100 1
    rw [pk_un (by decide)]
  · show (100 : Int32) = upd z0 2 100 2
    rw [pk_us]
theorem t70_fa9 : g_fa (prs (tpF 70) 70 s70) = -1 := by rw [t70_ps.2.2.2]; exact t70_fa
theorem t70_fin : g_fa (fin0 (ps3 (tpF 70) 70 s70)) = -1 := by
  have h := t70_fa9
  unfold prs at h
  exact h
theorem t70_prs : prs (tpF 70) 70 s70 = ps3 (tpF 70) 70 s70 := by
  have h := (txt_wg (b := tpF 70) (n := 70) (by decide) s70_eq t70_fin).1
  unfold prs
  exact h
set_option maxRecDepth 100000 in
set_option maxHeartbeats 4000000 in
theorem law_all {L : Nat} {mn : String} {xs : Nat → Int32} (hL : L ≤ 3072) : Ex (L, xs) (RL, mn, code, 4, some .boolean) 60 ReL (3 * (L / 6) + 59) (166 * (L / 6) + 3162) 0 [some (.float 200), none, none, none] [] [] := by
  refine Ex.more (cb := 3 * (L / 6) + 58 + 1) (sb := 166 * (L / 6) + 3153 + 9) (by omega) (by omega) ?_
  refine x_new (ci := 7) (C := RX9) (T := TX9) (N := 9) (ty0 := tyX9) [.null, .null, .null, .int 0, .null, .null, .null, .null, .null] dL_law_0 (gw_lays inX9) tyX9_ok rfl kl_L_7 kz_X9 ki_X9 (by intro j hj; match j, hj with | 0, _ => rfl | 1, _ => rfl | 2, _ => rfl | 3, _ => rfl | 4, _ => rfl | 5, _ => rfl | 6, _ => rfl | 7, _ => rfl | 8, _ => rfl | n + 9, h => exact absurd h (by omega)) (by intro v hv ad sa; simp only [List.mem_cons, List.not_mem_nil, or_false] at hv; rcases hv with rfl | rfl | rfl | rfl | rfl | rfl | rfl | rfl | rfl <;> rfl) (by intro v hv k; simp only [List.mem_cons, List.not_mem_nil, or_false] at hv; rcases hv with rfl | rfl | rfl | rfl | rfl | rfl | rfl | rfl | rfl <;> trivial) ?_
  refine Ex.eqW (w' := [.inr (7, [.null, .null, .null, .int 0, .null, .null, .null, .null, .null])]) rfl ?_
  refine x_dup dL_law_3 ?_
  refine Ex.more (cb := 3 * (L / 6) + 17 + 41) (sb := 166 * (L / 6) + 1406 + 1747) (by omega) (by omega) ?_
  refine ia_L_9 dL_law_4 (c_X9_init t70_fa9) (by decide) (Nat.le_of_ble_eq_true rfl) (fun v w' h _ => ?_)
  obtain ⟨rfl, rfl⟩ := h
  refine Ex.eqW (w' := cst (SSx (tpF 70) (prs (tpF 70) 70 s70) (enF (g_cz (ps1 (tpF 70) 70 s70)) (g_cz (ps2 (tpF 70) 70 s70)) (g_cz (ps3 (tpF 70) 70 s70)))) ++ []) rfl ?_
  have hInv := fun tx htx => inv0 (tx := tx) (tb := tpF 70) (e := enF (g_cz (ps1 (tpF 70) 70 s70)) (g_cz (ps2 (tpF 70) 70 s70)) (g_cz (ps3 (tpF 70) 70 s70))) (s9 := prs (tpF 70) 70 s70) t70_prs rfl t70_fin t70_tv htx
  generalize SSx (tpF 70) (prs (tpF 70) 70 s70) (enF (g_cz (ps1 (tpF 70) 70 s70)) (g_cz (ps2 (tpF 70) 70 s70)) (g_cz (ps3 (tpF 70) 70 s70))) = S at hInv ⊢
  refine x_astore_n dL_law_7 (show 1 < 4 by decide) ?_
  refine Ex.more (cb := 3 * (L / 6) + 16 + 1) (sb := 166 * (L / 6) + 1366 + 40) (by omega) (by omega) ?_
  refine x_new (ci := 8) (C := RX10) (T := TX10) (N := 40) (ty0 := tyX10) [.int 0, .null, .null, .int 0, .int 0, .null, .int 0, .null, .null, .int 0, .null, .null, .int 0, .int 0, .int 0, .int 0, .int 0, .int 0, .int 0, .int 0, .int 0, .int 0, .int 0, .int 0, .long 0, .int 0, .int 0, .int 0, .null, .null, .null, .null, .null, .int 0, .int 0, .int 0, .null, .null, .null, .null] dL_law_8 (gw_lays inX10) tyX10_ok rfl kl_L_10 kz_X10 ki_X10 (by intro j hj; match j, hj with | 0, _ => rfl | 1, _ => rfl | 2, _ => rfl | 3, _ => rfl | 4, _ => rfl | 5, _ => rfl | 6, _ => rfl | 7, _ => rfl | 8, _ => rfl | 9, _ => rfl | 10, _ => rfl | 11, _ => rfl | 12, _ => rfl | 13, _ => rfl | 14, _ => rfl | 15, _ => rfl | 16, _ => rfl | 17, _ => rfl | 18, _ => rfl | 19, _ => rfl | 20, _ => rfl | 21, _ => rfl | 22, _ => rfl | 23, _ => rfl | 24, _ => rfl | 25, _ => rfl | 26, _ => rfl | 27, _ => rfl | 28, _ => rfl | 29, _ => rfl | 30, _ => rfl | 31, _ => rfl | 32, _ => rfl | 33, _ => rfl | 34, _ => rfl | 35, _ => rfl | 36, _ => rfl | 37, _ => rfl | 38, _ => rfl | 39, _ => rfl | n + 40, h => exact absurd h (by omega)) (by intro v hv ad sa; simp only [List.mem_cons, List.not_mem_nil, or_false] at hv; rcases hv with rfl | rfl | rfl | rfl | rfl | rfl | rfl | rfl | rfl | rfl | rfl | rfl | rfl | rfl | rfl | rfl | rfl | rfl | rfl | rfl | rfl | rfl | rfl | rfl | rfl | rfl | rfl | rfl | rfl | rfl | rfl | rfl | rfl | rfl | rfl | rfl | rfl | rfl | rfl | rfl <;> rfl) (by intro v hv k; simp only [List.mem_cons, List.not_mem_nil, or_false] at hv; rcases hv with rfl | rfl | rfl | rfl | rfl | rfl | rfl | rfl | rfl | rfl | rfl | rfl | rfl | rfl | rfl | rfl | rfl | rfl | rfl | rfl | rfl | rfl | rfl | rfl | rfl | rfl | rfl | rfl | rfl | rfl | rfl | rfl | rfl | rfl | rfl | rfl | rfl | rfl | rfl | rfl <;> trivial) ?_
  rw [show (cst S ++ ([] : pc_W)).length = 42 from rfl]
  refine Ex.eqW (w' := cst S ++ [.inr (8, [.int 0, .null, .null, .int 0, .int 0, .null, .int 0, .null, .null, .int 0, .null, .null, .int 0, .int 0, .int 0, .int 0, .int 0, .int 0, .int 0, .int 0, .int 0, .int 0, .int 0, .int 0, .long 0, .int 0, .int 0, .int 0, .null, .null, .null, .null, .null, .int 0, .int 0, .int 0, .null, .null, .null, .null])]) (by rw [List.append_nil]) ?_
  refine x_dup dL_law_11 ?_
  refine Ex.more (cb := 3 * (L / 6) + 16) (sb := 166 * (L / 6) + 1366) (by omega) (by omega) ?_
  refine ia_L_12 dL_law_12 (c_X10_init (S := S)) (by decide) (Nat.le_of_ble_eq_true rfl) (fun v w' h _ => ?_)
  obtain ⟨rfl, tx, htx, rfl⟩ := h
  refine x_astore_n dL_law_15 (show 2 < 4 by decide) ?_
  refine x_iconst 0 dL_law_16 ?_
  refine x_istore_n dL_law_17 (show 3 < 4 by decide) ?_
  refine Ex.forget (L' := [some (.float 200), some (.ref 0), some (.ref 42), some (.int (nI (6 * 0)))]) ⟨rfl, rfl, rfl, rfl, trivial⟩ ?_
  refine Ex.more (cb := 3 * (L / 6 - 0)) (sb := 166 * (L / 6 - 0)) (by omega) (by omega) ?_
  exact law_loop hL rfl 0 (Nat.zero_le _) S _ U00 ML0 (z0, z0) K00 H00 [] (hInv tx htx)
