/-! the first text: what both begin with -/
theorem sby_72 : ∀ i, i < 70 → sby 0 i = m72 i := by decide +kernel
theorem tpF_at : ∀ n i, tpF n i = if i < n then sby 0 i else 0
  | 0, i => rfl
  | n + 1, i => by
    unfold tpF
    by_cases e : i = n
    · subst e; rw [pk_us, if_pos (Nat.lt_succ_self i)]
    · rw [pk_un e, tpF_at n i]
      have e2 : (i < n + 1) = (i < n) := propext ⟨fun y => by omega, fun y => by omega⟩
      simp only [e2]
theorem tpF_70 : ∀ i, i < 70 → tpF 70 i = m72 i := fun i hi => by rw [tpF_at, if_pos hi, sby_72 i hi]
theorem t70_ps : ps1 (tpF 70) 70 s70 = ps1 m72 70 s70 ∧ ps2 (tpF 70) 70 s70 = ps2 m72 70 s70 ∧ ps3 (tpF 70) 70 s70 = ps3 m72 70 s70 ∧ prs (tpF 70) 70 s70 = prs m72 70 s70 := ps_ext tpF_70 s70
theorem t70_fa : g_fa (prs m72 70 s70) = -1 := by decide +kernel
theorem t72_fa : g_fa (fin0 (ps3 m72 72 s70)) = -1 := by decide +kernel
theorem s70_eq : s70 = ((0 : Nat), (0 : Nat), (0 : Int32), (0 : Int32), (-1 : Int32), (0 : Nat), (0 : Nat), (fun _ => (0 : Int32))) := rfl
theorem t70_cz : g_cz (ps1 m72 70 s70) = g_cz (ps1 m72 72 s70) ∧ g_cz (ps2 m72 70 s70) = g_cz (ps2 m72 72 s70) ∧ g_cz (ps3 m72 70 s70) = g_cz (ps3 m72 72 s70) := by decide +kernel
theorem t70_co : ∀ i, i < g_cz (ps3 m72 72 s70) → g_co (ps3 m72 70 s70) i = g_co (ps3 m72 72 s70) i := by decide +kernel
theorem m72_b : ∀ i, i < 72 → 0 ≤ m72 i := by decide +kernel
theorem t70_tv : tvF (tpF 70) 70 s70 = tvF m72 72 s70 := by
  have e : tvF (tpF 70) 70 s70 = tvF m72 70 s70 := by
    funext wh nm
    unfold tvF
    rw [t70_ps.1, t70_ps.2.1, t70_ps.2.2.1]
  rw [e]
  exact tv_eq (b := m72) (n := 72) (s0 := s70) (b' := m72) (n' := 70) (s0' := s70) (by decide) s70_eq t72_fa t70_cz.1 t70_cz.2.1 t70_cz.2.2 t70_co
