/-! what a text is worth, told to both sides -/
theorem WN_exc {b : Nat → Int32} {n : Nat} {t : Int32} (s : PS) : WN (exc b n t s) := by
  unfold exc
  by_cases h : g_to s = t
  · rw [if_pos h]; exact WN_adv _
  · rw [if_neg h]; exact WN_rfu _
theorem prP_wg {b nm : Nat → Int32} {n i : Nat} {s : PS} (hn : n ≤ 160) (h : WF n s) (hc : g_cz s ≤ g_pl s) (hk : g_op s = 0) (hi : i < 3) (hf : g_fa (prP b n (nI (206 + i)) s) = -1) : ∃ x, GC nm (g_co (prP b n (nI (206 + i)) s)) (g_cz s) (g_cz (prP b n (nI (206 + i)) s)) x := by
  have k2 : ¬ nI (206 + i) = 2 := fun y => absurd ((nI_eq (a := 206 + i) (b := 2) (by omega) (by decide)).mp y) (by omega)
  have k0 : ¬ nI (206 + i) = 0 := fun y => absurd ((nI_eq (a := 206 + i) (b := 0) (by omega) (by decide)).mp y) (by omega)
  have gf : GF n 0 (lvE b n (lev b n 5)) := (lv_gf (b := b) hn 5 0 rfl).2.2.2.2.2
  have wg : WG nm n 0 (lvE b n (lev b n 5)) := (lev_wg (b := b) (nm := nm) hn 6 0 rfl).1
  revert hf
  unfold prP prE
  generalize lvE b n (lev b n 5) = f at gf wg ⊢
  have g1 := exc_gd (b := b) hn h k2 k0
  have z1 := exc_cz (b := b) hn h k2
  have w1 := WN_exc (b := b) (n := n) (t := nI (206 + i)) s
  generalize exc b n (nI (206 + i)) s = s1 at g1 z1 w1 ⊢
  have c1 : g_cz s1 ≤ g_pl s1 := by have := g1.cz hc; omega
  have g2 := (gf s1 g1.1 c1 (g1.2.1.trans hk)).1
  have w2 := (wg s1 g1.1 c1 (g1.2.1.trans hk) w1).2
  generalize f s1 = s2 at g2 w2 ⊢
  rw [z1] at w2
  intro hf
  unfold exc at hf ⊢
  by_cases h6 : g_to s2 = 59
  · rw [if_pos h6] at hf ⊢
    have n2 : ¬ g_to s2 = 2 := by rw [h6]; decide
    obtain ⟨-, -, -, e4, e5⟩ := adv_sh (b := b) hn (WF_ok g2.1 n2) g2.1.2.1
    rw [e4, e5]
    exact w2 (WF_ok g2.1 n2)
  · rw [if_neg h6] at hf
    exact absurd hf (rfu_fa hn g2.1)
/-- a text that was read without a fault -/
theorem txt_wg {b : Nat → Int32} {n pl0 : Nat} {to0 nu0 : Int32} {co0 : Nat → Int32} {s0 : PS} (hn : n ≤ 160) (hs0 : s0 = (pl0, 0, to0, nu0, -1, 0, 0, co0)) (hf : g_fa (fin0 (ps3 b n s0)) = -1) : fin0 (ps3 b n s0) = ps3 b n s0 ∧ ∀ nm, ∃ x1 x2 x3, GC nm (g_co (ps3 b n s0)) 0 (g_cz (ps1 b n s0)) x1 ∧ GC nm (g_co (ps3 b n s0)) (g_cz (ps1 b n s0)) (g_cz (ps2 b n s0)) x2 ∧ GC nm (g_co (ps3 b n s0)) (g_cz (ps2 b n s0)) (g_cz (ps3 b n s0)) x3 := by
  obtain ⟨a1, a2, a3, a4, a5⟩ := adv_sh (b := b) (n := n) (s := s0) hn (by rw [hs0]) (by rw [hs0]; exact Nat.zero_le _)
  have z0 : g_cz (adv b n s0) = 0 := by rw [a4, hs0]
  have o0 : g_op (adv b n s0) = 0 := by rw [a3, hs0]
  have d1 := (prP_g4 (b := b) (i := 0) hn a1 (by omega) o0 (by omega)).2.2.1
  have w1 := fun nm => prP_wg (b := b) (nm := nm) (i := 0) hn a1 (by omega) o0 (by omega)
  have e1 : prP b n (nI (206 + 0)) (adv b n s0) = ps1 b n s0 := rfl
  rw [e1] at d1 w1
  have c1 : g_cz (ps1 b n s0) ≤ g_pl (ps1 b n s0) := by have := d1.cz (by omega); omega
  have d2 := (prP_g4 (b := b) (i := 1) hn d1.1 c1 (d1.2.1.trans o0) (by omega)).2.2.1
  have w2 := fun nm => prP_wg (b := b) (nm := nm) (i := 1) hn d1.1 c1 (d1.2.1.trans o0) (by omega)
  have e2 : prP b n (nI (206 + 1)) (ps1 b n s0) = ps2 b n s0 := rfl
  rw [e2] at d2 w2
  have o2 := d2.2.1.trans (d1.2.1.trans o0)
  have c2 : g_cz (ps2 b n s0) ≤ g_pl (ps2 b n s0) := by have := d2.cz c1; omega
  have d3 := (prP_g4 (b := b) (i := 2) hn d2.1 c2 o2 (by omega)).2.2.1
  have w3 := fun nm => prP_wg (b := b) (nm := nm) (i := 2) hn d2.1 c2 o2 (by omega)
  have e3 : prP b n (nI (206 + 2)) (ps2 b n s0) = ps3 b n s0 := rfl
  rw [e3] at d3 w3
  have hfin : fin0 (ps3 b n s0) = ps3 b n s0 := by
    unfold fin0 at hf ⊢
    by_cases q : g_to (ps3 b n s0) = 0
    · rw [if_pos q]
    · rw [if_neg q] at hf
      exact absurd hf (rfu_fa hn d3.1)
  refine ⟨hfin, fun nm => ?_⟩
  rw [hfin] at hf
  have f2 := d3.fa hf
  have f1 := d2.fa f2
  obtain ⟨x1, h1⟩ := w1 nm f1
  obtain ⟨x2, h2⟩ := w2 nm f2
  obtain ⟨x3, h3⟩ := w3 nm hf
  rw [z0] at h1
  have l12 : g_cz (ps1 b n s0) ≤ g_cz (ps2 b n s0) := d2.2.2.2.1
  exact ⟨x1, x2, x3, h1.cong (fun m _ hm => (d3.2.2.2.2.2.1 m (by omega)).trans (d2.2.2.2.2.2.1 m hm)), h2.cong (fun m _ hm => d3.2.2.2.2.2.1 m hm), h3⟩
/-- the worth of its parts -/
def tvF (b : Nat → Int32) (n : Nat) (s0 : PS) (wh : Nat) (nm : Nat → Int32) : Int32 :=
  if wh = 0 then (mrun nm (g_co (ps3 b n s0)) (g_cz (ps1 b n s0) - 0) 0 0 (fun _ => 0)).1
  else if wh = 1 then (mrun nm (g_co (ps3 b n s0)) (g_cz (ps2 b n s0) - g_cz (ps1 b n s0)) (g_cz (ps1 b n s0)) 0 (fun _ => 0)).1
  else (mrun nm (g_co (ps3 b n s0)) (g_cz (ps3 b n s0) - g_cz (ps2 b n s0)) (g_cz (ps2 b n s0)) 0 (fun _ => 0)).1
def upT (τ : TV) (m : Nat) (v : Nat → (Nat → Int32) → Int32) : TV := fun r => if r = m then v else τ r
theorem upT_s (τ : TV) (m : Nat) (v : Nat → (Nat → Int32) → Int32) : upT τ m v m = v := if_pos rfl
theorem upT_n {τ : TV} {m r : Nat} {v : Nat → (Nat → Int32) → Int32} (h : ¬ r = m) : upT τ m v r = τ r := if_neg h
section NEW
variable {b : Nat → Int32} {n pl0 m : Nat} {to0 nu0 : Int32} {co0 : Nat → Int32} {s0 : PS} {τ : TV}
theorem tv_run (hn : n ≤ 160) (hs0 : s0 = (pl0, 0, to0, nu0, -1, 0, 0, co0)) (hf : g_fa (fin0 (ps3 b n s0)) = -1) {co : Nat → Int32} (hco : ∀ i, i < g_cz (ps3 b n s0) → co i = g_co (ps3 b n s0) i) (nm sk : Nat → Int32) : (mrun nm co (g_cz (ps1 b n s0) - 0) 0 0 sk).1 = tvF b n s0 0 nm ∧ (mrun nm co (g_cz (ps2 b n s0) - g_cz (ps1 b n s0)) (g_cz (ps1 b n s0)) 0 sk).1 = tvF b n s0 1 nm ∧ (mrun nm co (g_cz (ps3 b n s0) - g_cz (ps2 b n s0)) (g_cz (ps2 b n s0)) 0 sk).1 = tvF b n s0 2 nm := by
  obtain ⟨x1, x2, x3, h1, h2, h3⟩ := (txt_wg hn hs0 hf).2 nm
  have l2 := h2.1
  have l3 := h3.1
  refine ⟨?_, ?_, ?_⟩
  · rw [(h1.cong (co' := co) (fun i _ hi => hco i (by omega))).run sk]
    unfold tvF
    rw [if_pos rfl, h1.run]
  · rw [(h2.cong (co' := co) (fun i _ hi => hco i (by omega))).run sk]
    unfold tvF
    rw [if_neg (by decide), if_pos rfl, h2.run]
  · rw [(h3.cong (co' := co) (fun i _ hi => hco i (by omega))).run sk]
    unfold tvF
    rw [if_neg (by decide), if_neg (by decide), h3.run]
theorem TXm_new {tx ts : Nat → Int32} (hm : m < 6) (hn : n ≤ 160) (hs0 : s0 = (pl0, 0, to0, nu0, -1, 0, 0, co0)) (hf : g_fa (fin0 (ps3 b n s0)) = -1) (hts : ts m = nI n) (htx : ∀ i, i < n → tx (160 * m + i) = b i) (hb : ∀ i, i < n → 0 ≤ b i) : TXm (upT τ m (tvF b n s0)) tx ts m := by
  refine ⟨hm, n, b, pl0, to0, nu0, co0, s0, _, _, _, hs0, rfl, rfl, rfl, hn, hts, htx, hb, hf, fun nm sk => ?_⟩
  rw [upT_s, (txt_wg hn hs0 hf).1]
  exact tv_run hn hs0 hf (fun _ _ => rfl) nm sk
theorem TXm_old {tx ts tx' ts' : Nat → Int32} {r : Nat} {v : Nat → (Nat → Int32) → Int32} (h : TXm τ tx ts r) (hr : ¬ r = m) (htx : ∀ i, i < 160 → tx' (160 * r + i) = tx (160 * r + i)) (hts : ts' r = ts r) : TXm (upT τ m v) tx' ts' r := by
  obtain ⟨h1, n, b, pl0, to0, nu0, co0, s0, s2, s3, s4, e0, e2, e3, e4, e5, e6, e7, e8, e9, e10⟩ := h
  refine ⟨h1, n, b, pl0, to0, nu0, co0, s0, s2, s3, s4, e0, e2, e3, e4, e5, hts.trans e6, fun i hi => (htx i (by omega)).trans (e7 i hi), e8, e9, ?_⟩
  rw [upT_n hr]
  exact e10
theorem TXr_new {S : CS} {tl : pc_W} {t cr er : Nat} (hm : m < 6) (hn : n ≤ 160) (hs0 : s0 = (pl0, 0, to0, nu0, -1, 0, 0, co0)) (hf : g_fa (fin0 (ps3 b n s0)) = -1) (hmt : s_mt S m = some t) (hT : TCell S tl t cr er (g_cz (ps3 b n s0)) (va_cpy (g_co (ps3 b n s0)) (fun _ => 0) 0 0 (g_cz (ps3 b n s0))) (enF (g_cz (ps1 b n s0)) (g_cz (ps2 b n s0)) (g_cz (ps3 b n s0)))) : TXr (upT τ m (tvF b n s0)) S tl m := by
  obtain ⟨x1, x2, x3, h1, h2, h3⟩ := (txt_wg hn hs0 hf).2 (fun _ => 0)
  refine ⟨hm, t, cr, er, g_cz (ps3 b n s0), _, _, 0, g_cz (ps1 b n s0), g_cz (ps2 b n s0), g_cz (ps3 b n s0), hmt, hT, h3.2.1, rfl, ?_, ?_, ?_, Nat.zero_le _, Nat.le_of_lt h2.1, Nat.le_of_lt h3.1, Nat.le_refl _, fun nm sk => ?_⟩
  · unfold enF; rw [pk_un (by decide), pk_un (by decide), pk_us]
  · unfold enF; rw [pk_un (by decide), pk_us]
  · unfold enF; rw [pk_us]
  · rw [upT_s]
    refine tv_run hn hs0 hf (fun i hi => ?_) nm sk
    unfold va_cpy
    rw [if_pos ⟨Nat.zero_le _, by omega⟩, Nat.sub_zero, Nat.zero_add]
theorem TXr_tr {S S' : CS} {tl tl' : pc_W} {r : Nat} (h : TXr τ S tl r) (hmt : s_mt S' r = s_mt S r) (hT : ∀ t cr er n code ends, TCell S tl t cr er n code ends → TCell S' tl' t cr er n code ends) {τ' : TV} (hτ : τ' r = τ r) : TXr τ' S' tl' r := by
  obtain ⟨h1, t, cr, er, n, code, ends, e0, e1, e2, e3, a1, a2, a3, a4, a5, a6, a7, a8, a9, a10, a11, a12⟩ := h
  refine ⟨h1, t, cr, er, n, code, ends, e0, e1, e2, e3, hmt.trans a1, hT _ _ _ _ _ _ a2, a3, a4, a5, a6, a7, a8, a9, a10, a11, ?_⟩
  rw [hτ]; exact a12
theorem TCell_app {S S' : CS} {tl l : pc_W} {t cr er n : Nat} {code ends : Nat → Int32} (h1 : s_tz S' = s_tz S) (h2 : s_tc S' = s_tc S) (h3 : s_te S' = s_te S) (h : TCell S tl t cr er n code ends) : TCell S' (tl ++ l) t cr er n code ends := by
  have ap : ∀ i x, tl[i]? = some x → (tl ++ l)[i]? = some x := fun i x hx => (List.getElem?_append_left (List.getElem?_eq_some_iff.mp hx).1).trans hx
  rcases h with ⟨a, b, c, d, e, f⟩ | ⟨a, b, c, d, e, f⟩
  · exact Or.inl ⟨a, b, c, d.trans h1.symm, e.trans h2.symm, f.trans h3.symm⟩
  · exact Or.inr ⟨a, b, c, ap _ _ d, ap _ _ e, ap _ _ f⟩
theorem tv_eq {b' : Nat → Int32} {n' : Nat} {s0' : PS} (hn : n ≤ 160) (hs0 : s0 = (pl0, 0, to0, nu0, -1, 0, 0, co0)) (hf : g_fa (fin0 (ps3 b n s0)) = -1) (h1 : g_cz (ps1 b' n' s0') = g_cz (ps1 b n s0)) (h2 : g_cz (ps2 b' n' s0') = g_cz (ps2 b n s0)) (h3 : g_cz (ps3 b' n' s0') = g_cz (ps3 b n s0)) (hco : ∀ i, i < g_cz (ps3 b n s0) → g_co (ps3 b' n' s0') i = g_co (ps3 b n s0) i) : tvF b' n' s0' = tvF b n s0 := by
  funext wh nm
  obtain ⟨a1, a2, a3⟩ := tv_run hn hs0 hf hco nm (fun _ => 0)
  have e : tvF b' n' s0' wh nm = if wh = 0 then tvF b n s0 0 nm else if wh = 1 then tvF b n s0 1 nm else tvF b n s0 2 nm := by
    rw [← a1, ← a2, ← a3]
    unfold tvF
    rw [h1, h2, h3]
  rw [e]
  unfold tvF
  by_cases w0 : wh = 0
  · rw [if_pos w0, if_pos w0, if_pos rfl]
  · rw [if_neg w0, if_neg w0]
    by_cases w1 : wh = 1
    · rw [if_pos w1, if_pos w1, if_neg (by decide), if_pos rfl]
    · rw [if_neg w1, if_neg w1, if_neg (by decide), if_neg (by decide)]
end NEW
