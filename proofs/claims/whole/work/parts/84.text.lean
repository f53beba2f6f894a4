/-! a text: what its reading looks at, what its code is worth -/
section EXT
variable {b b' : Nat → Int32} {n : Nat}
theorem spn_ext (q : Int32 → Bool) : ∀ f i, (∀ k, i ≤ k → k < i + f → b k = b' k) → spn q b f i = spn q b' f i
  | 0, _, _ => rfl
  | f + 1, i, h => by
    unfold spn
    rw [h i (Nat.le_refl _) (by omega), spn_ext q f (i + 1) (fun k h1 h2 => h k (by omega) (by omega))]
theorem nuv_ext : ∀ f i a, (∀ k, i ≤ k → k < i + f → b k = b' k) → nuv b f i a = nuv b' f i a
  | 0, _, _, _ => rfl
  | f + 1, i, a, h => by
    unfold nuv
    rw [h i (Nat.le_refl _) (by omega), nuv_ext f (i + 1) _ (fun k h1 h2 => h k (by omega) (by omega))]
theorem spB_ext : ∀ (l : List Int32) i, (∀ k, i ≤ k → k < i + l.length → b k = b' k) → spB b l i = spB b' l i
  | [], _, _ => rfl
  | c :: l, i, h => by
    have hl : (c :: l).length = l.length + 1 := rfl
    unfold spB
    rw [h i (Nat.le_refl _) (by omega), spB_ext l (i + 1) (fun k h1 h2 => h k (by omega) (by omega))]
theorem spW_ext {j e w : Nat} (he : j ≤ e) (h : ∀ k, j ≤ k → k < e → b k = b' k) : spW b j e w = spW b' j e w := by
  unfold spW
  by_cases q : e - j = (strB (w - 199)).length
  · rw [spB_ext _ j (fun k h1 h2 => h k h1 (by omega))]
  · rw [decide_eq_false q, Bool.false_and, Bool.false_and]
theorem wtk_ext {j e : Nat} (he : j ≤ e) (h : ∀ k, j ≤ k → k < e → b k = b' k) : ∀ f w, wtk b j e f w = wtk b' j e f w
  | 0, _ => rfl
  | f + 1, w => by
    unfold wtk
    rw [spW_ext he h, wtk_ext he h f (w + 1)]
theorem adv_ext (h : ∀ i, i < n → b i = b' i) : adv b n = adv b' n := by
  funext s
  unfold adv
  rw [spn_ext (b' := b') qBk (n - g_nx s) (g_nx s) (fun k h1 h2 => h k (by omega))]
  generalize spn qBk b' (n - g_nx s) (g_nx s) = j
  unfold ad1
  by_cases hj : n ≤ j
  · rw [if_pos hj, if_pos hj]
  · rw [if_neg hj, if_neg hj, h j (by omega)]
    have e1 : ∀ q, spn q b (n - j) j = spn q b' (n - j) j := fun q => spn_ext q (n - j) j (fun k h1 h2 => h k (by omega))
    have l1 : ∀ q, j ≤ spn q b' (n - j) j := fun q => spn_ge q b' (n - j) j
    have l2 : ∀ q, spn q b' (n - j) j ≤ n := fun q => by have := spn_le q b' (n - j) j; omega
    have l3 := l2 qLt
    have l4 := l2 qDt
    have l5 := l1 qDt
    rw [e1, e1, wtk_ext (l1 qLt) (fun k h1 h2 => h k (by omega))]
    have e2 : adW b s j (spn qLt b' (n - j) j) (wtk b' j (spn qLt b' (n - j) j) 12 200) = adW b' s j (spn qLt b' (n - j) j) (wtk b' j (spn qLt b' (n - j) j) 12 200) := rfl
    have e3 : adN b s j (spn qDt b' (n - j) j) = adN b' s j (spn qDt b' (n - j) j) := by
      unfold adN
      rw [nuv_ext _ _ _ (fun k h1 h2 => h k (by omega))]
    rw [e2, e3]
theorem exc_ext (h : adv b n = adv b' n) (t : Int32) : exc b n t = exc b' n t := by funext s; unfold exc; rw [h]
theorem sgl_ext (h : adv b n = adv b' n) (iE iS : PF) : sgl b n iE iS = sgl b' n iE iS := by funext s; unfold sgl; rw [h, exc_ext h]
theorem lpG_ext (h : adv b n = adv b' n) (q : Int32 → Bool) (bd : PF) : ∀ f, lpG b n q bd f = lpG b' n q bd f
  | 0 => rfl
  | f + 1 => by funext s; unfold lpG; rw [h, lpG_ext h q bd f]
theorem seq_ext (h : adv b n = adv b' n) (q : Int32 → Bool) (bd : PF) : seq b n q bd = seq b' n q bd := by funext s; unfold seq; rw [lpG_ext h]
theorem ngt_ext (h : adv b n = adv b' n) (sm iN : PF) : ngt b n sm iN = ngt b' n sm iN := by funext s; unfold ngt cmp; rw [h]
theorem lvE_ext (h : adv b n = adv b' n) (p : PL) : lvS b n p = lvS b' n p ∧ lvN b n p = lvN b' n p ∧ lvE b n p = lvE b' n p := by
  have e1 : lvS b n p = lvS b' n p := sgl_ext h _ _
  have e2 : lvN b n p = lvN b' n p := by unfold lvN lvM lvT; rw [e1, seq_ext h, seq_ext h, ngt_ext h]
  exact ⟨e1, e2, by unfold lvE lvJ; rw [e2, seq_ext h, seq_ext h]⟩
theorem lev_ext (h : adv b n = adv b' n) : ∀ k, lev b n k = lev b' n k
  | 0 => rfl
  | k + 1 => by
    unfold lev
    rw [lev_ext h k, (lvE_ext h _).1, (lvE_ext h _).2.1, (lvE_ext h _).2.2]
theorem prP_ext (h : adv b n = adv b' n) (key : Int32) : prP b n key = prP b' n key := by
  funext s
  unfold prP prE
  rw [lev_ext h, (lvE_ext h _).2.2, exc_ext h, exc_ext h]
theorem ps_ext (h : ∀ i, i < n → b i = b' i) (s : PS) : ps1 b n s = ps1 b' n s ∧ ps2 b n s = ps2 b' n s ∧ ps3 b n s = ps3 b' n s ∧ prs b n s = prs b' n s := by
  have e := adv_ext h
  have h1 : ps1 b n s = ps1 b' n s := by unfold ps1; rw [prP_ext e, e]
  have h2 : ps2 b n s = ps2 b' n s := by unfold ps2; rw [prP_ext e, h1]
  have h3 : ps3 b n s = ps3 b' n s := by unfold ps3; rw [prP_ext e, h2]
  exact ⟨h1, h2, h3, by unfold prs; rw [h3]⟩
end EXT
/-- the number at hand is a number -/
def WN (s : PS) : Prop := g_to s = 1 → ∃ m, m < 10000 ∧ g_nu s = nI m
theorem WN_rfu (s : PS) : WN (rfu s) := fun h => absurd h (by show ¬ (2 : Int32) = 1; decide)
theorem WN_adv {b : Nat → Int32} {n : Nat} (s : PS) : WN (adv b n s) := by
  unfold adv
  generalize spn qBk b (n - g_nx s) (g_nx s) = j
  unfold ad1
  by_cases h1 : n ≤ j
  · rw [if_pos h1]; exact fun h => absurd h (by show ¬ (0 : Int32) = 1; decide)
  rw [if_neg h1]
  by_cases h2 : qLt (b j) = true
  · rw [if_pos h2]
    unfold adW
    by_cases h3 : wtk b j (spn qLt b (n - j) j) 12 200 = 2
    · rw [if_pos h3]; exact WN_rfu _
    · rw [if_neg h3]
      intro h
      have := (wtk_big h3).1
      change wtk b j (spn qLt b (n - j) j) 12 200 = 1 at h
      rw [h] at this
      exact absurd this (by decide)
  rw [if_neg h2]
  by_cases h3 : qDt (b j) = true
  · rw [if_pos h3]
    unfold adN
    by_cases h4 : 4 < spn qDt b (n - j) j - j
    · rw [if_pos h4]; exact WN_rfu _
    · rw [if_neg h4]
      intro _
      refine nuv_rng (by omega) (fun i hi1 hi2 => ?_)
      have := spn_all qDt b (n - j) j i hi1 (by omega)
      unfold qDt at this
      exact of_decide_eq_true this
  rw [if_neg h3]
  by_cases h4 : qSn (b j) = true
  · rw [if_pos h4]
    intro h
    change b j = 1 at h
    rw [h] at h4
    exact absurd h4 (by decide)
  · rw [if_neg h4]; exact WN_rfu _
/-- a reading function lays code that is worth something -/
def WG (nm : Nat → Int32) (n K : Nat) (f : PF) : Prop := ∀ s, WF n s → g_cz s ≤ g_pl s → g_op s = K → WN s → WN (f s) ∧ (g_fa (f s) = -1 → ∃ x, GC nm (g_co (f s)) (g_cz s) (g_cz (f s)) x)
section WGS
variable {b nm : Nat → Int32} {n K : Nat} {iE iS iN sm bd : PF} {q : Int32 → Bool}
theorem WG_rfu (hn : n ≤ 160) : WG nm n K rfu := fun s h _ _ _ => ⟨WN_rfu s, fun q => absurd q (rfu_fa hn h)⟩
theorem WN_same {s s' : PS} (h1 : g_to s' = g_to s) (h2 : g_nu s' = g_nu s) (h : WN s) : WN s' := by
  unfold WN at h ⊢
  rw [h1, h2]; exact h
theorem WN_emt {c : Int32} {s : PS} (h : WN s) : WN (emt c s) := WN_same (emt_g c s).2.2.1 (emt_g c s).2.2.2.1 h
theorem GD.fa {k : Nat} {s s' : PS} (h : GD k n s s') (hf : g_fa s' = -1) : g_fa s = -1 := Classical.byContradiction (fun y => h.2.2.2.2.2.2 y hf)
theorem lt_160 {s : PS} (hn : n ≤ 160) (h : WF n s) (hc : g_cz s ≤ g_pl s) (n2 : ¬ g_to s = 2) (n0 : ¬ g_to s = 0) : g_cz s < 160 := by
  rcases h.2.2 with ⟨-, -, -, q⟩ | ⟨-, q⟩
  · have := q n0; have := h.2.1; omega
  · exact absurd q n2
/-- one more word of code, and the next token -/
theorem em_adv {c : Int32} {s : PS} (hn : n ≤ 160) (h : WF n s) (hc : g_cz s ≤ g_pl s) (n2 : ¬ g_to s = 2) (n0 : ¬ g_to s = 0) : g_co (adv b n (emt c s)) (g_cz s) = c ∧ g_cz (adv b n (emt c s)) = g_cz s + 1 := by
  have hlt := lt_160 hn h hc n2 n0
  rw [emt_y hlt]
  have h' : WF n (g_pl s, g_nx s, g_to s, g_nu s, g_fa s, g_op s, g_cz s + 1, upd (g_co s) (g_cz s) c) := WF_same (s := s) rfl rfl rfl rfl h
  obtain ⟨-, -, -, e4, e5⟩ := adv_sh (b := b) hn (WF_ok h' n2) h'.2.1
  rw [e4, e5]
  exact ⟨pk_us, rfl⟩
theorem in_wg {f : PF} {s : PS} (hn : n ≤ 160) (hG : GF n (K + 1) f) (hW : WG nm n (K + 1) f) (h : WF n s) (hc : g_cz s ≤ g_pl s) (hK : g_op s = K) (n2 : ¬ g_to s = 2) (n0 : ¬ g_to s = 0) : WN (f (adv b n (inc1 s))) ∧ (g_fa (f (adv b n (inc1 s))) = -1 → ∃ x, GC nm (g_co (f (adv b n (inc1 s)))) (g_cz s) (g_cz (f (adv b n (inc1 s)))) x) := by
  have hi := inc_gd (b := b) hn h n2 n0
  have hc1 : g_cz (adv b n (inc1 s)) ≤ g_pl (adv b n (inc1 s)) := by have := hi.cz (s := inc1 s) hc; omega
  have e := (adv_sh (b := b) (s := inc1 s) hn (WF_ok (s := inc1 s) h n2) h.2.1).2.2.2.1
  have := hW (adv b n (inc1 s)) hi.1 hc1 (by rw [hi.2.1]; show g_op s + 1 = K + 1; rw [hK]) (WN_adv _)
  rw [e] at this
  exact this
/-- a sign behind a worth -/
theorem em_gc {c : Int32} {s s' : PS} {v : Int32} {i : Nat} (hlt : g_cz s' < 160) (h : GC nm (g_co s') i (g_cz s') v) : GC nm (g_co (emt c s')) i (g_cz s') v ∧ g_co (emt c s') (g_cz s') = c ∧ g_cz (emt c s') = g_cz s' + 1 := by
  rw [emt_y hlt]
  exact ⟨h.cong (fun m _ h2 => pk_un (by omega)), pk_us, rfl⟩
theorem sgl_wg (hn : n ≤ 160) (hE : GF n (K + 1) iE) (hS : GF n (K + 1) iS) (wE : WG nm n (K + 1) iE) (wS : WG nm n (K + 1) iS) : WG nm n K (sgl b n iE iS) := by
  intro s h hc hK hw
  unfold sgl
  by_cases h1 : g_to s = 1
  · rw [if_pos h1]
    refine ⟨WN_adv _, fun _ => ?_⟩
    obtain ⟨m, hm, em⟩ := hw h1
    have n2 : ¬ g_to s = 2 := by rw [h1]; decide
    have n0 : ¬ g_to s = 0 := by rw [h1]; decide
    obtain ⟨e1, e2⟩ := em_adv (b := b) (c := g_nu s) hn h hc n2 n0
    rw [e2]
    exact ⟨nI m, GC.lit hm (lt_160 hn h hc n2 n0) (e1.trans em)⟩
  rw [if_neg h1]
  by_cases h2 : 200 ≤ g_to s ∧ g_to s ≤ 205
  · rw [if_pos h2]
    refine ⟨WN_adv _, fun _ => ?_⟩
    have n2 : ¬ g_to s = 2 := fun z => by rw [z] at h2; exact absurd h2.1 (by decide)
    have n0 : ¬ g_to s = 0 := fun z => by rw [z] at h2; exact absurd h2.1 (by decide)
    obtain ⟨e1, e2⟩ := em_adv (b := b) (c := -(g_to s)) hn h hc n2 n0
    rw [e2]
    exact ⟨_, GC.name h2 (lt_160 hn h hc n2 n0) e1⟩
  rw [if_neg h2]
  by_cases h3 : g_to s = 45
  · rw [if_pos h3]
    by_cases h5 : 5 ≤ g_op s
    · rw [if_pos h5]; exact ⟨WN_rfu _, fun y => absurd y (rfu_fa hn h)⟩
    rw [if_neg h5]
    have n2 : ¬ g_to s = 2 := by rw [h3]; decide
    have n0 : ¬ g_to s = 0 := by rw [h3]; decide
    obtain ⟨w1, w2⟩ := in_wg (b := b) hn hS wS h hc hK n2 n0
    have hd := dec_gd (b := b) hn hS h hc hK n2 n0
    have hl := (hd.em (c := -3) hn hc).2
    refine ⟨WN_emt (WN_same (s := iS (adv b n (inc1 s))) rfl rfl w1), fun y => ?_⟩
    rw [(emt_g _ _).2.2.2.2.1] at y
    obtain ⟨x, hx⟩ := w2 y
    obtain ⟨g1, g2, g3⟩ := em_gc (c := -3) (s' := dec1 (iS (adv b n (inc1 s)))) (s := s) hl hx
    rw [g3]
    exact ⟨_, g1.neg hl g2⟩
  rw [if_neg h3]
  by_cases h4 : g_to s = 40
  · rw [if_pos h4]
    by_cases h5 : 5 ≤ g_op s
    · rw [if_pos h5]; exact ⟨WN_rfu _, fun y => absurd y (rfu_fa hn h)⟩
    rw [if_neg h5]
    have n2 : ¬ g_to s = 2 := by rw [h4]; decide
    have n0 : ¬ g_to s = 0 := by rw [h4]; decide
    obtain ⟨w1, w2⟩ := in_wg (b := b) hn hE wE h hc hK n2 n0
    have hd := dec_gd (b := b) hn hE h hc hK n2 n0
    unfold exc
    by_cases h6 : g_to (dec1 (iE (adv b n (inc1 s)))) = 41
    · rw [if_pos h6]
      refine ⟨WN_adv _, fun y => ?_⟩
      have n2' : ¬ g_to (dec1 (iE (adv b n (inc1 s)))) = 2 := by rw [h6]; decide
      obtain ⟨-, -, -, e4, e5⟩ := adv_sh (b := b) hn (WF_ok hd.1 n2') hd.1.2.1
      rw [e4, e5]
      exact w2 (WF_ok hd.1 n2')
    · rw [if_neg h6]; exact ⟨WN_rfu _, fun y => absurd y (rfu_fa hn hd.1)⟩
  · rw [if_neg h4]; exact ⟨WN_rfu _, fun y => absurd y (rfu_fa hn h)⟩
theorem lpG_wg (hn : n ≤ 160) (hG : GF n K bd) (hW : WG nm n K bd) (q2 : q 2 = false) (q0 : q 0 = false) (qo : ∀ t, q t = true → isOp t) : ∀ (f : Nat) (s : PS) (i : Nat), WF n s → g_cz s ≤ g_pl s → g_op s = K → WN s → (∃ x, GC nm (g_co s) i (g_cz s) x) → WN (lpG b n q bd f s) ∧ (g_fa (lpG b n q bd f s) = -1 → ∃ x, GC nm (g_co (lpG b n q bd f s)) i (g_cz (lpG b n q bd f s)) x)
  | 0, s, i, h, hc, hK, hw, hx => ⟨hw, fun _ => hx⟩
  | f + 1, s, i, h, hc, hK, hw, hx => by
    rw [lpG]
    by_cases hq : q (g_to s) = true
    · rw [if_pos hq]
      have n2 : ¬ g_to s = 2 := fun z => by rw [z, q2] at hq; exact absurd hq (by decide)
      have n0 : ¬ g_to s = 0 := fun z => by rw [z, q0] at hq; exact absurd hq (by decide)
      have h1 := adv_gd (b := b) hn h n2 n0
      obtain ⟨-, -, -, e4, e5⟩ := adv_sh (b := b) hn (WF_ok h n2) h.2.1
      have c1 : g_cz (adv b n s) ≤ g_pl (adv b n s) := by have := h1.cz hc; omega
      have h2 := (hG _ h1.1 c1 (h1.2.1.trans hK)).1
      obtain ⟨w1, w2⟩ := hW _ h1.1 c1 (h1.2.1.trans hK) (WN_adv _)
      have h3 := (h1.tr h2).em (c := -(g_to s)) hn hc
      have hl := h3.2
      generalize bd (adv b n s) = s2 at h2 w1 w2 h3 hl ⊢
      have c3 : g_cz (emt (-(g_to s)) s2) ≤ g_pl (emt (-(g_to s)) s2) := by have := h3.1.cz hc; omega
      by_cases hf : g_fa s2 = -1
      · refine lpG_wg hn hG hW q2 q0 qo f _ i h3.1.1 c3 (h3.1.2.1.trans hK) (WN_emt w1) ?_
        obtain ⟨x, hx⟩ := hx
        obtain ⟨y, hy⟩ := w2 hf
        obtain ⟨g1, g2, g3⟩ := em_gc (c := -(g_to s)) (s' := s2) (s := s) hl hy
        rw [g3]
        rw [e4] at g1
        have hx2 : GC nm (g_co (emt (-(g_to s)) s2)) i (g_cz s) x := hx.cong (fun m _ hm => by
          rw [h3.1.2.2.2.2.2.1 m hm])
        exact ⟨_, hx2.bin g1 hl (qo _ hq) g2⟩
      · have hfe : ¬ g_fa (emt (-(g_to s)) s2) = -1 := by rw [(emt_g _ _).2.2.2.2.1]; exact hf
        have hfl := (lpG_gd (b := b) hn hG q2 q0 f _ h3.1.1 c3 (h3.1.2.1.trans hK)).2.2.2.2.2.2 hfe
        refine ⟨?_, fun y => absurd y hfl⟩
        have hto := WF_two (lpG_gd (b := b) hn hG q2 q0 f _ h3.1.1 c3 (h3.1.2.1.trans hK)).1 hfl
        intro y; rw [hto] at y; exact absurd y (by decide)
    · rw [if_neg hq]; exact ⟨hw, fun _ => hx⟩
theorem seq_wg (hn : n ≤ 160) (hG : GF n K bd) (hW : WG nm n K bd) (q2 : q 2 = false) (q0 : q 0 = false) (qo : ∀ t, q t = true → isOp t) : WG nm n K (seq b n q bd) := by
  intro s h hc hK hw
  have h1 := (hG s h hc hK).1
  obtain ⟨w1, w2⟩ := hW s h hc hK hw
  unfold seq
  by_cases hf : g_fa (bd s) = -1
  · exact lpG_wg hn hG hW q2 q0 qo 160 (bd s) (g_cz s) h1.1 (by have := h1.cz hc; omega) (h1.2.1.trans hK) w1 (w2 hf)
  · have hfl := (lpG_gd (b := b) hn hG q2 q0 160 (bd s) h1.1 (by have := h1.cz hc; omega) (h1.2.1.trans hK))
    have hff := hfl.2.2.2.2.2.2 hf
    refine ⟨?_, fun y => absurd y hff⟩
    intro y; rw [WF_two hfl.1 hff] at y; exact absurd y (by decide)
theorem ngt_wg (hn : n ≤ 160) (hM : GF n K sm) (hN : GF n (K + 1) iN) (wM : WG nm n K sm) (wN : WG nm n (K + 1) iN) : WG nm n K (ngt b n sm iN) := by
  intro s h hc hK hw
  unfold ngt
  by_cases h1 : g_to s = 211
  · rw [if_pos h1]
    by_cases h5 : 5 ≤ g_op s
    · rw [if_pos h5]; exact ⟨WN_rfu _, fun y => absurd y (rfu_fa hn h)⟩
    rw [if_neg h5]
    have n2 : ¬ g_to s = 2 := by rw [h1]; decide
    have n0 : ¬ g_to s = 0 := by rw [h1]; decide
    obtain ⟨w1, w2⟩ := in_wg (b := b) hn hN wN h hc hK n2 n0
    have hd := dec_gd (b := b) hn hN h hc hK n2 n0
    have hl := (hd.em (c := -211) hn hc).2
    refine ⟨WN_emt (WN_same (s := iN (adv b n (inc1 s))) rfl rfl w1), fun y => ?_⟩
    rw [(emt_g _ _).2.2.2.2.1] at y
    obtain ⟨x, hx⟩ := w2 y
    obtain ⟨g1, g2, g3⟩ := em_gc (c := -211) (s' := dec1 (iN (adv b n (inc1 s)))) (s := s) hl hx
    rw [g3]
    exact ⟨_, g1.nt hl g2⟩
  · rw [if_neg h1]
    have hs := (hM s h hc hK).1
    obtain ⟨w1, w2⟩ := wM s h hc hK hw
    unfold cmp
    by_cases h2 : g_to (sm s) = 60 ∨ g_to (sm s) = 61
    · rw [if_pos h2]
      have n2 : ¬ g_to (sm s) = 2 := fun z => by rw [z] at h2; exact absurd h2 (by decide)
      have n0 : ¬ g_to (sm s) = 0 := fun z => by rw [z] at h2; exact absurd h2 (by decide)
      have ho : isOp (g_to (sm s)) := by
        rcases h2 with e | e
        · exact Or.inr (Or.inr (Or.inr (Or.inl e)))
        · exact Or.inr (Or.inr (Or.inr (Or.inr (Or.inl e))))
      obtain ⟨x, hx⟩ := w2 (WF_ok hs.1 n2)
      obtain ⟨-, -, -, e4, e5⟩ := adv_sh (b := b) hn (WF_ok hs.1 n2) hs.1.2.1
      have ha0 := adv_gd (b := b) hn hs.1 n2 n0
      have ha := hs.tr ha0
      have c1 : g_cz (adv b n (sm s)) ≤ g_pl (adv b n (sm s)) := by have := ha.cz hc; omega
      have hb := (hM _ ha.1 c1 (ha.2.1.trans hK)).1
      obtain ⟨v1, v2⟩ := wM _ ha.1 c1 (ha.2.1.trans hK) (WN_adv _)
      have h3 := (ha0.tr hb).em (c := -(g_to (sm s))) hn (by have := hs.cz hc; omega)
      have hl := h3.2
      generalize sm (adv b n (sm s)) = s2 at hb v1 v2 h3 hl ⊢
      refine ⟨WN_emt v1, fun y => ?_⟩
      rw [(emt_g _ _).2.2.2.2.1] at y
      obtain ⟨z, hz⟩ := v2 y
      obtain ⟨g1, g2, g3⟩ := em_gc (c := -(g_to (sm s))) (s' := s2) (s := s) hl hz
      rw [g3]
      rw [e4] at g1
      have hx2 : GC nm (g_co (emt (-(g_to (sm s))) s2)) (g_cz s) (g_cz (sm s)) x := hx.cong (fun m _ hm => by rw [h3.1.2.2.2.2.2.1 m hm])
      exact ⟨_, hx2.bin g1 hl ho g2⟩
    · rw [if_neg h2]; exact ⟨w1, w2⟩
theorem op_mu : ∀ t, qMu t = true → isOp t := fun t h => Or.inr (Or.inr (Or.inl (of_decide_eq_true h)))
theorem op_pl : ∀ t, qPl t = true → isOp t := fun t h => (of_decide_eq_true (p := t = 43 ∨ t = 45) h).elim Or.inl (fun y => Or.inr (Or.inl y))
theorem op_an : ∀ t, qAn t = true → isOp t := fun t h => Or.inr (Or.inr (Or.inr (Or.inr (Or.inr (Or.inr (of_decide_eq_true h))))))
theorem op_or : ∀ t, qOr t = true → isOp t := fun t h => Or.inr (Or.inr (Or.inr (Or.inr (Or.inr (Or.inl (of_decide_eq_true h))))))
theorem lev_wg (hn : n ≤ 160) : ∀ (k K : Nat), K + k = 6 → WG nm n K (lev b n k).1 ∧ WG nm n K (lev b n k).2.1 ∧ WG nm n K (lev b n k).2.2
  | 0, K, _ => ⟨WG_rfu hn, WG_rfu hn, WG_rfu hn⟩
  | k + 1, K, hK => by
    obtain ⟨e1, e2, e3⟩ := lev_wg hn k (K + 1) (by omega)
    obtain ⟨f1, f2, f3⟩ := lev_gf (b := b) hn k (K + 1) (by omega)
    have hS : GF n K (lvS b n (lev b n k)) := sgl_gf hn f1 f3
    have hT : GF n K (lvT b n (lev b n k)) := seq_gf hn hS rfl rfl
    have hM : GF n K (lvM b n (lev b n k)) := seq_gf hn hT rfl rfl
    have hN : GF n K (lvN b n (lev b n k)) := ngt_gf hn hM f2
    have hJ : GF n K (lvJ b n (lev b n k)) := seq_gf hn hN rfl rfl
    have wS : WG nm n K (lvS b n (lev b n k)) := sgl_wg hn f1 f3 e1 e3
    have wT : WG nm n K (lvT b n (lev b n k)) := seq_wg hn hS wS rfl rfl op_mu
    have wM : WG nm n K (lvM b n (lev b n k)) := seq_wg hn hT wT rfl rfl op_pl
    have wN : WG nm n K (lvN b n (lev b n k)) := ngt_wg hn hM f2 wM e2
    have wJ : WG nm n K (lvJ b n (lev b n k)) := seq_wg hn hN wN rfl rfl op_an
    have wE : WG nm n K (lvE b n (lev b n k)) := seq_wg hn hJ wJ rfl rfl op_or
    exact ⟨wE, wN, wS⟩
end WGS
