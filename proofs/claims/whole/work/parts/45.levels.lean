/-! how the pure reader goes on: no step back, no code changed, no more code than bytes -/
def GD (k n : Nat) (s s' : PS) : Prop := WF n s' ∧ g_op s' = g_op s ∧ g_pl s ≤ g_pl s' ∧ g_cz s ≤ g_cz s' ∧ g_cz s' + g_pl s + k ≤ g_cz s + g_pl s' ∧ (∀ i, i < g_cz s → g_co s' i = g_co s i) ∧ (¬ g_fa s = -1 → ¬ g_fa s' = -1)
theorem GD.rf {n : Nat} {s : PS} (h : WF n s) : GD 0 n s s := ⟨h, rfl, Nat.le_refl _, Nat.le_refl _, Nat.le_refl _, fun _ _ => rfl, fun h => h⟩
theorem GD.tr {j k n : Nat} {s s' s'' : PS} (h : GD j n s s') (h2 : GD k n s' s'') : GD (j + k) n s s'' := by
  obtain ⟨a1, a2, a3, a4, a5, a6, a7⟩ := h
  obtain ⟨b1, b2, b3, b4, b5, b6, b7⟩ := h2
  exact ⟨b1, b2.trans a2, Nat.le_trans a3 b3, Nat.le_trans a4 b4, by omega, fun i hi => (b6 i (by omega)).trans (a6 i hi), fun z => b7 (a7 z)⟩
theorem GD.le {j k n : Nat} {s s' : PS} (h : GD j n s s') (hk : k ≤ j) : GD k n s s' := by
  obtain ⟨a1, a2, a3, a4, a5, a6, a7⟩ := h
  exact ⟨a1, a2, a3, a4, by omega, a6, a7⟩
theorem GD.cz {k n : Nat} {s s' : PS} (h : GD k n s s') (hc : g_cz s ≤ g_pl s) : g_cz s' + k ≤ g_pl s' := by
  obtain ⟨a1, a2, a3, a4, a5, a6, a7⟩ := h
  omega
theorem emt_y {c : Int32} {s : PS} (h : g_cz s < 160) : emt c s = (g_pl s, g_nx s, g_to s, g_nu s, g_fa s, g_op s, g_cz s + 1, upd (g_co s) (g_cz s) c) := by unfold emt; rw [if_pos h]
theorem GD.em {n : Nat} {s s' : PS} {c : Int32} (hn : n ≤ 160) (hc : g_cz s ≤ g_pl s) (h : GD 1 n s s') : GD 0 n s (emt c s') ∧ g_cz s' < 160 := by
  have hz := h.cz hc
  obtain ⟨a1, a2, a3, a4, a5, a6, a7⟩ := h
  have hp := a1.1
  have h160 : g_cz s' < 160 := by omega
  rw [emt_y h160]
  refine ⟨⟨WF_same (s := s') rfl rfl rfl rfl a1, a2, a3, Nat.le_succ_of_le a4, ?_, fun i hi => ?_, a7⟩, h160⟩
  · show g_cz s' + 1 + g_pl s + 0 ≤ g_cz s + g_pl s'
    omega
  · show upd (g_co s') (g_cz s') c i = g_co s i
    rw [pk_un (by omega)]; exact a6 i hi
theorem WF_rfu {n : Nat} {s : PS} (hn : n ≤ 160) (h : WF n s) : WF n (rfu s) := by
  refine ⟨h.1, h.2.1, Or.inr ⟨?_, rfl⟩⟩
  show ¬ (if g_fa s = -1 then nI (g_pl s) else g_fa s) = -1
  by_cases q : g_fa s = -1
  · rw [if_pos q]; exact nI_nm1 (by have := h.1; omega)
  · rw [if_neg q]; exact q
theorem rfu_gd {n : Nat} {s : PS} (hn : n ≤ 160) (h : WF n s) : GD 0 n s (rfu s) := ⟨WF_rfu hn h, rfl, Nat.le_refl _, Nat.le_refl _, Nat.le_refl _, fun _ _ => rfl, fun q => by
  show ¬ (if g_fa s = -1 then nI (g_pl s) else g_fa s) = -1
  rw [if_neg q]; exact q⟩
theorem rfu_fa {n : Nat} {s : PS} (hn : n ≤ 160) (h : WF n s) : ¬ g_fa (rfu s) = -1 := by
  have := (WF_rfu hn h).2.2
  rcases this with ⟨-, h2, -⟩ | ⟨h1, -⟩
  · exact absurd rfl h2
  · exact h1
/-- what adv does, whatever the token -/
theorem adv_sh {b : Nat → Int32} {n : Nat} {s : PS} (hn : n ≤ 160) (hf : g_fa s = -1) (hx : g_nx s ≤ n) : WF n (adv b n s) ∧ g_nx s ≤ g_pl (adv b n s) ∧ g_op (adv b n s) = g_op s ∧ g_cz (adv b n s) = g_cz s ∧ g_co (adv b n s) = g_co s := by
  obtain ⟨pl, nx, to, nu, f0, op, cz, co⟩ := s
  change f0 = -1 at hf
  subst hf
  change nx ≤ n at hx
  unfold adv
  show WF n (ad1 b n (pl, nx, to, nu, -1, op, cz, co) (spn qBk b (n - nx) nx)) ∧ nx ≤ g_pl (ad1 b n (pl, nx, to, nu, -1, op, cz, co) (spn qBk b (n - nx) nx)) ∧ g_op (ad1 b n (pl, nx, to, nu, -1, op, cz, co) (spn qBk b (n - nx) nx)) = op ∧ g_cz (ad1 b n (pl, nx, to, nu, -1, op, cz, co) (spn qBk b (n - nx) nx)) = cz ∧ g_co (ad1 b n (pl, nx, to, nu, -1, op, cz, co) (spn qBk b (n - nx) nx)) = co
  have hjn : spn qBk b (n - nx) nx ≤ n := sp_n hx
  have hjx : nx ≤ spn qBk b (n - nx) nx := spn_ge _ _ _ _
  generalize spn qBk b (n - nx) nx = j at hjn hjx ⊢
  have hp := nI_nm1 (k := j) (by omega)
  unfold ad1
  by_cases h1 : n ≤ j
  · rw [if_pos h1]
    exact ⟨⟨hjn, hjn, Or.inl ⟨rfl, (by decide : ¬ (0 : Int32) = 2), fun _ => h1, fun z => absurd rfl z⟩⟩, hjx, rfl, rfl, rfl⟩
  · rw [if_neg h1]
    have h1 : j < n := by omega
    by_cases l1 : qLt (b j) = true
    · rw [if_pos l1]
      have he : spn qLt b (n - j) j ≤ n := sp_n hjn
      have hgt : j < spn qLt b (n - j) j := by rw [spn_t h1 l1]; exact Nat.lt_of_lt_of_le (Nat.lt_succ_self _) (spn_ge _ _ _ _)
      generalize spn qLt b (n - j) j = e at he hgt ⊢
      unfold adW
      by_cases hw : wtk b j e 12 200 = 2
      · rw [if_pos hw]
        exact ⟨⟨hjn, he, Or.inr ⟨by show ¬ (if (-1 : Int32) = -1 then nI j else -1) = -1; rw [if_pos rfl]; exact hp, rfl⟩⟩, hjx, rfl, rfl, rfl⟩
      · rw [if_neg hw]
        have hb := wtk_big hw
        exact ⟨⟨hjn, he, Or.inl ⟨rfl, hw, fun z => by exfalso; change wtk b j e 12 200 = 0 at z; rw [z] at hb; exact absurd hb.1 (by decide), fun _ => hgt⟩⟩, hjx, rfl, rfl, rfl⟩
    · rw [if_neg l1]
      by_cases l2 : qDt (b j) = true
      · rw [if_pos l2]
        have he : spn qDt b (n - j) j ≤ n := sp_n hjn
        have hgt : j < spn qDt b (n - j) j := by rw [spn_t h1 l2]; exact Nat.lt_of_lt_of_le (Nat.lt_succ_self _) (spn_ge _ _ _ _)
        generalize spn qDt b (n - j) j = e at he hgt ⊢
        unfold adN
        by_cases hw : 4 < e - j
        · rw [if_pos hw]
          exact ⟨⟨hjn, he, Or.inr ⟨by show ¬ (if (-1 : Int32) = -1 then nI j else -1) = -1; rw [if_pos rfl]; exact hp, rfl⟩⟩, hjx, rfl, rfl, rfl⟩
        · rw [if_neg hw]
          exact ⟨⟨hjn, he, Or.inl ⟨rfl, (by decide : ¬ (1 : Int32) = 2), fun z => absurd z (by decide : ¬ (1 : Int32) = 0), fun _ => hgt⟩⟩, hjx, rfl, rfl, rfl⟩
      · rw [if_neg l2]
        by_cases l3 : qSn (b j) = true
        · rw [if_pos l3]
          have hne : ¬ b j = 2 ∧ ¬ b j = 0 := ⟨fun z => by rw [z] at l3; exact absurd l3 (by decide), fun z => by rw [z] at l3; exact absurd l3 (by decide)⟩
          exact ⟨⟨hjn, h1, Or.inl ⟨rfl, hne.1, fun z => absurd z hne.2, fun _ => Nat.lt_succ_self _⟩⟩, hjx, rfl, rfl, rfl⟩
        · rw [if_neg l3]
          exact ⟨⟨hjn, hjn, Or.inr ⟨by show ¬ (if (-1 : Int32) = -1 then nI j else -1) = -1; rw [if_pos rfl]; exact hp, rfl⟩⟩, hjx, rfl, rfl, rfl⟩
theorem WF_ok {n : Nat} {s : PS} (h : WF n s) (h2 : ¬ g_to s = 2) : g_fa s = -1 := by
  rcases h.2.2 with ⟨q, -⟩ | ⟨-, q⟩
  · exact q
  · exact absurd q h2
/-- behind a token that stands there -/
theorem adv_gd {b : Nat → Int32} {n : Nat} {s : PS} (hn : n ≤ 160) (h : WF n s) (h2 : ¬ g_to s = 2) (h0 : ¬ g_to s = 0) : GD 1 n s (adv b n s) := by
  have hf := WF_ok h h2
  obtain ⟨a1, a2, a3, a4, a5⟩ := adv_sh (b := b) hn hf h.2.1
  have hlt : g_pl s < g_nx s := by
    rcases h.2.2 with ⟨-, -, -, q⟩ | ⟨q, -⟩
    · exact q h0
    · exact absurd hf q
  exact ⟨a1, a3, by omega, by omega, by omega, fun i _ => by rw [a5], fun z => absurd hf z⟩
theorem inc_gd {b : Nat → Int32} {n : Nat} {s : PS} (hn : n ≤ 160) (h : WF n s) (h2 : ¬ g_to s = 2) (h0 : ¬ g_to s = 0) : GD 1 n (inc1 s) (adv b n (inc1 s)) := adv_gd (s := inc1 s) hn h h2 h0
/-- a reading function: from every good state on -/
def GF (n K : Nat) (f : PF) : Prop := ∀ s, WF n s → g_cz s ≤ g_pl s → g_op s = K → GD 0 n s (f s) ∧ (¬ g_fa s = -1 → f s = s)
theorem WF_two {n : Nat} {s : PS} (h : WF n s) (h2 : ¬ g_fa s = -1) : g_to s = 2 := by
  rcases h.2.2 with ⟨q, -⟩ | ⟨-, q⟩
  · exact absurd q h2
  · exact q
theorem rfu_gf (n K : Nat) (hn : n ≤ 160) : GF n K rfu := fun s h _ _ => ⟨rfu_gd hn h, fun q => rfu_of q (WF_two h q)⟩
/-- what stands in brackets, behind a not or a -, counts one deeper -/
theorem dec_gd {b : Nat → Int32} {n K : Nat} {f : PF} {s : PS} (hn : n ≤ 160) (hG : GF n (K + 1) f) (h : WF n s) (hc : g_cz s ≤ g_pl s) (hK : g_op s = K) (h2 : ¬ g_to s = 2) (h0 : ¬ g_to s = 0) : GD 1 n s (dec1 (f (adv b n (inc1 s)))) := by
  have hi := inc_gd (b := b) hn h h2 h0
  have hc1 : g_cz (adv b n (inc1 s)) ≤ g_pl (adv b n (inc1 s)) := by have := hi.cz (s := inc1 s) hc; omega
  have hg := (hG (adv b n (inc1 s)) hi.1 hc1 (by rw [hi.2.1]; show g_op s + 1 = K + 1; rw [hK])).1
  obtain ⟨a1, a2, a3, a4, a5, a6, a7⟩ := hi.tr hg
  refine ⟨WF_same (s := f (adv b n (inc1 s))) rfl rfl rfl rfl a1, ?_, a3, a4, a5, a6, a7⟩
  show g_op (f (adv b n (inc1 s))) - 1 = g_op s
  rw [a2]; rfl
theorem exc_gd {b : Nat → Int32} {n : Nat} {s : PS} {t : Int32} (hn : n ≤ 160) (h : WF n s) (h2 : ¬ t = 2) (h0 : ¬ t = 0) : GD 0 n s (exc b n t s) := by
  unfold exc
  by_cases q : g_to s = t
  · rw [if_pos q]; exact (adv_gd hn h (by rw [q]; exact h2) (by rw [q]; exact h0)).le (by omega)
  · rw [if_neg q]; exact rfu_gd hn h
theorem exc_of {b : Nat → Int32} {n : Nat} {s : PS} {t : Int32} (h : WF n s) (hf : ¬ g_fa s = -1) (h2 : ¬ t = 2) : exc b n t s = s := by
  unfold exc
  rw [if_neg (by rw [WF_two h hf]; exact fun z => h2 z.symm)]
  exact rfu_of hf (WF_two h hf)
theorem sgl_gf {b : Nat → Int32} {n K : Nat} {iE iS : PF} (hn : n ≤ 160) (hE : GF n (K + 1) iE) (hS : GF n (K + 1) iS) : GF n K (sgl b n iE iS) := by
  intro s h hc hK
  refine ⟨?_, fun hf => ?_⟩
  · unfold sgl
    by_cases h1 : g_to s = 1
    · rw [if_pos h1]
      have hlt : g_cz s < 160 := by
        rcases h.2.2 with ⟨-, -, -, q⟩ | ⟨-, q⟩
        · have := q (by rw [h1]; decide); have := h.2.1; omega
        · rw [h1] at q; exact absurd q (by decide)
      rw [emt_y hlt]
      have hg := adv_gd (b := b) (s := (g_pl s, g_nx s, g_to s, g_nu s, g_fa s, g_op s, g_cz s + 1, upd (g_co s) (g_cz s) (g_nu s))) hn (WF_same (s := s) rfl rfl rfl rfl h) (by rw [show g_to (g_pl s, g_nx s, g_to s, g_nu s, g_fa s, g_op s, g_cz s + 1, upd (g_co s) (g_cz s) (g_nu s)) = g_to s from rfl, h1]; decide) (by rw [show g_to (g_pl s, g_nx s, g_to s, g_nu s, g_fa s, g_op s, g_cz s + 1, upd (g_co s) (g_cz s) (g_nu s)) = g_to s from rfl, h1]; decide)
      obtain ⟨a1, a2, a3, a4, a5, a6, a7⟩ := hg
      refine ⟨a1, a2, a3, by have : g_cz s + 1 ≤ _ := a4; omega, by have : _ + g_pl s + 1 ≤ g_cz s + 1 + _ := a5; omega, fun i hi => ?_, a7⟩
      rw [a6 i (by show i < g_cz s + 1; omega)]
      exact pk_un (by omega)
    · rw [if_neg h1]
      by_cases h2 : 200 ≤ g_to s ∧ g_to s ≤ 211 ∧ g_to s ≤ 205
      · have h2' : 200 ≤ g_to s ∧ g_to s ≤ 205 := ⟨h2.1, h2.2.2⟩
        rw [if_pos h2']
        have n2 : ¬ g_to s = 2 := fun z => by rw [z] at h2; exact absurd h2.1 (by decide)
        have n0 : ¬ g_to s = 0 := fun z => by rw [z] at h2; exact absurd h2.1 (by decide)
        have hlt : g_cz s < 160 := by
          rcases h.2.2 with ⟨-, -, -, q⟩ | ⟨-, q⟩
          · have := q n0; have := h.2.1; omega
          · exact absurd q n2
        rw [emt_y hlt]
        have hg := adv_gd (b := b) (s := (g_pl s, g_nx s, g_to s, g_nu s, g_fa s, g_op s, g_cz s + 1, upd (g_co s) (g_cz s) (-(g_to s)))) hn (WF_same (s := s) rfl rfl rfl rfl h) n2 n0
        obtain ⟨a1, a2, a3, a4, a5, a6, a7⟩ := hg
        refine ⟨a1, a2, a3, by have : g_cz s + 1 ≤ _ := a4; omega, by have : _ + g_pl s + 1 ≤ g_cz s + 1 + _ := a5; omega, fun i hi => ?_, a7⟩
        rw [a6 i (by show i < g_cz s + 1; omega)]
        exact pk_un (by omega)
      · have h2' : ¬ (200 ≤ g_to s ∧ g_to s ≤ 205) := fun z => h2 ⟨z.1, Int32.le_trans z.2 (by decide), z.2⟩
        rw [if_neg h2']
        by_cases h3 : g_to s = 45
        · rw [if_pos h3]
          by_cases h5 : 5 ≤ g_op s
          · rw [if_pos h5]; exact rfu_gd hn h
          · rw [if_neg h5]
            exact ((dec_gd hn hS h hc hK (by rw [h3]; decide) (by rw [h3]; decide)).em hn hc).1
        · rw [if_neg h3]
          by_cases h4 : g_to s = 40
          · rw [if_pos h4]
            by_cases h5 : 5 ≤ g_op s
            · rw [if_pos h5]; exact rfu_gd hn h
            · rw [if_neg h5]
              have hd := dec_gd (b := b) hn hE h hc hK (by rw [h4]; decide) (by rw [h4]; decide)
              exact (hd.tr (exc_gd hn hd.1 (by decide) (by decide))).le (by omega)
          · rw [if_neg h4]; exact rfu_gd hn h
  · have h2 := WF_two h hf
    unfold sgl
    rw [if_neg (by rw [h2]; decide), if_neg (by rw [h2]; decide), if_neg (by rw [h2]; decide), if_neg (by rw [h2]; decide)]
    exact rfu_of hf h2
theorem lpG_gd {b : Nat → Int32} {n K : Nat} {q : Int32 → Bool} {bd : PF} (hn : n ≤ 160) (hG : GF n K bd) (q2 : q 2 = false) (q0 : q 0 = false) : ∀ (f : Nat) (s : PS), WF n s → g_cz s ≤ g_pl s → g_op s = K → GD 0 n s (lpG b n q bd f s)
  | 0, s, h, _, _ => GD.rf h
  | f + 1, s, h, hc, hK => by
    rw [lpG]
    by_cases hq : q (g_to s) = true
    · rw [if_pos hq]
      have n2 : ¬ g_to s = 2 := fun z => by rw [z, q2] at hq; exact absurd hq (by decide)
      have n0 : ¬ g_to s = 0 := fun z => by rw [z, q0] at hq; exact absurd hq (by decide)
      have h1 := adv_gd (b := b) hn h n2 n0
      have h2 := (hG _ h1.1 (by have := h1.cz hc; omega) (h1.2.1.trans hK)).1
      have h3 := ((h1.tr h2).em (c := -(g_to s)) hn hc).1
      exact h3.tr (lpG_gd hn hG q2 q0 f _ h3.1 (by have := h3.cz hc; omega) (h3.2.1.trans hK))
    · rw [if_neg hq]; exact GD.rf h
theorem seq_gf {b : Nat → Int32} {n K : Nat} {q : Int32 → Bool} {bd : PF} (hn : n ≤ 160) (hG : GF n K bd) (q2 : q 2 = false) (q0 : q 0 = false) : GF n K (seq b n q bd) := by
  intro s h hc hK
  have h1 := hG s h hc hK
  refine ⟨?_, fun hf => ?_⟩
  · exact h1.1.tr (lpG_gd hn hG q2 q0 160 _ h1.1.1 (by have := h1.1.cz hc; omega) (h1.1.2.1.trans hK))
  · unfold seq
    rw [h1.2 hf, lpG, if_neg (by rw [WF_two h hf, q2]; decide)]
theorem ngt_gf {b : Nat → Int32} {n K : Nat} {sm iN : PF} (hn : n ≤ 160) (hM : GF n K sm) (hN : GF n (K + 1) iN) : GF n K (ngt b n sm iN) := by
  intro s h hc hK
  refine ⟨?_, fun hf => ?_⟩
  · unfold ngt
    by_cases h1 : g_to s = 211
    · rw [if_pos h1]
      by_cases h5 : 5 ≤ g_op s
      · rw [if_pos h5]; exact rfu_gd hn h
      · rw [if_neg h5]
        exact ((dec_gd hn hN h hc hK (by rw [h1]; decide) (by rw [h1]; decide)).em hn hc).1
    · rw [if_neg h1]
      have hs := (hM s h hc hK).1
      unfold cmp
      by_cases h2 : g_to (sm s) = 60 ∨ g_to (sm s) = 61
      · rw [if_pos h2]
        have n2 : ¬ g_to (sm s) = 2 := fun z => by rw [z] at h2; exact absurd h2 (by decide)
        have n0 : ¬ g_to (sm s) = 0 := fun z => by rw [z] at h2; exact absurd h2 (by decide)
        have ha := hs.tr (adv_gd (b := b) hn hs.1 n2 n0)
        have hb := (hM _ ha.1 (by have := ha.cz hc; omega) (ha.2.1.trans hK)).1
        exact ((ha.tr hb).em hn hc).1
      · rw [if_neg h2]; exact hs
  · have h2 := WF_two h hf
    unfold ngt
    rw [if_neg (by rw [h2]; decide), (hM s h hc hK).2 hf]
    unfold cmp
    rw [if_neg (by rw [h2]; decide)]
theorem lev_gf {b : Nat → Int32} {n : Nat} (hn : n ≤ 160) : ∀ (k K : Nat), K + k = 6 → GF n K (lev b n k).1 ∧ GF n K (lev b n k).2.1 ∧ GF n K (lev b n k).2.2
  | 0, K, _ => ⟨rfu_gf n K hn, rfu_gf n K hn, rfu_gf n K hn⟩
  | k + 1, K, hK => by
    obtain ⟨e1, e2, e3⟩ := lev_gf hn k (K + 1) (by omega)
    have hS : GF n K (lvS b n (lev b n k)) := sgl_gf hn e1 e3
    have hT : GF n K (lvT b n (lev b n k)) := seq_gf hn hS rfl rfl
    have hM : GF n K (lvM b n (lev b n k)) := seq_gf hn hT rfl rfl
    have hN : GF n K (lvN b n (lev b n k)) := ngt_gf hn hM e2
    have hJ : GF n K (lvJ b n (lev b n k)) := seq_gf hn hN rfl rfl
    have hE : GF n K (lvE b n (lev b n k)) := seq_gf hn hJ rfl rfl
    exact ⟨hE, hN, hS⟩
/-- all six of a level -/
theorem lv_gf {b : Nat → Int32} {n : Nat} (hn : n ≤ 160) (k K : Nat) (hK : K + k = 5) : GF n K (lvS b n (lev b n k)) ∧ GF n K (lvT b n (lev b n k)) ∧ GF n K (lvM b n (lev b n k)) ∧ GF n K (lvN b n (lev b n k)) ∧ GF n K (lvJ b n (lev b n k)) ∧ GF n K (lvE b n (lev b n k)) := by
  obtain ⟨e1, e2, e3⟩ := lev_gf (b := b) hn k (K + 1) (by omega)
  have hS : GF n K (lvS b n (lev b n k)) := sgl_gf hn e1 e3
  have hT : GF n K (lvT b n (lev b n k)) := seq_gf hn hS rfl rfl
  have hM : GF n K (lvM b n (lev b n k)) := seq_gf hn hT rfl rfl
  have hN : GF n K (lvN b n (lev b n k)) := ngt_gf hn hM e2
  have hJ : GF n K (lvJ b n (lev b n k)) := seq_gf hn hN rfl rfl
  exact ⟨hS, hT, hM, hN, hJ, seq_gf hn hJ rfl rfl⟩
/-- a loop's fuel: more than the bytes left is as good as any -/
theorem lpG_fuel {b : Nat → Int32} {n K : Nat} {q : Int32 → Bool} {bd : PF} (hn : n ≤ 160) (hG : GF n K bd) (q2 : q 2 = false) (q0 : q 0 = false) : ∀ (f g : Nat) (s : PS), WF n s → g_cz s ≤ g_pl s → g_op s = K → n ≤ f + g_pl s → n ≤ g + g_pl s → lpG b n q bd f s = lpG b n q bd g s := by
  have hz : ∀ s, WF n s → n ≤ g_pl s → ¬ q (g_to s) = true := fun s h hp hq => by
    rcases h.2.2 with ⟨-, -, -, z⟩ | ⟨-, z⟩
    · by_cases h0 : g_to s = 0
      · rw [h0, q0] at hq; exact absurd hq (by decide)
      · have := z h0; have := h.2.1; omega
    · rw [z, q2] at hq; exact absurd hq (by decide)
  intro f
  induction f with
  | zero =>
    intro g s h hc hK h1 h2
    cases g with
    | zero => rfl
    | succ g => rw [lpG, lpG, if_neg (hz s h (by omega))]
  | succ f ih =>
    intro g s h hc hK h1 h2
    cases g with
    | zero => rw [lpG, lpG, if_neg (hz s h (by omega))]
    | succ g =>
      rw [lpG, lpG]
      by_cases hq : q (g_to s) = true
      · rw [if_pos hq, if_pos hq]
        have n2 : ¬ g_to s = 2 := fun z => by rw [z, q2] at hq; exact absurd hq (by decide)
        have n0 : ¬ g_to s = 0 := fun z => by rw [z, q0] at hq; exact absurd hq (by decide)
        have a1 := adv_gd (b := b) hn h n2 n0
        have a2 := (hG _ a1.1 (by have := a1.cz hc; omega) (a1.2.1.trans hK)).1
        have a3 := ((a1.tr a2).em (c := -(g_to s)) hn hc).1
        have hpl : g_pl s + 1 ≤ g_pl (emt (-(g_to s)) (bd (adv b n s))) := by
          rw [(emt_g _ _).1]
          have := a2.2.2.1
          have h6 := a1.2.2.2.2.1
          have h7 := a1.2.2.2.1
          omega
        exact ih g _ a3.1 (by have := a3.cz hc; omega) (a3.2.1.trans hK) (by omega) (by omega)
      · rw [if_neg hq, if_neg hq]
