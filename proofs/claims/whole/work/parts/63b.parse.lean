theorem pX_app {w l : pc_W} {t : Value} {sz to pl nx nu op cz fa : Int32} {co : Nat → Int32} (hw : 18 < w.length) : pX w t sz to pl nx nu op cz fa co ++ l = pX (w ++ l) t sz to pl nx nu op cz fa co := by
  unfold pX
  rw [List.set_append_left _ _ (by omega), List.set_append_left _ _ (by rw [List.length_set]; exact hw)]
theorem pX_so {w : pc_W} {t : Value} {sz to pl nx nu op cz fa : Int32} {co : Nat → Int32} {k : Nat} {v : pc_E} (h1 : k ≠ 16) (h2 : k ≠ 18) : (pX w t sz to pl nx nu op cz fa co).set k v = pX (w.set k v) t sz to pl nx nu op cz fa co := by
  unfold pX
  rw [List.set_comm _ _ h2.symm, List.set_comm _ _ h1.symm]
/-- what parse leaves behind the world: the ends; and, where nothing was refused, the text and its code -/
def enF (a b c : Nat) : Nat → Int32 := upd (upd (upd (fun _ => 0) 1 (nI a)) 2 (nI b)) 3 (nI c)
def s00 (to nu : Int32) (pl : Nat) (co : Nat → Int32) : PS := (pl, 0, to, nu, -1, 0, 0, co)
def parR (w : pc_W) (rt n : Nat) (tb : Nat → Int32) (s0 : PS) : Option Value → pc_W → Prop := fun v w' =>
  ∃ e : Nat → Int32, e = enF (g_cz (ps1 tb n s0)) (g_cz (ps2 tb n s0)) (g_cz (ps3 tb n s0)) ∧ ((g_fa (prs tb n s0) = -1 ∧ v = some (.ref (w.length + 1)) ∧ w' = pS (w ++ [.inl (0, (4, .inl e)), .inr (6, [.ref (w.length + 2), .ref w.length]), .inl (0, (g_cz (prs tb n s0), .inl (va_cpy (g_co (prs tb n s0)) (fun _ => 0) 0 0 (g_cz (prs tb n s0)))))]) rt n (prs tb n s0)) ∨ (¬ g_fa (prs tb n s0) = -1 ∧ v = some .null ∧ w' = pS (w ++ [.inl (0, (4, .inl e))]) rt n (prs tb n s0)))
theorem exc_cz {b : Nat → Int32} {n : Nat} {t : Int32} {s : PS} (hn : n ≤ 160) (h : WF n s) (h2 : ¬ t = 2) : g_cz (exc b n t s) = g_cz s := by
  unfold exc
  by_cases q : g_to s = t
  · rw [if_pos q]
    exact (adv_sh (b := b) hn (WF_ok h (by rw [q]; exact h2)) h.2.1).2.2.2.1
  · rw [if_neg q]; rfl
theorem prP_g4 {b : Nat → Int32} {n i : Nat} {s : PS} (hn : n ≤ 160) (h : WF n s) (hc : g_cz s ≤ g_pl s) (hk : g_op s = 0) (hi : i < 3) : GD 0 n s (exc b n (nI (206 + i)) s) ∧ GD 0 n s (prE b n (nI (206 + i)) s) ∧ GD 0 n s (prP b n (nI (206 + i)) s) ∧ g_cz (prP b n (nI (206 + i)) s) = g_cz (prE b n (nI (206 + i)) s) := by
  have k2 : ¬ nI (206 + i) = 2 := fun y => absurd ((nI_eq (a := 206 + i) (b := 2) (by omega) (by decide)).mp y) (by omega)
  have k0 : ¬ nI (206 + i) = 0 := fun y => absurd ((nI_eq (a := 206 + i) (b := 0) (by omega) (by decide)).mp y) (by omega)
  have gf := (lv_gf (b := b) hn 5 0 rfl).2.2.2.2.2
  unfold prP prE
  generalize lvE b n (lev b n 5) = f at gf ⊢
  have g1 := exc_gd (b := b) hn h k2 k0
  generalize exc b n (nI (206 + i)) s = s1 at g1 ⊢
  have g2 := (gf s1 g1.1 (by have := g1.cz hc; omega) (g1.2.1.trans hk)).1
  generalize f s1 = s2 at g2 ⊢
  have g3 : GD 0 n s s2 := g1.tr g2
  have g4 : GD 0 n s2 (exc b n 59 s2) := exc_gd (b := b) (t := 59) hn g3.1 (by decide) (by decide)
  exact ⟨g1, g3, g3.tr g4, exc_cz hn g3.1 (by decide)⟩
set_option maxRecDepth 100000 in
theorem parse_body {X : Nat × (Nat → Int32)} {w : pc_W} {rt m n i : Nat} {tb e : Nat → Int32} {s : PS} {Ret : Option Value → pc_W → Prop} {cb sb : Nat} (hw : 18 < w.length) (hT : w[rt]? = some (.inl (0, (m, .inl tb)))) (h17 : rt ≠ 16) (h18 : rt ≠ 18) (hm : m < 2 ^ 30) (hn : n ≤ m) (hn160 : n ≤ 160) (q : WF n s) (hc : g_cz s ≤ g_pl s) (hk : g_op s = 0) (hi : i < 3)
    (kk : Ex X mX4_parse 44 Ret cb sb 30 [some (.ref 16), some (.ref w.length), some (.int (nI (i + 1)))] [] (pS (w ++ [.inl (0, (4, .inl (upd e (i + 1) (nI (g_cz (prE tb n (nI (206 + i)) s))))))]) rt n (prP tb n (nI (206 + i)) s))) : Ex X mX4_parse 44 Ret cb sb 30 [some (.ref 16), some (.ref w.length), some (.int (nI i))] [] (pS (w ++ [.inl (0, (4, .inl e))]) rt n s) := by
  have hw1 : ∀ e : Nat → Int32, 18 < (w ++ [(.inl (0, (4, .inl e)) : pc_E)]).length := fun e => by rw [List.length_append]; omega
  have hrt : rt < w.length := (List.getElem?_eq_some_iff.mp hT).1
  have hT1 : ∀ e : Nat → Int32, (w ++ [(.inl (0, (4, .inl e)) : pc_E)])[rt]? = some (.inl (0, (m, .inl tb))) := fun e => (List.getElem?_append_left hrt).trans hT
  obtain ⟨g1, g2, g3, e3⟩ := prP_g4 (b := tb) (i := i) hn160 q hc hk hi
  refine x_iload_n dX4_parse_30 rfl ?_
  refine x_iconst 3 dX4_parse_31 ?_
  refine x_icmp_ge 69 dX4_parse_32 (fun z => absurd z (nI_ge (b := 3) hi (by decide))) (fun _ => ?_)
  refine x_aload_n dX4_parse_35 rfl ?_
  refine x_sipush 206 dX4_parse_36 ?_
  refine x_iload_n dX4_parse_39 rfl ?_
  refine x_iadd dX4_parse_40 ?_
  rw [show (206 : Int32) + nI i = nI (206 + i) from nI_add 206 i]
  refine ii_X4_50 dX4_parse_41 (c_exc (s := s) (hw1 e) (hT1 e) h17 h18 hm hn q.2.1) (pX_p (hw1 e)) (by decide) (Nat.le_of_ble_eq_true rfl) ?_
  refine x_aload_n dX4_parse_44 rfl ?_
  refine ii_X4_54 dX4_parse_45 ((ct_lev (hw1 e) (hT1 e) h17 h18 hm hn hn160 5 0 rfl).2.2.2.2.2 _ g1.1 (by have := g1.cz hc; omega) (g1.2.1.trans hk)) (pX_p (hw1 e)) (by decide) (Nat.le_of_ble_eq_true rfl) ?_
  refine Ex.eqW (w' := pS (w ++ [.inl (0, (4, .inl e))]) rt n (prE tb n (nI (206 + i)) s)) rfl ?_
  obtain ⟨s2, hs2⟩ : ∃ s2, s2 = prE tb n (nI (206 + i)) s := ⟨_, rfl⟩
  have hs3 : prP tb n (nI (206 + i)) s = exc tb n 59 s2 := by rw [hs2]; rfl
  rw [← hs2] at g2 e3 kk ⊢
  refine x_aload_n dX4_parse_48 rfl ?_
  refine x_iload_n dX4_parse_49 rfl ?_
  refine x_iconst 1 dX4_parse_50 ?_
  refine x_iadd dX4_parse_51 ?_
  rw [← nI_succ]
  refine x_aload_n dX4_parse_52 rfl ?_
  refine gP_39 (hw1 e) dX4_parse_53 ?_
  refine x_iastoreN (f := e) (n := 4) dX4_parse_56 ((pX_o (by omega) (by omega)).trans (by rw [List.getElem?_append_right (Nat.le_refl _), Nat.sub_self]; rfl)) (by omega) (by decide) ?_
  refine Ex.eqW (w' := pS (w ++ [.inl (0, (4, .inl (upd e (i + 1) (nI (g_cz s2)))))]) rt n s2) (by rw [pX_so (by omega) (by omega), set_last rfl]) ?_
  refine x_aload_n dX4_parse_57 rfl ?_
  refine x_bipush 59 dX4_parse_58 ?_
  refine ii_X4_50 dX4_parse_60 (c_exc (s := s2) (hw1 _) (hT1 _) h17 h18 hm hn g2.1.2.1) (pX_p (hw1 _)) (by decide) (Nat.le_of_ble_eq_true rfl) ?_
  refine x_iincN dX4_parse_63 rfl (by decide) ?_
  refine x_goto 30 dX4_parse_66 ?_
  rw [hs3] at kk
  exact kk
