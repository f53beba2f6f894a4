theorem VR_end {b : Nat → Int32} {n : Nat} {nm : Nat → Int32} {s : PS} {c0 : Nat} {x : Int32} (hn : n ≤ 160) (w : WF n s) (h2 : ¬ g_to s = 2) (v : VR nm c0 s x) : VR nm c0 (adv b n s) x := by
  intro _
  obtain ⟨-, -, -, e4, e5⟩ := adv_sh (b := b) hn (WF_ok w h2) w.2.1
  rw [e4, e5]
  exact v (WF_ok w h2)
theorem fin_p1 {b : Nat → Int32} {n : Nat} {s : PS} {key : Int32} {h : Nat} {to : Int32} {t : Nat} {tw : Int64} {ba fa : Int32} {nm : Nat → Int32} {x : Int32} (hn : n ≤ 160) (w : WF n s) (hc : g_cz s ≤ g_pl s) (hK : g_op s = 0) (k2 : ¬ key = 2) (k0 : ¬ key = 0) (hz : g_to s = key) (h59 : g_to (lvE b n (lev b n 5) (adv b n s)) = 59) (q : LR b n (adv b n (lvE b n (lev b n 5) (adv b n s))) h to t tw ba fa) (v : VR nm (g_cz (adv b n s)) (lvE b n (lev b n 5) (adv b n s)) x) : LR b n (prP b n key s) h to t tw ba fa ∧ VR nm (g_cz s) (prP b n key s) x := by
  have a1 := adv_gd (b := b) hn w (by rw [hz]; exact k2) (by rw [hz]; exact k0)
  have a2 := ((lv_gf (b := b) hn 5 0 rfl).2.2.2.2.2 _ a1.1 (by have := a1.cz hc; omega) (a1.2.1.trans hK)).1
  have e4 := (adv_sh (b := b) hn (WF_ok w (by rw [hz]; exact k2)) w.2.1).2.2.2.1
  unfold prP prE
  rw [exc_y hz, exc_y h59]
  rw [e4] at v
  exact ⟨q, VR_end hn a2.1 (by rw [h59]; decide) v⟩
theorem fin_p2 {b : Nat → Int32} {n : Nat} {s : PS} {key : Int32} {h : Nat} {to : Int32} {t : Nat} {tw : Int64} {ba fa : Int32} {nm : Nat → Int32} {x : Int32} (hn : n ≤ 160) (w : WF n s) (hc : g_cz s ≤ g_pl s) (hK : g_op s = 0) (k2 : ¬ key = 2) (k0 : ¬ key = 0) (hz : g_to s = key) (h59 : ¬ g_to (lvE b n (lev b n 5) (adv b n s)) = 59) (q : LR b n (rfu (lvE b n (lev b n 5) (adv b n s))) h to t tw ba fa) : LR b n (prP b n key s) h to t tw ba fa ∧ VR nm (g_cz s) (prP b n key s) x := by
  have a1 := adv_gd (b := b) hn w (by rw [hz]; exact k2) (by rw [hz]; exact k0)
  have a2 := ((lv_gf (b := b) hn 5 0 rfl).2.2.2.2.2 _ a1.1 (by have := a1.cz hc; omega) (a1.2.1.trans hK)).1
  unfold prP prE
  rw [exc_y hz, exc_n h59]
  exact ⟨q, VR_rfu hn a2.1⟩
theorem fin_p3 {b : Nat → Int32} {n : Nat} {s : PS} {key : Int32} {h : Nat} {to : Int32} {t : Nat} {tw : Int64} {ba fa : Int32} {nm : Nat → Int32} {x : Int32} (hn : n ≤ 160) (w : WF n s) (hc : g_cz s ≤ g_pl s) (hK : g_op s = 0) (hz : ¬ g_to s = key) (q : LR b n (rfu (rfu s)) h to t tw ba fa) : LR b n (prP b n key s) h to t tw ba fa ∧ VR nm (g_cz s) (prP b n key s) x := by
  have w1 := WF_rfu hn w
  have a2 := ((lv_gf (b := b) hn 5 0 rfl).2.2.2.2.2 (rfu s) w1 hc hK).2 (rfu_fa hn w)
  unfold prP prE
  rw [exc_n hz, a2, exc_n (show ¬ g_to (rfu s) = 59 from (by decide : ¬ (2 : Int32) = 59))]
  exact ⟨q, VR_rfu hn w1⟩
/-- a part is a reading function -/
theorem prP_gen {b : Nat → Int32} {n : Nat} {s : PS} {key : Int32} {E : PF} (hE : GF n 0 E) (hn : n ≤ 160) (w : WF n s) (hc : g_cz s ≤ g_pl s) (hK : g_op s = 0) (k2 : ¬ key = 2) (k0 : ¬ key = 0) : GD 0 n s (exc b n 59 (E (exc b n key s))) ∧ (¬ g_fa s = -1 → exc b n 59 (E (exc b n key s)) = s) ∧ GD 0 n s (E (exc b n key s)) ∧ g_cz (exc b n 59 (E (exc b n key s))) = g_cz (E (exc b n key s)) := by
  have a1 := exc_gd (b := b) (t := key) hn w k2 k0
  have a2 := hE (exc b n key s) a1.1 (by have := a1.cz hc; omega) (a1.2.1.trans hK)
  have a3 := exc_gd (b := b) (t := 59) hn a2.1.1 (by decide) (by decide)
  refine ⟨(a1.tr a2.1).tr a3, fun hf => ?_, a1.tr a2.1, ?_⟩
  · have e1 := exc_of (b := b) (t := key) w hf k2
    rw [e1] at a2 ⊢
    rw [a2.2 hf, exc_of w hf (by decide)]
  · by_cases z : g_to (E (exc b n key s)) = 59
    · rw [exc_y z]
      have h2 : ¬ g_to (E (exc b n key s)) = 2 := by rw [z]; decide
      exact (adv_sh (b := b) hn (WF_ok a2.1.1 h2) a2.1.1.2.1).2.2.2.1
    · rw [exc_n z]; rfl
theorem prP_gd {b : Nat → Int32} {n : Nat} {s : PS} {key : Int32} (hn : n ≤ 160) (w : WF n s) (hc : g_cz s ≤ g_pl s) (hK : g_op s = 0) (k2 : ¬ key = 2) (k0 : ¬ key = 0) : GD 0 n s (prP b n key s) ∧ (¬ g_fa s = -1 → prP b n key s = s) ∧ GD 0 n s (prE b n key s) ∧ g_cz (prP b n key s) = g_cz (prE b n key s) := by
  unfold prP prE
  exact prP_gen (lv_gf (b := b) hn 5 0 rfl).2.2.2.2.2 hn w hc hK k2 k0
set_option maxRecDepth 100000 in
set_option maxHeartbeats 4000000 in
theorem c_X10_part {X : Nat × (Nat → Int32)} {S : CS} {tl : pc_W} {tx : (Nat → Int32)} {ts : (Nat → Int32)} {tc : Int32} {tp : (Nat → Int32)} {tn : Int32} {U : MU} {o : (Nat → Int32)} {to : Int32} {tw : Int64} {ba : Int32} {fa : Int32} {C : MC} {K : MK} {H : MH} {r n h t : Nat} {b : Nat → Int32} {s : PS} {key : Nat} (hr : r < 6) (hn : n ≤ 160) (hb : ∀ i, i < n → tx (160 * r + i) = b i) (hbp : ∀ i, i < n → 0 ≤ b i) (q : LR b n s h to t tw ba fa) (hc : g_cz s ≤ g_pl s) (hK : g_op s = 0) (hk : 200 ≤ key ∧ key < 212): Mt X 41 0 0 yX10_part cX10_part 3 (some .int) [.ref 42, .int (bi (g_to s = nI key))] (cst S ++ (mw (tx, ts, tc, tp, tn) U (o, nI (160 * r), nI n, nI h, to, nI t, tw, (nI 0), ba, fa) C K H ++ tl)) (fun v w' => ∃ (x : Int32) (h' : Nat) (to' : Int32) (t' : Nat) (tw' : Int64) (ba' fa' : Int32), v = some (.int x) ∧ w' = cst S ++ (mw (tx, ts, tc, tp, tn) U (o, nI (160 * r), nI n, nI h', to', nI t', tw', (nI 0), ba', fa') C K H ++ tl) ∧ LR b n (prP b n (nI key) s) h' to' t' tw' ba' fa' ∧ VR o (g_cz s) (prP b n (nI key) s) x) := by
  refine Mt.of (by decide +kernel) (fun _ _ => Nat.le_of_ble_eq_true rfl) ?_
  show Ex X mX10_part _ _ _ _ _ _ _ _
  refine x_iload_n dX10_part_0 rfl ?_
  refine x_if_ne 8 dX10_part_1 (fun h_1 => ?_) (fun h_1 => ?_)
  · have hz := bi1.mp h_1
    obtain ⟨-, rfl, -, -⟩ := LR_ok q (by rw [hz]; exact fun z => nI_w2 hk.1 (by omega) z.symm)
    have k2 : ¬ nI key = 2 := fun z => nI_w2 hk.1 (by omega) z.symm
    have k0 : ¬ nI key = 0 := nI_ne0 (by omega) (by omega)
    have a1 := adv_gd (b := b) hn q.1 (by rw [hz]; exact k2) (by rw [hz]; exact k0)
    have c1 : g_cz (adv b n s) ≤ g_pl (adv b n s) := by have := a1.cz hc; omega
    have k1 := a1.2.1.trans hK
    refine x_aload_n dX10_part_8 rfl ?_
    refine mg_188 dX10_part_9 ?_
    refine x_if_ne 19 dX10_part_12 (fun hx => absurd (rfl) hx) (fun _ => ?_)
    refine x_aload_n dX10_part_15 rfl ?_
    refine iv_X10_204 dX10_part_16 (c_X10_nextR hr hn hb hbp q (by rw [hz]; exact k2)) mw_o (by decide) (Nat.le_of_ble_eq_true rfl) (fun v_16 w_16 hw_16 => ?_)
    obtain ⟨h1, to1, t1, tw1, rfl, rfl, q1⟩ := hw_16
    refine x_aload_n dX10_part_19 rfl ?_
    refine mg_188 dX10_part_20 ?_
    refine x_if_eq 30 dX10_part_23 (fun _ => ?_) (fun hx => absurd (rfl) hx)
    refine x_aload_n dX10_part_30 rfl ?_
    refine iv_X10_349 dX10_part_31 (c_X10_either0 hr hn hb hbp q1 c1 k1) mw_o (by decide) (Nat.le_of_ble_eq_true rfl) (fun v_31 w_31 hw_31 => ?_)
    obtain ⟨x2, h2, to2, t2, tw2, ba2, fa2, rfl, rfl, q2, v2⟩ := hw_31
    refine x_istore_n dX10_part_34 (by decide) ?_
    refine x_aload_n dX10_part_35 rfl ?_
    refine x_bipush 59 dX10_part_36 ?_
    refine ii_X10_229 dX10_part_38 (c_X10_sign q2 (by decide)) mw_o (by decide) (Nat.le_of_ble_eq_true rfl) ?_
    refine x_if_ne 48 dX10_part_41 (fun h_41 => ?_) (fun h_41 => ?_)
    · have hz2 := bi1.mp h_41
      obtain ⟨-, rfl, -, -⟩ := LR_ok q2 (by rw [hz2]; decide)
      refine x_aload_n dX10_part_48 rfl ?_
      refine mg_188 dX10_part_49 ?_
      refine x_if_ne 59 dX10_part_52 (fun hx => absurd (rfl) hx) (fun _ => ?_)
      refine x_aload_n dX10_part_55 rfl ?_
      refine iv_X10_204 dX10_part_56 (c_X10_nextR hr hn hb hbp q2 (by rw [hz2]; decide)) mw_o (by decide) (Nat.le_of_ble_eq_true rfl) (fun v_56 w_56 hw_56 => ?_)
      obtain ⟨h3, to3, t3, tw3, rfl, rfl, q3⟩ := hw_56
      refine x_iload_n dX10_part_59 rfl ?_
      have zz := fin_p1 hn q.1 hc hK k2 k0 hz hz2 q3 v2
      exact Ex.ret (v := some (.int _)) ⟨dX10_part_60, _, rfl, by first | rfl | decide⟩ ⟨_, _, _, _, _, _, _, rfl, rfl, zz⟩
    · have hz2 := bi0.mp h_41
      refine x_aload_n dX10_part_44 rfl ?_
      refine iv_X10_201 dX10_part_45 (c_X10_failR hn q2) mw_o (by decide) (Nat.le_of_ble_eq_true rfl) (fun v_45 w_45 hw_45 => ?_)
      obtain ⟨fa3, rfl, rfl, q3⟩ := hw_45
      refine x_aload_n dX10_part_48 rfl ?_
      refine mg_188 dX10_part_49 ?_
      refine x_if_ne 59 dX10_part_52 (fun _ => ?_) (fun hx => absurd hx (by decide))
      refine x_iload_n dX10_part_59 rfl ?_
      have zz := fin_p2 (x := x2) (nm := o) hn q.1 hc hK k2 k0 hz hz2 q3
      exact Ex.ret (v := some (.int _)) ⟨dX10_part_60, _, rfl, by first | rfl | decide⟩ ⟨_, _, _, _, _, _, _, rfl, rfl, zz⟩
  · have hz := bi0.mp h_1
    refine x_aload_n dX10_part_4 rfl ?_
    refine iv_X10_201 dX10_part_5 (c_X10_failR hn q) mw_o (by decide) (Nat.le_of_ble_eq_true rfl) (fun v_5 w_5 hw_5 => ?_)
    obtain ⟨fa1, rfl, rfl, q1⟩ := hw_5
    refine x_aload_n dX10_part_8 rfl ?_
    refine mg_188 dX10_part_9 ?_
    refine x_if_ne 19 dX10_part_12 (fun _ => ?_) (fun hx => absurd hx (by decide))
    refine x_aload_n dX10_part_19 rfl ?_
    refine mg_188 dX10_part_20 ?_
    refine x_if_eq 30 dX10_part_23 (fun hx => absurd hx (by decide)) (fun _ => ?_)
    refine x_iconst 0 dX10_part_26 ?_
    refine x_goto 34 dX10_part_27 ?_
    refine x_istore_n dX10_part_34 (by decide) ?_
    refine x_aload_n dX10_part_35 rfl ?_
    refine x_bipush 59 dX10_part_36 ?_
    refine ii_X10_229 dX10_part_38 (c_X10_sign q1 (by decide)) mw_o (by decide) (Nat.le_of_ble_eq_true rfl) ?_
    refine x_if_ne 48 dX10_part_41 (fun hx => absurd (bi0.mpr (by decide : ¬ (2 : Int32) = 59)) hx) (fun _ => ?_)
    refine x_aload_n dX10_part_44 rfl ?_
    refine iv_X10_201 dX10_part_45 (c_X10_failR hn q1) mw_o (by decide) (Nat.le_of_ble_eq_true rfl) (fun v_45 w_45 hw_45 => ?_)
    obtain ⟨fa2, rfl, rfl, q2⟩ := hw_45
    refine x_aload_n dX10_part_48 rfl ?_
    refine mg_188 dX10_part_49 ?_
    refine x_if_ne 59 dX10_part_52 (fun _ => ?_) (fun hx => absurd hx (by decide))
    refine x_iload_n dX10_part_59 rfl ?_
    have zz := fin_p3 (x := 0) (nm := o) hn q.1 hc hK hz q2
    exact Ex.ret (v := some (.int _)) ⟨dX10_part_60, _, rfl, by first | rfl | decide⟩ ⟨_, _, _, _, _, _, _, rfl, rfl, zz⟩
/-- what the reference's read() answers, and how its flags stand then -/
def FIN (s : PS) (ba fa : Int32) : Prop := (g_fa (fin0 s) = -1 ∧ ba = 0) ∨ (¬ g_fa (fin0 s) = -1 ∧ ba = 1 ∧ fa = g_fa (fin0 s))
def RDv (s2 s3 s4 : PS) (nm : Nat → Int32) (wh : Nat) (x ba fa : Int32) : Prop := FIN s4 ba fa ∧ (g_fa (fin0 s4) = -1 → (wh = 0 → GC nm (g_co (fin0 s4)) 0 (g_cz s2) x) ∧ (wh = 1 → GC nm (g_co (fin0 s4)) (g_cz s2) (g_cz s3) x) ∧ (wh = 2 → GC nm (g_co (fin0 s4)) (g_cz s3) (g_cz s4) x))
abbrev RDp (b : Nat → Int32) (n : Nat) (s : PS) (nm : Nat → Int32) (wh : Nat) (x ba fa : Int32) : Prop := RDv (ps1 b n s) (ps2 b n s) (ps3 b n s) nm wh x ba fa
theorem LR_end {b : Nat → Int32} {n : Nat} {s : PS} {h : Nat} {to : Int32} {t : Nat} {tw : Int64} {ba fa : Int32} (q : LR b n s h to t tw ba fa) (h0 : ba = 0) : to = 0 ↔ g_to s = 0 := by
  obtain ⟨-, -, -, ⟨q1, q2, q3, q4, q5⟩ | ⟨q1, q2, q5⟩⟩ := q
  · rcases q5 with ⟨e1, e2⟩ | ⟨e1, e2, -⟩ | ⟨e1, e2, -⟩ | ⟨e1, -, e2, -⟩
    · rw [e1, e2]
    · rw [e1, e2]; exact ⟨fun z => absurd z (by decide), fun z => absurd z (by decide)⟩
    · rw [e2]; exact ⟨fun z => absurd z (by decide), fun z => by rw [z] at e1; exact absurd e1 (by decide)⟩
    · rw [e2]; exact ⟨fun z => absurd z (by decide), fun z => by rw [z] at e1; exact absurd e1 (by decide)⟩
  · rw [q2]
    refine ⟨fun z => ?_, fun z => absurd z (by decide)⟩
    rcases q5 with ⟨e1, -⟩ | ⟨-, -, e1 | ⟨e1, -⟩⟩
    · rw [h0] at e1; exact absurd e1 (by decide)
    · rw [z] at e1; exact absurd e1 (by decide)
    · rw [z] at e1; exact absurd e1 (by decide)
theorem LR_b1 {b : Nat → Int32} {n : Nat} {s : PS} {h : Nat} {to : Int32} {t : Nat} {tw : Int64} {ba fa : Int32} (q : LR b n s h to t tw ba fa) (h0 : ba = 1) : ¬ g_fa s = -1 ∧ g_to s = 2 ∧ fa = g_fa s := by
  obtain ⟨-, -, -, ⟨q1, q2, q3, q4, q5⟩ | ⟨q1, q2, q5⟩⟩ := q
  · rw [h0] at q2; exact absurd q2 (by decide)
  · rcases q5 with ⟨e1, e2⟩ | ⟨e1, -⟩
    · exact ⟨q1, q2, e2⟩
    · rw [h0] at e1; exact absurd e1 (by decide)
theorem fin0_y {s : PS} (h : g_to s = 0) : fin0 s = s := if_pos h
theorem fin0_n {s : PS} (h : ¬ g_to s = 0) : fin0 s = rfu s := if_neg h
theorem FIN_1 {b : Nat → Int32} {n : Nat} {s : PS} {h : Nat} {to : Int32} {t : Nat} {tw : Int64} {ba fa : Int32} (q : LR b n s h to t tw ba fa) (h0 : ba = 1) : FIN s ba fa := by
  obtain ⟨e1, e2, e3⟩ := LR_b1 q h0
  have e : fin0 s = s := by rw [fin0_n (by rw [e2]; decide)]; exact rfu_of e1 e2
  unfold FIN
  rw [e]
  exact Or.inr ⟨e1, h0, e3⟩
theorem FIN_2 {b : Nat → Int32} {n : Nat} {s : PS} {h : Nat} {to : Int32} {t : Nat} {tw : Int64} {ba fa : Int32} (q : LR b n s h to t tw ba fa) (h0 : ba = 0) (ht : to = 0) : FIN s ba fa := by
  have e1 := (LR_end q h0).mp ht
  unfold FIN
  rw [fin0_y e1]
  exact Or.inl ⟨(LR_ok q (by rw [e1]; decide)).1, h0⟩
theorem FIN_3 {b : Nat → Int32} {n : Nat} {s : PS} {h : Nat} {to : Int32} {t : Nat} {tw : Int64} {ba fa fa' : Int32} (q : LR b n s h to t tw ba fa) (h0 : ba = 0) (ht : ¬ to = 0) (q' : LR b n (rfu s) h to t tw 1 fa') : FIN s 1 fa' := by
  have e1 : ¬ g_to s = 0 := fun z => ht ((LR_end q h0).mpr z)
  obtain ⟨a1, a2, a3⟩ := LR_b1 q' rfl
  unfold FIN
  rw [fin0_n e1]
  exact Or.inr ⟨a1, rfl, a3⟩
/-- the three parts' worths, on the code as it stands at last -/
theorem RD_mk {n : Nat} {nm : Nat → Int32} {wh : Nat} {x1 x2 x3 x ba fa : Int32} {s1 s2 s3 s4 : PS} (hn : n ≤ 160) (z0 : g_cz s1 = 0) (g1 : GD 0 n s1 s2) (g2 : GD 0 n s2 s3) (g3 : GD 0 n s3 s4) (v1 : VR nm (g_cz s1) s2 x1) (v2 : VR nm (g_cz s2) s3 x2) (v3 : VR nm (g_cz s3) s4 x3) (hF : FIN s4 ba fa) (hx : (wh = 0 → x = x1) ∧ (wh = 1 → x = x2) ∧ (wh = 2 → x = x3)) : RDv s2 s3 s4 nm wh x ba fa := by
  refine ⟨hF, fun hf => ?_⟩
  have e3 : fin0 s4 = s4 := by
    by_cases z : g_to s4 = 0
    · exact fin0_y z
    · rw [fin0_n z] at hf; exact absurd hf (rfu_fa hn g3.1)
  rw [e3] at hf ⊢
  have hf2 : g_fa s3 = -1 := by
    by_cases z : g_fa s3 = -1
    · exact z
    · exact absurd hf (g3.2.2.2.2.2.2 z)
  have hf1 : g_fa s2 = -1 := by
    by_cases z : g_fa s2 = -1
    · exact z
    · exact absurd hf2 (g2.2.2.2.2.2.2 z)
  have k1 := v1 hf1
  rw [z0] at k1
  have k2 := v2 hf2
  have k3 := v3 hf
  refine ⟨fun z => ?_, fun z => ?_, fun z => ?_⟩
  · rw [hx.1 z]
    exact k1.cong fun m b1 b2 => (g3.2.2.2.2.2.1 m (Nat.lt_of_lt_of_le b2 g2.2.2.2.1)).trans (g2.2.2.2.2.2.1 m b2)
  · rw [hx.2.1 z]
    exact k2.cong fun m b1 b2 => g3.2.2.2.2.2.1 m b2
  · rw [hx.2.2 z]; exact k3
theorem pP_pre {b : Nat → Int32} {n w : Nat} {s : PS} (hn : n ≤ 160) (hw : 200 ≤ w ∧ w < 212) (h : WF n s) (hc : g_cz s ≤ g_pl s) (hK : g_op s = 0) : ∃ s', s' = prP b n (nI w) s ∧ GD 0 n s s' ∧ WF n s' ∧ g_cz s' ≤ g_pl s' ∧ g_op s' = 0 ∧ (¬ g_fa s = -1 → s' = s) := by
  obtain ⟨g, e, -, -⟩ := prP_gd (b := b) hn h hc hK (fun z => nI_w2 hw.1 (by omega) z.symm) (nI_ne0 (by omega) (by omega))
  exact ⟨_, rfl, g, g.1, by have := g.cz hc; omega, g.2.1.trans hK, e⟩
set_option maxRecDepth 100000 in
set_option maxHeartbeats 4000000 in
theorem c_X10_read {X : Nat × (Nat → Int32)} {S : CS} {tl : pc_W} {tx : (Nat → Int32)} {ts : (Nat → Int32)} {tc : Int32} {tp : (Nat → Int32)} {tn : Int32} {U : MU} {o : (Nat → Int32)} {fr : Int32} {sz : Int32} {he : Int32} {to : Int32} {ta : Int32} {tw : Int64} {op : Int32} {ba : Int32} {fa : Int32} {C : MC} {K : MK} {H : MH} {r n wh : Nat} {b : Nat → Int32} {pl0 : Nat} {to0 nu0 : Int32} {co0 : Nat → Int32} {s0 : PS} (hr : r < 6) (hn : n ≤ 160) (hb : ∀ i, i < n → tx (160 * r + i) = b i) (hbp : ∀ i, i < n → 0 ≤ b i) (hts : ts r = nI n) (hw2 : wh ≤ 2) (hs0 : s0 = (pl0, 0, to0, nu0, -1, 0, 0, co0)): Mt X 42 0 0 yX10_read cX10_read 6 (some .int) [.ref 42, .int (nI r), .int (nI wh)] (cst S ++ (mw (tx, ts, tc, tp, tn) U (o, fr, sz, he, to, ta, tw, op, ba, fa) C K H ++ tl)) (fun v w' => ∃ (x : Int32) (h' : Nat) (to' : Int32) (t' : Nat) (tw' : Int64) (ba' fa' : Int32), v = some (.int x) ∧ w' = cst S ++ (mw (tx, ts, tc, tp, tn) U (o, nI (160 * r), nI n, nI h', to', nI t', tw', (nI 0), ba', fa') C K H ++ tl) ∧ RDp b n s0 o wh x ba' fa') := by
  refine Mt.of (by decide +kernel) (fun _ _ => Nat.le_of_ble_eq_true rfl) ?_
  show Ex X mX10_read _ _ _ _ _ _ _ _
  refine x_aload_n dX10_read_0 rfl ?_
  refine x_sipush 160 dX10_read_1 ?_
  refine x_iload_n dX10_read_4 rfl ?_
  refine x_imul dX10_read_5 ?_
  rw [show (160 : Int32) * nI r = nI (160 * r) from pk_mul 160 r]
  refine mp_159 dX10_read_6 ?_
  refine x_aload_n dX10_read_9 rfl ?_
  refine x_aload_n dX10_read_10 rfl ?_
  refine mg_17 dX10_read_11 ?_
  refine x_iload_n dX10_read_14 rfl ?_
  refine maN_44 dX10_read_15 hr ?_
  rw [hts]
  refine mp_156 dX10_read_16 ?_
  refine x_aload_n dX10_read_19 rfl ?_
  refine x_iconst (nI 0) dX10_read_20 ?_
  refine mp_162 dX10_read_21 ?_
  refine x_aload_n dX10_read_24 rfl ?_
  refine x_iconst (nI 0) dX10_read_25 ?_
  refine mp_198 dX10_read_26 ?_
  refine x_aload_n dX10_read_29 rfl ?_
  refine x_iconst 0 dX10_read_30 ?_
  refine mp_188 dX10_read_31 ⟨rfl, rfl⟩ ?_
  refine x_aload_n dX10_read_34 rfl ?_
  refine iv_X10_204 dX10_read_35 (c_X10_next hr hn hb (Nat.zero_le _) hbp) mw_o (by decide) (Nat.le_of_ble_eq_true rfl) (fun v_35 w_35 hw_35 => ?_)
  obtain ⟨h1, to1, t1, tw1, rfl, rfl, nx1⟩ := hw_35
  obtain ⟨a1, a2, a3, a4, a5⟩ := adv_sh (b := b) (s := s0) hn (by rw [hs0]) (by rw [hs0]; exact Nat.zero_le _)
  have q1 : LR b n (adv b n s0) h1 to1 t1 tw1 0 fa := LR_adv hn (by rw [hs0]) (by rw [hs0]; exact Nat.zero_le _) (by rw [hs0]; exact nx1)
  have z0 : g_cz (adv b n s0) = 0 := by rw [a4, hs0]
  have k1 : g_op (adv b n s0) = 0 := by rw [a3, hs0]
  show Ex X mX10_read 42 (fun v w' => ∃ (x : Int32) (h' : Nat) (to' : Int32) (t' : Nat) (tw' : Int64) (ba' fa' : Int32), v = some (.int x) ∧ w' = cst S ++ (mw (tx, ts, tc, tp, tn) U (o, nI (160 * r), nI n, nI h', to', nI t', tw', (nI 0), ba', fa') C K H ++ tl) ∧ RDv (prP b n (nI 206) (adv b n s0)) (prP b n (nI 207) (prP b n (nI 206) (adv b n s0))) (prP b n (nI 208) (prP b n (nI 207) (prP b n (nI 206) (adv b n s0)))) o wh x ba' fa') _ _ _ _ _ _
  generalize adv b n s0 = s1 at a1 a2 a3 a4 a5 q1 z0 k1 ⊢
  have c1 : g_cz s1 ≤ g_pl s1 := by rw [z0]; exact Nat.zero_le _
  obtain ⟨s2, es2, G1, p1, p2, p3, -⟩ := pP_pre (b := b) (w := 206) hn (by decide) a1 c1 k1
  obtain ⟨s3, es3, G2, r1, r2, r3, r4⟩ := pP_pre (b := b) (w := 207) hn (by decide) p1 p2 p3
  obtain ⟨s4, es4, G3, u1, u2, u3, u4⟩ := pP_pre (b := b) (w := 208) hn (by decide) r1 r2 r3
  rw [← es2, ← es3, ← es4]
  have hD : ∀ (x1 x2 x3 : Int32) (h : Nat) (to : Int32) (t : Nat) (tw : Int64) (ba fa : Int32), VR o (g_cz s1) s2 x1 → VR o (g_cz s2) s3 x2 → VR o (g_cz s3) s4 x3 → FIN s4 ba fa → Ex X mX10_read 42 (fun v w' => ∃ (x : Int32) (h' : Nat) (to' : Int32) (t' : Nat) (tw' : Int64) (ba' fa' : Int32), v = some (.int x) ∧ w' = cst S ++ (mw (tx, ts, tc, tp, tn) U (o, nI (160 * r), nI n, nI h', to', nI t', tw', (nI 0), ba', fa') C K H ++ tl) ∧ RDv s2 s3 s4 o wh x ba' fa') 0 0 148 [some (.ref 42), some (.int (nI r)), some (.int (nI wh)), some (.int x1), some (.int x2), some (.int x3)] [] (cst S ++ (mw (tx, ts, tc, tp, tn) U (o, nI (160 * r), nI n, nI h, to, nI t, tw, (nI 0), ba, fa) C K H ++ tl)) := by
    intro x1 x2 x3 h to t tw ba fa v1 v2 v3 hF
    have hwc : wh = 0 ∨ wh = 1 ∨ wh = 2 := by omega
    rcases hwc with rfl | rfl | rfl
    · skip
      refine x_iload_n dX10_read_148 rfl ?_
      refine x_if_ne 156 dX10_read_149 (fun hx => absurd (by decide) hx) (fun _ => ?_)
      refine x_iload_n dX10_read_152 rfl ?_
      refine x_goto 168 dX10_read_153 ?_
      exact Ex.ret (v := some (.int _)) ⟨dX10_read_168, _, rfl, by first | rfl | decide⟩ ⟨_, _, _, _, _, _, _, rfl, rfl, RD_mk hn z0 G1 G2 G3 v1 v2 v3 hF ⟨fun _ => rfl, fun z => absurd z (by decide), fun z => absurd z (by decide)⟩⟩
    · skip
      refine x_iload_n dX10_read_148 rfl ?_
      refine x_if_ne 156 dX10_read_149 (fun _ => ?_) (fun hx => absurd hx (by decide))
      refine x_iload_n dX10_read_156 rfl ?_
      refine x_iconst 1 dX10_read_157 ?_
      refine x_icmp_ne 166 dX10_read_158 (fun hx => absurd (by decide) hx) (fun _ => ?_)
      refine x_iload dX10_read_161 rfl ?_
      refine x_goto 168 dX10_read_163 ?_
      exact Ex.ret (v := some (.int _)) ⟨dX10_read_168, _, rfl, by first | rfl | decide⟩ ⟨_, _, _, _, _, _, _, rfl, rfl, RD_mk hn z0 G1 G2 G3 v1 v2 v3 hF ⟨fun z => absurd z (by decide), fun _ => rfl, fun z => absurd z (by decide)⟩⟩
    · skip
      refine x_iload_n dX10_read_148 rfl ?_
      refine x_if_ne 156 dX10_read_149 (fun _ => ?_) (fun hx => absurd hx (by decide))
      refine x_iload_n dX10_read_156 rfl ?_
      refine x_iconst 1 dX10_read_157 ?_
      refine x_icmp_ne 166 dX10_read_158 (fun _ => ?_) (fun hx => absurd hx (by decide))
      refine x_iload dX10_read_166 rfl ?_
      exact Ex.ret (v := some (.int _)) ⟨dX10_read_168, _, rfl, by first | rfl | decide⟩ ⟨_, _, _, _, _, _, _, rfl, rfl, RD_mk hn z0 G1 G2 G3 v1 v2 v3 hF ⟨fun z => absurd z (by decide), fun z => absurd z (by decide), fun _ => rfl⟩⟩
  have hC : ∀ (x1 x2 x3 : Int32) (h : Nat) (to : Int32) (t : Nat) (tw : Int64) (ba fa : Int32), VR o (g_cz s1) s2 x1 → VR o (g_cz s2) s3 x2 → LR b n s4 h to t tw ba fa → VR o (g_cz s3) s4 x3 → Ex X mX10_read 42 (fun v w' => ∃ (x : Int32) (h' : Nat) (to' : Int32) (t' : Nat) (tw' : Int64) (ba' fa' : Int32), v = some (.int x) ∧ w' = cst S ++ (mw (tx, ts, tc, tp, tn) U (o, nI (160 * r), nI n, nI h', to', nI t', tw', (nI 0), ba', fa') C K H ++ tl) ∧ RDv s2 s3 s4 o wh x ba' fa') 0 0 128 [some (.ref 42), some (.int (nI r)), some (.int (nI wh)), some (.int x1), some (.int x2), none] [.int x3] (cst S ++ (mw (tx, ts, tc, tp, tn) U (o, nI (160 * r), nI n, nI h, to, nI t, tw, (nI 0), ba, fa) C K H ++ tl)) := by
    intro x1 x2 x3 h to t tw ba fa v1 v2 q v3
    by_cases hb0 : ba = 0
    · by_cases ht0 : to = 0
      · subst hb0 ht0
        refine x_istore dX10_read_128 (by decide) ?_
        refine x_aload_n dX10_read_130 rfl ?_
        refine mg_188 dX10_read_131 ?_
        refine x_if_ne 148 dX10_read_134 (fun hx => absurd (rfl) hx) (fun _ => ?_)
        refine x_aload_n dX10_read_137 rfl ?_
        refine mg_171 dX10_read_138 ?_
        refine x_if_eq 148 dX10_read_141 (fun _ => ?_) (fun hx => absurd (rfl) hx)
        refine Ex.forget (L' := [some (.ref 42), some (.int (nI r)), some (.int (nI wh)), some (.int x1), some (.int x2), some (.int x3)]) ⟨rfl, rfl, rfl, rfl, rfl, rfl, trivial⟩ ?_
        exact hD x1 x2 x3 _ _ _ _ _ _ v1 v2 v3 (FIN_2 q rfl rfl)
      · subst hb0
        refine x_istore dX10_read_128 (by decide) ?_
        refine x_aload_n dX10_read_130 rfl ?_
        refine mg_188 dX10_read_131 ?_
        refine x_if_ne 148 dX10_read_134 (fun hx => absurd (rfl) hx) (fun _ => ?_)
        refine x_aload_n dX10_read_137 rfl ?_
        refine mg_171 dX10_read_138 ?_
        refine x_if_eq 148 dX10_read_141 (fun hx => absurd hx (ht0)) (fun _ => ?_)
        refine x_aload_n dX10_read_144 rfl ?_
        refine iv_X10_201 dX10_read_145 (c_X10_failR hn q) mw_o (by decide) (Nat.le_of_ble_eq_true rfl) (fun v_145 w_145 hw_145 => ?_)
        obtain ⟨fa1, rfl, rfl, q1⟩ := hw_145
        refine Ex.forget (L' := [some (.ref 42), some (.int (nI r)), some (.int (nI wh)), some (.int x1), some (.int x2), some (.int x3)]) ⟨rfl, rfl, rfl, rfl, rfl, rfl, trivial⟩ ?_
        exact hD x1 x2 x3 _ _ _ _ _ _ v1 v2 v3 (FIN_3 q rfl ht0 q1)
    · have hb1 : ba = 1 := (LR_ba q).resolve_left hb0
      refine x_istore dX10_read_128 (by decide) ?_
      refine x_aload_n dX10_read_130 rfl ?_
      refine mg_188 dX10_read_131 ?_
      refine x_if_ne 148 dX10_read_134 (fun _ => ?_) (fun hx => absurd hx (hb0))
      refine Ex.forget (L' := [some (.ref 42), some (.int (nI r)), some (.int (nI wh)), some (.int x1), some (.int x2), some (.int x3)]) ⟨rfl, rfl, rfl, rfl, rfl, rfl, trivial⟩ ?_
      exact hD x1 x2 x3 _ _ _ _ _ _ v1 v2 v3 (FIN_1 q hb1)
  have hB : ∀ (x1 x2 : Int32) (h : Nat) (to : Int32) (t : Nat) (tw : Int64) (ba fa : Int32), VR o (g_cz s1) s2 x1 → LR b n s3 h to t tw ba fa → VR o (g_cz s2) s3 x2 → Ex X mX10_read 42 (fun v w' => ∃ (x : Int32) (h' : Nat) (to' : Int32) (t' : Nat) (tw' : Int64) (ba' fa' : Int32), v = some (.int x) ∧ w' = cst S ++ (mw (tx, ts, tc, tp, tn) U (o, nI (160 * r), nI n, nI h', to', nI t', tw', (nI 0), ba', fa') C K H ++ tl) ∧ RDv s2 s3 s4 o wh x ba' fa') 0 0 93 [some (.ref 42), some (.int (nI r)), some (.int (nI wh)), some (.int x1), none, none] [.int x2] (cst S ++ (mw (tx, ts, tc, tp, tn) U (o, nI (160 * r), nI n, nI h, to, nI t, tw, (nI 0), ba, fa) C K H ++ tl)) := by
    intro x1 x2 h to t tw ba fa v1 q v2
    by_cases hb0 : ba = 0
    · subst hb0
      refine x_istore dX10_read_93 (by decide) ?_
      refine x_aload_n dX10_read_95 rfl ?_
      refine mg_188 dX10_read_96 ?_
      refine x_if_eq 106 dX10_read_99 (fun _ => ?_) (fun hx => absurd (rfl) hx)
      refine x_aload_n dX10_read_106 rfl ?_
      refine x_aload_n dX10_read_107 rfl ?_
      refine x_bipush 99 dX10_read_108 ?_
      refine x_bipush 108 dX10_read_110 ?_
      refine x_bipush 97 dX10_read_112 ?_
      refine x_bipush 105 dX10_read_114 ?_
      refine x_bipush 109 dX10_read_116 ?_
      refine x_bipush 115 dX10_read_118 ?_
      refine x_iconst 0 dX10_read_120 ?_
      refine x_iconst 0 dX10_read_121 ?_
      refine ii_X10_207 dX10_read_122 (c_X10_word (w := 208) hr hn hb q (by decide) (by decide) wl_208) mw_o (by decide) (Nat.le_of_ble_eq_true rfl) ?_
      refine iv_X10_352 dX10_read_125 (c_X10_part (key := 208) hr hn hb hbp q r2 r3 (by decide)) mw_o (by decide) (Nat.le_of_ble_eq_true rfl) (fun v_125 w_125 hw_125 => ?_)
      obtain ⟨x9, h2, to2, t2, tw2, ba2, fa2, rfl, rfl, q2, v9⟩ := hw_125
      refine Ex.forget (L' := [some (.ref 42), some (.int (nI r)), some (.int (nI wh)), some (.int x1), some (.int x2), none]) ⟨rfl, rfl, rfl, rfl, rfl, trivial⟩ ?_
      exact hC x1 x2 _ _ _ _ _ _ _ v1 v2 (by rw [es4]; exact q2) (by rw [es4]; exact v9)
    · have hb1 : ba = 1 := (LR_ba q).resolve_left hb0
      refine x_istore dX10_read_93 (by decide) ?_
      refine x_aload_n dX10_read_95 rfl ?_
      refine mg_188 dX10_read_96 ?_
      refine x_if_eq 106 dX10_read_99 (fun hx => absurd hx (hb0)) (fun _ => ?_)
      refine x_iconst 0 dX10_read_102 ?_
      refine x_goto 128 dX10_read_103 ?_
      refine Ex.forget (L' := [some (.ref 42), some (.int (nI r)), some (.int (nI wh)), some (.int x1), some (.int x2), none]) ⟨rfl, rfl, rfl, rfl, rfl, trivial⟩ ?_
      exact hC x1 x2 _ _ _ _ _ _ _ v1 v2 (by rw [u4 (LR_b1 q hb1).1]; exact q) (fun z => absurd (by rw [u4 (LR_b1 q hb1).1] at z; exact z) (LR_b1 q hb1).1)
  have hA : ∀ (x1 : Int32) (h : Nat) (to : Int32) (t : Nat) (tw : Int64) (ba fa : Int32), LR b n s2 h to t tw ba fa → VR o (g_cz s1) s2 x1 → Ex X mX10_read 42 (fun v w' => ∃ (x : Int32) (h' : Nat) (to' : Int32) (t' : Nat) (tw' : Int64) (ba' fa' : Int32), v = some (.int x) ∧ w' = cst S ++ (mw (tx, ts, tc, tp, tn) U (o, nI (160 * r), nI n, nI h', to', nI t', tw', (nI 0), ba', fa') C K H ++ tl) ∧ RDv s2 s3 s4 o wh x ba' fa') 0 0 60 [some (.ref 42), some (.int (nI r)), some (.int (nI wh)), none, none, none] [.int x1] (cst S ++ (mw (tx, ts, tc, tp, tn) U (o, nI (160 * r), nI n, nI h, to, nI t, tw, (nI 0), ba, fa) C K H ++ tl)) := by
    intro x1 h to t tw ba fa q v1
    by_cases hb0 : ba = 0
    · subst hb0
      refine x_istore_n dX10_read_60 (by decide) ?_
      refine x_aload_n dX10_read_61 rfl ?_
      refine mg_188 dX10_read_62 ?_
      refine x_if_eq 72 dX10_read_65 (fun _ => ?_) (fun hx => absurd (rfl) hx)
      refine x_aload_n dX10_read_72 rfl ?_
      refine x_aload_n dX10_read_73 rfl ?_
      refine x_bipush 109 dX10_read_74 ?_
      refine x_bipush 101 dX10_read_76 ?_
      refine x_bipush 110 dX10_read_78 ?_
      refine x_bipush 100 dX10_read_80 ?_
      refine x_bipush 115 dX10_read_82 ?_
      refine x_iconst 0 dX10_read_84 ?_
      refine x_iconst 0 dX10_read_85 ?_
      refine x_iconst 0 dX10_read_86 ?_
      refine ii_X10_207 dX10_read_87 (c_X10_word (w := 207) hr hn hb q (by decide) (by decide) wl_207) mw_o (by decide) (Nat.le_of_ble_eq_true rfl) ?_
      refine iv_X10_352 dX10_read_90 (c_X10_part (key := 207) hr hn hb hbp q p2 p3 (by decide)) mw_o (by decide) (Nat.le_of_ble_eq_true rfl) (fun v_90 w_90 hw_90 => ?_)
      obtain ⟨x9, h2, to2, t2, tw2, ba2, fa2, rfl, rfl, q2, v9⟩ := hw_90
      refine Ex.forget (L' := [some (.ref 42), some (.int (nI r)), some (.int (nI wh)), some (.int x1), none, none]) ⟨rfl, rfl, rfl, rfl, trivial⟩ ?_
      exact hB x1 _ _ _ _ _ _ _ v1 (by rw [es3]; exact q2) (by rw [es3]; exact v9)
    · have hb1 : ba = 1 := (LR_ba q).resolve_left hb0
      refine x_istore_n dX10_read_60 (by decide) ?_
      refine x_aload_n dX10_read_61 rfl ?_
      refine mg_188 dX10_read_62 ?_
      refine x_if_eq 72 dX10_read_65 (fun hx => absurd hx (hb0)) (fun _ => ?_)
      refine x_iconst 0 dX10_read_68 ?_
      refine x_goto 93 dX10_read_69 ?_
      refine Ex.forget (L' := [some (.ref 42), some (.int (nI r)), some (.int (nI wh)), some (.int x1), none, none]) ⟨rfl, rfl, rfl, rfl, trivial⟩ ?_
      exact hB x1 _ _ _ _ _ _ _ v1 (by rw [r4 (LR_b1 q hb1).1]; exact q) (fun z => absurd (by rw [r4 (LR_b1 q hb1).1] at z; exact z) (LR_b1 q hb1).1)
  refine x_aload_n dX10_read_38 rfl ?_
  refine x_aload_n dX10_read_39 rfl ?_
  refine x_bipush 116 dX10_read_40 ?_
  refine x_bipush 104 dX10_read_42 ?_
  refine x_bipush 105 dX10_read_44 ?_
  refine x_bipush 110 dX10_read_46 ?_
  refine x_bipush 107 dX10_read_48 ?_
  refine x_bipush 115 dX10_read_50 ?_
  refine x_iconst 0 dX10_read_52 ?_
  refine x_iconst 0 dX10_read_53 ?_
  refine ii_X10_207 dX10_read_54 (c_X10_word (w := 206) hr hn hb q1 (by decide) (by decide) wl_206) mw_o (by decide) (Nat.le_of_ble_eq_true rfl) ?_
  refine iv_X10_352 dX10_read_57 (c_X10_part (key := 206) hr hn hb hbp q1 c1 k1 (by decide)) mw_o (by decide) (Nat.le_of_ble_eq_true rfl) (fun v_57 w_57 hw_57 => ?_)
  obtain ⟨x9, h2, to2, t2, tw2, ba2, fa2, rfl, rfl, q2, v9⟩ := hw_57
  refine Ex.forget (L' := [some (.ref 42), some (.int (nI r)), some (.int (nI wh)), none, none, none]) ⟨rfl, rfl, rfl, trivial⟩ ?_
  exact hA _ _ _ _ _ _ _ (by rw [es2]; exact q2) (by rw [es2]; exact v9)
