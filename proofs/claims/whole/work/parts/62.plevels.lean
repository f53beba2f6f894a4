def CT (X : Nat × (Nat → Int32)) (w : pc_W) (rt n : Nat) (y : MethodName) (c : ByteArray) (ml D K : Nat) (f : PF) : Prop := ∀ s, WF n s → g_cz s ≤ g_pl s → g_op s = K → Mt X D 0 0 y c ml none [.ref 16] (pS w rt n s) (RV (pS w rt n (f s)))
theorem c_adv {X : Nat × (Nat → Int32)} {w : pc_W} {rt m n : Nat} {tb : Nat → Int32} {s : PS} (hw : 18 < w.length) (hT : w[rt]? = some (.inl (0, (m, .inl tb)))) (h17 : rt ≠ 16) (h18 : rt ≠ 18) (hm : m < 2 ^ 30) (hn : n ≤ m) (hx : g_nx s ≤ n) : Mt X 6 0 0 yX4_advance cX4_advance 1 none [.ref 16] (pS w rt n s) (RV (pS w rt n (adv tb n s))) := c_X4_advance (pl := g_pl s) (nx := g_nx s) (op := g_op s) (cz := g_cz s) (to := g_to s) (nu := g_nu s) (fa := g_fa s) (co := g_co s) hw hT h17 h18 hm hn hx
theorem c_exc {X : Nat × (Nat → Int32)} {w : pc_W} {rt m n : Nat} {tb : Nat → Int32} {s : PS} {x : Int32} (hw : 18 < w.length) (hT : w[rt]? = some (.inl (0, (m, .inl tb)))) (h17 : rt ≠ 16) (h18 : rt ≠ 18) (hm : m < 2 ^ 30) (hn : n ≤ m) (hx : g_nx s ≤ n) : Mt X 7 0 0 yX4_expect cX4_expect 2 none [.ref 16, .int x] (pS w rt n s) (RV (pS w rt n (exc tb n x s))) := c_X4_expect (pl := g_pl s) (nx := g_nx s) (op := g_op s) (cz := g_cz s) (to := g_to s) (nu := g_nu s) (fa := g_fa s) (co := g_co s) hw hT h17 h18 hm hn hx
theorem c_opn_n {X : Nat × (Nat → Int32)} {w : pc_W} {rt m n : Nat} {tb : Nat → Int32} {s : PS} (hw : 18 < w.length) (hT : w[rt]? = some (.inl (0, (m, .inl tb)))) (h17 : rt ≠ 16) (h18 : rt ≠ 18) (hm : m < 2 ^ 30) (hn : n ≤ m) (hx : g_nx s ≤ n) (ho : g_op s ≤ 5) (h5 : 5 ≤ g_op s) : Mt X 7 0 0 yX4_opens cX4_opens 1 (some .boolean) [.ref 16] (pS w rt n s) (RI 0 (pS w rt n (rfu s))) := by
  have e := c_X4_opens (X := X) (pl := g_pl s) (nx := g_nx s) (op := g_op s) (cz := g_cz s) (to := g_to s) (nu := g_nu s) (fa := g_fa s) (co := g_co s) hw hT h17 h18 hm hn hx ho
  rw [if_pos h5, if_pos h5] at e
  exact e
theorem c_opn_y {X : Nat × (Nat → Int32)} {w : pc_W} {rt m n : Nat} {tb : Nat → Int32} {s : PS} (hw : 18 < w.length) (hT : w[rt]? = some (.inl (0, (m, .inl tb)))) (h17 : rt ≠ 16) (h18 : rt ≠ 18) (hm : m < 2 ^ 30) (hn : n ≤ m) (hx : g_nx s ≤ n) (ho : g_op s ≤ 5) (h5 : ¬ 5 ≤ g_op s) : Mt X 7 0 0 yX4_opens cX4_opens 1 (some .boolean) [.ref 16] (pS w rt n s) (RI 1 (pS w rt n (adv tb n (inc1 s)))) := by
  have e := c_X4_opens (X := X) (pl := g_pl s) (nx := g_nx s) (op := g_op s) (cz := g_cz s) (to := g_to s) (nu := g_nu s) (fa := g_fa s) (co := g_co s) hw hT h17 h18 hm hn hx ho
  rw [if_neg h5, if_neg h5] at e
  exact e
set_option maxRecDepth 100000 in
set_option maxHeartbeats 4000000 in
theorem ct_single {X : Nat × (Nat → Int32)} {w : pc_W} {rt m n K D D2 : Nat} {tb : Nat → Int32} (hw : 18 < w.length) (hT : w[rt]? = some (.inl (0, (m, .inl tb)))) (h17 : rt ≠ 16) (h18 : rt ≠ 18) (hm : m < 2 ^ 30) (hn : n ≤ m) (hn160 : n ≤ 160) {iE iS : PF} (hE : K < 5 → CT X w rt n yX4_expression cX4_expression 2 (D) (K + 1) iE) (hS : K < 5 → CT X w rt n yX4_single cX4_single 1 (D2) (K + 1) iS) (gE : GF n (K + 1) iE) (gS : GF n (K + 1) iS) (hD : 7 ≤ D) (hK5 : K ≤ 5) (hD2 : D2 ≤ D) : CT X w rt n yX4_single cX4_single 1 (D + 1) (K) (sgl tb n iE iS) := by
  intro s q hc hK
  have hpl : g_pl s ≤ n := q.1
  have hnx : g_nx s ≤ n := q.2.1
  have hcz : g_cz s ≤ 160 := by omega
  obtain ⟨s', hs'⟩ : ∃ s', s' = (sgl tb n iE iS) s := ⟨_, rfl⟩
  rw [← hs']
  refine Mt.of (by decide +kernel) (fun _ _ => Nat.le_of_ble_eq_true rfl) ?_
  show Ex X mX4_single _ _ _ _ _ _ _ _
  refine x_aload_n dX4_single_0 rfl ?_
  refine gP_21 hw dX4_single_1 ?_
  refine x_iconst 1 dX4_single_4 ?_
  refine x_icmp_ne 23 dX4_single_5 (fun h_5 => ?_) (fun h_5 => ?_)
  · refine x_aload_n dX4_single_23 rfl ?_
    refine gP_21 hw dX4_single_24 ?_
    refine ii_X4_85 dX4_single_27 c_X8_isName (by omega) (Nat.le_of_ble_eq_true rfl) ?_
    refine x_if_eq 49 dX4_single_30 (fun h_30 => ?_) (fun h_30 => ?_)
    · refine x_aload_n dX4_single_49 rfl ?_
      refine gP_21 hw dX4_single_50 ?_
      refine x_bipush 45 dX4_single_53 ?_
      refine x_icmp_ne 88 dX4_single_55 (fun h_55 => ?_) (fun h_55 => ?_)
      · refine x_aload_n dX4_single_88 rfl ?_
        refine gP_21 hw dX4_single_89 ?_
        refine x_bipush 40 dX4_single_92 ?_
        refine x_icmp_ne 127 dX4_single_94 (fun h_94 => ?_) (fun h_94 => ?_)
        · refine x_aload_n dX4_single_127 rfl ?_
          refine ii_X4_57 dX4_single_128 (c_X4_refuse (s := s) hw) (pX_p hw) (by omega) (Nat.le_of_ble_eq_true rfl) ?_
          exact Ex.ret (v := none) ⟨rfl, dX4_single_131⟩ ⟨rfl, by rw [hs']; unfold sgl; rw [if_neg h_5, if_neg (bi0.mp h_30), if_neg h_55, if_neg h_94]⟩
        · have h2 : ¬ g_to s = 2 := by rw [h_94]; decide
          have h0 : ¬ g_to s = 0 := by rw [h_94]; decide
          by_cases ho : 5 ≤ g_op s
          · skip
            refine x_aload_n dX4_single_97 rfl ?_
            refine ii_X4_72 dX4_single_98 (c_opn_n (s := s) hw hT h17 h18 hm hn hnx (by omega) ho) (pX_p hw) (by omega) (Nat.le_of_ble_eq_true rfl) ?_
            refine x_if_eq 131 dX4_single_101 (fun _ => ?_) (fun hx => absurd (rfl) hx)
            exact Ex.ret (v := none) ⟨rfl, dX4_single_131⟩ ⟨rfl, by rw [hs']; unfold sgl; rw [if_neg h_5, if_neg (bi0.mp h_30), if_neg h_55, if_pos h_94, if_pos ho]⟩
          · skip
            have hk5 : K < 5 := by omega
            have q2 := (inc_gd (b := tb) hn160 q h2 h0).1
            obtain ⟨hc2, hk2, -⟩ := in_pre (b := tb) hn160 q hc hK h2 h0
            have hk3 : g_op (iE (adv tb n (inc1 s))) = K + 1 := (gE _ q2 hc2 hk2).1.2.1.trans hk2
            have g4 := dec_gd (b := tb) hn160 gE q hc hK h2 h0
            have hc4 := g4.cz hc
            have hp4 : g_pl (dec1 (iE (adv tb n (inc1 s)))) ≤ n := g4.1.1
            refine x_aload_n dX4_single_97 rfl ?_
            refine ii_X4_72 dX4_single_98 (c_opn_y (s := s) hw hT h17 h18 hm hn hnx (by omega) ho) (pX_p hw) (by omega) (Nat.le_of_ble_eq_true rfl) ?_
            refine x_if_eq 131 dX4_single_101 (fun hx => absurd hx (by decide)) (fun _ => ?_)
            refine x_aload_n dX4_single_104 rfl ?_
            refine ii_X4_54 dX4_single_105 (hE hk5 _ q2 hc2 hk2) (pX_p hw) (by omega) (Nat.le_of_ble_eq_true rfl) ?_
            refine x_aload_n dX4_single_108 rfl ?_
            refine x_dup dX4_single_109 ?_
            refine gP_33 hw dX4_single_110 ?_
            refine x_iconst 1 dX4_single_113 ?_
            refine x_isub dX4_single_114 ?_
            rw [isub1 (show 1 ≤ g_op (iE (adv tb n (inc1 s))) by omega)]
            refine pP_33 hw dX4_single_115 ?_
            refine x_aload_n dX4_single_118 rfl ?_
            refine x_bipush 41 dX4_single_119 ?_
            refine ii_X4_50 dX4_single_121 (c_exc (s := dec1 (iE (adv tb n (inc1 s)))) hw hT h17 h18 hm hn g4.1.2.1) (pX_p hw) (by omega) (Nat.le_of_ble_eq_true rfl) ?_
            refine x_goto 131 dX4_single_124 ?_
            exact Ex.ret (v := none) ⟨rfl, dX4_single_131⟩ ⟨rfl, by rw [hs']; unfold sgl; rw [if_neg h_5, if_neg (bi0.mp h_30), if_neg h_55, if_pos h_94, if_neg ho]⟩
      · have h2 : ¬ g_to s = 2 := by rw [h_55]; decide
        have h0 : ¬ g_to s = 0 := by rw [h_55]; decide
        by_cases ho : 5 ≤ g_op s
        · skip
          refine x_aload_n dX4_single_58 rfl ?_
          refine ii_X4_72 dX4_single_59 (c_opn_n (s := s) hw hT h17 h18 hm hn hnx (by omega) ho) (pX_p hw) (by omega) (Nat.le_of_ble_eq_true rfl) ?_
          refine x_if_eq 131 dX4_single_62 (fun _ => ?_) (fun hx => absurd (rfl) hx)
          exact Ex.ret (v := none) ⟨rfl, dX4_single_131⟩ ⟨rfl, by rw [hs']; unfold sgl; rw [if_neg h_5, if_neg (bi0.mp h_30), if_pos h_55, if_pos ho]⟩
        · skip
          have hk5 : K < 5 := by omega
          have q2 := (inc_gd (b := tb) hn160 q h2 h0).1
          obtain ⟨hc2, hk2, -⟩ := in_pre (b := tb) hn160 q hc hK h2 h0
          have hk3 : g_op (iS (adv tb n (inc1 s))) = K + 1 := (gS _ q2 hc2 hk2).1.2.1.trans hk2
          have g4 := dec_gd (b := tb) hn160 gS q hc hK h2 h0
          have hc4 := g4.cz hc
          have hp4 : g_pl (dec1 (iS (adv tb n (inc1 s)))) ≤ n := g4.1.1
          refine x_aload_n dX4_single_58 rfl ?_
          refine ii_X4_72 dX4_single_59 (c_opn_y (s := s) hw hT h17 h18 hm hn hnx (by omega) ho) (pX_p hw) (by omega) (Nat.le_of_ble_eq_true rfl) ?_
          refine x_if_eq 131 dX4_single_62 (fun hx => absurd hx (by decide)) (fun _ => ?_)
          refine x_aload_n dX4_single_65 rfl ?_
          refine ii_X4_82 dX4_single_66 (hS hk5 _ q2 hc2 hk2) (pX_p hw) (by omega) (Nat.le_of_ble_eq_true rfl) ?_
          refine x_aload_n dX4_single_69 rfl ?_
          refine x_dup dX4_single_70 ?_
          refine gP_33 hw dX4_single_71 ?_
          refine x_iconst 1 dX4_single_74 ?_
          refine x_isub dX4_single_75 ?_
          rw [isub1 (show 1 ≤ g_op (iS (adv tb n (inc1 s))) by omega)]
          refine pP_33 hw dX4_single_76 ?_
          refine x_aload_n dX4_single_79 rfl ?_
          refine x_bipush (-3) dX4_single_80 ?_
          refine ii_X4_66 dX4_single_82 (c_X4_emit (s := dec1 (iS (adv tb n (inc1 s)))) (c := -3) hw (by omega)) (pX_p hw) (by omega) (Nat.le_of_ble_eq_true rfl) ?_
          refine x_goto 131 dX4_single_85 ?_
          exact Ex.ret (v := none) ⟨rfl, dX4_single_131⟩ ⟨rfl, by rw [hs']; unfold sgl; rw [if_neg h_5, if_neg (bi0.mp h_30), if_pos h_55, if_neg ho]⟩
    · refine x_aload_n dX4_single_33 rfl ?_
      refine x_aload_n dX4_single_34 rfl ?_
      refine gP_21 hw dX4_single_35 ?_
      refine x_ineg dX4_single_38 ?_
      refine ii_X4_66 dX4_single_39 (c_X4_emit (s := s) (c := -(g_to s)) hw hcz) (pX_p hw) (by omega) (Nat.le_of_ble_eq_true rfl) ?_
      refine x_aload_n dX4_single_42 rfl ?_
      refine ii_X4_47 dX4_single_43 (c_adv (s := emt (-(g_to s)) s) hw hT h17 h18 hm hn (by rw [(emt_g _ _).2.1]; exact hnx)) (pX_p hw) (by omega) (Nat.le_of_ble_eq_true rfl) ?_
      refine x_goto 131 dX4_single_46 ?_
      exact Ex.ret (v := none) ⟨rfl, dX4_single_131⟩ ⟨rfl, by rw [hs']; unfold sgl; rw [if_neg h_5, if_pos (bi1.mp h_30)]⟩
  · refine x_aload_n dX4_single_8 rfl ?_
    refine x_aload_n dX4_single_9 rfl ?_
    refine gP_30 hw dX4_single_10 ?_
    refine ii_X4_66 dX4_single_13 (c_X4_emit (s := s) (c := g_nu s) hw hcz) (pX_p hw) (by omega) (Nat.le_of_ble_eq_true rfl) ?_
    refine x_aload_n dX4_single_16 rfl ?_
    refine ii_X4_47 dX4_single_17 (c_adv (s := emt (g_nu s) s) hw hT h17 h18 hm hn (by rw [(emt_g _ _).2.1]; exact hnx)) (pX_p hw) (by omega) (Nat.le_of_ble_eq_true rfl) ?_
    refine x_goto 131 dX4_single_20 ?_
    exact Ex.ret (v := none) ⟨rfl, dX4_single_131⟩ ⟨rfl, by rw [hs']; unfold sgl; rw [if_pos h_5]⟩
set_option maxRecDepth 100000 in
set_option maxHeartbeats 4000000 in
theorem ct_term {X : Nat × (Nat → Int32)} {w : pc_W} {rt m n K D : Nat} {tb : Nat → Int32} (hw : 18 < w.length) (hT : w[rt]? = some (.inl (0, (m, .inl tb)))) (h17 : rt ≠ 16) (h18 : rt ≠ 18) (hm : m < 2 ^ 30) (hn : n ≤ m) (hn160 : n ≤ 160) {bd : PF} (hB : CT X w rt n yX4_single cX4_single 1 (D) (K) bd) (gB : GF n K bd) (hD : 7 ≤ D) (hK5 : K ≤ 5) : CT X w rt n yX4_term cX4_term 2 (D + 1) (K) (seq tb n qMu bd) := by
  intro s q hc hK
  have hpl : g_pl s ≤ n := q.1
  have hnx : g_nx s ≤ n := q.2.1
  have hcz : g_cz s ≤ 160 := by omega
  obtain ⟨s', hs'⟩ : ∃ s', s' = (seq tb n qMu bd) s := ⟨_, rfl⟩
  rw [← hs']
  refine Mt.of (by decide +kernel) (fun _ _ => Nat.le_of_ble_eq_true rfl) ?_
  show Ex X mX4_term _ _ _ _ _ _ _ _
  refine x_aload_n dX4_term_0 rfl ?_
  refine ii_X4_82 dX4_term_1 (hB s q hc hK) (pX_p hw) (by omega) (Nat.le_of_ble_eq_true rfl) ?_
  refine x_iconst 0 dX4_term_4 ?_
  refine x_istore_n dX4_term_5 (by decide) ?_
  refine Ex.forget (L' := [some (.ref 16), some (.int (nI 0))]) ⟨rfl, rfl, trivial⟩ ?_
  have g1 := (gB s q hc hK).1
  refine for_up (P := fun i => ∀ s1, WF n s1 → g_cz s1 ≤ g_pl s1 → g_op s1 = K → lpG tb n qMu bd (160 - i) s1 = s' → Ex X mX4_term (D + 1) (RV (pS w rt n s')) 0 0 6 [some (.ref 16), some (.int (nI i))] [] (pS w rt n s1)) 160 ?_ (fun i hi ih => ?_) 0 (Nat.zero_le _) _ g1.1 (by have := g1.cz hc; omega) (g1.2.1.trans hK) (by rw [hs']; rfl)
  · intro s1 q1 hc1 hk1 e1
    refine x_iload_n dX4_term_6 rfl ?_
    refine x_sipush 160 dX4_term_7 ?_
    refine x_icmp_ge 42 dX4_term_10 (fun _ => ?_) (fun hx => absurd (Int32.le_refl _) hx)
    exact Ex.ret (v := none) ⟨rfl, dX4_term_42⟩ ⟨rfl, by rw [← e1]; rfl⟩
  · intro s1 q1 hc1 hk1 e1
    obtain ⟨f, hf⟩ : ∃ f, 160 - i = f + 1 := ⟨159 - i, by omega⟩
    rw [hf] at e1
    unfold lpG at e1
    have hx1 : g_nx s1 ≤ n := q1.2.1
    refine x_iload_n dX4_term_6 rfl ?_
    refine x_sipush 160 dX4_term_7 ?_
    refine x_icmp_ge 42 dX4_term_10 (fun hx => absurd hx (nI_ge hi (by decide))) (fun _ => ?_)
    refine x_aload_n dX4_term_13 rfl ?_
    refine gP_21 hw dX4_term_14 ?_
    refine x_bipush 42 dX4_term_17 ?_
    refine x_icmp_ne 42 dX4_term_19 (fun h_19 => ?_) (fun h_19 => ?_)
    · exact Ex.ret (v := none) ⟨rfl, dX4_term_42⟩ ⟨rfl, by rw [if_neg (fun y => h_19 (qMu_iff.mp y))] at e1; rw [e1]⟩
    · have h2 : ¬ g_to s1 = 2 := by rw [h_19]; decide
      have h0 : ¬ g_to s1 = 0 := by rw [h_19]; decide
      rw [if_pos (qMu_iff.mpr h_19)] at e1
      have g2 := adv_gd (b := tb) hn160 q1 h2 h0
      have hc2 := g2.cz hc1
      have g3 := (gB _ g2.1 (by omega) (g2.2.1.trans hk1)).1
      have g4 := g2.tr g3
      have g5 := GD.em (c := -(g_to s1)) hn160 hc1 g4
      refine x_aload_n dX4_term_22 rfl ?_
      refine ii_X4_47 dX4_term_23 (c_adv (s := s1) hw hT h17 h18 hm hn hx1) (pX_p hw) (by omega) (Nat.le_of_ble_eq_true rfl) ?_
      refine x_aload_n dX4_term_26 rfl ?_
      refine ii_X4_82 dX4_term_27 (hB _ g2.1 (by omega) (g2.2.1.trans hk1)) (pX_p hw) (by omega) (Nat.le_of_ble_eq_true rfl) ?_
      refine x_aload_n dX4_term_30 rfl ?_
      refine x_bipush (-42) dX4_term_31 ?_
      rw [show (-42 : Int32) = -(g_to s1) from by rw [h_19]]
      refine ii_X4_66 dX4_term_33 (c_X4_emit (s := bd (adv tb n s1)) (c := -(g_to s1)) hw (by omega)) (pX_p hw) (by omega) (Nat.le_of_ble_eq_true rfl) ?_
      refine x_iincN dX4_term_36 rfl (by decide) ?_
      refine x_goto 6 dX4_term_39 ?_
      exact ih _ g5.1.1 (by have := g5.1.cz hc1; omega) (g5.1.2.1.trans hk1) (by rw [show 160 - (i + 1) = f by omega]; exact e1)
set_option maxRecDepth 100000 in
set_option maxHeartbeats 4000000 in
theorem ct_sum {X : Nat × (Nat → Int32)} {w : pc_W} {rt m n K D : Nat} {tb : Nat → Int32} (hw : 18 < w.length) (hT : w[rt]? = some (.inl (0, (m, .inl tb)))) (h17 : rt ≠ 16) (h18 : rt ≠ 18) (hm : m < 2 ^ 30) (hn : n ≤ m) (hn160 : n ≤ 160) {bd : PF} (hB : CT X w rt n yX4_term cX4_term 2 (D) (K) bd) (gB : GF n K bd) (hD : 7 ≤ D) (hK5 : K ≤ 5) : CT X w rt n yX4_sum cX4_sum 3 (D + 1) (K) (seq tb n qPl bd) := by
  intro s q hc hK
  have hpl : g_pl s ≤ n := q.1
  have hnx : g_nx s ≤ n := q.2.1
  have hcz : g_cz s ≤ 160 := by omega
  obtain ⟨s', hs'⟩ : ∃ s', s' = (seq tb n qPl bd) s := ⟨_, rfl⟩
  rw [← hs']
  refine Mt.of (by decide +kernel) (fun _ _ => Nat.le_of_ble_eq_true rfl) ?_
  show Ex X mX4_sum _ _ _ _ _ _ _ _
  refine x_aload_n dX4_sum_0 rfl ?_
  refine ii_X4_79 dX4_sum_1 (hB s q hc hK) (pX_p hw) (by omega) (Nat.le_of_ble_eq_true rfl) ?_
  refine x_iconst 0 dX4_sum_4 ?_
  refine x_istore_n dX4_sum_5 (by decide) ?_
  refine Ex.forget (L' := [some (.ref 16), some (.int (nI 0)), none]) ⟨rfl, rfl, trivial⟩ ?_
  have g1 := (gB s q hc hK).1
  refine for_up (P := fun i => ∀ s1, WF n s1 → g_cz s1 ≤ g_pl s1 → g_op s1 = K → lpG tb n qPl bd (160 - i) s1 = s' → Ex X mX4_sum (D + 1) (RV (pS w rt n s')) 0 0 6 [some (.ref 16), some (.int (nI i)), none] [] (pS w rt n s1)) 160 ?_ (fun i hi ih => ?_) 0 (Nat.zero_le _) _ g1.1 (by have := g1.cz hc; omega) (g1.2.1.trans hK) (by rw [hs']; rfl)
  · intro s1 q1 hc1 hk1 e1
    refine x_iload_n dX4_sum_6 rfl ?_
    refine x_sipush 160 dX4_sum_7 ?_
    refine x_icmp_ge 56 dX4_sum_10 (fun _ => ?_) (fun hx => absurd (Int32.le_refl _) hx)
    exact Ex.ret (v := none) ⟨rfl, dX4_sum_56⟩ ⟨rfl, by rw [← e1]; rfl⟩
  · intro s1 q1 hc1 hk1 e1
    obtain ⟨f, hf⟩ : ∃ f, 160 - i = f + 1 := ⟨159 - i, by omega⟩
    rw [hf] at e1
    unfold lpG at e1
    have hx1 : g_nx s1 ≤ n := q1.2.1
    refine x_iload_n dX4_sum_6 rfl ?_
    refine x_sipush 160 dX4_sum_7 ?_
    refine x_icmp_ge 56 dX4_sum_10 (fun hx => absurd hx (nI_ge hi (by decide))) (fun _ => ?_)
    refine x_aload_n dX4_sum_13 rfl ?_
    refine gP_21 hw dX4_sum_14 ?_
    refine x_bipush 43 dX4_sum_17 ?_
    refine x_icmp_eq 31 dX4_sum_19 (fun h_19 => ?_) (fun h_19 => ?_)
    · refine x_aload_n dX4_sum_31 rfl ?_
      refine gP_21 hw dX4_sum_32 ?_
      refine x_istore_n dX4_sum_35 (by decide) ?_
      have h2 : ¬ g_to s1 = 2 := by rw [h_19]; decide
      have h0 : ¬ g_to s1 = 0 := by rw [h_19]; decide
      rw [if_pos (qPl_iff.mpr (Or.inl h_19))] at e1
      have g2 := adv_gd (b := tb) hn160 q1 h2 h0
      have hc2 := g2.cz hc1
      have g3 := (gB _ g2.1 (by omega) (g2.2.1.trans hk1)).1
      have g4 := g2.tr g3
      have g5 := GD.em (c := -(g_to s1)) hn160 hc1 g4
      refine x_aload_n dX4_sum_36 rfl ?_
      refine ii_X4_47 dX4_sum_37 (c_adv (s := s1) hw hT h17 h18 hm hn hx1) (pX_p hw) (by omega) (Nat.le_of_ble_eq_true rfl) ?_
      refine x_aload_n dX4_sum_40 rfl ?_
      refine ii_X4_79 dX4_sum_41 (hB _ g2.1 (by omega) (g2.2.1.trans hk1)) (pX_p hw) (by omega) (Nat.le_of_ble_eq_true rfl) ?_
      refine x_aload_n dX4_sum_44 rfl ?_
      refine x_iload_n dX4_sum_45 rfl ?_
      refine x_ineg dX4_sum_46 ?_
      refine ii_X4_66 dX4_sum_47 (c_X4_emit (s := bd (adv tb n s1)) (c := -(g_to s1)) hw (by omega)) (pX_p hw) (by omega) (Nat.le_of_ble_eq_true rfl) ?_
      refine x_iincN dX4_sum_50 rfl (by decide) ?_
      refine x_goto 6 dX4_sum_53 ?_
      refine Ex.forget (L' := [some (.ref 16), some (.int (nI (i + 1))), none]) ⟨rfl, rfl, trivial⟩ ?_
      exact ih _ g5.1.1 (by have := g5.1.cz hc1; omega) (g5.1.2.1.trans hk1) (by rw [show 160 - (i + 1) = f by omega]; exact e1)
    · refine x_aload_n dX4_sum_22 rfl ?_
      refine gP_21 hw dX4_sum_23 ?_
      refine x_bipush 45 dX4_sum_26 ?_
      refine x_icmp_ne 56 dX4_sum_28 (fun h_28 => ?_) (fun h_28 => ?_)
      · exact Ex.ret (v := none) ⟨rfl, dX4_sum_56⟩ ⟨rfl, by rw [if_neg (fun y => (qPl_iff.mp y).elim h_19 h_28)] at e1; rw [e1]⟩
      · refine x_aload_n dX4_sum_31 rfl ?_
        refine gP_21 hw dX4_sum_32 ?_
        refine x_istore_n dX4_sum_35 (by decide) ?_
        have h2 : ¬ g_to s1 = 2 := by rw [h_28]; decide
        have h0 : ¬ g_to s1 = 0 := by rw [h_28]; decide
        rw [if_pos (qPl_iff.mpr (Or.inr h_28))] at e1
        have g2 := adv_gd (b := tb) hn160 q1 h2 h0
        have hc2 := g2.cz hc1
        have g3 := (gB _ g2.1 (by omega) (g2.2.1.trans hk1)).1
        have g4 := g2.tr g3
        have g5 := GD.em (c := -(g_to s1)) hn160 hc1 g4
        refine x_aload_n dX4_sum_36 rfl ?_
        refine ii_X4_47 dX4_sum_37 (c_adv (s := s1) hw hT h17 h18 hm hn hx1) (pX_p hw) (by omega) (Nat.le_of_ble_eq_true rfl) ?_
        refine x_aload_n dX4_sum_40 rfl ?_
        refine ii_X4_79 dX4_sum_41 (hB _ g2.1 (by omega) (g2.2.1.trans hk1)) (pX_p hw) (by omega) (Nat.le_of_ble_eq_true rfl) ?_
        refine x_aload_n dX4_sum_44 rfl ?_
        refine x_iload_n dX4_sum_45 rfl ?_
        refine x_ineg dX4_sum_46 ?_
        refine ii_X4_66 dX4_sum_47 (c_X4_emit (s := bd (adv tb n s1)) (c := -(g_to s1)) hw (by omega)) (pX_p hw) (by omega) (Nat.le_of_ble_eq_true rfl) ?_
        refine x_iincN dX4_sum_50 rfl (by decide) ?_
        refine x_goto 6 dX4_sum_53 ?_
        refine Ex.forget (L' := [some (.ref 16), some (.int (nI (i + 1))), none]) ⟨rfl, rfl, trivial⟩ ?_
        exact ih _ g5.1.1 (by have := g5.1.cz hc1; omega) (g5.1.2.1.trans hk1) (by rw [show 160 - (i + 1) = f by omega]; exact e1)
set_option maxRecDepth 100000 in
set_option maxHeartbeats 4000000 in
theorem ct_negation {X : Nat × (Nat → Int32)} {w : pc_W} {rt m n K D D2 : Nat} {tb : Nat → Int32} (hw : 18 < w.length) (hT : w[rt]? = some (.inl (0, (m, .inl tb)))) (h17 : rt ≠ 16) (h18 : rt ≠ 18) (hm : m < 2 ^ 30) (hn : n ≤ m) (hn160 : n ≤ 160) {sm iN : PF} (hM : CT X w rt n yX4_sum cX4_sum 3 (D) (K) sm) (hN : K < 5 → CT X w rt n yX4_negation cX4_negation 2 (D2) (K + 1) iN) (gM : GF n K sm) (gN : GF n (K + 1) iN) (hD : 7 ≤ D) (hK5 : K ≤ 5) (hD2 : D2 ≤ D) : CT X w rt n yX4_negation cX4_negation 2 (D + 1) (K) (ngt tb n sm iN) := by
  intro s q hc hK
  have hpl : g_pl s ≤ n := q.1
  have hnx : g_nx s ≤ n := q.2.1
  have hcz : g_cz s ≤ 160 := by omega
  obtain ⟨s', hs'⟩ : ∃ s', s' = (ngt tb n sm iN) s := ⟨_, rfl⟩
  rw [← hs']
  refine Mt.of (by decide +kernel) (fun _ _ => Nat.le_of_ble_eq_true rfl) ?_
  show Ex X mX4_negation _ _ _ _ _ _ _ _
  refine x_aload_n dX4_negation_0 rfl ?_
  refine gP_21 hw dX4_negation_1 ?_
  refine x_sipush 211 dX4_negation_4 ?_
  refine x_icmp_ne 39 dX4_negation_7 (fun h_7 => ?_) (fun h_7 => ?_)
  · refine x_aload_n dX4_negation_39 rfl ?_
    refine ii_X4_76 dX4_negation_40 (hM s q hc hK) (pX_p hw) (by omega) (Nat.le_of_ble_eq_true rfl) ?_
    have g1 := (gM s q hc hK).1
    have hc1 := g1.cz hc
    have hx1 : g_nx (sm s) ≤ n := g1.1.2.1
    refine x_aload_n dX4_negation_43 rfl ?_
    refine gP_21 hw dX4_negation_44 ?_
    refine x_bipush 60 dX4_negation_47 ?_
    refine x_icmp_eq 61 dX4_negation_49 (fun h_49 => ?_) (fun h_49 => ?_)
    · refine x_aload_n dX4_negation_61 rfl ?_
      refine gP_21 hw dX4_negation_62 ?_
      refine x_istore_n dX4_negation_65 (by decide) ?_
      have h2 : ¬ g_to (sm s) = 2 := by rw [h_49]; decide
      have h0 : ¬ g_to (sm s) = 0 := by rw [h_49]; decide
      have g2 := adv_gd (b := tb) hn160 g1.1 h2 h0
      have hc2 := g2.cz (show g_cz (sm s) ≤ g_pl (sm s) by omega)
      have g3 := (gM _ g2.1 (by omega) (g2.2.1.trans (g1.2.1.trans hK))).1
      have hc3 := g3.cz (show g_cz (adv tb n (sm s)) ≤ g_pl (adv tb n (sm s)) by omega)
      have hp3 := g3.1.1
      refine x_aload_n dX4_negation_66 rfl ?_
      refine ii_X4_47 dX4_negation_67 (c_adv (s := sm s) hw hT h17 h18 hm hn hx1) (pX_p hw) (by omega) (Nat.le_of_ble_eq_true rfl) ?_
      refine x_aload_n dX4_negation_70 rfl ?_
      refine ii_X4_76 dX4_negation_71 (hM _ g2.1 (by omega) (g2.2.1.trans (g1.2.1.trans hK))) (pX_p hw) (by omega) (Nat.le_of_ble_eq_true rfl) ?_
      refine x_aload_n dX4_negation_74 rfl ?_
      refine x_iload_n dX4_negation_75 rfl ?_
      refine x_ineg dX4_negation_76 ?_
      refine ii_X4_66 dX4_negation_77 (c_X4_emit (s := sm (adv tb n (sm s))) (c := -(g_to (sm s))) hw (by omega)) (pX_p hw) (by omega) (Nat.le_of_ble_eq_true rfl) ?_
      exact Ex.ret (v := none) ⟨rfl, dX4_negation_80⟩ ⟨rfl, by rw [hs']; unfold ngt; rw [if_neg h_7]; unfold cmp; rw [if_pos (Or.inl h_49)]⟩
    · refine x_aload_n dX4_negation_52 rfl ?_
      refine gP_21 hw dX4_negation_53 ?_
      refine x_bipush 61 dX4_negation_56 ?_
      refine x_icmp_ne 80 dX4_negation_58 (fun h_58 => ?_) (fun h_58 => ?_)
      · exact Ex.ret (v := none) ⟨rfl, dX4_negation_80⟩ ⟨rfl, by rw [hs']; unfold ngt; rw [if_neg h_7]; unfold cmp; rw [if_neg (fun y => y.elim h_49 h_58)]⟩
      · refine x_aload_n dX4_negation_61 rfl ?_
        refine gP_21 hw dX4_negation_62 ?_
        refine x_istore_n dX4_negation_65 (by decide) ?_
        have h2 : ¬ g_to (sm s) = 2 := by rw [h_58]; decide
        have h0 : ¬ g_to (sm s) = 0 := by rw [h_58]; decide
        have g2 := adv_gd (b := tb) hn160 g1.1 h2 h0
        have hc2 := g2.cz (show g_cz (sm s) ≤ g_pl (sm s) by omega)
        have g3 := (gM _ g2.1 (by omega) (g2.2.1.trans (g1.2.1.trans hK))).1
        have hc3 := g3.cz (show g_cz (adv tb n (sm s)) ≤ g_pl (adv tb n (sm s)) by omega)
        have hp3 := g3.1.1
        refine x_aload_n dX4_negation_66 rfl ?_
        refine ii_X4_47 dX4_negation_67 (c_adv (s := sm s) hw hT h17 h18 hm hn hx1) (pX_p hw) (by omega) (Nat.le_of_ble_eq_true rfl) ?_
        refine x_aload_n dX4_negation_70 rfl ?_
        refine ii_X4_76 dX4_negation_71 (hM _ g2.1 (by omega) (g2.2.1.trans (g1.2.1.trans hK))) (pX_p hw) (by omega) (Nat.le_of_ble_eq_true rfl) ?_
        refine x_aload_n dX4_negation_74 rfl ?_
        refine x_iload_n dX4_negation_75 rfl ?_
        refine x_ineg dX4_negation_76 ?_
        refine ii_X4_66 dX4_negation_77 (c_X4_emit (s := sm (adv tb n (sm s))) (c := -(g_to (sm s))) hw (by omega)) (pX_p hw) (by omega) (Nat.le_of_ble_eq_true rfl) ?_
        exact Ex.ret (v := none) ⟨rfl, dX4_negation_80⟩ ⟨rfl, by rw [hs']; unfold ngt; rw [if_neg h_7]; unfold cmp; rw [if_pos (Or.inr h_58)]⟩
  · have h2 : ¬ g_to s = 2 := by rw [h_7]; decide
    have h0 : ¬ g_to s = 0 := by rw [h_7]; decide
    by_cases ho : 5 ≤ g_op s
    · skip
      refine x_aload_n dX4_negation_10 rfl ?_
      refine ii_X4_72 dX4_negation_11 (c_opn_n (s := s) hw hT h17 h18 hm hn hnx (by omega) ho) (pX_p hw) (by omega) (Nat.le_of_ble_eq_true rfl) ?_
      refine x_if_eq 38 dX4_negation_14 (fun _ => ?_) (fun hx => absurd (rfl) hx)
      exact Ex.ret (v := none) ⟨rfl, dX4_negation_38⟩ ⟨rfl, by rw [hs']; unfold ngt; rw [if_pos h_7, if_pos ho]⟩
    · skip
      have hk5 : K < 5 := by omega
      have q2 := (inc_gd (b := tb) hn160 q h2 h0).1
      obtain ⟨hc2, hk2, -⟩ := in_pre (b := tb) hn160 q hc hK h2 h0
      have hk3 : g_op (iN (adv tb n (inc1 s))) = K + 1 := (gN _ q2 hc2 hk2).1.2.1.trans hk2
      have g4 := dec_gd (b := tb) hn160 gN q hc hK h2 h0
      have hc4 := g4.cz hc
      have hp4 : g_pl (dec1 (iN (adv tb n (inc1 s)))) ≤ n := g4.1.1
      refine x_aload_n dX4_negation_10 rfl ?_
      refine ii_X4_72 dX4_negation_11 (c_opn_y (s := s) hw hT h17 h18 hm hn hnx (by omega) ho) (pX_p hw) (by omega) (Nat.le_of_ble_eq_true rfl) ?_
      refine x_if_eq 38 dX4_negation_14 (fun hx => absurd hx (by decide)) (fun _ => ?_)
      refine x_aload_n dX4_negation_17 rfl ?_
      refine ii_X4_69 dX4_negation_18 (hN hk5 _ q2 hc2 hk2) (pX_p hw) (by omega) (Nat.le_of_ble_eq_true rfl) ?_
      refine x_aload_n dX4_negation_21 rfl ?_
      refine x_dup dX4_negation_22 ?_
      refine gP_33 hw dX4_negation_23 ?_
      refine x_iconst 1 dX4_negation_26 ?_
      refine x_isub dX4_negation_27 ?_
      rw [isub1 (show 1 ≤ g_op (iN (adv tb n (inc1 s))) by omega)]
      refine pP_33 hw dX4_negation_28 ?_
      refine x_aload_n dX4_negation_31 rfl ?_
      refine x_sipush (-211) dX4_negation_32 ?_
      refine ii_X4_66 dX4_negation_35 (c_X4_emit (s := dec1 (iN (adv tb n (inc1 s)))) (c := -211) hw (by omega)) (pX_p hw) (by omega) (Nat.le_of_ble_eq_true rfl) ?_
      exact Ex.ret (v := none) ⟨rfl, dX4_negation_38⟩ ⟨rfl, by rw [hs']; unfold ngt; rw [if_pos h_7, if_neg ho]⟩
set_option maxRecDepth 100000 in
set_option maxHeartbeats 4000000 in
theorem ct_conjunction {X : Nat × (Nat → Int32)} {w : pc_W} {rt m n K D : Nat} {tb : Nat → Int32} (hw : 18 < w.length) (hT : w[rt]? = some (.inl (0, (m, .inl tb)))) (h17 : rt ≠ 16) (h18 : rt ≠ 18) (hm : m < 2 ^ 30) (hn : n ≤ m) (hn160 : n ≤ 160) {bd : PF} (hB : CT X w rt n yX4_negation cX4_negation 2 (D) (K) bd) (gB : GF n K bd) (hD : 7 ≤ D) (hK5 : K ≤ 5) : CT X w rt n yX4_conjunction cX4_conjunction 2 (D + 1) (K) (seq tb n qAn bd) := by
  intro s q hc hK
  have hpl : g_pl s ≤ n := q.1
  have hnx : g_nx s ≤ n := q.2.1
  have hcz : g_cz s ≤ 160 := by omega
  obtain ⟨s', hs'⟩ : ∃ s', s' = (seq tb n qAn bd) s := ⟨_, rfl⟩
  rw [← hs']
  refine Mt.of (by decide +kernel) (fun _ _ => Nat.le_of_ble_eq_true rfl) ?_
  show Ex X mX4_conjunction _ _ _ _ _ _ _ _
  refine x_aload_n dX4_conjunction_0 rfl ?_
  refine ii_X4_69 dX4_conjunction_1 (hB s q hc hK) (pX_p hw) (by omega) (Nat.le_of_ble_eq_true rfl) ?_
  refine x_iconst 0 dX4_conjunction_4 ?_
  refine x_istore_n dX4_conjunction_5 (by decide) ?_
  refine Ex.forget (L' := [some (.ref 16), some (.int (nI 0))]) ⟨rfl, rfl, trivial⟩ ?_
  have g1 := (gB s q hc hK).1
  refine for_up (P := fun i => ∀ s1, WF n s1 → g_cz s1 ≤ g_pl s1 → g_op s1 = K → lpG tb n qAn bd (160 - i) s1 = s' → Ex X mX4_conjunction (D + 1) (RV (pS w rt n s')) 0 0 6 [some (.ref 16), some (.int (nI i))] [] (pS w rt n s1)) 160 ?_ (fun i hi ih => ?_) 0 (Nat.zero_le _) _ g1.1 (by have := g1.cz hc; omega) (g1.2.1.trans hK) (by rw [hs']; rfl)
  · intro s1 q1 hc1 hk1 e1
    refine x_iload_n dX4_conjunction_6 rfl ?_
    refine x_sipush 160 dX4_conjunction_7 ?_
    refine x_icmp_ge 44 dX4_conjunction_10 (fun _ => ?_) (fun hx => absurd (Int32.le_refl _) hx)
    exact Ex.ret (v := none) ⟨rfl, dX4_conjunction_44⟩ ⟨rfl, by rw [← e1]; rfl⟩
  · intro s1 q1 hc1 hk1 e1
    obtain ⟨f, hf⟩ : ∃ f, 160 - i = f + 1 := ⟨159 - i, by omega⟩
    rw [hf] at e1
    unfold lpG at e1
    have hx1 : g_nx s1 ≤ n := q1.2.1
    refine x_iload_n dX4_conjunction_6 rfl ?_
    refine x_sipush 160 dX4_conjunction_7 ?_
    refine x_icmp_ge 44 dX4_conjunction_10 (fun hx => absurd hx (nI_ge hi (by decide))) (fun _ => ?_)
    refine x_aload_n dX4_conjunction_13 rfl ?_
    refine gP_21 hw dX4_conjunction_14 ?_
    refine x_sipush 210 dX4_conjunction_17 ?_
    refine x_icmp_ne 44 dX4_conjunction_20 (fun h_20 => ?_) (fun h_20 => ?_)
    · exact Ex.ret (v := none) ⟨rfl, dX4_conjunction_44⟩ ⟨rfl, by rw [if_neg (fun y => h_20 (qAn_iff.mp y))] at e1; rw [e1]⟩
    · have h2 : ¬ g_to s1 = 2 := by rw [h_20]; decide
      have h0 : ¬ g_to s1 = 0 := by rw [h_20]; decide
      rw [if_pos (qAn_iff.mpr h_20)] at e1
      have g2 := adv_gd (b := tb) hn160 q1 h2 h0
      have hc2 := g2.cz hc1
      have g3 := (gB _ g2.1 (by omega) (g2.2.1.trans hk1)).1
      have g4 := g2.tr g3
      have g5 := GD.em (c := -(g_to s1)) hn160 hc1 g4
      refine x_aload_n dX4_conjunction_23 rfl ?_
      refine ii_X4_47 dX4_conjunction_24 (c_adv (s := s1) hw hT h17 h18 hm hn hx1) (pX_p hw) (by omega) (Nat.le_of_ble_eq_true rfl) ?_
      refine x_aload_n dX4_conjunction_27 rfl ?_
      refine ii_X4_69 dX4_conjunction_28 (hB _ g2.1 (by omega) (g2.2.1.trans hk1)) (pX_p hw) (by omega) (Nat.le_of_ble_eq_true rfl) ?_
      refine x_aload_n dX4_conjunction_31 rfl ?_
      refine x_sipush (-210) dX4_conjunction_32 ?_
      rw [show (-210 : Int32) = -(g_to s1) from by rw [h_20]]
      refine ii_X4_66 dX4_conjunction_35 (c_X4_emit (s := bd (adv tb n s1)) (c := -(g_to s1)) hw (by omega)) (pX_p hw) (by omega) (Nat.le_of_ble_eq_true rfl) ?_
      refine x_iincN dX4_conjunction_38 rfl (by decide) ?_
      refine x_goto 6 dX4_conjunction_41 ?_
      exact ih _ g5.1.1 (by have := g5.1.cz hc1; omega) (g5.1.2.1.trans hk1) (by rw [show 160 - (i + 1) = f by omega]; exact e1)
set_option maxRecDepth 100000 in
set_option maxHeartbeats 4000000 in
theorem ct_expression {X : Nat × (Nat → Int32)} {w : pc_W} {rt m n K D : Nat} {tb : Nat → Int32} (hw : 18 < w.length) (hT : w[rt]? = some (.inl (0, (m, .inl tb)))) (h17 : rt ≠ 16) (h18 : rt ≠ 18) (hm : m < 2 ^ 30) (hn : n ≤ m) (hn160 : n ≤ 160) {bd : PF} (hB : CT X w rt n yX4_conjunction cX4_conjunction 2 (D) (K) bd) (gB : GF n K bd) (hD : 7 ≤ D) (hK5 : K ≤ 5) : CT X w rt n yX4_expression cX4_expression 2 (D + 1) (K) (seq tb n qOr bd) := by
  intro s q hc hK
  have hpl : g_pl s ≤ n := q.1
  have hnx : g_nx s ≤ n := q.2.1
  have hcz : g_cz s ≤ 160 := by omega
  obtain ⟨s', hs'⟩ : ∃ s', s' = (seq tb n qOr bd) s := ⟨_, rfl⟩
  rw [← hs']
  refine Mt.of (by decide +kernel) (fun _ _ => Nat.le_of_ble_eq_true rfl) ?_
  show Ex X mX4_expression _ _ _ _ _ _ _ _
  refine x_aload_n dX4_expression_0 rfl ?_
  refine ii_X4_63 dX4_expression_1 (hB s q hc hK) (pX_p hw) (by omega) (Nat.le_of_ble_eq_true rfl) ?_
  refine x_iconst 0 dX4_expression_4 ?_
  refine x_istore_n dX4_expression_5 (by decide) ?_
  refine Ex.forget (L' := [some (.ref 16), some (.int (nI 0))]) ⟨rfl, rfl, trivial⟩ ?_
  have g1 := (gB s q hc hK).1
  refine for_up (P := fun i => ∀ s1, WF n s1 → g_cz s1 ≤ g_pl s1 → g_op s1 = K → lpG tb n qOr bd (160 - i) s1 = s' → Ex X mX4_expression (D + 1) (RV (pS w rt n s')) 0 0 6 [some (.ref 16), some (.int (nI i))] [] (pS w rt n s1)) 160 ?_ (fun i hi ih => ?_) 0 (Nat.zero_le _) _ g1.1 (by have := g1.cz hc; omega) (g1.2.1.trans hK) (by rw [hs']; rfl)
  · intro s1 q1 hc1 hk1 e1
    refine x_iload_n dX4_expression_6 rfl ?_
    refine x_sipush 160 dX4_expression_7 ?_
    refine x_icmp_ge 44 dX4_expression_10 (fun _ => ?_) (fun hx => absurd (Int32.le_refl _) hx)
    exact Ex.ret (v := none) ⟨rfl, dX4_expression_44⟩ ⟨rfl, by rw [← e1]; rfl⟩
  · intro s1 q1 hc1 hk1 e1
    obtain ⟨f, hf⟩ : ∃ f, 160 - i = f + 1 := ⟨159 - i, by omega⟩
    rw [hf] at e1
    unfold lpG at e1
    have hx1 : g_nx s1 ≤ n := q1.2.1
    refine x_iload_n dX4_expression_6 rfl ?_
    refine x_sipush 160 dX4_expression_7 ?_
    refine x_icmp_ge 44 dX4_expression_10 (fun hx => absurd hx (nI_ge hi (by decide))) (fun _ => ?_)
    refine x_aload_n dX4_expression_13 rfl ?_
    refine gP_21 hw dX4_expression_14 ?_
    refine x_sipush 209 dX4_expression_17 ?_
    refine x_icmp_ne 44 dX4_expression_20 (fun h_20 => ?_) (fun h_20 => ?_)
    · exact Ex.ret (v := none) ⟨rfl, dX4_expression_44⟩ ⟨rfl, by rw [if_neg (fun y => h_20 (qOr_iff.mp y))] at e1; rw [e1]⟩
    · have h2 : ¬ g_to s1 = 2 := by rw [h_20]; decide
      have h0 : ¬ g_to s1 = 0 := by rw [h_20]; decide
      rw [if_pos (qOr_iff.mpr h_20)] at e1
      have g2 := adv_gd (b := tb) hn160 q1 h2 h0
      have hc2 := g2.cz hc1
      have g3 := (gB _ g2.1 (by omega) (g2.2.1.trans hk1)).1
      have g4 := g2.tr g3
      have g5 := GD.em (c := -(g_to s1)) hn160 hc1 g4
      refine x_aload_n dX4_expression_23 rfl ?_
      refine ii_X4_47 dX4_expression_24 (c_adv (s := s1) hw hT h17 h18 hm hn hx1) (pX_p hw) (by omega) (Nat.le_of_ble_eq_true rfl) ?_
      refine x_aload_n dX4_expression_27 rfl ?_
      refine ii_X4_63 dX4_expression_28 (hB _ g2.1 (by omega) (g2.2.1.trans hk1)) (pX_p hw) (by omega) (Nat.le_of_ble_eq_true rfl) ?_
      refine x_aload_n dX4_expression_31 rfl ?_
      refine x_sipush (-209) dX4_expression_32 ?_
      rw [show (-209 : Int32) = -(g_to s1) from by rw [h_20]]
      refine ii_X4_66 dX4_expression_35 (c_X4_emit (s := bd (adv tb n s1)) (c := -(g_to s1)) hw (by omega)) (pX_p hw) (by omega) (Nat.le_of_ble_eq_true rfl) ?_
      refine x_iincN dX4_expression_38 rfl (by decide) ?_
      refine x_goto 6 dX4_expression_41 ?_
      exact ih _ g5.1.1 (by have := g5.1.cz hc1; omega) (g5.1.2.1.trans hk1) (by rw [show 160 - (i + 1) = f by omega]; exact e1)
theorem ct_lev {X : Nat × (Nat → Int32)} {w : pc_W} {rt m n : Nat} {tb : Nat → Int32} (hw : 18 < w.length) (hT : w[rt]? = some (.inl (0, (m, .inl tb)))) (h17 : rt ≠ 16) (h18 : rt ≠ 18) (hm : m < 2 ^ 30) (hn : n ≤ m) (hn160 : n ≤ 160) : ∀ k K, K + k = 5 → CT X w rt n yX4_single cX4_single 1 (8 + 6 * k) (K) (lvS tb n (lev tb n k)) ∧ CT X w rt n yX4_term cX4_term 2 (9 + 6 * k) (K) (lvT tb n (lev tb n k)) ∧ CT X w rt n yX4_sum cX4_sum 3 (10 + 6 * k) (K) (lvM tb n (lev tb n k)) ∧ CT X w rt n yX4_negation cX4_negation 2 (11 + 6 * k) (K) (lvN tb n (lev tb n k)) ∧ CT X w rt n yX4_conjunction cX4_conjunction 2 (12 + 6 * k) (K) (lvJ tb n (lev tb n k)) ∧ CT X w rt n yX4_expression cX4_expression 2 (13 + 6 * k) (K) (lvE tb n (lev tb n k))
  | 0, K, hk => by
    have g := lv_gf (b := tb) hn160 0 K hk
    have r1 : CT X w rt n yX4_single cX4_single 1 (8 + 6 * 0) (K) (lvS tb n (lev tb n 0)) := ct_single (D := 7 + 6 * 0) (D2 := 0) hw hT h17 h18 hm hn hn160 (iE := rfu) (iS := rfu) (fun q => absurd q (by omega)) (fun q => absurd q (by omega)) (rfu_gf n (K + 1) hn160) (rfu_gf n (K + 1) hn160) (by omega) (by omega) (by omega)
    have r2 : CT X w rt n yX4_term cX4_term 2 (9 + 6 * 0) (K) (lvT tb n (lev tb n 0)) := ct_term (D := (8 + 6 * 0)) hw hT h17 h18 hm hn hn160 r1 g.1 (by omega) (by omega)
    have r3 : CT X w rt n yX4_sum cX4_sum 3 (10 + 6 * 0) (K) (lvM tb n (lev tb n 0)) := ct_sum (D := (9 + 6 * 0)) hw hT h17 h18 hm hn hn160 r2 g.2.1 (by omega) (by omega)
    have r4 : CT X w rt n yX4_negation cX4_negation 2 (11 + 6 * 0) (K) (lvN tb n (lev tb n 0)) := ct_negation (D := (10 + 6 * 0)) (D2 := 0) hw hT h17 h18 hm hn hn160 (iN := rfu) r3 (fun q => absurd q (by omega)) g.2.2.1 (rfu_gf n (K + 1) hn160) (by omega) (by omega) (by omega)
    have r5 : CT X w rt n yX4_conjunction cX4_conjunction 2 (12 + 6 * 0) (K) (lvJ tb n (lev tb n 0)) := ct_conjunction (D := (11 + 6 * 0)) hw hT h17 h18 hm hn hn160 r4 g.2.2.2.1 (by omega) (by omega)
    have r6 : CT X w rt n yX4_expression cX4_expression 2 (13 + 6 * 0) (K) (lvE tb n (lev tb n 0)) := ct_expression (D := (12 + 6 * 0)) hw hT h17 h18 hm hn hn160 r5 g.2.2.2.2.1 (by omega) (by omega)
    exact ⟨r1, r2, r3, r4, r5, r6⟩
  | k + 1, K, hk => by
    obtain ⟨p1, -, -, p4, -, p6⟩ := ct_lev hw hT h17 h18 hm hn hn160 k (K + 1) (by omega)
    have p6 : CT X w rt n yX4_expression cX4_expression 2 (7 + 6 * (k + 1)) (K + 1) (lvE tb n (lev tb n k)) := by rw [show 7 + 6 * (k + 1) = 13 + 6 * k by omega]; exact p6
    have gg := lv_gf (b := tb) hn160 k (K + 1) (by omega)
    have g := lv_gf (b := tb) hn160 (k + 1) K hk
    have r1 : CT X w rt n yX4_single cX4_single 1 (8 + 6 * (k + 1)) (K) (lvS tb n (lev tb n (k + 1))) := by
      have z := ct_single (D := 7 + 6 * (k + 1)) (D2 := 8 + 6 * k) hw hT h17 h18 hm hn hn160 (iE := lvE tb n (lev tb n k)) (iS := lvS tb n (lev tb n k)) (fun _ => p6) (fun _ => p1) gg.2.2.2.2.2 gg.1 (by omega) (by omega) (by omega)
      rw [show 7 + 6 * (k + 1) + 1 = 8 + 6 * (k + 1) by omega] at z
      exact z
    have r2 : CT X w rt n yX4_term cX4_term 2 (9 + 6 * (k + 1)) (K) (lvT tb n (lev tb n (k + 1))) := by
      have z := ct_term (D := (8 + 6 * (k + 1))) hw hT h17 h18 hm hn hn160 r1 g.1 (by omega) (by omega)
      rw [show 8 + 6 * (k + 1) + 1 = 9 + 6 * (k + 1) by omega] at z
      exact z
    have r3 : CT X w rt n yX4_sum cX4_sum 3 (10 + 6 * (k + 1)) (K) (lvM tb n (lev tb n (k + 1))) := by
      have z := ct_sum (D := (9 + 6 * (k + 1))) hw hT h17 h18 hm hn hn160 r2 g.2.1 (by omega) (by omega)
      rw [show 9 + 6 * (k + 1) + 1 = 10 + 6 * (k + 1) by omega] at z
      exact z
    have r4 : CT X w rt n yX4_negation cX4_negation 2 (11 + 6 * (k + 1)) (K) (lvN tb n (lev tb n (k + 1))) := by
      have z := ct_negation (D := (10 + 6 * (k + 1))) (D2 := 11 + 6 * k) hw hT h17 h18 hm hn hn160 (iN := lvN tb n (lev tb n k)) r3 (fun _ => p4) g.2.2.1 gg.2.2.2.1 (by omega) (by omega) (by omega)
      rw [show 10 + 6 * (k + 1) + 1 = 11 + 6 * (k + 1) by omega] at z
      exact z
    have r5 : CT X w rt n yX4_conjunction cX4_conjunction 2 (12 + 6 * (k + 1)) (K) (lvJ tb n (lev tb n (k + 1))) := by
      have z := ct_conjunction (D := (11 + 6 * (k + 1))) hw hT h17 h18 hm hn hn160 r4 g.2.2.2.1 (by omega) (by omega)
      rw [show 11 + 6 * (k + 1) + 1 = 12 + 6 * (k + 1) by omega] at z
      exact z
    have r6 : CT X w rt n yX4_expression cX4_expression 2 (13 + 6 * (k + 1)) (K) (lvE tb n (lev tb n (k + 1))) := by
      have z := ct_expression (D := (12 + 6 * (k + 1))) hw hT h17 h18 hm hn hn160 r5 g.2.2.2.2.1 (by omega) (by omega)
      rw [show 12 + 6 * (k + 1) + 1 = 13 + 6 * (k + 1) by omega] at z
      exact z
    exact ⟨r1, r2, r3, r4, r5, r6⟩
