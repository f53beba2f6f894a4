/-- a text is there in the reference, and is worth what τ says -/
def TXm (τ : TV) (tx ts : Nat → Int32) (r : Nat) : Prop := r < 6 ∧ ∃ (n : Nat) (b : Nat → Int32) (pl0 : Nat) (to0 nu0 : Int32) (co0 : Nat → Int32) (s0 s2 s3 s4 : PS), s0 = (pl0, 0, to0, nu0, -1, 0, 0, co0) ∧ s2 = ps1 b n s0 ∧ s3 = ps2 b n s0 ∧ s4 = ps3 b n s0 ∧ n ≤ 160 ∧ ts r = nI n ∧ (∀ i, i < n → tx (160 * r + i) = b i) ∧ (∀ i, i < n → 0 ≤ b i) ∧ g_fa (fin0 s4) = -1 ∧ ∀ nm sk, (mrun nm (g_co (fin0 s4)) (g_cz s2 - 0) 0 0 sk).1 = τ r 0 nm ∧ (mrun nm (g_co (fin0 s4)) (g_cz s3 - g_cz s2) (g_cz s2) 0 sk).1 = τ r 1 nm ∧ (mrun nm (g_co (fin0 s4)) (g_cz s4 - g_cz s3) (g_cz s3) 0 sk).1 = τ r 2 nm
theorem TXm.cong {τ : TV} {tx ts : Nat → Int32} {r wh : Nat} (h : TXm τ tx ts r) (hw : wh ≤ 2) {nm nm' : Nat → Int32} (hn : ∀ j, j < 6 → nm j = nm' j) : τ r wh nm = τ r wh nm' := by
  obtain ⟨hr, n, b, pl0, to0, nu0, co0, s0, s2, s3, s4, hs0, e2, e3, e4, hn1, hts, hb, hbp, hf, hm⟩ := h
  obtain ⟨a1, a2, a3⟩ := hm nm (fun _ => 0)
  obtain ⟨b1, b2, b3⟩ := hm nm' (fun _ => 0)
  have hwc : wh = 0 ∨ wh = 1 ∨ wh = 2 := by omega
  rcases hwc with rfl | rfl | rfl
  · rw [← a1, ← b1, mrun_cong hn]
  · rw [← a2, ← b2, mrun_cong hn]
  · rw [← a3, ← b3, mrun_cong hn]
theorem RDv_x {s2 s3 s4 : PS} {nm : Nat → Int32} {wh : Nat} {x ba fa : Int32} (h : RDv s2 s3 s4 nm wh x ba fa) (hf : g_fa (fin0 s4) = -1) : (wh = 0 → (mrun nm (g_co (fin0 s4)) (g_cz s2 - 0) 0 0 (fun _ => 0)).1 = x) ∧ (wh = 1 → (mrun nm (g_co (fin0 s4)) (g_cz s3 - g_cz s2) (g_cz s2) 0 (fun _ => 0)).1 = x) ∧ (wh = 2 → (mrun nm (g_co (fin0 s4)) (g_cz s4 - g_cz s3) (g_cz s3) 0 (fun _ => 0)).1 = x) := by
  obtain ⟨-, h⟩ := h
  obtain ⟨a1, a2, a3⟩ := h hf
  exact ⟨fun z => (a1 z).run _, fun z => (a2 z).run _, fun z => (a3 z).run _⟩
/-- the outing, as the class has it -/
def mO (U : MU) : OT := (U.2.2.1, U.2.2.2.1, U.2.1 0, U.2.1 1, U.2.1 2, U.1, U.2.2.2.2.2.2, U.2.2.2.2.1, fun i => U.2.2.2.2.2.1 (2 * i), fun i => U.2.2.2.2.2.1 (2 * i + 1))
theorem nm6_c {o' : Nat → Int32} {O : OT} {p h : Nat} (e0 : o' 0 = o_we O h) (e1 : o' 1 = nI h) (e2 : o' 2 = o_ye O) (e3 : o' 3 = o_nu O p) (e4 : o' 4 = o_mAt O (nI h)) (e5 : o' 5 = o_ahe O (nI h)) : ∀ j, j < 6 → o' j = nmH O p h j := by
  intro j hj
  match j, hj with
  | 0, _ => exact e0
  | 1, _ => exact e1
  | 2, _ => exact e2
  | 3, _ => exact e3
  | 4, _ => exact e4
  | 5, _ => exact e5
theorem nm6_n {o' : Nat → Int32} {O : OT} {p : Nat} (e0 : o' 0 = 0) (e1 : o' 1 = 0) (e2 : o' 2 = o_ye O) (e3 : o' 3 = o_nu O p) (e4 : o' 4 = 0) (e5 : o' 5 = 0) : ∀ j, j < 6 → o' j = nmC O p j := by
  intro j hj
  match j, hj with
  | 0, _ => exact e0
  | 1, _ => exact e1
  | 2, _ => exact e2
  | 3, _ => exact e3
  | 4, _ => exact e4
  | 5, _ => exact e5
theorem ahe_0 {O : OT} {h : Nat} (h8 : h < 8) (q : ¬ 1 ≤ nI h) : o_ahe O (nI h) = 0 := by
  have : h = 0 := by
    by_cases z : h = 0
    · exact z
    · exact absurd (nI_le (a := 1) (by omega) (by omega)) q
  subst this
  rfl
theorem ahe_s {O : OT} {h : Nat} (h8 : h < 8) (q : 1 ≤ nI h) : o_ahe O (nI h) = o_we O (h - 1) := by
  have h1 : 1 ≤ h := (nI_leI (a := 1) (by decide) (by omega)).mp q
  unfold o_ahe
  rw [if_pos (show (0 : Int32) < nI h from nI_lt (a := 0) (by omega) (by omega)), isub1 h1, nI_clamp (by omega)]
theorem c_X10_readT {X : Nat × (Nat → Int32)} {S : CS} {tl : pc_W} {tx : (Nat → Int32)} {ts : (Nat → Int32)} {tc : Int32} {tp : (Nat → Int32)} {tn : Int32} {U : MU} {o : (Nat → Int32)} {fr : Int32} {sz : Int32} {he : Int32} {to : Int32} {ta : Int32} {tw : Int64} {op : Int32} {ba : Int32} {fa : Int32} {C : MC} {K : MK} {H : MH} {τ : TV} {r wh : Nat} (hX : TXm τ tx ts r) (hw : wh ≤ 2) : Mt X 42 0 0 yX10_read cX10_read 6 (some .int) [.ref 42, .int (nI r), .int (nI wh)] (cst S ++ (mw (tx, ts, tc, tp, tn) U (o, fr, sz, he, to, ta, tw, op, ba, fa) C K H ++ tl)) (fun v w' => ∃ Λ' : ML, v = some (.int (τ r wh o)) ∧ w' = cst S ++ (mw (tx, ts, tc, tp, tn) U Λ' C K H ++ tl)) := by
  obtain ⟨hr, n, b, pl0, to0, nu0, co0, s0, s2, s3, s4, hs0, e2, e3, e4, hn1, hts, hb, hbp, hf, hm⟩ := hX
  refine (c_X10_read hr hn1 hb hbp hts hw hs0).weaken (fun v w' hh => ?_)
  obtain ⟨x, h', to', t', tw', ba', fa', rfl, rfl, hR⟩ := hh
  have hR : RDv (ps1 b n s0) (ps2 b n s0) (ps3 b n s0) o wh x ba' fa' := hR
  rw [← e2, ← e3, ← e4] at hR
  obtain ⟨c1, c2, c3⟩ := RDv_x hR hf
  obtain ⟨a1, a2, a3⟩ := hm o (fun _ => 0)
  have hwc : wh = 0 ∨ wh = 1 ∨ wh = 2 := by omega
  refine ⟨_, ?_, rfl⟩
  rcases hwc with rfl | rfl | rfl
  · exact congrArg (fun z => some (Value.int z)) ((c1 rfl).symm.trans a1)
  · exact congrArg (fun z => some (Value.int z)) ((c2 rfl).symm.trans a2)
  · exact congrArg (fun z => some (Value.int z)) ((c3 rfl).symm.trans a3)
set_option maxRecDepth 100000 in
set_option maxHeartbeats 4000000 in
theorem c_X10_asks_h {X : Nat × (Nat → Int32)} {S : CS} {tl : pc_W} {tx : (Nat → Int32)} {ts : (Nat → Int32)} {tc : Int32} {tp : (Nat → Int32)} {tn : Int32} {ru : Int32} {ou : (Nat → Int32)} {we : (Nat → Int32)} {me : Int32} {ki : (Nat → Int32)} {ro : (Nat → Int32)} {ma : Int32} {o : (Nat → Int32)} {fr : Int32} {sz : Int32} {he : Int32} {to : Int32} {ta : Int32} {tw : Int64} {op : Int32} {ba : Int32} {fa : Int32} {C : MC} {K : MK} {H : MH} {τ : TV} {r p h wh : Nat} (hX : TXm τ tx ts r) (hru : ru = nI r) (hp : p < 6) (hh : h < 8) {lo : Int32} (hw : wh ≤ 2) (hlo : lo = if wh = 0 then -99 else 0): Mt X 43 0 0 yX10_asks cX10_asks 4 (some .int) [.ref 42, .int (nI wh), .int (nI p), .int (nI h)] (cst S ++ (mw (tx, ts, tc, tp, tn) (ru, ou, we, me, ki, ro, ma) (o, fr, sz, he, to, ta, tw, op, ba, fa) C K H ++ tl)) (fun v w' => ∃ Λ' : ML, v = some (.int (clp lo (τ r wh (nmH (mO (ru, ou, we, me, ki, ro, ma)) p h)) 99)) ∧ w' = cst S ++ (mw (tx, ts, tc, tp, tn) (ru, ou, we, me, ki, ro, ma) Λ' C K H ++ tl)) := by
  refine Mt.of (by decide +kernel) (fun _ _ => Nat.le_of_ble_eq_true rfl) ?_
  show Ex X mX10_asks _ _ _ _ _ _ _ _
  refine x_aload_n dX10_asks_0 rfl ?_
  refine x_iload_n dX10_asks_1 rfl ?_
  refine x_iconst (-1) dX10_asks_2 ?_
  refine x_icmp_ne 10 dX10_asks_3 (fun _ => ?_) (fun hx => absurd hx (nI_nm1 (by omega)))
  refine x_aload_n dX10_asks_10 rfl ?_
  refine mg_26 dX10_asks_11 ?_
  refine x_iload_n dX10_asks_14 rfl ?_
  refine maN_47 dX10_asks_15 hh ?_
  refine mp_211 dX10_asks_16 ?_
  refine x_aload_n dX10_asks_19 rfl ?_
  refine x_iload_n dX10_asks_20 rfl ?_
  refine x_iconst (-1) dX10_asks_21 ?_
  refine x_icmp_ne 29 dX10_asks_22 (fun _ => ?_) (fun hx => absurd hx (nI_nm1 (by omega)))
  refine x_iload_n dX10_asks_29 rfl ?_
  refine mp_214 dX10_asks_30 ?_
  refine x_aload_n dX10_asks_33 rfl ?_
  refine x_aload_n dX10_asks_34 rfl ?_
  refine mg_23 dX10_asks_35 ?_
  refine x_iconst 0 dX10_asks_38 ?_
  refine maK_46 0 dX10_asks_39 rfl (by decide) ?_
  refine mp_217 dX10_asks_40 ?_
  refine x_aload_n dX10_asks_43 rfl ?_
  refine x_aload_n dX10_asks_44 rfl ?_
  refine mg_32 dX10_asks_45 ?_
  refine x_iconst 2 dX10_asks_48 ?_
  refine x_iload_n dX10_asks_49 rfl ?_
  refine x_imul dX10_asks_50 ?_
  rw [show (2 : Int32) * nI p = nI (2 * p) from pk_mul 2 p]
  refine maN_49 dX10_asks_51 (show 2 * p < 12 by omega) ?_
  refine mp_220 dX10_asks_52 ?_
  refine x_aload_n dX10_asks_55 rfl ?_
  refine x_iload_n dX10_asks_56 rfl ?_
  refine x_iconst (-1) dX10_asks_57 ?_
  refine x_icmp_ne 65 dX10_asks_58 (fun _ => ?_) (fun hx => absurd hx (nI_nm1 (by omega)))
  refine x_aload_n dX10_asks_65 rfl ?_
  refine mg_113 dX10_asks_66 ?_
  refine x_iload_n dX10_asks_69 rfl ?_
  refine x_ishr dX10_asks_70 ?_
  refine x_iconst 1 dX10_asks_71 ?_
  refine x_iand dX10_asks_72 ?_
  refine mp_223 dX10_asks_73 ?_
  refine x_aload_n dX10_asks_76 rfl ?_
  refine x_iload_n dX10_asks_77 rfl ?_
  refine x_iconst 1 dX10_asks_78 ?_
  refine x_icmp_ge 86 dX10_asks_79 (fun h_79 => ?_) (fun h_79 => ?_)
  · refine x_aload_n dX10_asks_86 rfl ?_
    refine mg_26 dX10_asks_87 ?_
    refine x_iload_n dX10_asks_90 rfl ?_
    refine x_iconst 1 dX10_asks_91 ?_
    refine x_isub dX10_asks_92 ?_
    have hh1 : 1 ≤ h := (nI_leI (a := 1) (by decide) (by omega)).mp h_79
    rw [isub1 hh1]
    refine maN_47 dX10_asks_93 (show h - 1 < 8 by omega) ?_
    refine mp_226 dX10_asks_94 ?_
    refine x_aload_n dX10_asks_97 rfl ?_
    refine x_aload_n dX10_asks_98 rfl ?_
    refine mg_116 dX10_asks_99 ?_
    rw [hru]
    refine x_iload_n dX10_asks_102 rfl ?_
    refine iv_X10_356 dX10_asks_103 (c_X10_readT hX hw) mw_o (by decide) (Nat.le_of_ble_eq_true rfl) (fun v_103 w_103 hw_103 => ?_)
    obtain ⟨Λ1, rfl, rfl⟩ := hw_103
    refine x_iload_n dX10_asks_106 rfl ?_
    refine x_if_ne 115 dX10_asks_107 (fun h_107 => ?_) (fun h_107 => ?_)
    · refine x_iconst 0 dX10_asks_115 ?_
      refine x_bipush 99 dX10_asks_116 ?_
      refine ii_X10_359 dX10_asks_118 c_X10_within (by decide) (Nat.le_of_ble_eq_true rfl) ?_
      exact Ex.ret (v := some (.int _)) ⟨dX10_asks_121, _, rfl, by first | rfl | decide⟩ ⟨_, congrArg (fun z => some (Value.int z)) (by rw [hlo, if_neg (fun z => h_107 (by rw [z]; rfl))]; exact congrArg (fun z => clp _ z 99) (hX.cong hw (nm6_c (O := mO (ru, ou, we, me, ki, ro, ma)) (p := p) (h := h) rfl rfl rfl rfl rfl (ahe_s (O := mO (ru, ou, we, me, ki, ro, ma)) hh h_79).symm))), rfl⟩
    · refine x_bipush (-99) dX10_asks_110 ?_
      refine x_goto 116 dX10_asks_112 ?_
      refine x_bipush 99 dX10_asks_116 ?_
      refine ii_X10_359 dX10_asks_118 c_X10_within (by decide) (Nat.le_of_ble_eq_true rfl) ?_
      exact Ex.ret (v := some (.int _)) ⟨dX10_asks_121, _, rfl, by first | rfl | decide⟩ ⟨_, congrArg (fun z => some (Value.int z)) (by rw [hlo, if_pos (by have e := (nI_eq (b := 0) (by omega) (by decide)).mp h_107; exact e)]; exact congrArg (fun z => clp _ z 99) (hX.cong hw (nm6_c (O := mO (ru, ou, we, me, ki, ro, ma)) (p := p) (h := h) rfl rfl rfl rfl rfl (ahe_s (O := mO (ru, ou, we, me, ki, ro, ma)) hh h_79).symm))), rfl⟩
  · refine x_iconst 0 dX10_asks_82 ?_
    refine x_goto 94 dX10_asks_83 ?_
    refine mp_226 dX10_asks_94 ?_
    refine x_aload_n dX10_asks_97 rfl ?_
    refine x_aload_n dX10_asks_98 rfl ?_
    refine mg_116 dX10_asks_99 ?_
    rw [hru]
    refine x_iload_n dX10_asks_102 rfl ?_
    refine iv_X10_356 dX10_asks_103 (c_X10_readT hX hw) mw_o (by decide) (Nat.le_of_ble_eq_true rfl) (fun v_103 w_103 hw_103 => ?_)
    obtain ⟨Λ1, rfl, rfl⟩ := hw_103
    refine x_iload_n dX10_asks_106 rfl ?_
    refine x_if_ne 115 dX10_asks_107 (fun h_107 => ?_) (fun h_107 => ?_)
    · refine x_iconst 0 dX10_asks_115 ?_
      refine x_bipush 99 dX10_asks_116 ?_
      refine ii_X10_359 dX10_asks_118 c_X10_within (by decide) (Nat.le_of_ble_eq_true rfl) ?_
      exact Ex.ret (v := some (.int _)) ⟨dX10_asks_121, _, rfl, by first | rfl | decide⟩ ⟨_, congrArg (fun z => some (Value.int z)) (by rw [hlo, if_neg (fun z => h_107 (by rw [z]; rfl))]; exact congrArg (fun z => clp _ z 99) (hX.cong hw (nm6_c (O := mO (ru, ou, we, me, ki, ro, ma)) (p := p) (h := h) rfl rfl rfl rfl rfl (ahe_0 (O := mO (ru, ou, we, me, ki, ro, ma)) hh h_79).symm))), rfl⟩
    · refine x_bipush (-99) dX10_asks_110 ?_
      refine x_goto 116 dX10_asks_112 ?_
      refine x_bipush 99 dX10_asks_116 ?_
      refine ii_X10_359 dX10_asks_118 c_X10_within (by decide) (Nat.le_of_ble_eq_true rfl) ?_
      exact Ex.ret (v := some (.int _)) ⟨dX10_asks_121, _, rfl, by first | rfl | decide⟩ ⟨_, congrArg (fun z => some (Value.int z)) (by rw [hlo, if_pos (by have e := (nI_eq (b := 0) (by omega) (by decide)).mp h_107; exact e)]; exact congrArg (fun z => clp _ z 99) (hX.cong hw (nm6_c (O := mO (ru, ou, we, me, ki, ro, ma)) (p := p) (h := h) rfl rfl rfl rfl rfl (ahe_0 (O := mO (ru, ou, we, me, ki, ro, ma)) hh h_79).symm))), rfl⟩
set_option maxRecDepth 100000 in
set_option maxHeartbeats 4000000 in
theorem c_X10_asks_n {X : Nat × (Nat → Int32)} {S : CS} {tl : pc_W} {tx : (Nat → Int32)} {ts : (Nat → Int32)} {tc : Int32} {tp : (Nat → Int32)} {tn : Int32} {ru : Int32} {ou : (Nat → Int32)} {we : (Nat → Int32)} {me : Int32} {ki : (Nat → Int32)} {ro : (Nat → Int32)} {ma : Int32} {o : (Nat → Int32)} {fr : Int32} {sz : Int32} {he : Int32} {to : Int32} {ta : Int32} {tw : Int64} {op : Int32} {ba : Int32} {fa : Int32} {C : MC} {K : MK} {H : MH} {τ : TV} {r p wh : Nat} (hX : TXm τ tx ts r) (hru : ru = nI r) (hp : p < 6) {lo : Int32} (hw : wh ≤ 2) (hlo : lo = if wh = 0 then -99 else 0): Mt X 43 0 0 yX10_asks cX10_asks 4 (some .int) [.ref 42, .int (nI wh), .int (nI p), .int (-1)] (cst S ++ (mw (tx, ts, tc, tp, tn) (ru, ou, we, me, ki, ro, ma) (o, fr, sz, he, to, ta, tw, op, ba, fa) C K H ++ tl)) (fun v w' => ∃ Λ' : ML, v = some (.int (clp lo (τ r wh (nmC (mO (ru, ou, we, me, ki, ro, ma)) p)) 99)) ∧ w' = cst S ++ (mw (tx, ts, tc, tp, tn) (ru, ou, we, me, ki, ro, ma) Λ' C K H ++ tl)) := by
  refine Mt.of (by decide +kernel) (fun _ _ => Nat.le_of_ble_eq_true rfl) ?_
  show Ex X mX10_asks _ _ _ _ _ _ _ _
  refine x_aload_n dX10_asks_0 rfl ?_
  refine x_iload_n dX10_asks_1 rfl ?_
  refine x_iconst (-1) dX10_asks_2 ?_
  refine x_icmp_ne 10 dX10_asks_3 (fun hx => absurd (rfl) hx) (fun _ => ?_)
  refine x_iconst 0 dX10_asks_6 ?_
  refine x_goto 16 dX10_asks_7 ?_
  refine mp_211 dX10_asks_16 ?_
  refine x_aload_n dX10_asks_19 rfl ?_
  refine x_iload_n dX10_asks_20 rfl ?_
  refine x_iconst (-1) dX10_asks_21 ?_
  refine x_icmp_ne 29 dX10_asks_22 (fun hx => absurd (rfl) hx) (fun _ => ?_)
  refine x_iconst 0 dX10_asks_25 ?_
  refine x_goto 30 dX10_asks_26 ?_
  refine mp_214 dX10_asks_30 ?_
  refine x_aload_n dX10_asks_33 rfl ?_
  refine x_aload_n dX10_asks_34 rfl ?_
  refine mg_23 dX10_asks_35 ?_
  refine x_iconst 0 dX10_asks_38 ?_
  refine maK_46 0 dX10_asks_39 rfl (by decide) ?_
  refine mp_217 dX10_asks_40 ?_
  refine x_aload_n dX10_asks_43 rfl ?_
  refine x_aload_n dX10_asks_44 rfl ?_
  refine mg_32 dX10_asks_45 ?_
  refine x_iconst 2 dX10_asks_48 ?_
  refine x_iload_n dX10_asks_49 rfl ?_
  refine x_imul dX10_asks_50 ?_
  rw [show (2 : Int32) * nI p = nI (2 * p) from pk_mul 2 p]
  refine maN_49 dX10_asks_51 (show 2 * p < 12 by omega) ?_
  refine mp_220 dX10_asks_52 ?_
  refine x_aload_n dX10_asks_55 rfl ?_
  refine x_iload_n dX10_asks_56 rfl ?_
  refine x_iconst (-1) dX10_asks_57 ?_
  refine x_icmp_ne 65 dX10_asks_58 (fun hx => absurd (rfl) hx) (fun _ => ?_)
  refine x_iconst 0 dX10_asks_61 ?_
  refine x_goto 73 dX10_asks_62 ?_
  refine mp_223 dX10_asks_73 ?_
  refine x_aload_n dX10_asks_76 rfl ?_
  refine x_iload_n dX10_asks_77 rfl ?_
  refine x_iconst 1 dX10_asks_78 ?_
  refine x_icmp_ge 86 dX10_asks_79 (fun hx => absurd hx (by decide)) (fun _ => ?_)
  refine x_iconst 0 dX10_asks_82 ?_
  refine x_goto 94 dX10_asks_83 ?_
  refine mp_226 dX10_asks_94 ?_
  refine x_aload_n dX10_asks_97 rfl ?_
  refine x_aload_n dX10_asks_98 rfl ?_
  refine mg_116 dX10_asks_99 ?_
  rw [hru]
  refine x_iload_n dX10_asks_102 rfl ?_
  refine iv_X10_356 dX10_asks_103 (c_X10_readT hX hw) mw_o (by decide) (Nat.le_of_ble_eq_true rfl) (fun v_103 w_103 hw_103 => ?_)
  obtain ⟨Λ1, rfl, rfl⟩ := hw_103
  refine x_iload_n dX10_asks_106 rfl ?_
  refine x_if_ne 115 dX10_asks_107 (fun h_107 => ?_) (fun h_107 => ?_)
  · refine x_iconst 0 dX10_asks_115 ?_
    refine x_bipush 99 dX10_asks_116 ?_
    refine ii_X10_359 dX10_asks_118 c_X10_within (by decide) (Nat.le_of_ble_eq_true rfl) ?_
    exact Ex.ret (v := some (.int _)) ⟨dX10_asks_121, _, rfl, by first | rfl | decide⟩ ⟨_, congrArg (fun z => some (Value.int z)) (by rw [hlo, if_neg (fun z => h_107 (by rw [z]; rfl))]; exact congrArg (fun z => clp _ z 99) (hX.cong hw (nm6_n (O := mO (ru, ou, we, me, ki, ro, ma)) (p := p) rfl rfl rfl rfl rfl rfl))), rfl⟩
  · refine x_bipush (-99) dX10_asks_110 ?_
    refine x_goto 116 dX10_asks_112 ?_
    refine x_bipush 99 dX10_asks_116 ?_
    refine ii_X10_359 dX10_asks_118 c_X10_within (by decide) (Nat.le_of_ble_eq_true rfl) ?_
    exact Ex.ret (v := some (.int _)) ⟨dX10_asks_121, _, rfl, by first | rfl | decide⟩ ⟨_, congrArg (fun z => some (Value.int z)) (by rw [hlo, if_pos (by have e := (nI_eq (b := 0) (by omega) (by decide)).mp h_107; exact e)]; exact congrArg (fun z => clp _ z 99) (hX.cong hw (nm6_n (O := mO (ru, ou, we, me, ki, ro, ma)) (p := p) rfl rfl rfl rfl rfl rfl))), rfl⟩
theorem th_9 {k v h y n : Int32} (h1 : k = 4) (h2 : h = 7) : (9 : Int32) = clp (-99) (kTh k v h y n) 99 := by
  subst h1 h2; rfl
theorem th_0 {k v h y n : Int32} (h1 : k = 2 ∨ k = 4) (h2 : ¬ (k = 4 ∧ h = 7)) (h3 : ¬ h = n - n / 8 * 8) : (0 : Int32) = clp (-99) (kTh k v h y n) 99 := by
  rcases h1 with rfl | rfl
  · unfold kTh; rw [if_neg (by decide), if_pos rfl, if_neg h3]; rfl
  · unfold kTh; rw [if_neg (by decide), if_neg (by decide), if_neg (by decide), if_pos rfl, if_neg (fun z => h2 ⟨rfl, z⟩), if_neg h3]; rfl
def thV (k v y n : Int32) : Int32 := if k = 1 then (if v < 0 then 0 else v) else if k = 3 then (if y < n then (if v < 0 then 0 else v) - 5 else (if v < 0 then 0 else v)) else if k = 2 ∨ k = 4 then 2 * v else if k = 5 ∧ v < 0 then -v else v
theorem th_v {k v h y n : Int32} (h2 : ¬ (k = 4 ∧ h = 7)) (h3 : (k = 2 ∨ k = 4) → h = n - n / 8 * 8) : thV k v y n = kTh k v h y n := by
  unfold thV kTh
  by_cases k1 : k = 1
  · rw [if_pos k1, if_pos k1]
  rw [if_neg k1, if_neg k1]
  by_cases k2 : k = 2
  · rw [if_neg (by rw [k2]; decide), if_pos (Or.inl k2), if_pos k2, if_pos (h3 (Or.inl k2))]
  rw [if_neg k2]
  by_cases k3 : k = 3
  · rw [if_pos k3, if_pos k3]
  rw [if_neg k3, if_neg k3]
  by_cases k4 : k = 4
  · rw [if_pos (Or.inr k4), if_pos k4, if_neg (fun z => h2 ⟨k4, z⟩), if_pos (h3 (Or.inr k4))]
  rw [if_neg (fun z => z.elim k2 k4), if_neg k4]
  by_cases k5 : k = 5
  · rw [if_pos k5]
    by_cases hv : v < 0
    · rw [if_pos ⟨k5, hv⟩, if_pos hv]
    · rw [if_neg (fun z => hv z.2), if_neg hv]
  · rw [if_neg (fun z => k5 z.1), if_neg k5]
theorem me_1 {k v n : Int32} (h : k = 2 ∨ k = 4) : (1 : Int32) = clp 0 (kMe k v n) 99 := by
  rcases h with rfl | rfl <;> rfl
theorem me_0 {k v n : Int32} (h : k = 5) : (0 : Int32) = clp 0 (kMe k v n) 99 := by subst h; rfl
def meV (k v n : Int32) : Int32 := if k = 1 then v / 2 else if k = 3 then v / 2 + n else v
theorem me_v {k v n : Int32} (h2 : ¬ k = 2) (h4 : ¬ k = 4) (h5 : ¬ k = 5) : meV k v n = kMe k v n := by
  unfold meV kMe
  by_cases k1 : k = 1
  · rw [if_pos k1, if_pos k1]
  rw [if_neg k1, if_neg k1, if_neg h2]
  by_cases k3 : k = 3
  · rw [if_pos k3, if_pos k3]
  rw [if_neg k3, if_neg k3, if_neg h4, if_neg h5]
theorem clp_id {lo v hi : Int32} (h1 : lo ≤ v) (h2 : v ≤ hi) : clp lo v hi = v := by
  unfold clp
  rw [if_neg (Int32.not_lt.mpr h1), if_neg (Int32.not_lt.mpr h2)]
theorem cl_w {n : Int32} {m : Nat} (hm : m < 10) (e : n = nI m) (v : Int32) : -n = clp (-99) (kCl 5 v n) 999 := by
  have e1 : kCl 5 v n = -n := rfl
  have e2 : (-n).toInt = -(m : Int) := by rw [e, Int32.toInt_neg, nI_toInt (by omega), Int.bmod_eq_of_le (by omega) (by omega)]
  have e3 : Int32.toInt (-99) = -99 := by decide
  rw [e1, clp_id]
  · rw [Int32.le_iff_toInt_le, e2, e3]; omega
  · rw [Int32.le_iff_toInt_le, e2, tI_999]; omega
theorem cl_0 {k v n : Int32} (h : k = 2 ∨ k = 4) : (0 : Int32) = clp (-99) (kCl k v n) 999 := by
  rcases h with rfl | rfl <;> rfl
theorem cl_v {k v n : Int32} (h2 : ¬ k = 2) (h4 : ¬ k = 4) (h5 : ¬ k = 5) : (if k = 3 then 2 * v else v) = kCl k v n := by
  unfold kCl
  rw [if_neg h2]
  by_cases k3 : k = 3
  · rw [if_pos k3, if_pos k3]
  rw [if_neg k3, if_neg k3, if_neg h4, if_neg h5]
set_option maxRecDepth 100000 in
set_option maxHeartbeats 4000000 in
theorem c_X10_thinksOf {X : Nat × (Nat → Int32)} {S : CS} {tl : pc_W} {T : MT} {ru : Int32} {ou : (Nat → Int32)} {we : (Nat → Int32)} {me : Int32} {ki : (Nat → Int32)} {ro : (Nat → Int32)} {ma : Int32} {Λ : ML} {C : MC} {K : MK} {H : MH} {τ : TV} {r p h : Nat} (hX : TXm τ T.1 T.2.1 r) (hru : ru = nI r) (hp : p < 6) (hh : h < 8): Mt X 44 0 0 yX10_thinksOf cX10_thinksOf 7 (some .int) [.ref 42, .int (nI p), .int (nI h)] (cst S ++ (mw T (ru, ou, we, me, ki, ro, ma) Λ C K H ++ tl)) (fun v w' => ∃ Λ' : ML, v = some (.int (thF τ (mO (ru, ou, we, me, ki, ro, ma)) r p h)) ∧ w' = cst S ++ (mw T (ru, ou, we, me, ki, ro, ma) Λ' C K H ++ tl)) := by
  refine Mt.of (by decide +kernel) (fun _ _ => Nat.le_of_ble_eq_true rfl) ?_
  show Ex X mX10_thinksOf _ _ _ _ _ _ _ _
  refine x_aload_n dX10_thinksOf_0 rfl ?_
  refine mg_29 dX10_thinksOf_1 ?_
  refine x_iload_n dX10_thinksOf_4 rfl ?_
  refine maN_48 dX10_thinksOf_5 hp ?_
  refine x_istore_n dX10_thinksOf_6 (by decide) ?_
  refine x_aload_n dX10_thinksOf_7 rfl ?_
  refine mg_32 dX10_thinksOf_8 ?_
  refine x_iconst 2 dX10_thinksOf_11 ?_
  refine x_iload_n dX10_thinksOf_12 rfl ?_
  refine x_imul dX10_thinksOf_13 ?_
  rw [show (2 : Int32) * nI p = nI (2 * p) from pk_mul 2 p]
  refine maN_49 dX10_thinksOf_14 (show 2 * p < 12 by omega) ?_
  refine x_istore dX10_thinksOf_15 (by decide) ?_
  refine x_iload_n dX10_thinksOf_17 rfl ?_
  refine x_iconst 4 dX10_thinksOf_18 ?_
  refine x_icmp_ne 31 dX10_thinksOf_19 (fun h_19 => ?_) (fun h_19 => ?_)
  · refine x_iload_n dX10_thinksOf_31 rfl ?_
    refine x_iconst 2 dX10_thinksOf_32 ?_
    refine x_icmp_eq 41 dX10_thinksOf_33 (fun h_33 => ?_) (fun h_33 => ?_)
    · refine x_iload_n dX10_thinksOf_41 rfl ?_
      refine x_iload dX10_thinksOf_42 rfl ?_
      refine x_bipush 8 dX10_thinksOf_44 ?_
      refine x_irem dX10_thinksOf_46 (by decide) ?_
      refine x_icmp_eq 52 dX10_thinksOf_47 (fun h_47 => ?_) (fun h_47 => ?_)
      · refine x_aload_n dX10_thinksOf_52 rfl ?_
        refine x_iconst 0 dX10_thinksOf_53 ?_
        refine x_iload_n dX10_thinksOf_54 rfl ?_
        refine x_iload_n dX10_thinksOf_55 rfl ?_
        refine iv_X10_363 dX10_thinksOf_56 (c_X10_asks_h (wh := 0) (lo := -99) hX hru hp hh (by decide) rfl) mw_o (by decide) (Nat.le_of_ble_eq_true rfl) (fun v_56 w_56 hw_56 => ?_)
        obtain ⟨Λ1, rfl, rfl⟩ := hw_56
        refine x_istore dX10_thinksOf_59 (by decide) ?_
        refine x_iload dX10_thinksOf_61 rfl ?_
        refine x_if_ge 70 dX10_thinksOf_63 (fun h_63 => ?_) (fun h_63 => ?_)
        · refine x_iload dX10_thinksOf_70 rfl ?_
          refine x_istore dX10_thinksOf_72 (by decide) ?_
          refine x_iload_n dX10_thinksOf_74 rfl ?_
          refine x_iconst 1 dX10_thinksOf_75 ?_
          refine x_icmp_ne 84 dX10_thinksOf_76 (fun h_76 => ?_) (fun h_76 => ?_)
          · refine x_iload_n dX10_thinksOf_84 rfl ?_
            refine x_iconst 3 dX10_thinksOf_85 ?_
            refine x_icmp_ne 112 dX10_thinksOf_86 (fun h_86 => ?_) (fun h_86 => ?_)
            · refine x_iload_n dX10_thinksOf_112 rfl ?_
              refine x_iconst 2 dX10_thinksOf_113 ?_
              refine x_icmp_eq 122 dX10_thinksOf_114 (fun h_114 => ?_) (fun h_114 => ?_)
              · refine x_iconst 2 dX10_thinksOf_122 ?_
                refine x_iload dX10_thinksOf_123 rfl ?_
                refine x_imul dX10_thinksOf_125 ?_
                refine x_goto 147 dX10_thinksOf_126 ?_
                refine x_bipush (-99) dX10_thinksOf_147 ?_
                refine x_bipush 99 dX10_thinksOf_149 ?_
                refine ii_X10_359 dX10_thinksOf_151 c_X10_within (by decide) (Nat.le_of_ble_eq_true rfl) ?_
                exact Ex.ret (v := some (.int _)) ⟨dX10_thinksOf_154, _, rfl, by first | rfl | decide⟩ ⟨_, congrArg (fun z => some (Value.int z)) (congrArg (fun z => clp (-99) z 99) ((show _ = thV (ki p) (clp (-99) (τ r 0 (nmH (mO (ru, ou, we, me, ki, ro, ma)) p h)) 99) (ou 0) (ro (2 * p)) from by rw [thV, if_neg h_76, if_neg h_86, if_pos (Or.inl h_114)]).trans (th_v (fun z => h_19 z.1) (fun _ => h_47)))), rfl⟩
              · refine x_iload_n dX10_thinksOf_117 rfl ?_
                refine x_iconst 4 dX10_thinksOf_118 ?_
                refine x_icmp_ne 129 dX10_thinksOf_119 (fun h_119 => ?_) (fun h_119 => ?_)
                · refine x_iload_n dX10_thinksOf_129 rfl ?_
                  refine x_iconst 5 dX10_thinksOf_130 ?_
                  refine x_icmp_ne 145 dX10_thinksOf_131 (fun h_131 => ?_) (fun h_131 => ?_)
                  · refine x_iload dX10_thinksOf_145 rfl ?_
                    refine x_bipush (-99) dX10_thinksOf_147 ?_
                    refine x_bipush 99 dX10_thinksOf_149 ?_
                    refine ii_X10_359 dX10_thinksOf_151 c_X10_within (by decide) (Nat.le_of_ble_eq_true rfl) ?_
                    exact Ex.ret (v := some (.int _)) ⟨dX10_thinksOf_154, _, rfl, by first | rfl | decide⟩ ⟨_, congrArg (fun z => some (Value.int z)) (congrArg (fun z => clp (-99) z 99) ((show _ = thV (ki p) (clp (-99) (τ r 0 (nmH (mO (ru, ou, we, me, ki, ro, ma)) p h)) 99) (ou 0) (ro (2 * p)) from by rw [thV, if_neg h_76, if_neg h_86, if_neg (fun z => z.elim h_114 h_119), if_neg (fun z => h_131 z.1)]).trans (th_v (fun z => h_19 z.1) (fun _ => h_47)))), rfl⟩
                  · refine x_iload dX10_thinksOf_134 rfl ?_
                    refine x_if_ge 145 dX10_thinksOf_136 (fun h_136 => ?_) (fun h_136 => ?_)
                    · refine x_iload dX10_thinksOf_145 rfl ?_
                      refine x_bipush (-99) dX10_thinksOf_147 ?_
                      refine x_bipush 99 dX10_thinksOf_149 ?_
                      refine ii_X10_359 dX10_thinksOf_151 c_X10_within (by decide) (Nat.le_of_ble_eq_true rfl) ?_
                      exact Ex.ret (v := some (.int _)) ⟨dX10_thinksOf_154, _, rfl, by first | rfl | decide⟩ ⟨_, congrArg (fun z => some (Value.int z)) (congrArg (fun z => clp (-99) z 99) ((show _ = thV (ki p) (clp (-99) (τ r 0 (nmH (mO (ru, ou, we, me, ki, ro, ma)) p h)) 99) (ou 0) (ro (2 * p)) from by rw [thV, if_neg h_76, if_neg h_86, if_neg (fun z => z.elim h_114 h_119), if_neg (fun z => Int32.not_lt.mpr h_136 z.2)]).trans (th_v (fun z => h_19 z.1) (fun _ => h_47)))), rfl⟩
                    · refine x_iload dX10_thinksOf_139 rfl ?_
                      refine x_ineg dX10_thinksOf_141 ?_
                      refine x_goto 147 dX10_thinksOf_142 ?_
                      refine x_bipush (-99) dX10_thinksOf_147 ?_
                      refine x_bipush 99 dX10_thinksOf_149 ?_
                      refine ii_X10_359 dX10_thinksOf_151 c_X10_within (by decide) (Nat.le_of_ble_eq_true rfl) ?_
                      exact Ex.ret (v := some (.int _)) ⟨dX10_thinksOf_154, _, rfl, by first | rfl | decide⟩ ⟨_, congrArg (fun z => some (Value.int z)) (congrArg (fun z => clp (-99) z 99) ((show _ = thV (ki p) (clp (-99) (τ r 0 (nmH (mO (ru, ou, we, me, ki, ro, ma)) p h)) 99) (ou 0) (ro (2 * p)) from by rw [thV, if_neg h_76, if_neg h_86, if_neg (fun z => z.elim h_114 h_119), if_pos ⟨h_131, Int32.not_le.mp h_136⟩]).trans (th_v (fun z => h_19 z.1) (fun _ => h_47)))), rfl⟩
                · refine x_iconst 2 dX10_thinksOf_122 ?_
                  refine x_iload dX10_thinksOf_123 rfl ?_
                  refine x_imul dX10_thinksOf_125 ?_
                  refine x_goto 147 dX10_thinksOf_126 ?_
                  refine x_bipush (-99) dX10_thinksOf_147 ?_
                  refine x_bipush 99 dX10_thinksOf_149 ?_
                  refine ii_X10_359 dX10_thinksOf_151 c_X10_within (by decide) (Nat.le_of_ble_eq_true rfl) ?_
                  exact Ex.ret (v := some (.int _)) ⟨dX10_thinksOf_154, _, rfl, by first | rfl | decide⟩ ⟨_, congrArg (fun z => some (Value.int z)) (congrArg (fun z => clp (-99) z 99) ((show _ = thV (ki p) (clp (-99) (τ r 0 (nmH (mO (ru, ou, we, me, ki, ro, ma)) p h)) 99) (ou 0) (ro (2 * p)) from by rw [thV, if_neg h_76, if_neg h_86, if_pos (Or.inr h_119)]).trans (th_v (fun z => h_19 z.1) (fun _ => h_47)))), rfl⟩
            · refine x_aload_n dX10_thinksOf_89 rfl ?_
              refine mg_23 dX10_thinksOf_90 ?_
              refine x_iconst 0 dX10_thinksOf_93 ?_
              refine maK_46 0 dX10_thinksOf_94 rfl (by decide) ?_
              refine x_iload dX10_thinksOf_95 rfl ?_
              refine x_icmp_ge 107 dX10_thinksOf_97 (fun h_97 => ?_) (fun h_97 => ?_)
              · refine x_iload dX10_thinksOf_107 rfl ?_
                refine x_goto 147 dX10_thinksOf_109 ?_
                refine x_bipush (-99) dX10_thinksOf_147 ?_
                refine x_bipush 99 dX10_thinksOf_149 ?_
                refine ii_X10_359 dX10_thinksOf_151 c_X10_within (by decide) (Nat.le_of_ble_eq_true rfl) ?_
                exact Ex.ret (v := some (.int _)) ⟨dX10_thinksOf_154, _, rfl, by first | rfl | decide⟩ ⟨_, congrArg (fun z => some (Value.int z)) (congrArg (fun z => clp (-99) z 99) ((show _ = thV (ki p) (clp (-99) (τ r 0 (nmH (mO (ru, ou, we, me, ki, ro, ma)) p h)) 99) (ou 0) (ro (2 * p)) from by rw [thV, if_neg h_76, if_pos h_86]; rw [if_neg (Int32.not_lt.mpr h_97)]; rw [if_neg (Int32.not_lt.mpr h_63)]).trans (th_v (fun z => h_19 z.1) (fun _ => h_47)))), rfl⟩
              · refine x_iload dX10_thinksOf_100 rfl ?_
                refine x_iconst 5 dX10_thinksOf_102 ?_
                refine x_isub dX10_thinksOf_103 ?_
                refine x_goto 147 dX10_thinksOf_104 ?_
                refine x_bipush (-99) dX10_thinksOf_147 ?_
                refine x_bipush 99 dX10_thinksOf_149 ?_
                refine ii_X10_359 dX10_thinksOf_151 c_X10_within (by decide) (Nat.le_of_ble_eq_true rfl) ?_
                exact Ex.ret (v := some (.int _)) ⟨dX10_thinksOf_154, _, rfl, by first | rfl | decide⟩ ⟨_, congrArg (fun z => some (Value.int z)) (congrArg (fun z => clp (-99) z 99) ((show _ = thV (ki p) (clp (-99) (τ r 0 (nmH (mO (ru, ou, we, me, ki, ro, ma)) p h)) 99) (ou 0) (ro (2 * p)) from by rw [thV, if_neg h_76, if_pos h_86]; rw [if_pos (Int32.not_le.mp h_97)]; rw [if_neg (Int32.not_lt.mpr h_63)]).trans (th_v (fun z => h_19 z.1) (fun _ => h_47)))), rfl⟩
          · refine x_iload dX10_thinksOf_79 rfl ?_
            refine x_goto 147 dX10_thinksOf_81 ?_
            refine x_bipush (-99) dX10_thinksOf_147 ?_
            refine x_bipush 99 dX10_thinksOf_149 ?_
            refine ii_X10_359 dX10_thinksOf_151 c_X10_within (by decide) (Nat.le_of_ble_eq_true rfl) ?_
            exact Ex.ret (v := some (.int _)) ⟨dX10_thinksOf_154, _, rfl, by first | rfl | decide⟩ ⟨_, congrArg (fun z => some (Value.int z)) (congrArg (fun z => clp (-99) z 99) ((show _ = thV (ki p) (clp (-99) (τ r 0 (nmH (mO (ru, ou, we, me, ki, ro, ma)) p h)) 99) (ou 0) (ro (2 * p)) from by rw [thV, if_pos h_76]; rw [if_neg (Int32.not_lt.mpr h_63)]).trans (th_v (fun z => h_19 z.1) (fun _ => h_47)))), rfl⟩
        · refine x_iconst 0 dX10_thinksOf_66 ?_
          refine x_goto 72 dX10_thinksOf_67 ?_
          refine x_istore dX10_thinksOf_72 (by decide) ?_
          refine x_iload_n dX10_thinksOf_74 rfl ?_
          refine x_iconst 1 dX10_thinksOf_75 ?_
          refine x_icmp_ne 84 dX10_thinksOf_76 (fun h_76 => ?_) (fun h_76 => ?_)
          · refine x_iload_n dX10_thinksOf_84 rfl ?_
            refine x_iconst 3 dX10_thinksOf_85 ?_
            refine x_icmp_ne 112 dX10_thinksOf_86 (fun h_86 => ?_) (fun h_86 => ?_)
            · refine x_iload_n dX10_thinksOf_112 rfl ?_
              refine x_iconst 2 dX10_thinksOf_113 ?_
              refine x_icmp_eq 122 dX10_thinksOf_114 (fun h_114 => ?_) (fun h_114 => ?_)
              · refine x_iconst 2 dX10_thinksOf_122 ?_
                refine x_iload dX10_thinksOf_123 rfl ?_
                refine x_imul dX10_thinksOf_125 ?_
                refine x_goto 147 dX10_thinksOf_126 ?_
                refine x_bipush (-99) dX10_thinksOf_147 ?_
                refine x_bipush 99 dX10_thinksOf_149 ?_
                refine ii_X10_359 dX10_thinksOf_151 c_X10_within (by decide) (Nat.le_of_ble_eq_true rfl) ?_
                exact Ex.ret (v := some (.int _)) ⟨dX10_thinksOf_154, _, rfl, by first | rfl | decide⟩ ⟨_, congrArg (fun z => some (Value.int z)) (congrArg (fun z => clp (-99) z 99) ((show _ = thV (ki p) (clp (-99) (τ r 0 (nmH (mO (ru, ou, we, me, ki, ro, ma)) p h)) 99) (ou 0) (ro (2 * p)) from by rw [thV, if_neg h_76, if_neg h_86, if_pos (Or.inl h_114)]).trans (th_v (fun z => h_19 z.1) (fun _ => h_47)))), rfl⟩
              · refine x_iload_n dX10_thinksOf_117 rfl ?_
                refine x_iconst 4 dX10_thinksOf_118 ?_
                refine x_icmp_ne 129 dX10_thinksOf_119 (fun h_119 => ?_) (fun h_119 => ?_)
                · refine x_iload_n dX10_thinksOf_129 rfl ?_
                  refine x_iconst 5 dX10_thinksOf_130 ?_
                  refine x_icmp_ne 145 dX10_thinksOf_131 (fun h_131 => ?_) (fun h_131 => ?_)
                  · refine x_iload dX10_thinksOf_145 rfl ?_
                    refine x_bipush (-99) dX10_thinksOf_147 ?_
                    refine x_bipush 99 dX10_thinksOf_149 ?_
                    refine ii_X10_359 dX10_thinksOf_151 c_X10_within (by decide) (Nat.le_of_ble_eq_true rfl) ?_
                    exact Ex.ret (v := some (.int _)) ⟨dX10_thinksOf_154, _, rfl, by first | rfl | decide⟩ ⟨_, congrArg (fun z => some (Value.int z)) (congrArg (fun z => clp (-99) z 99) ((show _ = thV (ki p) (clp (-99) (τ r 0 (nmH (mO (ru, ou, we, me, ki, ro, ma)) p h)) 99) (ou 0) (ro (2 * p)) from by rw [thV, if_neg h_76, if_neg h_86, if_neg (fun z => z.elim h_114 h_119), if_neg (fun z => h_131 z.1)]).trans (th_v (fun z => h_19 z.1) (fun _ => h_47)))), rfl⟩
                  · refine x_iload dX10_thinksOf_134 rfl ?_
                    refine x_if_ge 145 dX10_thinksOf_136 (fun h_136 => ?_) (fun h_136 => ?_)
                    · refine x_iload dX10_thinksOf_145 rfl ?_
                      refine x_bipush (-99) dX10_thinksOf_147 ?_
                      refine x_bipush 99 dX10_thinksOf_149 ?_
                      refine ii_X10_359 dX10_thinksOf_151 c_X10_within (by decide) (Nat.le_of_ble_eq_true rfl) ?_
                      exact Ex.ret (v := some (.int _)) ⟨dX10_thinksOf_154, _, rfl, by first | rfl | decide⟩ ⟨_, congrArg (fun z => some (Value.int z)) (congrArg (fun z => clp (-99) z 99) ((show _ = thV (ki p) (clp (-99) (τ r 0 (nmH (mO (ru, ou, we, me, ki, ro, ma)) p h)) 99) (ou 0) (ro (2 * p)) from by rw [thV, if_neg h_76, if_neg h_86, if_neg (fun z => z.elim h_114 h_119), if_neg (fun z => Int32.not_lt.mpr h_136 z.2)]).trans (th_v (fun z => h_19 z.1) (fun _ => h_47)))), rfl⟩
                    · refine x_iload dX10_thinksOf_139 rfl ?_
                      refine x_ineg dX10_thinksOf_141 ?_
                      refine x_goto 147 dX10_thinksOf_142 ?_
                      refine x_bipush (-99) dX10_thinksOf_147 ?_
                      refine x_bipush 99 dX10_thinksOf_149 ?_
                      refine ii_X10_359 dX10_thinksOf_151 c_X10_within (by decide) (Nat.le_of_ble_eq_true rfl) ?_
                      exact Ex.ret (v := some (.int _)) ⟨dX10_thinksOf_154, _, rfl, by first | rfl | decide⟩ ⟨_, congrArg (fun z => some (Value.int z)) (congrArg (fun z => clp (-99) z 99) ((show _ = thV (ki p) (clp (-99) (τ r 0 (nmH (mO (ru, ou, we, me, ki, ro, ma)) p h)) 99) (ou 0) (ro (2 * p)) from by rw [thV, if_neg h_76, if_neg h_86, if_neg (fun z => z.elim h_114 h_119), if_pos ⟨h_131, Int32.not_le.mp h_136⟩]).trans (th_v (fun z => h_19 z.1) (fun _ => h_47)))), rfl⟩
                · refine x_iconst 2 dX10_thinksOf_122 ?_
                  refine x_iload dX10_thinksOf_123 rfl ?_
                  refine x_imul dX10_thinksOf_125 ?_
                  refine x_goto 147 dX10_thinksOf_126 ?_
                  refine x_bipush (-99) dX10_thinksOf_147 ?_
                  refine x_bipush 99 dX10_thinksOf_149 ?_
                  refine ii_X10_359 dX10_thinksOf_151 c_X10_within (by decide) (Nat.le_of_ble_eq_true rfl) ?_
                  exact Ex.ret (v := some (.int _)) ⟨dX10_thinksOf_154, _, rfl, by first | rfl | decide⟩ ⟨_, congrArg (fun z => some (Value.int z)) (congrArg (fun z => clp (-99) z 99) ((show _ = thV (ki p) (clp (-99) (τ r 0 (nmH (mO (ru, ou, we, me, ki, ro, ma)) p h)) 99) (ou 0) (ro (2 * p)) from by rw [thV, if_neg h_76, if_neg h_86, if_pos (Or.inr h_119)]).trans (th_v (fun z => h_19 z.1) (fun _ => h_47)))), rfl⟩
            · refine x_aload_n dX10_thinksOf_89 rfl ?_
              refine mg_23 dX10_thinksOf_90 ?_
              refine x_iconst 0 dX10_thinksOf_93 ?_
              refine maK_46 0 dX10_thinksOf_94 rfl (by decide) ?_
              refine x_iload dX10_thinksOf_95 rfl ?_
              refine x_icmp_ge 107 dX10_thinksOf_97 (fun h_97 => ?_) (fun h_97 => ?_)
              · refine x_iload dX10_thinksOf_107 rfl ?_
                refine x_goto 147 dX10_thinksOf_109 ?_
                refine x_bipush (-99) dX10_thinksOf_147 ?_
                refine x_bipush 99 dX10_thinksOf_149 ?_
                refine ii_X10_359 dX10_thinksOf_151 c_X10_within (by decide) (Nat.le_of_ble_eq_true rfl) ?_
                exact Ex.ret (v := some (.int _)) ⟨dX10_thinksOf_154, _, rfl, by first | rfl | decide⟩ ⟨_, congrArg (fun z => some (Value.int z)) (congrArg (fun z => clp (-99) z 99) ((show _ = thV (ki p) (clp (-99) (τ r 0 (nmH (mO (ru, ou, we, me, ki, ro, ma)) p h)) 99) (ou 0) (ro (2 * p)) from by rw [thV, if_neg h_76, if_pos h_86]; rw [if_neg (Int32.not_lt.mpr h_97)]; rw [if_pos (Int32.not_le.mp h_63)]).trans (th_v (fun z => h_19 z.1) (fun _ => h_47)))), rfl⟩
              · refine x_iload dX10_thinksOf_100 rfl ?_
                refine x_iconst 5 dX10_thinksOf_102 ?_
                refine x_isub dX10_thinksOf_103 ?_
                refine x_goto 147 dX10_thinksOf_104 ?_
                refine x_bipush (-99) dX10_thinksOf_147 ?_
                refine x_bipush 99 dX10_thinksOf_149 ?_
                refine ii_X10_359 dX10_thinksOf_151 c_X10_within (by decide) (Nat.le_of_ble_eq_true rfl) ?_
                exact Ex.ret (v := some (.int _)) ⟨dX10_thinksOf_154, _, rfl, by first | rfl | decide⟩ ⟨_, congrArg (fun z => some (Value.int z)) (congrArg (fun z => clp (-99) z 99) ((show _ = thV (ki p) (clp (-99) (τ r 0 (nmH (mO (ru, ou, we, me, ki, ro, ma)) p h)) 99) (ou 0) (ro (2 * p)) from by rw [thV, if_neg h_76, if_pos h_86]; rw [if_pos (Int32.not_le.mp h_97)]; rw [if_pos (Int32.not_le.mp h_63)]).trans (th_v (fun z => h_19 z.1) (fun _ => h_47)))), rfl⟩
          · refine x_iload dX10_thinksOf_79 rfl ?_
            refine x_goto 147 dX10_thinksOf_81 ?_
            refine x_bipush (-99) dX10_thinksOf_147 ?_
            refine x_bipush 99 dX10_thinksOf_149 ?_
            refine ii_X10_359 dX10_thinksOf_151 c_X10_within (by decide) (Nat.le_of_ble_eq_true rfl) ?_
            exact Ex.ret (v := some (.int _)) ⟨dX10_thinksOf_154, _, rfl, by first | rfl | decide⟩ ⟨_, congrArg (fun z => some (Value.int z)) (congrArg (fun z => clp (-99) z 99) ((show _ = thV (ki p) (clp (-99) (τ r 0 (nmH (mO (ru, ou, we, me, ki, ro, ma)) p h)) 99) (ou 0) (ro (2 * p)) from by rw [thV, if_pos h_76]; rw [if_pos (Int32.not_le.mp h_63)]).trans (th_v (fun z => h_19 z.1) (fun _ => h_47)))), rfl⟩
      · refine x_iconst 0 dX10_thinksOf_50 ?_
        exact Ex.ret (v := some (.int _)) ⟨dX10_thinksOf_51, _, rfl, by first | rfl | decide⟩ ⟨_, congrArg (fun z => some (Value.int z)) (th_0 (Or.inl h_33) (fun z => h_19 z.1) h_47), rfl⟩
    · refine x_iload_n dX10_thinksOf_36 rfl ?_
      refine x_iconst 4 dX10_thinksOf_37 ?_
      refine x_icmp_ne 52 dX10_thinksOf_38 (fun h_38 => ?_) (fun h_38 => ?_)
      · refine x_aload_n dX10_thinksOf_52 rfl ?_
        refine x_iconst 0 dX10_thinksOf_53 ?_
        refine x_iload_n dX10_thinksOf_54 rfl ?_
        refine x_iload_n dX10_thinksOf_55 rfl ?_
        refine iv_X10_363 dX10_thinksOf_56 (c_X10_asks_h (wh := 0) (lo := -99) hX hru hp hh (by decide) rfl) mw_o (by decide) (Nat.le_of_ble_eq_true rfl) (fun v_56 w_56 hw_56 => ?_)
        obtain ⟨Λ1, rfl, rfl⟩ := hw_56
        refine x_istore dX10_thinksOf_59 (by decide) ?_
        refine x_iload dX10_thinksOf_61 rfl ?_
        refine x_if_ge 70 dX10_thinksOf_63 (fun h_63 => ?_) (fun h_63 => ?_)
        · refine x_iload dX10_thinksOf_70 rfl ?_
          refine x_istore dX10_thinksOf_72 (by decide) ?_
          refine x_iload_n dX10_thinksOf_74 rfl ?_
          refine x_iconst 1 dX10_thinksOf_75 ?_
          refine x_icmp_ne 84 dX10_thinksOf_76 (fun h_76 => ?_) (fun h_76 => ?_)
          · refine x_iload_n dX10_thinksOf_84 rfl ?_
            refine x_iconst 3 dX10_thinksOf_85 ?_
            refine x_icmp_ne 112 dX10_thinksOf_86 (fun h_86 => ?_) (fun h_86 => ?_)
            · refine x_iload_n dX10_thinksOf_112 rfl ?_
              refine x_iconst 2 dX10_thinksOf_113 ?_
              refine x_icmp_eq 122 dX10_thinksOf_114 (fun h_114 => ?_) (fun h_114 => ?_)
              · refine x_iconst 2 dX10_thinksOf_122 ?_
                refine x_iload dX10_thinksOf_123 rfl ?_
                refine x_imul dX10_thinksOf_125 ?_
                refine x_goto 147 dX10_thinksOf_126 ?_
                refine x_bipush (-99) dX10_thinksOf_147 ?_
                refine x_bipush 99 dX10_thinksOf_149 ?_
                refine ii_X10_359 dX10_thinksOf_151 c_X10_within (by decide) (Nat.le_of_ble_eq_true rfl) ?_
                exact Ex.ret (v := some (.int _)) ⟨dX10_thinksOf_154, _, rfl, by first | rfl | decide⟩ ⟨_, congrArg (fun z => some (Value.int z)) (congrArg (fun z => clp (-99) z 99) ((show _ = thV (ki p) (clp (-99) (τ r 0 (nmH (mO (ru, ou, we, me, ki, ro, ma)) p h)) 99) (ou 0) (ro (2 * p)) from by rw [thV, if_neg h_76, if_neg h_86, if_pos (Or.inl h_114)]).trans (th_v (fun z => h_19 z.1) (fun z => absurd z (fun y => y.elim h_33 h_38))))), rfl⟩
              · refine x_iload_n dX10_thinksOf_117 rfl ?_
                refine x_iconst 4 dX10_thinksOf_118 ?_
                refine x_icmp_ne 129 dX10_thinksOf_119 (fun h_119 => ?_) (fun h_119 => ?_)
                · refine x_iload_n dX10_thinksOf_129 rfl ?_
                  refine x_iconst 5 dX10_thinksOf_130 ?_
                  refine x_icmp_ne 145 dX10_thinksOf_131 (fun h_131 => ?_) (fun h_131 => ?_)
                  · refine x_iload dX10_thinksOf_145 rfl ?_
                    refine x_bipush (-99) dX10_thinksOf_147 ?_
                    refine x_bipush 99 dX10_thinksOf_149 ?_
                    refine ii_X10_359 dX10_thinksOf_151 c_X10_within (by decide) (Nat.le_of_ble_eq_true rfl) ?_
                    exact Ex.ret (v := some (.int _)) ⟨dX10_thinksOf_154, _, rfl, by first | rfl | decide⟩ ⟨_, congrArg (fun z => some (Value.int z)) (congrArg (fun z => clp (-99) z 99) ((show _ = thV (ki p) (clp (-99) (τ r 0 (nmH (mO (ru, ou, we, me, ki, ro, ma)) p h)) 99) (ou 0) (ro (2 * p)) from by rw [thV, if_neg h_76, if_neg h_86, if_neg (fun z => z.elim h_114 h_119), if_neg (fun z => h_131 z.1)]).trans (th_v (fun z => h_19 z.1) (fun z => absurd z (fun y => y.elim h_33 h_38))))), rfl⟩
                  · refine x_iload dX10_thinksOf_134 rfl ?_
                    refine x_if_ge 145 dX10_thinksOf_136 (fun h_136 => ?_) (fun h_136 => ?_)
                    · refine x_iload dX10_thinksOf_145 rfl ?_
                      refine x_bipush (-99) dX10_thinksOf_147 ?_
                      refine x_bipush 99 dX10_thinksOf_149 ?_
                      refine ii_X10_359 dX10_thinksOf_151 c_X10_within (by decide) (Nat.le_of_ble_eq_true rfl) ?_
                      exact Ex.ret (v := some (.int _)) ⟨dX10_thinksOf_154, _, rfl, by first | rfl | decide⟩ ⟨_, congrArg (fun z => some (Value.int z)) (congrArg (fun z => clp (-99) z 99) ((show _ = thV (ki p) (clp (-99) (τ r 0 (nmH (mO (ru, ou, we, me, ki, ro, ma)) p h)) 99) (ou 0) (ro (2 * p)) from by rw [thV, if_neg h_76, if_neg h_86, if_neg (fun z => z.elim h_114 h_119), if_neg (fun z => Int32.not_lt.mpr h_136 z.2)]).trans (th_v (fun z => h_19 z.1) (fun z => absurd z (fun y => y.elim h_33 h_38))))), rfl⟩
                    · refine x_iload dX10_thinksOf_139 rfl ?_
                      refine x_ineg dX10_thinksOf_141 ?_
                      refine x_goto 147 dX10_thinksOf_142 ?_
                      refine x_bipush (-99) dX10_thinksOf_147 ?_
                      refine x_bipush 99 dX10_thinksOf_149 ?_
                      refine ii_X10_359 dX10_thinksOf_151 c_X10_within (by decide) (Nat.le_of_ble_eq_true rfl) ?_
                      exact Ex.ret (v := some (.int _)) ⟨dX10_thinksOf_154, _, rfl, by first | rfl | decide⟩ ⟨_, congrArg (fun z => some (Value.int z)) (congrArg (fun z => clp (-99) z 99) ((show _ = thV (ki p) (clp (-99) (τ r 0 (nmH (mO (ru, ou, we, me, ki, ro, ma)) p h)) 99) (ou 0) (ro (2 * p)) from by rw [thV, if_neg h_76, if_neg h_86, if_neg (fun z => z.elim h_114 h_119), if_pos ⟨h_131, Int32.not_le.mp h_136⟩]).trans (th_v (fun z => h_19 z.1) (fun z => absurd z (fun y => y.elim h_33 h_38))))), rfl⟩
                · refine x_iconst 2 dX10_thinksOf_122 ?_
                  refine x_iload dX10_thinksOf_123 rfl ?_
                  refine x_imul dX10_thinksOf_125 ?_
                  refine x_goto 147 dX10_thinksOf_126 ?_
                  refine x_bipush (-99) dX10_thinksOf_147 ?_
                  refine x_bipush 99 dX10_thinksOf_149 ?_
                  refine ii_X10_359 dX10_thinksOf_151 c_X10_within (by decide) (Nat.le_of_ble_eq_true rfl) ?_
                  exact Ex.ret (v := some (.int _)) ⟨dX10_thinksOf_154, _, rfl, by first | rfl | decide⟩ ⟨_, congrArg (fun z => some (Value.int z)) (congrArg (fun z => clp (-99) z 99) ((show _ = thV (ki p) (clp (-99) (τ r 0 (nmH (mO (ru, ou, we, me, ki, ro, ma)) p h)) 99) (ou 0) (ro (2 * p)) from by rw [thV, if_neg h_76, if_neg h_86, if_pos (Or.inr h_119)]).trans (th_v (fun z => h_19 z.1) (fun z => absurd z (fun y => y.elim h_33 h_38))))), rfl⟩
            · refine x_aload_n dX10_thinksOf_89 rfl ?_
              refine mg_23 dX10_thinksOf_90 ?_
              refine x_iconst 0 dX10_thinksOf_93 ?_
              refine maK_46 0 dX10_thinksOf_94 rfl (by decide) ?_
              refine x_iload dX10_thinksOf_95 rfl ?_
              refine x_icmp_ge 107 dX10_thinksOf_97 (fun h_97 => ?_) (fun h_97 => ?_)
              · refine x_iload dX10_thinksOf_107 rfl ?_
                refine x_goto 147 dX10_thinksOf_109 ?_
                refine x_bipush (-99) dX10_thinksOf_147 ?_
                refine x_bipush 99 dX10_thinksOf_149 ?_
                refine ii_X10_359 dX10_thinksOf_151 c_X10_within (by decide) (Nat.le_of_ble_eq_true rfl) ?_
                exact Ex.ret (v := some (.int _)) ⟨dX10_thinksOf_154, _, rfl, by first | rfl | decide⟩ ⟨_, congrArg (fun z => some (Value.int z)) (congrArg (fun z => clp (-99) z 99) ((show _ = thV (ki p) (clp (-99) (τ r 0 (nmH (mO (ru, ou, we, me, ki, ro, ma)) p h)) 99) (ou 0) (ro (2 * p)) from by rw [thV, if_neg h_76, if_pos h_86]; rw [if_neg (Int32.not_lt.mpr h_97)]; rw [if_neg (Int32.not_lt.mpr h_63)]).trans (th_v (fun z => h_19 z.1) (fun z => absurd z (fun y => y.elim h_33 h_38))))), rfl⟩
              · refine x_iload dX10_thinksOf_100 rfl ?_
                refine x_iconst 5 dX10_thinksOf_102 ?_
                refine x_isub dX10_thinksOf_103 ?_
                refine x_goto 147 dX10_thinksOf_104 ?_
                refine x_bipush (-99) dX10_thinksOf_147 ?_
                refine x_bipush 99 dX10_thinksOf_149 ?_
                refine ii_X10_359 dX10_thinksOf_151 c_X10_within (by decide) (Nat.le_of_ble_eq_true rfl) ?_
                exact Ex.ret (v := some (.int _)) ⟨dX10_thinksOf_154, _, rfl, by first | rfl | decide⟩ ⟨_, congrArg (fun z => some (Value.int z)) (congrArg (fun z => clp (-99) z 99) ((show _ = thV (ki p) (clp (-99) (τ r 0 (nmH (mO (ru, ou, we, me, ki, ro, ma)) p h)) 99) (ou 0) (ro (2 * p)) from by rw [thV, if_neg h_76, if_pos h_86]; rw [if_pos (Int32.not_le.mp h_97)]; rw [if_neg (Int32.not_lt.mpr h_63)]).trans (th_v (fun z => h_19 z.1) (fun z => absurd z (fun y => y.elim h_33 h_38))))), rfl⟩
          · refine x_iload dX10_thinksOf_79 rfl ?_
            refine x_goto 147 dX10_thinksOf_81 ?_
            refine x_bipush (-99) dX10_thinksOf_147 ?_
            refine x_bipush 99 dX10_thinksOf_149 ?_
            refine ii_X10_359 dX10_thinksOf_151 c_X10_within (by decide) (Nat.le_of_ble_eq_true rfl) ?_
            exact Ex.ret (v := some (.int _)) ⟨dX10_thinksOf_154, _, rfl, by first | rfl | decide⟩ ⟨_, congrArg (fun z => some (Value.int z)) (congrArg (fun z => clp (-99) z 99) ((show _ = thV (ki p) (clp (-99) (τ r 0 (nmH (mO (ru, ou, we, me, ki, ro, ma)) p h)) 99) (ou 0) (ro (2 * p)) from by rw [thV, if_pos h_76]; rw [if_neg (Int32.not_lt.mpr h_63)]).trans (th_v (fun z => h_19 z.1) (fun z => absurd z (fun y => y.elim h_33 h_38))))), rfl⟩
        · refine x_iconst 0 dX10_thinksOf_66 ?_
          refine x_goto 72 dX10_thinksOf_67 ?_
          refine x_istore dX10_thinksOf_72 (by decide) ?_
          refine x_iload_n dX10_thinksOf_74 rfl ?_
          refine x_iconst 1 dX10_thinksOf_75 ?_
          refine x_icmp_ne 84 dX10_thinksOf_76 (fun h_76 => ?_) (fun h_76 => ?_)
          · refine x_iload_n dX10_thinksOf_84 rfl ?_
            refine x_iconst 3 dX10_thinksOf_85 ?_
            refine x_icmp_ne 112 dX10_thinksOf_86 (fun h_86 => ?_) (fun h_86 => ?_)
            · refine x_iload_n dX10_thinksOf_112 rfl ?_
              refine x_iconst 2 dX10_thinksOf_113 ?_
              refine x_icmp_eq 122 dX10_thinksOf_114 (fun h_114 => ?_) (fun h_114 => ?_)
              · refine x_iconst 2 dX10_thinksOf_122 ?_
                refine x_iload dX10_thinksOf_123 rfl ?_
                refine x_imul dX10_thinksOf_125 ?_
                refine x_goto 147 dX10_thinksOf_126 ?_
                refine x_bipush (-99) dX10_thinksOf_147 ?_
                refine x_bipush 99 dX10_thinksOf_149 ?_
                refine ii_X10_359 dX10_thinksOf_151 c_X10_within (by decide) (Nat.le_of_ble_eq_true rfl) ?_
                exact Ex.ret (v := some (.int _)) ⟨dX10_thinksOf_154, _, rfl, by first | rfl | decide⟩ ⟨_, congrArg (fun z => some (Value.int z)) (congrArg (fun z => clp (-99) z 99) ((show _ = thV (ki p) (clp (-99) (τ r 0 (nmH (mO (ru, ou, we, me, ki, ro, ma)) p h)) 99) (ou 0) (ro (2 * p)) from by rw [thV, if_neg h_76, if_neg h_86, if_pos (Or.inl h_114)]).trans (th_v (fun z => h_19 z.1) (fun z => absurd z (fun y => y.elim h_33 h_38))))), rfl⟩
              · refine x_iload_n dX10_thinksOf_117 rfl ?_
                refine x_iconst 4 dX10_thinksOf_118 ?_
                refine x_icmp_ne 129 dX10_thinksOf_119 (fun h_119 => ?_) (fun h_119 => ?_)
                · refine x_iload_n dX10_thinksOf_129 rfl ?_
                  refine x_iconst 5 dX10_thinksOf_130 ?_
                  refine x_icmp_ne 145 dX10_thinksOf_131 (fun h_131 => ?_) (fun h_131 => ?_)
                  · refine x_iload dX10_thinksOf_145 rfl ?_
                    refine x_bipush (-99) dX10_thinksOf_147 ?_
                    refine x_bipush 99 dX10_thinksOf_149 ?_
                    refine ii_X10_359 dX10_thinksOf_151 c_X10_within (by decide) (Nat.le_of_ble_eq_true rfl) ?_
                    exact Ex.ret (v := some (.int _)) ⟨dX10_thinksOf_154, _, rfl, by first | rfl | decide⟩ ⟨_, congrArg (fun z => some (Value.int z)) (congrArg (fun z => clp (-99) z 99) ((show _ = thV (ki p) (clp (-99) (τ r 0 (nmH (mO (ru, ou, we, me, ki, ro, ma)) p h)) 99) (ou 0) (ro (2 * p)) from by rw [thV, if_neg h_76, if_neg h_86, if_neg (fun z => z.elim h_114 h_119), if_neg (fun z => h_131 z.1)]).trans (th_v (fun z => h_19 z.1) (fun z => absurd z (fun y => y.elim h_33 h_38))))), rfl⟩
                  · refine x_iload dX10_thinksOf_134 rfl ?_
                    refine x_if_ge 145 dX10_thinksOf_136 (fun h_136 => ?_) (fun h_136 => ?_)
                    · refine x_iload dX10_thinksOf_145 rfl ?_
                      refine x_bipush (-99) dX10_thinksOf_147 ?_
                      refine x_bipush 99 dX10_thinksOf_149 ?_
                      refine ii_X10_359 dX10_thinksOf_151 c_X10_within (by decide) (Nat.le_of_ble_eq_true rfl) ?_
                      exact Ex.ret (v := some (.int _)) ⟨dX10_thinksOf_154, _, rfl, by first | rfl | decide⟩ ⟨_, congrArg (fun z => some (Value.int z)) (congrArg (fun z => clp (-99) z 99) ((show _ = thV (ki p) (clp (-99) (τ r 0 (nmH (mO (ru, ou, we, me, ki, ro, ma)) p h)) 99) (ou 0) (ro (2 * p)) from by rw [thV, if_neg h_76, if_neg h_86, if_neg (fun z => z.elim h_114 h_119), if_neg (fun z => Int32.not_lt.mpr h_136 z.2)]).trans (th_v (fun z => h_19 z.1) (fun z => absurd z (fun y => y.elim h_33 h_38))))), rfl⟩
                    · refine x_iload dX10_thinksOf_139 rfl ?_
                      refine x_ineg dX10_thinksOf_141 ?_
                      refine x_goto 147 dX10_thinksOf_142 ?_
                      refine x_bipush (-99) dX10_thinksOf_147 ?_
                      refine x_bipush 99 dX10_thinksOf_149 ?_
                      refine ii_X10_359 dX10_thinksOf_151 c_X10_within (by decide) (Nat.le_of_ble_eq_true rfl) ?_
                      exact Ex.ret (v := some (.int _)) ⟨dX10_thinksOf_154, _, rfl, by first | rfl | decide⟩ ⟨_, congrArg (fun z => some (Value.int z)) (congrArg (fun z => clp (-99) z 99) ((show _ = thV (ki p) (clp (-99) (τ r 0 (nmH (mO (ru, ou, we, me, ki, ro, ma)) p h)) 99) (ou 0) (ro (2 * p)) from by rw [thV, if_neg h_76, if_neg h_86, if_neg (fun z => z.elim h_114 h_119), if_pos ⟨h_131, Int32.not_le.mp h_136⟩]).trans (th_v (fun z => h_19 z.1) (fun z => absurd z (fun y => y.elim h_33 h_38))))), rfl⟩
                · refine x_iconst 2 dX10_thinksOf_122 ?_
                  refine x_iload dX10_thinksOf_123 rfl ?_
                  refine x_imul dX10_thinksOf_125 ?_
                  refine x_goto 147 dX10_thinksOf_126 ?_
                  refine x_bipush (-99) dX10_thinksOf_147 ?_
                  refine x_bipush 99 dX10_thinksOf_149 ?_
                  refine ii_X10_359 dX10_thinksOf_151 c_X10_within (by decide) (Nat.le_of_ble_eq_true rfl) ?_
                  exact Ex.ret (v := some (.int _)) ⟨dX10_thinksOf_154, _, rfl, by first | rfl | decide⟩ ⟨_, congrArg (fun z => some (Value.int z)) (congrArg (fun z => clp (-99) z 99) ((show _ = thV (ki p) (clp (-99) (τ r 0 (nmH (mO (ru, ou, we, me, ki, ro, ma)) p h)) 99) (ou 0) (ro (2 * p)) from by rw [thV, if_neg h_76, if_neg h_86, if_pos (Or.inr h_119)]).trans (th_v (fun z => h_19 z.1) (fun z => absurd z (fun y => y.elim h_33 h_38))))), rfl⟩
            · refine x_aload_n dX10_thinksOf_89 rfl ?_
              refine mg_23 dX10_thinksOf_90 ?_
              refine x_iconst 0 dX10_thinksOf_93 ?_
              refine maK_46 0 dX10_thinksOf_94 rfl (by decide) ?_
              refine x_iload dX10_thinksOf_95 rfl ?_
              refine x_icmp_ge 107 dX10_thinksOf_97 (fun h_97 => ?_) (fun h_97 => ?_)
              · refine x_iload dX10_thinksOf_107 rfl ?_
                refine x_goto 147 dX10_thinksOf_109 ?_
                refine x_bipush (-99) dX10_thinksOf_147 ?_
                refine x_bipush 99 dX10_thinksOf_149 ?_
                refine ii_X10_359 dX10_thinksOf_151 c_X10_within (by decide) (Nat.le_of_ble_eq_true rfl) ?_
                exact Ex.ret (v := some (.int _)) ⟨dX10_thinksOf_154, _, rfl, by first | rfl | decide⟩ ⟨_, congrArg (fun z => some (Value.int z)) (congrArg (fun z => clp (-99) z 99) ((show _ = thV (ki p) (clp (-99) (τ r 0 (nmH (mO (ru, ou, we, me, ki, ro, ma)) p h)) 99) (ou 0) (ro (2 * p)) from by rw [thV, if_neg h_76, if_pos h_86]; rw [if_neg (Int32.not_lt.mpr h_97)]; rw [if_pos (Int32.not_le.mp h_63)]).trans (th_v (fun z => h_19 z.1) (fun z => absurd z (fun y => y.elim h_33 h_38))))), rfl⟩
              · refine x_iload dX10_thinksOf_100 rfl ?_
                refine x_iconst 5 dX10_thinksOf_102 ?_
                refine x_isub dX10_thinksOf_103 ?_
                refine x_goto 147 dX10_thinksOf_104 ?_
                refine x_bipush (-99) dX10_thinksOf_147 ?_
                refine x_bipush 99 dX10_thinksOf_149 ?_
                refine ii_X10_359 dX10_thinksOf_151 c_X10_within (by decide) (Nat.le_of_ble_eq_true rfl) ?_
                exact Ex.ret (v := some (.int _)) ⟨dX10_thinksOf_154, _, rfl, by first | rfl | decide⟩ ⟨_, congrArg (fun z => some (Value.int z)) (congrArg (fun z => clp (-99) z 99) ((show _ = thV (ki p) (clp (-99) (τ r 0 (nmH (mO (ru, ou, we, me, ki, ro, ma)) p h)) 99) (ou 0) (ro (2 * p)) from by rw [thV, if_neg h_76, if_pos h_86]; rw [if_pos (Int32.not_le.mp h_97)]; rw [if_pos (Int32.not_le.mp h_63)]).trans (th_v (fun z => h_19 z.1) (fun z => absurd z (fun y => y.elim h_33 h_38))))), rfl⟩
          · refine x_iload dX10_thinksOf_79 rfl ?_
            refine x_goto 147 dX10_thinksOf_81 ?_
            refine x_bipush (-99) dX10_thinksOf_147 ?_
            refine x_bipush 99 dX10_thinksOf_149 ?_
            refine ii_X10_359 dX10_thinksOf_151 c_X10_within (by decide) (Nat.le_of_ble_eq_true rfl) ?_
            exact Ex.ret (v := some (.int _)) ⟨dX10_thinksOf_154, _, rfl, by first | rfl | decide⟩ ⟨_, congrArg (fun z => some (Value.int z)) (congrArg (fun z => clp (-99) z 99) ((show _ = thV (ki p) (clp (-99) (τ r 0 (nmH (mO (ru, ou, we, me, ki, ro, ma)) p h)) 99) (ou 0) (ro (2 * p)) from by rw [thV, if_pos h_76]; rw [if_pos (Int32.not_le.mp h_63)]).trans (th_v (fun z => h_19 z.1) (fun z => absurd z (fun y => y.elim h_33 h_38))))), rfl⟩
      · refine x_iload_n dX10_thinksOf_41 rfl ?_
        refine x_iload dX10_thinksOf_42 rfl ?_
        refine x_bipush 8 dX10_thinksOf_44 ?_
        refine x_irem dX10_thinksOf_46 (by decide) ?_
        refine x_icmp_eq 52 dX10_thinksOf_47 (fun h_47 => ?_) (fun h_47 => ?_)
        · refine x_aload_n dX10_thinksOf_52 rfl ?_
          refine x_iconst 0 dX10_thinksOf_53 ?_
          refine x_iload_n dX10_thinksOf_54 rfl ?_
          refine x_iload_n dX10_thinksOf_55 rfl ?_
          refine iv_X10_363 dX10_thinksOf_56 (c_X10_asks_h (wh := 0) (lo := -99) hX hru hp hh (by decide) rfl) mw_o (by decide) (Nat.le_of_ble_eq_true rfl) (fun v_56 w_56 hw_56 => ?_)
          obtain ⟨Λ1, rfl, rfl⟩ := hw_56
          refine x_istore dX10_thinksOf_59 (by decide) ?_
          refine x_iload dX10_thinksOf_61 rfl ?_
          refine x_if_ge 70 dX10_thinksOf_63 (fun h_63 => ?_) (fun h_63 => ?_)
          · refine x_iload dX10_thinksOf_70 rfl ?_
            refine x_istore dX10_thinksOf_72 (by decide) ?_
            refine x_iload_n dX10_thinksOf_74 rfl ?_
            refine x_iconst 1 dX10_thinksOf_75 ?_
            refine x_icmp_ne 84 dX10_thinksOf_76 (fun h_76 => ?_) (fun h_76 => ?_)
            · refine x_iload_n dX10_thinksOf_84 rfl ?_
              refine x_iconst 3 dX10_thinksOf_85 ?_
              refine x_icmp_ne 112 dX10_thinksOf_86 (fun h_86 => ?_) (fun h_86 => ?_)
              · refine x_iload_n dX10_thinksOf_112 rfl ?_
                refine x_iconst 2 dX10_thinksOf_113 ?_
                refine x_icmp_eq 122 dX10_thinksOf_114 (fun h_114 => ?_) (fun h_114 => ?_)
                · refine x_iconst 2 dX10_thinksOf_122 ?_
                  refine x_iload dX10_thinksOf_123 rfl ?_
                  refine x_imul dX10_thinksOf_125 ?_
                  refine x_goto 147 dX10_thinksOf_126 ?_
                  refine x_bipush (-99) dX10_thinksOf_147 ?_
                  refine x_bipush 99 dX10_thinksOf_149 ?_
                  refine ii_X10_359 dX10_thinksOf_151 c_X10_within (by decide) (Nat.le_of_ble_eq_true rfl) ?_
                  exact Ex.ret (v := some (.int _)) ⟨dX10_thinksOf_154, _, rfl, by first | rfl | decide⟩ ⟨_, congrArg (fun z => some (Value.int z)) (congrArg (fun z => clp (-99) z 99) ((show _ = thV (ki p) (clp (-99) (τ r 0 (nmH (mO (ru, ou, we, me, ki, ro, ma)) p h)) 99) (ou 0) (ro (2 * p)) from by rw [thV, if_neg h_76, if_neg h_86, if_pos (Or.inl h_114)]).trans (th_v (fun z => h_19 z.1) (fun _ => h_47)))), rfl⟩
                · refine x_iload_n dX10_thinksOf_117 rfl ?_
                  refine x_iconst 4 dX10_thinksOf_118 ?_
                  refine x_icmp_ne 129 dX10_thinksOf_119 (fun h_119 => ?_) (fun h_119 => ?_)
                  · refine x_iload_n dX10_thinksOf_129 rfl ?_
                    refine x_iconst 5 dX10_thinksOf_130 ?_
                    refine x_icmp_ne 145 dX10_thinksOf_131 (fun h_131 => ?_) (fun h_131 => ?_)
                    · refine x_iload dX10_thinksOf_145 rfl ?_
                      refine x_bipush (-99) dX10_thinksOf_147 ?_
                      refine x_bipush 99 dX10_thinksOf_149 ?_
                      refine ii_X10_359 dX10_thinksOf_151 c_X10_within (by decide) (Nat.le_of_ble_eq_true rfl) ?_
                      exact Ex.ret (v := some (.int _)) ⟨dX10_thinksOf_154, _, rfl, by first | rfl | decide⟩ ⟨_, congrArg (fun z => some (Value.int z)) (congrArg (fun z => clp (-99) z 99) ((show _ = thV (ki p) (clp (-99) (τ r 0 (nmH (mO (ru, ou, we, me, ki, ro, ma)) p h)) 99) (ou 0) (ro (2 * p)) from by rw [thV, if_neg h_76, if_neg h_86, if_neg (fun z => z.elim h_114 h_119), if_neg (fun z => h_131 z.1)]).trans (th_v (fun z => h_19 z.1) (fun _ => h_47)))), rfl⟩
                    · refine x_iload dX10_thinksOf_134 rfl ?_
                      refine x_if_ge 145 dX10_thinksOf_136 (fun h_136 => ?_) (fun h_136 => ?_)
                      · refine x_iload dX10_thinksOf_145 rfl ?_
                        refine x_bipush (-99) dX10_thinksOf_147 ?_
                        refine x_bipush 99 dX10_thinksOf_149 ?_
                        refine ii_X10_359 dX10_thinksOf_151 c_X10_within (by decide) (Nat.le_of_ble_eq_true rfl) ?_
                        exact Ex.ret (v := some (.int _)) ⟨dX10_thinksOf_154, _, rfl, by first | rfl | decide⟩ ⟨_, congrArg (fun z => some (Value.int z)) (congrArg (fun z => clp (-99) z 99) ((show _ = thV (ki p) (clp (-99) (τ r 0 (nmH (mO (ru, ou, we, me, ki, ro, ma)) p h)) 99) (ou 0) (ro (2 * p)) from by rw [thV, if_neg h_76, if_neg h_86, if_neg (fun z => z.elim h_114 h_119), if_neg (fun z => Int32.not_lt.mpr h_136 z.2)]).trans (th_v (fun z => h_19 z.1) (fun _ => h_47)))), rfl⟩
                      · refine x_iload dX10_thinksOf_139 rfl ?_
                        refine x_ineg dX10_thinksOf_141 ?_
                        refine x_goto 147 dX10_thinksOf_142 ?_
                        refine x_bipush (-99) dX10_thinksOf_147 ?_
                        refine x_bipush 99 dX10_thinksOf_149 ?_
                        refine ii_X10_359 dX10_thinksOf_151 c_X10_within (by decide) (Nat.le_of_ble_eq_true rfl) ?_
                        exact Ex.ret (v := some (.int _)) ⟨dX10_thinksOf_154, _, rfl, by first | rfl | decide⟩ ⟨_, congrArg (fun z => some (Value.int z)) (congrArg (fun z => clp (-99) z 99) ((show _ = thV (ki p) (clp (-99) (τ r 0 (nmH (mO (ru, ou, we, me, ki, ro, ma)) p h)) 99) (ou 0) (ro (2 * p)) from by rw [thV, if_neg h_76, if_neg h_86, if_neg (fun z => z.elim h_114 h_119), if_pos ⟨h_131, Int32.not_le.mp h_136⟩]).trans (th_v (fun z => h_19 z.1) (fun _ => h_47)))), rfl⟩
                  · refine x_iconst 2 dX10_thinksOf_122 ?_
                    refine x_iload dX10_thinksOf_123 rfl ?_
                    refine x_imul dX10_thinksOf_125 ?_
                    refine x_goto 147 dX10_thinksOf_126 ?_
                    refine x_bipush (-99) dX10_thinksOf_147 ?_
                    refine x_bipush 99 dX10_thinksOf_149 ?_
                    refine ii_X10_359 dX10_thinksOf_151 c_X10_within (by decide) (Nat.le_of_ble_eq_true rfl) ?_
                    exact Ex.ret (v := some (.int _)) ⟨dX10_thinksOf_154, _, rfl, by first | rfl | decide⟩ ⟨_, congrArg (fun z => some (Value.int z)) (congrArg (fun z => clp (-99) z 99) ((show _ = thV (ki p) (clp (-99) (τ r 0 (nmH (mO (ru, ou, we, me, ki, ro, ma)) p h)) 99) (ou 0) (ro (2 * p)) from by rw [thV, if_neg h_76, if_neg h_86, if_pos (Or.inr h_119)]).trans (th_v (fun z => h_19 z.1) (fun _ => h_47)))), rfl⟩
              · refine x_aload_n dX10_thinksOf_89 rfl ?_
                refine mg_23 dX10_thinksOf_90 ?_
                refine x_iconst 0 dX10_thinksOf_93 ?_
                refine maK_46 0 dX10_thinksOf_94 rfl (by decide) ?_
                refine x_iload dX10_thinksOf_95 rfl ?_
                refine x_icmp_ge 107 dX10_thinksOf_97 (fun h_97 => ?_) (fun h_97 => ?_)
                · refine x_iload dX10_thinksOf_107 rfl ?_
                  refine x_goto 147 dX10_thinksOf_109 ?_
                  refine x_bipush (-99) dX10_thinksOf_147 ?_
                  refine x_bipush 99 dX10_thinksOf_149 ?_
                  refine ii_X10_359 dX10_thinksOf_151 c_X10_within (by decide) (Nat.le_of_ble_eq_true rfl) ?_
                  exact Ex.ret (v := some (.int _)) ⟨dX10_thinksOf_154, _, rfl, by first | rfl | decide⟩ ⟨_, congrArg (fun z => some (Value.int z)) (congrArg (fun z => clp (-99) z 99) ((show _ = thV (ki p) (clp (-99) (τ r 0 (nmH (mO (ru, ou, we, me, ki, ro, ma)) p h)) 99) (ou 0) (ro (2 * p)) from by rw [thV, if_neg h_76, if_pos h_86]; rw [if_neg (Int32.not_lt.mpr h_97)]; rw [if_neg (Int32.not_lt.mpr h_63)]).trans (th_v (fun z => h_19 z.1) (fun _ => h_47)))), rfl⟩
                · refine x_iload dX10_thinksOf_100 rfl ?_
                  refine x_iconst 5 dX10_thinksOf_102 ?_
                  refine x_isub dX10_thinksOf_103 ?_
                  refine x_goto 147 dX10_thinksOf_104 ?_
                  refine x_bipush (-99) dX10_thinksOf_147 ?_
                  refine x_bipush 99 dX10_thinksOf_149 ?_
                  refine ii_X10_359 dX10_thinksOf_151 c_X10_within (by decide) (Nat.le_of_ble_eq_true rfl) ?_
                  exact Ex.ret (v := some (.int _)) ⟨dX10_thinksOf_154, _, rfl, by first | rfl | decide⟩ ⟨_, congrArg (fun z => some (Value.int z)) (congrArg (fun z => clp (-99) z 99) ((show _ = thV (ki p) (clp (-99) (τ r 0 (nmH (mO (ru, ou, we, me, ki, ro, ma)) p h)) 99) (ou 0) (ro (2 * p)) from by rw [thV, if_neg h_76, if_pos h_86]; rw [if_pos (Int32.not_le.mp h_97)]; rw [if_neg (Int32.not_lt.mpr h_63)]).trans (th_v (fun z => h_19 z.1) (fun _ => h_47)))), rfl⟩
            · refine x_iload dX10_thinksOf_79 rfl ?_
              refine x_goto 147 dX10_thinksOf_81 ?_
              refine x_bipush (-99) dX10_thinksOf_147 ?_
              refine x_bipush 99 dX10_thinksOf_149 ?_
              refine ii_X10_359 dX10_thinksOf_151 c_X10_within (by decide) (Nat.le_of_ble_eq_true rfl) ?_
              exact Ex.ret (v := some (.int _)) ⟨dX10_thinksOf_154, _, rfl, by first | rfl | decide⟩ ⟨_, congrArg (fun z => some (Value.int z)) (congrArg (fun z => clp (-99) z 99) ((show _ = thV (ki p) (clp (-99) (τ r 0 (nmH (mO (ru, ou, we, me, ki, ro, ma)) p h)) 99) (ou 0) (ro (2 * p)) from by rw [thV, if_pos h_76]; rw [if_neg (Int32.not_lt.mpr h_63)]).trans (th_v (fun z => h_19 z.1) (fun _ => h_47)))), rfl⟩
          · refine x_iconst 0 dX10_thinksOf_66 ?_
            refine x_goto 72 dX10_thinksOf_67 ?_
            refine x_istore dX10_thinksOf_72 (by decide) ?_
            refine x_iload_n dX10_thinksOf_74 rfl ?_
            refine x_iconst 1 dX10_thinksOf_75 ?_
            refine x_icmp_ne 84 dX10_thinksOf_76 (fun h_76 => ?_) (fun h_76 => ?_)
            · refine x_iload_n dX10_thinksOf_84 rfl ?_
              refine x_iconst 3 dX10_thinksOf_85 ?_
              refine x_icmp_ne 112 dX10_thinksOf_86 (fun h_86 => ?_) (fun h_86 => ?_)
              · refine x_iload_n dX10_thinksOf_112 rfl ?_
                refine x_iconst 2 dX10_thinksOf_113 ?_
                refine x_icmp_eq 122 dX10_thinksOf_114 (fun h_114 => ?_) (fun h_114 => ?_)
                · refine x_iconst 2 dX10_thinksOf_122 ?_
                  refine x_iload dX10_thinksOf_123 rfl ?_
                  refine x_imul dX10_thinksOf_125 ?_
                  refine x_goto 147 dX10_thinksOf_126 ?_
                  refine x_bipush (-99) dX10_thinksOf_147 ?_
                  refine x_bipush 99 dX10_thinksOf_149 ?_
                  refine ii_X10_359 dX10_thinksOf_151 c_X10_within (by decide) (Nat.le_of_ble_eq_true rfl) ?_
                  exact Ex.ret (v := some (.int _)) ⟨dX10_thinksOf_154, _, rfl, by first | rfl | decide⟩ ⟨_, congrArg (fun z => some (Value.int z)) (congrArg (fun z => clp (-99) z 99) ((show _ = thV (ki p) (clp (-99) (τ r 0 (nmH (mO (ru, ou, we, me, ki, ro, ma)) p h)) 99) (ou 0) (ro (2 * p)) from by rw [thV, if_neg h_76, if_neg h_86, if_pos (Or.inl h_114)]).trans (th_v (fun z => h_19 z.1) (fun _ => h_47)))), rfl⟩
                · refine x_iload_n dX10_thinksOf_117 rfl ?_
                  refine x_iconst 4 dX10_thinksOf_118 ?_
                  refine x_icmp_ne 129 dX10_thinksOf_119 (fun h_119 => ?_) (fun h_119 => ?_)
                  · refine x_iload_n dX10_thinksOf_129 rfl ?_
                    refine x_iconst 5 dX10_thinksOf_130 ?_
                    refine x_icmp_ne 145 dX10_thinksOf_131 (fun h_131 => ?_) (fun h_131 => ?_)
                    · refine x_iload dX10_thinksOf_145 rfl ?_
                      refine x_bipush (-99) dX10_thinksOf_147 ?_
                      refine x_bipush 99 dX10_thinksOf_149 ?_
                      refine ii_X10_359 dX10_thinksOf_151 c_X10_within (by decide) (Nat.le_of_ble_eq_true rfl) ?_
                      exact Ex.ret (v := some (.int _)) ⟨dX10_thinksOf_154, _, rfl, by first | rfl | decide⟩ ⟨_, congrArg (fun z => some (Value.int z)) (congrArg (fun z => clp (-99) z 99) ((show _ = thV (ki p) (clp (-99) (τ r 0 (nmH (mO (ru, ou, we, me, ki, ro, ma)) p h)) 99) (ou 0) (ro (2 * p)) from by rw [thV, if_neg h_76, if_neg h_86, if_neg (fun z => z.elim h_114 h_119), if_neg (fun z => h_131 z.1)]).trans (th_v (fun z => h_19 z.1) (fun _ => h_47)))), rfl⟩
                    · refine x_iload dX10_thinksOf_134 rfl ?_
                      refine x_if_ge 145 dX10_thinksOf_136 (fun h_136 => ?_) (fun h_136 => ?_)
                      · refine x_iload dX10_thinksOf_145 rfl ?_
                        refine x_bipush (-99) dX10_thinksOf_147 ?_
                        refine x_bipush 99 dX10_thinksOf_149 ?_
                        refine ii_X10_359 dX10_thinksOf_151 c_X10_within (by decide) (Nat.le_of_ble_eq_true rfl) ?_
                        exact Ex.ret (v := some (.int _)) ⟨dX10_thinksOf_154, _, rfl, by first | rfl | decide⟩ ⟨_, congrArg (fun z => some (Value.int z)) (congrArg (fun z => clp (-99) z 99) ((show _ = thV (ki p) (clp (-99) (τ r 0 (nmH (mO (ru, ou, we, me, ki, ro, ma)) p h)) 99) (ou 0) (ro (2 * p)) from by rw [thV, if_neg h_76, if_neg h_86, if_neg (fun z => z.elim h_114 h_119), if_neg (fun z => Int32.not_lt.mpr h_136 z.2)]).trans (th_v (fun z => h_19 z.1) (fun _ => h_47)))), rfl⟩
                      · refine x_iload dX10_thinksOf_139 rfl ?_
                        refine x_ineg dX10_thinksOf_141 ?_
                        refine x_goto 147 dX10_thinksOf_142 ?_
                        refine x_bipush (-99) dX10_thinksOf_147 ?_
                        refine x_bipush 99 dX10_thinksOf_149 ?_
                        refine ii_X10_359 dX10_thinksOf_151 c_X10_within (by decide) (Nat.le_of_ble_eq_true rfl) ?_
                        exact Ex.ret (v := some (.int _)) ⟨dX10_thinksOf_154, _, rfl, by first | rfl | decide⟩ ⟨_, congrArg (fun z => some (Value.int z)) (congrArg (fun z => clp (-99) z 99) ((show _ = thV (ki p) (clp (-99) (τ r 0 (nmH (mO (ru, ou, we, me, ki, ro, ma)) p h)) 99) (ou 0) (ro (2 * p)) from by rw [thV, if_neg h_76, if_neg h_86, if_neg (fun z => z.elim h_114 h_119), if_pos ⟨h_131, Int32.not_le.mp h_136⟩]).trans (th_v (fun z => h_19 z.1) (fun _ => h_47)))), rfl⟩
                  · refine x_iconst 2 dX10_thinksOf_122 ?_
                    refine x_iload dX10_thinksOf_123 rfl ?_
                    refine x_imul dX10_thinksOf_125 ?_
                    refine x_goto 147 dX10_thinksOf_126 ?_
                    refine x_bipush (-99) dX10_thinksOf_147 ?_
                    refine x_bipush 99 dX10_thinksOf_149 ?_
                    refine ii_X10_359 dX10_thinksOf_151 c_X10_within (by decide) (Nat.le_of_ble_eq_true rfl) ?_
                    exact Ex.ret (v := some (.int _)) ⟨dX10_thinksOf_154, _, rfl, by first | rfl | decide⟩ ⟨_, congrArg (fun z => some (Value.int z)) (congrArg (fun z => clp (-99) z 99) ((show _ = thV (ki p) (clp (-99) (τ r 0 (nmH (mO (ru, ou, we, me, ki, ro, ma)) p h)) 99) (ou 0) (ro (2 * p)) from by rw [thV, if_neg h_76, if_neg h_86, if_pos (Or.inr h_119)]).trans (th_v (fun z => h_19 z.1) (fun _ => h_47)))), rfl⟩
              · refine x_aload_n dX10_thinksOf_89 rfl ?_
                refine mg_23 dX10_thinksOf_90 ?_
                refine x_iconst 0 dX10_thinksOf_93 ?_
                refine maK_46 0 dX10_thinksOf_94 rfl (by decide) ?_
                refine x_iload dX10_thinksOf_95 rfl ?_
                refine x_icmp_ge 107 dX10_thinksOf_97 (fun h_97 => ?_) (fun h_97 => ?_)
                · refine x_iload dX10_thinksOf_107 rfl ?_
                  refine x_goto 147 dX10_thinksOf_109 ?_
                  refine x_bipush (-99) dX10_thinksOf_147 ?_
                  refine x_bipush 99 dX10_thinksOf_149 ?_
                  refine ii_X10_359 dX10_thinksOf_151 c_X10_within (by decide) (Nat.le_of_ble_eq_true rfl) ?_
                  exact Ex.ret (v := some (.int _)) ⟨dX10_thinksOf_154, _, rfl, by first | rfl | decide⟩ ⟨_, congrArg (fun z => some (Value.int z)) (congrArg (fun z => clp (-99) z 99) ((show _ = thV (ki p) (clp (-99) (τ r 0 (nmH (mO (ru, ou, we, me, ki, ro, ma)) p h)) 99) (ou 0) (ro (2 * p)) from by rw [thV, if_neg h_76, if_pos h_86]; rw [if_neg (Int32.not_lt.mpr h_97)]; rw [if_pos (Int32.not_le.mp h_63)]).trans (th_v (fun z => h_19 z.1) (fun _ => h_47)))), rfl⟩
                · refine x_iload dX10_thinksOf_100 rfl ?_
                  refine x_iconst 5 dX10_thinksOf_102 ?_
                  refine x_isub dX10_thinksOf_103 ?_
                  refine x_goto 147 dX10_thinksOf_104 ?_
                  refine x_bipush (-99) dX10_thinksOf_147 ?_
                  refine x_bipush 99 dX10_thinksOf_149 ?_
                  refine ii_X10_359 dX10_thinksOf_151 c_X10_within (by decide) (Nat.le_of_ble_eq_true rfl) ?_
                  exact Ex.ret (v := some (.int _)) ⟨dX10_thinksOf_154, _, rfl, by first | rfl | decide⟩ ⟨_, congrArg (fun z => some (Value.int z)) (congrArg (fun z => clp (-99) z 99) ((show _ = thV (ki p) (clp (-99) (τ r 0 (nmH (mO (ru, ou, we, me, ki, ro, ma)) p h)) 99) (ou 0) (ro (2 * p)) from by rw [thV, if_neg h_76, if_pos h_86]; rw [if_pos (Int32.not_le.mp h_97)]; rw [if_pos (Int32.not_le.mp h_63)]).trans (th_v (fun z => h_19 z.1) (fun _ => h_47)))), rfl⟩
            · refine x_iload dX10_thinksOf_79 rfl ?_
              refine x_goto 147 dX10_thinksOf_81 ?_
              refine x_bipush (-99) dX10_thinksOf_147 ?_
              refine x_bipush 99 dX10_thinksOf_149 ?_
              refine ii_X10_359 dX10_thinksOf_151 c_X10_within (by decide) (Nat.le_of_ble_eq_true rfl) ?_
              exact Ex.ret (v := some (.int _)) ⟨dX10_thinksOf_154, _, rfl, by first | rfl | decide⟩ ⟨_, congrArg (fun z => some (Value.int z)) (congrArg (fun z => clp (-99) z 99) ((show _ = thV (ki p) (clp (-99) (τ r 0 (nmH (mO (ru, ou, we, me, ki, ro, ma)) p h)) 99) (ou 0) (ro (2 * p)) from by rw [thV, if_pos h_76]; rw [if_pos (Int32.not_le.mp h_63)]).trans (th_v (fun z => h_19 z.1) (fun _ => h_47)))), rfl⟩
        · refine x_iconst 0 dX10_thinksOf_50 ?_
          exact Ex.ret (v := some (.int _)) ⟨dX10_thinksOf_51, _, rfl, by first | rfl | decide⟩ ⟨_, congrArg (fun z => some (Value.int z)) (th_0 (Or.inr h_38) (fun z => h_19 z.1) h_47), rfl⟩
  · refine x_iload_n dX10_thinksOf_22 rfl ?_
    refine x_bipush 7 dX10_thinksOf_23 ?_
    refine x_icmp_ne 31 dX10_thinksOf_25 (fun h_25 => ?_) (fun h_25 => ?_)
    · refine x_iload_n dX10_thinksOf_31 rfl ?_
      refine x_iconst 2 dX10_thinksOf_32 ?_
      refine x_icmp_eq 41 dX10_thinksOf_33 (fun h_33 => ?_) (fun h_33 => ?_)
      · refine x_iload_n dX10_thinksOf_41 rfl ?_
        refine x_iload dX10_thinksOf_42 rfl ?_
        refine x_bipush 8 dX10_thinksOf_44 ?_
        refine x_irem dX10_thinksOf_46 (by decide) ?_
        refine x_icmp_eq 52 dX10_thinksOf_47 (fun h_47 => ?_) (fun h_47 => ?_)
        · refine x_aload_n dX10_thinksOf_52 rfl ?_
          refine x_iconst 0 dX10_thinksOf_53 ?_
          refine x_iload_n dX10_thinksOf_54 rfl ?_
          refine x_iload_n dX10_thinksOf_55 rfl ?_
          refine iv_X10_363 dX10_thinksOf_56 (c_X10_asks_h (wh := 0) (lo := -99) hX hru hp hh (by decide) rfl) mw_o (by decide) (Nat.le_of_ble_eq_true rfl) (fun v_56 w_56 hw_56 => ?_)
          obtain ⟨Λ1, rfl, rfl⟩ := hw_56
          refine x_istore dX10_thinksOf_59 (by decide) ?_
          refine x_iload dX10_thinksOf_61 rfl ?_
          refine x_if_ge 70 dX10_thinksOf_63 (fun h_63 => ?_) (fun h_63 => ?_)
          · refine x_iload dX10_thinksOf_70 rfl ?_
            refine x_istore dX10_thinksOf_72 (by decide) ?_
            refine x_iload_n dX10_thinksOf_74 rfl ?_
            refine x_iconst 1 dX10_thinksOf_75 ?_
            refine x_icmp_ne 84 dX10_thinksOf_76 (fun h_76 => ?_) (fun h_76 => ?_)
            · refine x_iload_n dX10_thinksOf_84 rfl ?_
              refine x_iconst 3 dX10_thinksOf_85 ?_
              refine x_icmp_ne 112 dX10_thinksOf_86 (fun h_86 => ?_) (fun h_86 => ?_)
              · refine x_iload_n dX10_thinksOf_112 rfl ?_
                refine x_iconst 2 dX10_thinksOf_113 ?_
                refine x_icmp_eq 122 dX10_thinksOf_114 (fun h_114 => ?_) (fun h_114 => ?_)
                · refine x_iconst 2 dX10_thinksOf_122 ?_
                  refine x_iload dX10_thinksOf_123 rfl ?_
                  refine x_imul dX10_thinksOf_125 ?_
                  refine x_goto 147 dX10_thinksOf_126 ?_
                  refine x_bipush (-99) dX10_thinksOf_147 ?_
                  refine x_bipush 99 dX10_thinksOf_149 ?_
                  refine ii_X10_359 dX10_thinksOf_151 c_X10_within (by decide) (Nat.le_of_ble_eq_true rfl) ?_
                  exact Ex.ret (v := some (.int _)) ⟨dX10_thinksOf_154, _, rfl, by first | rfl | decide⟩ ⟨_, congrArg (fun z => some (Value.int z)) (congrArg (fun z => clp (-99) z 99) ((show _ = thV (ki p) (clp (-99) (τ r 0 (nmH (mO (ru, ou, we, me, ki, ro, ma)) p h)) 99) (ou 0) (ro (2 * p)) from by rw [thV, if_neg h_76, if_neg h_86, if_pos (Or.inl h_114)]).trans (th_v (fun z => h_25 z.2) (fun _ => h_47)))), rfl⟩
                · refine x_iload_n dX10_thinksOf_117 rfl ?_
                  refine x_iconst 4 dX10_thinksOf_118 ?_
                  refine x_icmp_ne 129 dX10_thinksOf_119 (fun h_119 => ?_) (fun h_119 => ?_)
                  · refine x_iload_n dX10_thinksOf_129 rfl ?_
                    refine x_iconst 5 dX10_thinksOf_130 ?_
                    refine x_icmp_ne 145 dX10_thinksOf_131 (fun h_131 => ?_) (fun h_131 => ?_)
                    · refine x_iload dX10_thinksOf_145 rfl ?_
                      refine x_bipush (-99) dX10_thinksOf_147 ?_
                      refine x_bipush 99 dX10_thinksOf_149 ?_
                      refine ii_X10_359 dX10_thinksOf_151 c_X10_within (by decide) (Nat.le_of_ble_eq_true rfl) ?_
                      exact Ex.ret (v := some (.int _)) ⟨dX10_thinksOf_154, _, rfl, by first | rfl | decide⟩ ⟨_, congrArg (fun z => some (Value.int z)) (congrArg (fun z => clp (-99) z 99) ((show _ = thV (ki p) (clp (-99) (τ r 0 (nmH (mO (ru, ou, we, me, ki, ro, ma)) p h)) 99) (ou 0) (ro (2 * p)) from by rw [thV, if_neg h_76, if_neg h_86, if_neg (fun z => z.elim h_114 h_119), if_neg (fun z => h_131 z.1)]).trans (th_v (fun z => h_25 z.2) (fun _ => h_47)))), rfl⟩
                    · refine x_iload dX10_thinksOf_134 rfl ?_
                      refine x_if_ge 145 dX10_thinksOf_136 (fun h_136 => ?_) (fun h_136 => ?_)
                      · refine x_iload dX10_thinksOf_145 rfl ?_
                        refine x_bipush (-99) dX10_thinksOf_147 ?_
                        refine x_bipush 99 dX10_thinksOf_149 ?_
                        refine ii_X10_359 dX10_thinksOf_151 c_X10_within (by decide) (Nat.le_of_ble_eq_true rfl) ?_
                        exact Ex.ret (v := some (.int _)) ⟨dX10_thinksOf_154, _, rfl, by first | rfl | decide⟩ ⟨_, congrArg (fun z => some (Value.int z)) (congrArg (fun z => clp (-99) z 99) ((show _ = thV (ki p) (clp (-99) (τ r 0 (nmH (mO (ru, ou, we, me, ki, ro, ma)) p h)) 99) (ou 0) (ro (2 * p)) from by rw [thV, if_neg h_76, if_neg h_86, if_neg (fun z => z.elim h_114 h_119), if_neg (fun z => Int32.not_lt.mpr h_136 z.2)]).trans (th_v (fun z => h_25 z.2) (fun _ => h_47)))), rfl⟩
                      · refine x_iload dX10_thinksOf_139 rfl ?_
                        refine x_ineg dX10_thinksOf_141 ?_
                        refine x_goto 147 dX10_thinksOf_142 ?_
                        refine x_bipush (-99) dX10_thinksOf_147 ?_
                        refine x_bipush 99 dX10_thinksOf_149 ?_
                        refine ii_X10_359 dX10_thinksOf_151 c_X10_within (by decide) (Nat.le_of_ble_eq_true rfl) ?_
                        exact Ex.ret (v := some (.int _)) ⟨dX10_thinksOf_154, _, rfl, by first | rfl | decide⟩ ⟨_, congrArg (fun z => some (Value.int z)) (congrArg (fun z => clp (-99) z 99) ((show _ = thV (ki p) (clp (-99) (τ r 0 (nmH (mO (ru, ou, we, me, ki, ro, ma)) p h)) 99) (ou 0) (ro (2 * p)) from by rw [thV, if_neg h_76, if_neg h_86, if_neg (fun z => z.elim h_114 h_119), if_pos ⟨h_131, Int32.not_le.mp h_136⟩]).trans (th_v (fun z => h_25 z.2) (fun _ => h_47)))), rfl⟩
                  · refine x_iconst 2 dX10_thinksOf_122 ?_
                    refine x_iload dX10_thinksOf_123 rfl ?_
                    refine x_imul dX10_thinksOf_125 ?_
                    refine x_goto 147 dX10_thinksOf_126 ?_
                    refine x_bipush (-99) dX10_thinksOf_147 ?_
                    refine x_bipush 99 dX10_thinksOf_149 ?_
                    refine ii_X10_359 dX10_thinksOf_151 c_X10_within (by decide) (Nat.le_of_ble_eq_true rfl) ?_
                    exact Ex.ret (v := some (.int _)) ⟨dX10_thinksOf_154, _, rfl, by first | rfl | decide⟩ ⟨_, congrArg (fun z => some (Value.int z)) (congrArg (fun z => clp (-99) z 99) ((show _ = thV (ki p) (clp (-99) (τ r 0 (nmH (mO (ru, ou, we, me, ki, ro, ma)) p h)) 99) (ou 0) (ro (2 * p)) from by rw [thV, if_neg h_76, if_neg h_86, if_pos (Or.inr h_119)]).trans (th_v (fun z => h_25 z.2) (fun _ => h_47)))), rfl⟩
              · refine x_aload_n dX10_thinksOf_89 rfl ?_
                refine mg_23 dX10_thinksOf_90 ?_
                refine x_iconst 0 dX10_thinksOf_93 ?_
                refine maK_46 0 dX10_thinksOf_94 rfl (by decide) ?_
                refine x_iload dX10_thinksOf_95 rfl ?_
                refine x_icmp_ge 107 dX10_thinksOf_97 (fun h_97 => ?_) (fun h_97 => ?_)
                · refine x_iload dX10_thinksOf_107 rfl ?_
                  refine x_goto 147 dX10_thinksOf_109 ?_
                  refine x_bipush (-99) dX10_thinksOf_147 ?_
                  refine x_bipush 99 dX10_thinksOf_149 ?_
                  refine ii_X10_359 dX10_thinksOf_151 c_X10_within (by decide) (Nat.le_of_ble_eq_true rfl) ?_
                  exact Ex.ret (v := some (.int _)) ⟨dX10_thinksOf_154, _, rfl, by first | rfl | decide⟩ ⟨_, congrArg (fun z => some (Value.int z)) (congrArg (fun z => clp (-99) z 99) ((show _ = thV (ki p) (clp (-99) (τ r 0 (nmH (mO (ru, ou, we, me, ki, ro, ma)) p h)) 99) (ou 0) (ro (2 * p)) from by rw [thV, if_neg h_76, if_pos h_86]; rw [if_neg (Int32.not_lt.mpr h_97)]; rw [if_neg (Int32.not_lt.mpr h_63)]).trans (th_v (fun z => h_25 z.2) (fun _ => h_47)))), rfl⟩
                · refine x_iload dX10_thinksOf_100 rfl ?_
                  refine x_iconst 5 dX10_thinksOf_102 ?_
                  refine x_isub dX10_thinksOf_103 ?_
                  refine x_goto 147 dX10_thinksOf_104 ?_
                  refine x_bipush (-99) dX10_thinksOf_147 ?_
                  refine x_bipush 99 dX10_thinksOf_149 ?_
                  refine ii_X10_359 dX10_thinksOf_151 c_X10_within (by decide) (Nat.le_of_ble_eq_true rfl) ?_
                  exact Ex.ret (v := some (.int _)) ⟨dX10_thinksOf_154, _, rfl, by first | rfl | decide⟩ ⟨_, congrArg (fun z => some (Value.int z)) (congrArg (fun z => clp (-99) z 99) ((show _ = thV (ki p) (clp (-99) (τ r 0 (nmH (mO (ru, ou, we, me, ki, ro, ma)) p h)) 99) (ou 0) (ro (2 * p)) from by rw [thV, if_neg h_76, if_pos h_86]; rw [if_pos (Int32.not_le.mp h_97)]; rw [if_neg (Int32.not_lt.mpr h_63)]).trans (th_v (fun z => h_25 z.2) (fun _ => h_47)))), rfl⟩
            · refine x_iload dX10_thinksOf_79 rfl ?_
              refine x_goto 147 dX10_thinksOf_81 ?_
              refine x_bipush (-99) dX10_thinksOf_147 ?_
              refine x_bipush 99 dX10_thinksOf_149 ?_
              refine ii_X10_359 dX10_thinksOf_151 c_X10_within (by decide) (Nat.le_of_ble_eq_true rfl) ?_
              exact Ex.ret (v := some (.int _)) ⟨dX10_thinksOf_154, _, rfl, by first | rfl | decide⟩ ⟨_, congrArg (fun z => some (Value.int z)) (congrArg (fun z => clp (-99) z 99) ((show _ = thV (ki p) (clp (-99) (τ r 0 (nmH (mO (ru, ou, we, me, ki, ro, ma)) p h)) 99) (ou 0) (ro (2 * p)) from by rw [thV, if_pos h_76]; rw [if_neg (Int32.not_lt.mpr h_63)]).trans (th_v (fun z => h_25 z.2) (fun _ => h_47)))), rfl⟩
          · refine x_iconst 0 dX10_thinksOf_66 ?_
            refine x_goto 72 dX10_thinksOf_67 ?_
            refine x_istore dX10_thinksOf_72 (by decide) ?_
            refine x_iload_n dX10_thinksOf_74 rfl ?_
            refine x_iconst 1 dX10_thinksOf_75 ?_
            refine x_icmp_ne 84 dX10_thinksOf_76 (fun h_76 => ?_) (fun h_76 => ?_)
            · refine x_iload_n dX10_thinksOf_84 rfl ?_
              refine x_iconst 3 dX10_thinksOf_85 ?_
              refine x_icmp_ne 112 dX10_thinksOf_86 (fun h_86 => ?_) (fun h_86 => ?_)
              · refine x_iload_n dX10_thinksOf_112 rfl ?_
                refine x_iconst 2 dX10_thinksOf_113 ?_
                refine x_icmp_eq 122 dX10_thinksOf_114 (fun h_114 => ?_) (fun h_114 => ?_)
                · refine x_iconst 2 dX10_thinksOf_122 ?_
                  refine x_iload dX10_thinksOf_123 rfl ?_
                  refine x_imul dX10_thinksOf_125 ?_
                  refine x_goto 147 dX10_thinksOf_126 ?_
                  refine x_bipush (-99) dX10_thinksOf_147 ?_
                  refine x_bipush 99 dX10_thinksOf_149 ?_
                  refine ii_X10_359 dX10_thinksOf_151 c_X10_within (by decide) (Nat.le_of_ble_eq_true rfl) ?_
                  exact Ex.ret (v := some (.int _)) ⟨dX10_thinksOf_154, _, rfl, by first | rfl | decide⟩ ⟨_, congrArg (fun z => some (Value.int z)) (congrArg (fun z => clp (-99) z 99) ((show _ = thV (ki p) (clp (-99) (τ r 0 (nmH (mO (ru, ou, we, me, ki, ro, ma)) p h)) 99) (ou 0) (ro (2 * p)) from by rw [thV, if_neg h_76, if_neg h_86, if_pos (Or.inl h_114)]).trans (th_v (fun z => h_25 z.2) (fun _ => h_47)))), rfl⟩
                · refine x_iload_n dX10_thinksOf_117 rfl ?_
                  refine x_iconst 4 dX10_thinksOf_118 ?_
                  refine x_icmp_ne 129 dX10_thinksOf_119 (fun h_119 => ?_) (fun h_119 => ?_)
                  · refine x_iload_n dX10_thinksOf_129 rfl ?_
                    refine x_iconst 5 dX10_thinksOf_130 ?_
                    refine x_icmp_ne 145 dX10_thinksOf_131 (fun h_131 => ?_) (fun h_131 => ?_)
                    · refine x_iload dX10_thinksOf_145 rfl ?_
                      refine x_bipush (-99) dX10_thinksOf_147 ?_
                      refine x_bipush 99 dX10_thinksOf_149 ?_
                      refine ii_X10_359 dX10_thinksOf_151 c_X10_within (by decide) (Nat.le_of_ble_eq_true rfl) ?_
                      exact Ex.ret (v := some (.int _)) ⟨dX10_thinksOf_154, _, rfl, by first | rfl | decide⟩ ⟨_, congrArg (fun z => some (Value.int z)) (congrArg (fun z => clp (-99) z 99) ((show _ = thV (ki p) (clp (-99) (τ r 0 (nmH (mO (ru, ou, we, me, ki, ro, ma)) p h)) 99) (ou 0) (ro (2 * p)) from by rw [thV, if_neg h_76, if_neg h_86, if_neg (fun z => z.elim h_114 h_119), if_neg (fun z => h_131 z.1)]).trans (th_v (fun z => h_25 z.2) (fun _ => h_47)))), rfl⟩
                    · refine x_iload dX10_thinksOf_134 rfl ?_
                      refine x_if_ge 145 dX10_thinksOf_136 (fun h_136 => ?_) (fun h_136 => ?_)
                      · refine x_iload dX10_thinksOf_145 rfl ?_
                        refine x_bipush (-99) dX10_thinksOf_147 ?_
                        refine x_bipush 99 dX10_thinksOf_149 ?_
                        refine ii_X10_359 dX10_thinksOf_151 c_X10_within (by decide) (Nat.le_of_ble_eq_true rfl) ?_
                        exact Ex.ret (v := some (.int _)) ⟨dX10_thinksOf_154, _, rfl, by first | rfl | decide⟩ ⟨_, congrArg (fun z => some (Value.int z)) (congrArg (fun z => clp (-99) z 99) ((show _ = thV (ki p) (clp (-99) (τ r 0 (nmH (mO (ru, ou, we, me, ki, ro, ma)) p h)) 99) (ou 0) (ro (2 * p)) from by rw [thV, if_neg h_76, if_neg h_86, if_neg (fun z => z.elim h_114 h_119), if_neg (fun z => Int32.not_lt.mpr h_136 z.2)]).trans (th_v (fun z => h_25 z.2) (fun _ => h_47)))), rfl⟩
                      · refine x_iload dX10_thinksOf_139 rfl ?_
                        refine x_ineg dX10_thinksOf_141 ?_
                        refine x_goto 147 dX10_thinksOf_142 ?_
                        refine x_bipush (-99) dX10_thinksOf_147 ?_
                        refine x_bipush 99 dX10_thinksOf_149 ?_
                        refine ii_X10_359 dX10_thinksOf_151 c_X10_within (by decide) (Nat.le_of_ble_eq_true rfl) ?_
                        exact Ex.ret (v := some (.int _)) ⟨dX10_thinksOf_154, _, rfl, by first | rfl | decide⟩ ⟨_, congrArg (fun z => some (Value.int z)) (congrArg (fun z => clp (-99) z 99) ((show _ = thV (ki p) (clp (-99) (τ r 0 (nmH (mO (ru, ou, we, me, ki, ro, ma)) p h)) 99) (ou 0) (ro (2 * p)) from by rw [thV, if_neg h_76, if_neg h_86, if_neg (fun z => z.elim h_114 h_119), if_pos ⟨h_131, Int32.not_le.mp h_136⟩]).trans (th_v (fun z => h_25 z.2) (fun _ => h_47)))), rfl⟩
                  · refine x_iconst 2 dX10_thinksOf_122 ?_
                    refine x_iload dX10_thinksOf_123 rfl ?_
                    refine x_imul dX10_thinksOf_125 ?_
                    refine x_goto 147 dX10_thinksOf_126 ?_
                    refine x_bipush (-99) dX10_thinksOf_147 ?_
                    refine x_bipush 99 dX10_thinksOf_149 ?_
                    refine ii_X10_359 dX10_thinksOf_151 c_X10_within (by decide) (Nat.le_of_ble_eq_true rfl) ?_
                    exact Ex.ret (v := some (.int _)) ⟨dX10_thinksOf_154, _, rfl, by first | rfl | decide⟩ ⟨_, congrArg (fun z => some (Value.int z)) (congrArg (fun z => clp (-99) z 99) ((show _ = thV (ki p) (clp (-99) (τ r 0 (nmH (mO (ru, ou, we, me, ki, ro, ma)) p h)) 99) (ou 0) (ro (2 * p)) from by rw [thV, if_neg h_76, if_neg h_86, if_pos (Or.inr h_119)]).trans (th_v (fun z => h_25 z.2) (fun _ => h_47)))), rfl⟩
              · refine x_aload_n dX10_thinksOf_89 rfl ?_
                refine mg_23 dX10_thinksOf_90 ?_
                refine x_iconst 0 dX10_thinksOf_93 ?_
                refine maK_46 0 dX10_thinksOf_94 rfl (by decide) ?_
                refine x_iload dX10_thinksOf_95 rfl ?_
                refine x_icmp_ge 107 dX10_thinksOf_97 (fun h_97 => ?_) (fun h_97 => ?_)
                · refine x_iload dX10_thinksOf_107 rfl ?_
                  refine x_goto 147 dX10_thinksOf_109 ?_
                  refine x_bipush (-99) dX10_thinksOf_147 ?_
                  refine x_bipush 99 dX10_thinksOf_149 ?_
                  refine ii_X10_359 dX10_thinksOf_151 c_X10_within (by decide) (Nat.le_of_ble_eq_true rfl) ?_
                  exact Ex.ret (v := some (.int _)) ⟨dX10_thinksOf_154, _, rfl, by first | rfl | decide⟩ ⟨_, congrArg (fun z => some (Value.int z)) (congrArg (fun z => clp (-99) z 99) ((show _ = thV (ki p) (clp (-99) (τ r 0 (nmH (mO (ru, ou, we, me, ki, ro, ma)) p h)) 99) (ou 0) (ro (2 * p)) from by rw [thV, if_neg h_76, if_pos h_86]; rw [if_neg (Int32.not_lt.mpr h_97)]; rw [if_pos (Int32.not_le.mp h_63)]).trans (th_v (fun z => h_25 z.2) (fun _ => h_47)))), rfl⟩
                · refine x_iload dX10_thinksOf_100 rfl ?_
                  refine x_iconst 5 dX10_thinksOf_102 ?_
                  refine x_isub dX10_thinksOf_103 ?_
                  refine x_goto 147 dX10_thinksOf_104 ?_
                  refine x_bipush (-99) dX10_thinksOf_147 ?_
                  refine x_bipush 99 dX10_thinksOf_149 ?_
                  refine ii_X10_359 dX10_thinksOf_151 c_X10_within (by decide) (Nat.le_of_ble_eq_true rfl) ?_
                  exact Ex.ret (v := some (.int _)) ⟨dX10_thinksOf_154, _, rfl, by first | rfl | decide⟩ ⟨_, congrArg (fun z => some (Value.int z)) (congrArg (fun z => clp (-99) z 99) ((show _ = thV (ki p) (clp (-99) (τ r 0 (nmH (mO (ru, ou, we, me, ki, ro, ma)) p h)) 99) (ou 0) (ro (2 * p)) from by rw [thV, if_neg h_76, if_pos h_86]; rw [if_pos (Int32.not_le.mp h_97)]; rw [if_pos (Int32.not_le.mp h_63)]).trans (th_v (fun z => h_25 z.2) (fun _ => h_47)))), rfl⟩
            · refine x_iload dX10_thinksOf_79 rfl ?_
              refine x_goto 147 dX10_thinksOf_81 ?_
              refine x_bipush (-99) dX10_thinksOf_147 ?_
              refine x_bipush 99 dX10_thinksOf_149 ?_
              refine ii_X10_359 dX10_thinksOf_151 c_X10_within (by decide) (Nat.le_of_ble_eq_true rfl) ?_
              exact Ex.ret (v := some (.int _)) ⟨dX10_thinksOf_154, _, rfl, by first | rfl | decide⟩ ⟨_, congrArg (fun z => some (Value.int z)) (congrArg (fun z => clp (-99) z 99) ((show _ = thV (ki p) (clp (-99) (τ r 0 (nmH (mO (ru, ou, we, me, ki, ro, ma)) p h)) 99) (ou 0) (ro (2 * p)) from by rw [thV, if_pos h_76]; rw [if_pos (Int32.not_le.mp h_63)]).trans (th_v (fun z => h_25 z.2) (fun _ => h_47)))), rfl⟩
        · refine x_iconst 0 dX10_thinksOf_50 ?_
          exact Ex.ret (v := some (.int _)) ⟨dX10_thinksOf_51, _, rfl, by first | rfl | decide⟩ ⟨_, congrArg (fun z => some (Value.int z)) (th_0 (Or.inl h_33) (fun z => h_25 z.2) h_47), rfl⟩
      · refine x_iload_n dX10_thinksOf_36 rfl ?_
        refine x_iconst 4 dX10_thinksOf_37 ?_
        refine x_icmp_ne 52 dX10_thinksOf_38 (fun h_38 => ?_) (fun h_38 => ?_)
        · refine x_aload_n dX10_thinksOf_52 rfl ?_
          refine x_iconst 0 dX10_thinksOf_53 ?_
          refine x_iload_n dX10_thinksOf_54 rfl ?_
          refine x_iload_n dX10_thinksOf_55 rfl ?_
          refine iv_X10_363 dX10_thinksOf_56 (c_X10_asks_h (wh := 0) (lo := -99) hX hru hp hh (by decide) rfl) mw_o (by decide) (Nat.le_of_ble_eq_true rfl) (fun v_56 w_56 hw_56 => ?_)
          obtain ⟨Λ1, rfl, rfl⟩ := hw_56
          refine x_istore dX10_thinksOf_59 (by decide) ?_
          refine x_iload dX10_thinksOf_61 rfl ?_
          refine x_if_ge 70 dX10_thinksOf_63 (fun h_63 => ?_) (fun h_63 => ?_)
          · refine x_iload dX10_thinksOf_70 rfl ?_
            refine x_istore dX10_thinksOf_72 (by decide) ?_
            refine x_iload_n dX10_thinksOf_74 rfl ?_
            refine x_iconst 1 dX10_thinksOf_75 ?_
            refine x_icmp_ne 84 dX10_thinksOf_76 (fun h_76 => ?_) (fun h_76 => ?_)
            · refine x_iload_n dX10_thinksOf_84 rfl ?_
              refine x_iconst 3 dX10_thinksOf_85 ?_
              refine x_icmp_ne 112 dX10_thinksOf_86 (fun h_86 => ?_) (fun h_86 => ?_)
              · refine x_iload_n dX10_thinksOf_112 rfl ?_
                refine x_iconst 2 dX10_thinksOf_113 ?_
                refine x_icmp_eq 122 dX10_thinksOf_114 (fun h_114 => ?_) (fun h_114 => ?_)
                · refine x_iconst 2 dX10_thinksOf_122 ?_
                  refine x_iload dX10_thinksOf_123 rfl ?_
                  refine x_imul dX10_thinksOf_125 ?_
                  refine x_goto 147 dX10_thinksOf_126 ?_
                  refine x_bipush (-99) dX10_thinksOf_147 ?_
                  refine x_bipush 99 dX10_thinksOf_149 ?_
                  refine ii_X10_359 dX10_thinksOf_151 c_X10_within (by decide) (Nat.le_of_ble_eq_true rfl) ?_
                  exact Ex.ret (v := some (.int _)) ⟨dX10_thinksOf_154, _, rfl, by first | rfl | decide⟩ ⟨_, congrArg (fun z => some (Value.int z)) (congrArg (fun z => clp (-99) z 99) ((show _ = thV (ki p) (clp (-99) (τ r 0 (nmH (mO (ru, ou, we, me, ki, ro, ma)) p h)) 99) (ou 0) (ro (2 * p)) from by rw [thV, if_neg h_76, if_neg h_86, if_pos (Or.inl h_114)]).trans (th_v (fun z => h_25 z.2) (fun z => absurd z (fun y => y.elim h_33 h_38))))), rfl⟩
                · refine x_iload_n dX10_thinksOf_117 rfl ?_
                  refine x_iconst 4 dX10_thinksOf_118 ?_
                  refine x_icmp_ne 129 dX10_thinksOf_119 (fun h_119 => ?_) (fun h_119 => ?_)
                  · refine x_iload_n dX10_thinksOf_129 rfl ?_
                    refine x_iconst 5 dX10_thinksOf_130 ?_
                    refine x_icmp_ne 145 dX10_thinksOf_131 (fun h_131 => ?_) (fun h_131 => ?_)
                    · refine x_iload dX10_thinksOf_145 rfl ?_
                      refine x_bipush (-99) dX10_thinksOf_147 ?_
                      refine x_bipush 99 dX10_thinksOf_149 ?_
                      refine ii_X10_359 dX10_thinksOf_151 c_X10_within (by decide) (Nat.le_of_ble_eq_true rfl) ?_
                      exact Ex.ret (v := some (.int _)) ⟨dX10_thinksOf_154, _, rfl, by first | rfl | decide⟩ ⟨_, congrArg (fun z => some (Value.int z)) (congrArg (fun z => clp (-99) z 99) ((show _ = thV (ki p) (clp (-99) (τ r 0 (nmH (mO (ru, ou, we, me, ki, ro, ma)) p h)) 99) (ou 0) (ro (2 * p)) from by rw [thV, if_neg h_76, if_neg h_86, if_neg (fun z => z.elim h_114 h_119), if_neg (fun z => h_131 z.1)]).trans (th_v (fun z => h_25 z.2) (fun z => absurd z (fun y => y.elim h_33 h_38))))), rfl⟩
                    · refine x_iload dX10_thinksOf_134 rfl ?_
                      refine x_if_ge 145 dX10_thinksOf_136 (fun h_136 => ?_) (fun h_136 => ?_)
                      · refine x_iload dX10_thinksOf_145 rfl ?_
                        refine x_bipush (-99) dX10_thinksOf_147 ?_
                        refine x_bipush 99 dX10_thinksOf_149 ?_
                        refine ii_X10_359 dX10_thinksOf_151 c_X10_within (by decide) (Nat.le_of_ble_eq_true rfl) ?_
                        exact Ex.ret (v := some (.int _)) ⟨dX10_thinksOf_154, _, rfl, by first | rfl | decide⟩ ⟨_, congrArg (fun z => some (Value.int z)) (congrArg (fun z => clp (-99) z 99) ((show _ = thV (ki p) (clp (-99) (τ r 0 (nmH (mO (ru, ou, we, me, ki, ro, ma)) p h)) 99) (ou 0) (ro (2 * p)) from by rw [thV, if_neg h_76, if_neg h_86, if_neg (fun z => z.elim h_114 h_119), if_neg (fun z => Int32.not_lt.mpr h_136 z.2)]).trans (th_v (fun z => h_25 z.2) (fun z => absurd z (fun y => y.elim h_33 h_38))))), rfl⟩
                      · refine x_iload dX10_thinksOf_139 rfl ?_
                        refine x_ineg dX10_thinksOf_141 ?_
                        refine x_goto 147 dX10_thinksOf_142 ?_
                        refine x_bipush (-99) dX10_thinksOf_147 ?_
                        refine x_bipush 99 dX10_thinksOf_149 ?_
                        refine ii_X10_359 dX10_thinksOf_151 c_X10_within (by decide) (Nat.le_of_ble_eq_true rfl) ?_
                        exact Ex.ret (v := some (.int _)) ⟨dX10_thinksOf_154, _, rfl, by first | rfl | decide⟩ ⟨_, congrArg (fun z => some (Value.int z)) (congrArg (fun z => clp (-99) z 99) ((show _ = thV (ki p) (clp (-99) (τ r 0 (nmH (mO (ru, ou, we, me, ki, ro, ma)) p h)) 99) (ou 0) (ro (2 * p)) from by rw [thV, if_neg h_76, if_neg h_86, if_neg (fun z => z.elim h_114 h_119), if_pos ⟨h_131, Int32.not_le.mp h_136⟩]).trans (th_v (fun z => h_25 z.2) (fun z => absurd z (fun y => y.elim h_33 h_38))))), rfl⟩
                  · refine x_iconst 2 dX10_thinksOf_122 ?_
                    refine x_iload dX10_thinksOf_123 rfl ?_
                    refine x_imul dX10_thinksOf_125 ?_
                    refine x_goto 147 dX10_thinksOf_126 ?_
                    refine x_bipush (-99) dX10_thinksOf_147 ?_
                    refine x_bipush 99 dX10_thinksOf_149 ?_
                    refine ii_X10_359 dX10_thinksOf_151 c_X10_within (by decide) (Nat.le_of_ble_eq_true rfl) ?_
                    exact Ex.ret (v := some (.int _)) ⟨dX10_thinksOf_154, _, rfl, by first | rfl | decide⟩ ⟨_, congrArg (fun z => some (Value.int z)) (congrArg (fun z => clp (-99) z 99) ((show _ = thV (ki p) (clp (-99) (τ r 0 (nmH (mO (ru, ou, we, me, ki, ro, ma)) p h)) 99) (ou 0) (ro (2 * p)) from by rw [thV, if_neg h_76, if_neg h_86, if_pos (Or.inr h_119)]).trans (th_v (fun z => h_25 z.2) (fun z => absurd z (fun y => y.elim h_33 h_38))))), rfl⟩
              · refine x_aload_n dX10_thinksOf_89 rfl ?_
                refine mg_23 dX10_thinksOf_90 ?_
                refine x_iconst 0 dX10_thinksOf_93 ?_
                refine maK_46 0 dX10_thinksOf_94 rfl (by decide) ?_
                refine x_iload dX10_thinksOf_95 rfl ?_
                refine x_icmp_ge 107 dX10_thinksOf_97 (fun h_97 => ?_) (fun h_97 => ?_)
                · refine x_iload dX10_thinksOf_107 rfl ?_
                  refine x_goto 147 dX10_thinksOf_109 ?_
                  refine x_bipush (-99) dX10_thinksOf_147 ?_
                  refine x_bipush 99 dX10_thinksOf_149 ?_
                  refine ii_X10_359 dX10_thinksOf_151 c_X10_within (by decide) (Nat.le_of_ble_eq_true rfl) ?_
                  exact Ex.ret (v := some (.int _)) ⟨dX10_thinksOf_154, _, rfl, by first | rfl | decide⟩ ⟨_, congrArg (fun z => some (Value.int z)) (congrArg (fun z => clp (-99) z 99) ((show _ = thV (ki p) (clp (-99) (τ r 0 (nmH (mO (ru, ou, we, me, ki, ro, ma)) p h)) 99) (ou 0) (ro (2 * p)) from by rw [thV, if_neg h_76, if_pos h_86]; rw [if_neg (Int32.not_lt.mpr h_97)]; rw [if_neg (Int32.not_lt.mpr h_63)]).trans (th_v (fun z => h_25 z.2) (fun z => absurd z (fun y => y.elim h_33 h_38))))), rfl⟩
                · refine x_iload dX10_thinksOf_100 rfl ?_
                  refine x_iconst 5 dX10_thinksOf_102 ?_
                  refine x_isub dX10_thinksOf_103 ?_
                  refine x_goto 147 dX10_thinksOf_104 ?_
                  refine x_bipush (-99) dX10_thinksOf_147 ?_
                  refine x_bipush 99 dX10_thinksOf_149 ?_
                  refine ii_X10_359 dX10_thinksOf_151 c_X10_within (by decide) (Nat.le_of_ble_eq_true rfl) ?_
                  exact Ex.ret (v := some (.int _)) ⟨dX10_thinksOf_154, _, rfl, by first | rfl | decide⟩ ⟨_, congrArg (fun z => some (Value.int z)) (congrArg (fun z => clp (-99) z 99) ((show _ = thV (ki p) (clp (-99) (τ r 0 (nmH (mO (ru, ou, we, me, ki, ro, ma)) p h)) 99) (ou 0) (ro (2 * p)) from by rw [thV, if_neg h_76, if_pos h_86]; rw [if_pos (Int32.not_le.mp h_97)]; rw [if_neg (Int32.not_lt.mpr h_63)]).trans (th_v (fun z => h_25 z.2) (fun z => absurd z (fun y => y.elim h_33 h_38))))), rfl⟩
            · refine x_iload dX10_thinksOf_79 rfl ?_
              refine x_goto 147 dX10_thinksOf_81 ?_
              refine x_bipush (-99) dX10_thinksOf_147 ?_
              refine x_bipush 99 dX10_thinksOf_149 ?_
              refine ii_X10_359 dX10_thinksOf_151 c_X10_within (by decide) (Nat.le_of_ble_eq_true rfl) ?_
              exact Ex.ret (v := some (.int _)) ⟨dX10_thinksOf_154, _, rfl, by first | rfl | decide⟩ ⟨_, congrArg (fun z => some (Value.int z)) (congrArg (fun z => clp (-99) z 99) ((show _ = thV (ki p) (clp (-99) (τ r 0 (nmH (mO (ru, ou, we, me, ki, ro, ma)) p h)) 99) (ou 0) (ro (2 * p)) from by rw [thV, if_pos h_76]; rw [if_neg (Int32.not_lt.mpr h_63)]).trans (th_v (fun z => h_25 z.2) (fun z => absurd z (fun y => y.elim h_33 h_38))))), rfl⟩
          · refine x_iconst 0 dX10_thinksOf_66 ?_
            refine x_goto 72 dX10_thinksOf_67 ?_
            refine x_istore dX10_thinksOf_72 (by decide) ?_
            refine x_iload_n dX10_thinksOf_74 rfl ?_
            refine x_iconst 1 dX10_thinksOf_75 ?_
            refine x_icmp_ne 84 dX10_thinksOf_76 (fun h_76 => ?_) (fun h_76 => ?_)
            · refine x_iload_n dX10_thinksOf_84 rfl ?_
              refine x_iconst 3 dX10_thinksOf_85 ?_
              refine x_icmp_ne 112 dX10_thinksOf_86 (fun h_86 => ?_) (fun h_86 => ?_)
              · refine x_iload_n dX10_thinksOf_112 rfl ?_
                refine x_iconst 2 dX10_thinksOf_113 ?_
                refine x_icmp_eq 122 dX10_thinksOf_114 (fun h_114 => ?_) (fun h_114 => ?_)
                · refine x_iconst 2 dX10_thinksOf_122 ?_
                  refine x_iload dX10_thinksOf_123 rfl ?_
                  refine x_imul dX10_thinksOf_125 ?_
                  refine x_goto 147 dX10_thinksOf_126 ?_
                  refine x_bipush (-99) dX10_thinksOf_147 ?_
                  refine x_bipush 99 dX10_thinksOf_149 ?_
                  refine ii_X10_359 dX10_thinksOf_151 c_X10_within (by decide) (Nat.le_of_ble_eq_true rfl) ?_
                  exact Ex.ret (v := some (.int _)) ⟨dX10_thinksOf_154, _, rfl, by first | rfl | decide⟩ ⟨_, congrArg (fun z => some (Value.int z)) (congrArg (fun z => clp (-99) z 99) ((show _ = thV (ki p) (clp (-99) (τ r 0 (nmH (mO (ru, ou, we, me, ki, ro, ma)) p h)) 99) (ou 0) (ro (2 * p)) from by rw [thV, if_neg h_76, if_neg h_86, if_pos (Or.inl h_114)]).trans (th_v (fun z => h_25 z.2) (fun z => absurd z (fun y => y.elim h_33 h_38))))), rfl⟩
                · refine x_iload_n dX10_thinksOf_117 rfl ?_
                  refine x_iconst 4 dX10_thinksOf_118 ?_
                  refine x_icmp_ne 129 dX10_thinksOf_119 (fun h_119 => ?_) (fun h_119 => ?_)
                  · refine x_iload_n dX10_thinksOf_129 rfl ?_
                    refine x_iconst 5 dX10_thinksOf_130 ?_
                    refine x_icmp_ne 145 dX10_thinksOf_131 (fun h_131 => ?_) (fun h_131 => ?_)
                    · refine x_iload dX10_thinksOf_145 rfl ?_
                      refine x_bipush (-99) dX10_thinksOf_147 ?_
                      refine x_bipush 99 dX10_thinksOf_149 ?_
                      refine ii_X10_359 dX10_thinksOf_151 c_X10_within (by decide) (Nat.le_of_ble_eq_true rfl) ?_
                      exact Ex.ret (v := some (.int _)) ⟨dX10_thinksOf_154, _, rfl, by first | rfl | decide⟩ ⟨_, congrArg (fun z => some (Value.int z)) (congrArg (fun z => clp (-99) z 99) ((show _ = thV (ki p) (clp (-99) (τ r 0 (nmH (mO (ru, ou, we, me, ki, ro, ma)) p h)) 99) (ou 0) (ro (2 * p)) from by rw [thV, if_neg h_76, if_neg h_86, if_neg (fun z => z.elim h_114 h_119), if_neg (fun z => h_131 z.1)]).trans (th_v (fun z => h_25 z.2) (fun z => absurd z (fun y => y.elim h_33 h_38))))), rfl⟩
                    · refine x_iload dX10_thinksOf_134 rfl ?_
                      refine x_if_ge 145 dX10_thinksOf_136 (fun h_136 => ?_) (fun h_136 => ?_)
                      · refine x_iload dX10_thinksOf_145 rfl ?_
                        refine x_bipush (-99) dX10_thinksOf_147 ?_
                        refine x_bipush 99 dX10_thinksOf_149 ?_
                        refine ii_X10_359 dX10_thinksOf_151 c_X10_within (by decide) (Nat.le_of_ble_eq_true rfl) ?_
                        exact Ex.ret (v := some (.int _)) ⟨dX10_thinksOf_154, _, rfl, by first | rfl | decide⟩ ⟨_, congrArg (fun z => some (Value.int z)) (congrArg (fun z => clp (-99) z 99) ((show _ = thV (ki p) (clp (-99) (τ r 0 (nmH (mO (ru, ou, we, me, ki, ro, ma)) p h)) 99) (ou 0) (ro (2 * p)) from by rw [thV, if_neg h_76, if_neg h_86, if_neg (fun z => z.elim h_114 h_119), if_neg (fun z => Int32.not_lt.mpr h_136 z.2)]).trans (th_v (fun z => h_25 z.2) (fun z => absurd z (fun y => y.elim h_33 h_38))))), rfl⟩
                      · refine x_iload dX10_thinksOf_139 rfl ?_
                        refine x_ineg dX10_thinksOf_141 ?_
                        refine x_goto 147 dX10_thinksOf_142 ?_
                        refine x_bipush (-99) dX10_thinksOf_147 ?_
                        refine x_bipush 99 dX10_thinksOf_149 ?_
                        refine ii_X10_359 dX10_thinksOf_151 c_X10_within (by decide) (Nat.le_of_ble_eq_true rfl) ?_
                        exact Ex.ret (v := some (.int _)) ⟨dX10_thinksOf_154, _, rfl, by first | rfl | decide⟩ ⟨_, congrArg (fun z => some (Value.int z)) (congrArg (fun z => clp (-99) z 99) ((show _ = thV (ki p) (clp (-99) (τ r 0 (nmH (mO (ru, ou, we, me, ki, ro, ma)) p h)) 99) (ou 0) (ro (2 * p)) from by rw [thV, if_neg h_76, if_neg h_86, if_neg (fun z => z.elim h_114 h_119), if_pos ⟨h_131, Int32.not_le.mp h_136⟩]).trans (th_v (fun z => h_25 z.2) (fun z => absurd z (fun y => y.elim h_33 h_38))))), rfl⟩
                  · refine x_iconst 2 dX10_thinksOf_122 ?_
                    refine x_iload dX10_thinksOf_123 rfl ?_
                    refine x_imul dX10_thinksOf_125 ?_
                    refine x_goto 147 dX10_thinksOf_126 ?_
                    refine x_bipush (-99) dX10_thinksOf_147 ?_
                    refine x_bipush 99 dX10_thinksOf_149 ?_
                    refine ii_X10_359 dX10_thinksOf_151 c_X10_within (by decide) (Nat.le_of_ble_eq_true rfl) ?_
                    exact Ex.ret (v := some (.int _)) ⟨dX10_thinksOf_154, _, rfl, by first | rfl | decide⟩ ⟨_, congrArg (fun z => some (Value.int z)) (congrArg (fun z => clp (-99) z 99) ((show _ = thV (ki p) (clp (-99) (τ r 0 (nmH (mO (ru, ou, we, me, ki, ro, ma)) p h)) 99) (ou 0) (ro (2 * p)) from by rw [thV, if_neg h_76, if_neg h_86, if_pos (Or.inr h_119)]).trans (th_v (fun z => h_25 z.2) (fun z => absurd z (fun y => y.elim h_33 h_38))))), rfl⟩
              · refine x_aload_n dX10_thinksOf_89 rfl ?_
                refine mg_23 dX10_thinksOf_90 ?_
                refine x_iconst 0 dX10_thinksOf_93 ?_
                refine maK_46 0 dX10_thinksOf_94 rfl (by decide) ?_
                refine x_iload dX10_thinksOf_95 rfl ?_
                refine x_icmp_ge 107 dX10_thinksOf_97 (fun h_97 => ?_) (fun h_97 => ?_)
                · refine x_iload dX10_thinksOf_107 rfl ?_
                  refine x_goto 147 dX10_thinksOf_109 ?_
                  refine x_bipush (-99) dX10_thinksOf_147 ?_
                  refine x_bipush 99 dX10_thinksOf_149 ?_
                  refine ii_X10_359 dX10_thinksOf_151 c_X10_within (by decide) (Nat.le_of_ble_eq_true rfl) ?_
                  exact Ex.ret (v := some (.int _)) ⟨dX10_thinksOf_154, _, rfl, by first | rfl | decide⟩ ⟨_, congrArg (fun z => some (Value.int z)) (congrArg (fun z => clp (-99) z 99) ((show _ = thV (ki p) (clp (-99) (τ r 0 (nmH (mO (ru, ou, we, me, ki, ro, ma)) p h)) 99) (ou 0) (ro (2 * p)) from by rw [thV, if_neg h_76, if_pos h_86]; rw [if_neg (Int32.not_lt.mpr h_97)]; rw [if_pos (Int32.not_le.mp h_63)]).trans (th_v (fun z => h_25 z.2) (fun z => absurd z (fun y => y.elim h_33 h_38))))), rfl⟩
                · refine x_iload dX10_thinksOf_100 rfl ?_
                  refine x_iconst 5 dX10_thinksOf_102 ?_
                  refine x_isub dX10_thinksOf_103 ?_
                  refine x_goto 147 dX10_thinksOf_104 ?_
                  refine x_bipush (-99) dX10_thinksOf_147 ?_
                  refine x_bipush 99 dX10_thinksOf_149 ?_
                  refine ii_X10_359 dX10_thinksOf_151 c_X10_within (by decide) (Nat.le_of_ble_eq_true rfl) ?_
                  exact Ex.ret (v := some (.int _)) ⟨dX10_thinksOf_154, _, rfl, by first | rfl | decide⟩ ⟨_, congrArg (fun z => some (Value.int z)) (congrArg (fun z => clp (-99) z 99) ((show _ = thV (ki p) (clp (-99) (τ r 0 (nmH (mO (ru, ou, we, me, ki, ro, ma)) p h)) 99) (ou 0) (ro (2 * p)) from by rw [thV, if_neg h_76, if_pos h_86]; rw [if_pos (Int32.not_le.mp h_97)]; rw [if_pos (Int32.not_le.mp h_63)]).trans (th_v (fun z => h_25 z.2) (fun z => absurd z (fun y => y.elim h_33 h_38))))), rfl⟩
            · refine x_iload dX10_thinksOf_79 rfl ?_
              refine x_goto 147 dX10_thinksOf_81 ?_
              refine x_bipush (-99) dX10_thinksOf_147 ?_
              refine x_bipush 99 dX10_thinksOf_149 ?_
              refine ii_X10_359 dX10_thinksOf_151 c_X10_within (by decide) (Nat.le_of_ble_eq_true rfl) ?_
              exact Ex.ret (v := some (.int _)) ⟨dX10_thinksOf_154, _, rfl, by first | rfl | decide⟩ ⟨_, congrArg (fun z => some (Value.int z)) (congrArg (fun z => clp (-99) z 99) ((show _ = thV (ki p) (clp (-99) (τ r 0 (nmH (mO (ru, ou, we, me, ki, ro, ma)) p h)) 99) (ou 0) (ro (2 * p)) from by rw [thV, if_pos h_76]; rw [if_pos (Int32.not_le.mp h_63)]).trans (th_v (fun z => h_25 z.2) (fun z => absurd z (fun y => y.elim h_33 h_38))))), rfl⟩
        · refine x_iload_n dX10_thinksOf_41 rfl ?_
          refine x_iload dX10_thinksOf_42 rfl ?_
          refine x_bipush 8 dX10_thinksOf_44 ?_
          refine x_irem dX10_thinksOf_46 (by decide) ?_
          refine x_icmp_eq 52 dX10_thinksOf_47 (fun h_47 => ?_) (fun h_47 => ?_)
          · refine x_aload_n dX10_thinksOf_52 rfl ?_
            refine x_iconst 0 dX10_thinksOf_53 ?_
            refine x_iload_n dX10_thinksOf_54 rfl ?_
            refine x_iload_n dX10_thinksOf_55 rfl ?_
            refine iv_X10_363 dX10_thinksOf_56 (c_X10_asks_h (wh := 0) (lo := -99) hX hru hp hh (by decide) rfl) mw_o (by decide) (Nat.le_of_ble_eq_true rfl) (fun v_56 w_56 hw_56 => ?_)
            obtain ⟨Λ1, rfl, rfl⟩ := hw_56
            refine x_istore dX10_thinksOf_59 (by decide) ?_
            refine x_iload dX10_thinksOf_61 rfl ?_
            refine x_if_ge 70 dX10_thinksOf_63 (fun h_63 => ?_) (fun h_63 => ?_)
            · refine x_iload dX10_thinksOf_70 rfl ?_
              refine x_istore dX10_thinksOf_72 (by decide) ?_
              refine x_iload_n dX10_thinksOf_74 rfl ?_
              refine x_iconst 1 dX10_thinksOf_75 ?_
              refine x_icmp_ne 84 dX10_thinksOf_76 (fun h_76 => ?_) (fun h_76 => ?_)
              · refine x_iload_n dX10_thinksOf_84 rfl ?_
                refine x_iconst 3 dX10_thinksOf_85 ?_
                refine x_icmp_ne 112 dX10_thinksOf_86 (fun h_86 => ?_) (fun h_86 => ?_)
                · refine x_iload_n dX10_thinksOf_112 rfl ?_
                  refine x_iconst 2 dX10_thinksOf_113 ?_
                  refine x_icmp_eq 122 dX10_thinksOf_114 (fun h_114 => ?_) (fun h_114 => ?_)
                  · refine x_iconst 2 dX10_thinksOf_122 ?_
                    refine x_iload dX10_thinksOf_123 rfl ?_
                    refine x_imul dX10_thinksOf_125 ?_
                    refine x_goto 147 dX10_thinksOf_126 ?_
                    refine x_bipush (-99) dX10_thinksOf_147 ?_
                    refine x_bipush 99 dX10_thinksOf_149 ?_
                    refine ii_X10_359 dX10_thinksOf_151 c_X10_within (by decide) (Nat.le_of_ble_eq_true rfl) ?_
                    exact Ex.ret (v := some (.int _)) ⟨dX10_thinksOf_154, _, rfl, by first | rfl | decide⟩ ⟨_, congrArg (fun z => some (Value.int z)) (congrArg (fun z => clp (-99) z 99) ((show _ = thV (ki p) (clp (-99) (τ r 0 (nmH (mO (ru, ou, we, me, ki, ro, ma)) p h)) 99) (ou 0) (ro (2 * p)) from by rw [thV, if_neg h_76, if_neg h_86, if_pos (Or.inl h_114)]).trans (th_v (fun z => h_25 z.2) (fun _ => h_47)))), rfl⟩
                  · refine x_iload_n dX10_thinksOf_117 rfl ?_
                    refine x_iconst 4 dX10_thinksOf_118 ?_
                    refine x_icmp_ne 129 dX10_thinksOf_119 (fun h_119 => ?_) (fun h_119 => ?_)
                    · refine x_iload_n dX10_thinksOf_129 rfl ?_
                      refine x_iconst 5 dX10_thinksOf_130 ?_
                      refine x_icmp_ne 145 dX10_thinksOf_131 (fun h_131 => ?_) (fun h_131 => ?_)
                      · refine x_iload dX10_thinksOf_145 rfl ?_
                        refine x_bipush (-99) dX10_thinksOf_147 ?_
                        refine x_bipush 99 dX10_thinksOf_149 ?_
                        refine ii_X10_359 dX10_thinksOf_151 c_X10_within (by decide) (Nat.le_of_ble_eq_true rfl) ?_
                        exact Ex.ret (v := some (.int _)) ⟨dX10_thinksOf_154, _, rfl, by first | rfl | decide⟩ ⟨_, congrArg (fun z => some (Value.int z)) (congrArg (fun z => clp (-99) z 99) ((show _ = thV (ki p) (clp (-99) (τ r 0 (nmH (mO (ru, ou, we, me, ki, ro, ma)) p h)) 99) (ou 0) (ro (2 * p)) from by rw [thV, if_neg h_76, if_neg h_86, if_neg (fun z => z.elim h_114 h_119), if_neg (fun z => h_131 z.1)]).trans (th_v (fun z => h_25 z.2) (fun _ => h_47)))), rfl⟩
                      · refine x_iload dX10_thinksOf_134 rfl ?_
                        refine x_if_ge 145 dX10_thinksOf_136 (fun h_136 => ?_) (fun h_136 => ?_)
                        · refine x_iload dX10_thinksOf_145 rfl ?_
                          refine x_bipush (-99) dX10_thinksOf_147 ?_
                          refine x_bipush 99 dX10_thinksOf_149 ?_
                          refine ii_X10_359 dX10_thinksOf_151 c_X10_within (by decide) (Nat.le_of_ble_eq_true rfl) ?_
                          exact Ex.ret (v := some (.int _)) ⟨dX10_thinksOf_154, _, rfl, by first | rfl | decide⟩ ⟨_, congrArg (fun z => some (Value.int z)) (congrArg (fun z => clp (-99) z 99) ((show _ = thV (ki p) (clp (-99) (τ r 0 (nmH (mO (ru, ou, we, me, ki, ro, ma)) p h)) 99) (ou 0) (ro (2 * p)) from by rw [thV, if_neg h_76, if_neg h_86, if_neg (fun z => z.elim h_114 h_119), if_neg (fun z => Int32.not_lt.mpr h_136 z.2)]).trans (th_v (fun z => h_25 z.2) (fun _ => h_47)))), rfl⟩
                        · refine x_iload dX10_thinksOf_139 rfl ?_
                          refine x_ineg dX10_thinksOf_141 ?_
                          refine x_goto 147 dX10_thinksOf_142 ?_
                          refine x_bipush (-99) dX10_thinksOf_147 ?_
                          refine x_bipush 99 dX10_thinksOf_149 ?_
                          refine ii_X10_359 dX10_thinksOf_151 c_X10_within (by decide) (Nat.le_of_ble_eq_true rfl) ?_
                          exact Ex.ret (v := some (.int _)) ⟨dX10_thinksOf_154, _, rfl, by first | rfl | decide⟩ ⟨_, congrArg (fun z => some (Value.int z)) (congrArg (fun z => clp (-99) z 99) ((show _ = thV (ki p) (clp (-99) (τ r 0 (nmH (mO (ru, ou, we, me, ki, ro, ma)) p h)) 99) (ou 0) (ro (2 * p)) from by rw [thV, if_neg h_76, if_neg h_86, if_neg (fun z => z.elim h_114 h_119), if_pos ⟨h_131, Int32.not_le.mp h_136⟩]).trans (th_v (fun z => h_25 z.2) (fun _ => h_47)))), rfl⟩
                    · refine x_iconst 2 dX10_thinksOf_122 ?_
                      refine x_iload dX10_thinksOf_123 rfl ?_
                      refine x_imul dX10_thinksOf_125 ?_
                      refine x_goto 147 dX10_thinksOf_126 ?_
                      refine x_bipush (-99) dX10_thinksOf_147 ?_
                      refine x_bipush 99 dX10_thinksOf_149 ?_
                      refine ii_X10_359 dX10_thinksOf_151 c_X10_within (by decide) (Nat.le_of_ble_eq_true rfl) ?_
                      exact Ex.ret (v := some (.int _)) ⟨dX10_thinksOf_154, _, rfl, by first | rfl | decide⟩ ⟨_, congrArg (fun z => some (Value.int z)) (congrArg (fun z => clp (-99) z 99) ((show _ = thV (ki p) (clp (-99) (τ r 0 (nmH (mO (ru, ou, we, me, ki, ro, ma)) p h)) 99) (ou 0) (ro (2 * p)) from by rw [thV, if_neg h_76, if_neg h_86, if_pos (Or.inr h_119)]).trans (th_v (fun z => h_25 z.2) (fun _ => h_47)))), rfl⟩
                · refine x_aload_n dX10_thinksOf_89 rfl ?_
                  refine mg_23 dX10_thinksOf_90 ?_
                  refine x_iconst 0 dX10_thinksOf_93 ?_
                  refine maK_46 0 dX10_thinksOf_94 rfl (by decide) ?_
                  refine x_iload dX10_thinksOf_95 rfl ?_
                  refine x_icmp_ge 107 dX10_thinksOf_97 (fun h_97 => ?_) (fun h_97 => ?_)
                  · refine x_iload dX10_thinksOf_107 rfl ?_
                    refine x_goto 147 dX10_thinksOf_109 ?_
                    refine x_bipush (-99) dX10_thinksOf_147 ?_
                    refine x_bipush 99 dX10_thinksOf_149 ?_
                    refine ii_X10_359 dX10_thinksOf_151 c_X10_within (by decide) (Nat.le_of_ble_eq_true rfl) ?_
                    exact Ex.ret (v := some (.int _)) ⟨dX10_thinksOf_154, _, rfl, by first | rfl | decide⟩ ⟨_, congrArg (fun z => some (Value.int z)) (congrArg (fun z => clp (-99) z 99) ((show _ = thV (ki p) (clp (-99) (τ r 0 (nmH (mO (ru, ou, we, me, ki, ro, ma)) p h)) 99) (ou 0) (ro (2 * p)) from by rw [thV, if_neg h_76, if_pos h_86]; rw [if_neg (Int32.not_lt.mpr h_97)]; rw [if_neg (Int32.not_lt.mpr h_63)]).trans (th_v (fun z => h_25 z.2) (fun _ => h_47)))), rfl⟩
                  · refine x_iload dX10_thinksOf_100 rfl ?_
                    refine x_iconst 5 dX10_thinksOf_102 ?_
                    refine x_isub dX10_thinksOf_103 ?_
                    refine x_goto 147 dX10_thinksOf_104 ?_
                    refine x_bipush (-99) dX10_thinksOf_147 ?_
                    refine x_bipush 99 dX10_thinksOf_149 ?_
                    refine ii_X10_359 dX10_thinksOf_151 c_X10_within (by decide) (Nat.le_of_ble_eq_true rfl) ?_
                    exact Ex.ret (v := some (.int _)) ⟨dX10_thinksOf_154, _, rfl, by first | rfl | decide⟩ ⟨_, congrArg (fun z => some (Value.int z)) (congrArg (fun z => clp (-99) z 99) ((show _ = thV (ki p) (clp (-99) (τ r 0 (nmH (mO (ru, ou, we, me, ki, ro, ma)) p h)) 99) (ou 0) (ro (2 * p)) from by rw [thV, if_neg h_76, if_pos h_86]; rw [if_pos (Int32.not_le.mp h_97)]; rw [if_neg (Int32.not_lt.mpr h_63)]).trans (th_v (fun z => h_25 z.2) (fun _ => h_47)))), rfl⟩
              · refine x_iload dX10_thinksOf_79 rfl ?_
                refine x_goto 147 dX10_thinksOf_81 ?_
                refine x_bipush (-99) dX10_thinksOf_147 ?_
                refine x_bipush 99 dX10_thinksOf_149 ?_
                refine ii_X10_359 dX10_thinksOf_151 c_X10_within (by decide) (Nat.le_of_ble_eq_true rfl) ?_
                exact Ex.ret (v := some (.int _)) ⟨dX10_thinksOf_154, _, rfl, by first | rfl | decide⟩ ⟨_, congrArg (fun z => some (Value.int z)) (congrArg (fun z => clp (-99) z 99) ((show _ = thV (ki p) (clp (-99) (τ r 0 (nmH (mO (ru, ou, we, me, ki, ro, ma)) p h)) 99) (ou 0) (ro (2 * p)) from by rw [thV, if_pos h_76]; rw [if_neg (Int32.not_lt.mpr h_63)]).trans (th_v (fun z => h_25 z.2) (fun _ => h_47)))), rfl⟩
            · refine x_iconst 0 dX10_thinksOf_66 ?_
              refine x_goto 72 dX10_thinksOf_67 ?_
              refine x_istore dX10_thinksOf_72 (by decide) ?_
              refine x_iload_n dX10_thinksOf_74 rfl ?_
              refine x_iconst 1 dX10_thinksOf_75 ?_
              refine x_icmp_ne 84 dX10_thinksOf_76 (fun h_76 => ?_) (fun h_76 => ?_)
              · refine x_iload_n dX10_thinksOf_84 rfl ?_
                refine x_iconst 3 dX10_thinksOf_85 ?_
                refine x_icmp_ne 112 dX10_thinksOf_86 (fun h_86 => ?_) (fun h_86 => ?_)
                · refine x_iload_n dX10_thinksOf_112 rfl ?_
                  refine x_iconst 2 dX10_thinksOf_113 ?_
                  refine x_icmp_eq 122 dX10_thinksOf_114 (fun h_114 => ?_) (fun h_114 => ?_)
                  · refine x_iconst 2 dX10_thinksOf_122 ?_
                    refine x_iload dX10_thinksOf_123 rfl ?_
                    refine x_imul dX10_thinksOf_125 ?_
                    refine x_goto 147 dX10_thinksOf_126 ?_
                    refine x_bipush (-99) dX10_thinksOf_147 ?_
                    refine x_bipush 99 dX10_thinksOf_149 ?_
                    refine ii_X10_359 dX10_thinksOf_151 c_X10_within (by decide) (Nat.le_of_ble_eq_true rfl) ?_
                    exact Ex.ret (v := some (.int _)) ⟨dX10_thinksOf_154, _, rfl, by first | rfl | decide⟩ ⟨_, congrArg (fun z => some (Value.int z)) (congrArg (fun z => clp (-99) z 99) ((show _ = thV (ki p) (clp (-99) (τ r 0 (nmH (mO (ru, ou, we, me, ki, ro, ma)) p h)) 99) (ou 0) (ro (2 * p)) from by rw [thV, if_neg h_76, if_neg h_86, if_pos (Or.inl h_114)]).trans (th_v (fun z => h_25 z.2) (fun _ => h_47)))), rfl⟩
                  · refine x_iload_n dX10_thinksOf_117 rfl ?_
                    refine x_iconst 4 dX10_thinksOf_118 ?_
                    refine x_icmp_ne 129 dX10_thinksOf_119 (fun h_119 => ?_) (fun h_119 => ?_)
                    · refine x_iload_n dX10_thinksOf_129 rfl ?_
                      refine x_iconst 5 dX10_thinksOf_130 ?_
                      refine x_icmp_ne 145 dX10_thinksOf_131 (fun h_131 => ?_) (fun h_131 => ?_)
                      · refine x_iload dX10_thinksOf_145 rfl ?_
                        refine x_bipush (-99) dX10_thinksOf_147 ?_
                        refine x_bipush 99 dX10_thinksOf_149 ?_
                        refine ii_X10_359 dX10_thinksOf_151 c_X10_within (by decide) (Nat.le_of_ble_eq_true rfl) ?_
                        exact Ex.ret (v := some (.int _)) ⟨dX10_thinksOf_154, _, rfl, by first | rfl | decide⟩ ⟨_, congrArg (fun z => some (Value.int z)) (congrArg (fun z => clp (-99) z 99) ((show _ = thV (ki p) (clp (-99) (τ r 0 (nmH (mO (ru, ou, we, me, ki, ro, ma)) p h)) 99) (ou 0) (ro (2 * p)) from by rw [thV, if_neg h_76, if_neg h_86, if_neg (fun z => z.elim h_114 h_119), if_neg (fun z => h_131 z.1)]).trans (th_v (fun z => h_25 z.2) (fun _ => h_47)))), rfl⟩
                      · refine x_iload dX10_thinksOf_134 rfl ?_
                        refine x_if_ge 145 dX10_thinksOf_136 (fun h_136 => ?_) (fun h_136 => ?_)
                        · refine x_iload dX10_thinksOf_145 rfl ?_
                          refine x_bipush (-99) dX10_thinksOf_147 ?_
                          refine x_bipush 99 dX10_thinksOf_149 ?_
                          refine ii_X10_359 dX10_thinksOf_151 c_X10_within (by decide) (Nat.le_of_ble_eq_true rfl) ?_
                          exact Ex.ret (v := some (.int _)) ⟨dX10_thinksOf_154, _, rfl, by first | rfl | decide⟩ ⟨_, congrArg (fun z => some (Value.int z)) (congrArg (fun z => clp (-99) z 99) ((show _ = thV (ki p) (clp (-99) (τ r 0 (nmH (mO (ru, ou, we, me, ki, ro, ma)) p h)) 99) (ou 0) (ro (2 * p)) from by rw [thV, if_neg h_76, if_neg h_86, if_neg (fun z => z.elim h_114 h_119), if_neg (fun z => Int32.not_lt.mpr h_136 z.2)]).trans (th_v (fun z => h_25 z.2) (fun _ => h_47)))), rfl⟩
                        · refine x_iload dX10_thinksOf_139 rfl ?_
                          refine x_ineg dX10_thinksOf_141 ?_
                          refine x_goto 147 dX10_thinksOf_142 ?_
                          refine x_bipush (-99) dX10_thinksOf_147 ?_
                          refine x_bipush 99 dX10_thinksOf_149 ?_
                          refine ii_X10_359 dX10_thinksOf_151 c_X10_within (by decide) (Nat.le_of_ble_eq_true rfl) ?_
                          exact Ex.ret (v := some (.int _)) ⟨dX10_thinksOf_154, _, rfl, by first | rfl | decide⟩ ⟨_, congrArg (fun z => some (Value.int z)) (congrArg (fun z => clp (-99) z 99) ((show _ = thV (ki p) (clp (-99) (τ r 0 (nmH (mO (ru, ou, we, me, ki, ro, ma)) p h)) 99) (ou 0) (ro (2 * p)) from by rw [thV, if_neg h_76, if_neg h_86, if_neg (fun z => z.elim h_114 h_119), if_pos ⟨h_131, Int32.not_le.mp h_136⟩]).trans (th_v (fun z => h_25 z.2) (fun _ => h_47)))), rfl⟩
                    · refine x_iconst 2 dX10_thinksOf_122 ?_
                      refine x_iload dX10_thinksOf_123 rfl ?_
                      refine x_imul dX10_thinksOf_125 ?_
                      refine x_goto 147 dX10_thinksOf_126 ?_
                      refine x_bipush (-99) dX10_thinksOf_147 ?_
                      refine x_bipush 99 dX10_thinksOf_149 ?_
                      refine ii_X10_359 dX10_thinksOf_151 c_X10_within (by decide) (Nat.le_of_ble_eq_true rfl) ?_
                      exact Ex.ret (v := some (.int _)) ⟨dX10_thinksOf_154, _, rfl, by first | rfl | decide⟩ ⟨_, congrArg (fun z => some (Value.int z)) (congrArg (fun z => clp (-99) z 99) ((show _ = thV (ki p) (clp (-99) (τ r 0 (nmH (mO (ru, ou, we, me, ki, ro, ma)) p h)) 99) (ou 0) (ro (2 * p)) from by rw [thV, if_neg h_76, if_neg h_86, if_pos (Or.inr h_119)]).trans (th_v (fun z => h_25 z.2) (fun _ => h_47)))), rfl⟩
                · refine x_aload_n dX10_thinksOf_89 rfl ?_
                  refine mg_23 dX10_thinksOf_90 ?_
                  refine x_iconst 0 dX10_thinksOf_93 ?_
                  refine maK_46 0 dX10_thinksOf_94 rfl (by decide) ?_
                  refine x_iload dX10_thinksOf_95 rfl ?_
                  refine x_icmp_ge 107 dX10_thinksOf_97 (fun h_97 => ?_) (fun h_97 => ?_)
                  · refine x_iload dX10_thinksOf_107 rfl ?_
                    refine x_goto 147 dX10_thinksOf_109 ?_
                    refine x_bipush (-99) dX10_thinksOf_147 ?_
                    refine x_bipush 99 dX10_thinksOf_149 ?_
                    refine ii_X10_359 dX10_thinksOf_151 c_X10_within (by decide) (Nat.le_of_ble_eq_true rfl) ?_
                    exact Ex.ret (v := some (.int _)) ⟨dX10_thinksOf_154, _, rfl, by first | rfl | decide⟩ ⟨_, congrArg (fun z => some (Value.int z)) (congrArg (fun z => clp (-99) z 99) ((show _ = thV (ki p) (clp (-99) (τ r 0 (nmH (mO (ru, ou, we, me, ki, ro, ma)) p h)) 99) (ou 0) (ro (2 * p)) from by rw [thV, if_neg h_76, if_pos h_86]; rw [if_neg (Int32.not_lt.mpr h_97)]; rw [if_pos (Int32.not_le.mp h_63)]).trans (th_v (fun z => h_25 z.2) (fun _ => h_47)))), rfl⟩
                  · refine x_iload dX10_thinksOf_100 rfl ?_
                    refine x_iconst 5 dX10_thinksOf_102 ?_
                    refine x_isub dX10_thinksOf_103 ?_
                    refine x_goto 147 dX10_thinksOf_104 ?_
                    refine x_bipush (-99) dX10_thinksOf_147 ?_
                    refine x_bipush 99 dX10_thinksOf_149 ?_
                    refine ii_X10_359 dX10_thinksOf_151 c_X10_within (by decide) (Nat.le_of_ble_eq_true rfl) ?_
                    exact Ex.ret (v := some (.int _)) ⟨dX10_thinksOf_154, _, rfl, by first | rfl | decide⟩ ⟨_, congrArg (fun z => some (Value.int z)) (congrArg (fun z => clp (-99) z 99) ((show _ = thV (ki p) (clp (-99) (τ r 0 (nmH (mO (ru, ou, we, me, ki, ro, ma)) p h)) 99) (ou 0) (ro (2 * p)) from by rw [thV, if_neg h_76, if_pos h_86]; rw [if_pos (Int32.not_le.mp h_97)]; rw [if_pos (Int32.not_le.mp h_63)]).trans (th_v (fun z => h_25 z.2) (fun _ => h_47)))), rfl⟩
              · refine x_iload dX10_thinksOf_79 rfl ?_
                refine x_goto 147 dX10_thinksOf_81 ?_
                refine x_bipush (-99) dX10_thinksOf_147 ?_
                refine x_bipush 99 dX10_thinksOf_149 ?_
                refine ii_X10_359 dX10_thinksOf_151 c_X10_within (by decide) (Nat.le_of_ble_eq_true rfl) ?_
                exact Ex.ret (v := some (.int _)) ⟨dX10_thinksOf_154, _, rfl, by first | rfl | decide⟩ ⟨_, congrArg (fun z => some (Value.int z)) (congrArg (fun z => clp (-99) z 99) ((show _ = thV (ki p) (clp (-99) (τ r 0 (nmH (mO (ru, ou, we, me, ki, ro, ma)) p h)) 99) (ou 0) (ro (2 * p)) from by rw [thV, if_pos h_76]; rw [if_pos (Int32.not_le.mp h_63)]).trans (th_v (fun z => h_25 z.2) (fun _ => h_47)))), rfl⟩
          · refine x_iconst 0 dX10_thinksOf_50 ?_
            exact Ex.ret (v := some (.int _)) ⟨dX10_thinksOf_51, _, rfl, by first | rfl | decide⟩ ⟨_, congrArg (fun z => some (Value.int z)) (th_0 (Or.inr h_38) (fun z => h_25 z.2) h_47), rfl⟩
    · refine x_bipush 9 dX10_thinksOf_28 ?_
      exact Ex.ret (v := some (.int _)) ⟨dX10_thinksOf_30, _, rfl, by first | rfl | decide⟩ ⟨_, congrArg (fun z => some (Value.int z)) (th_9 h_19 h_25), rfl⟩
set_option maxRecDepth 100000 in
set_option maxHeartbeats 4000000 in
theorem c_X10_mendingOf {X : Nat × (Nat → Int32)} {S : CS} {tl : pc_W} {T : MT} {ru : Int32} {ou : (Nat → Int32)} {we : (Nat → Int32)} {me : Int32} {ki : (Nat → Int32)} {ro : (Nat → Int32)} {ma : Int32} {Λ : ML} {C : MC} {K : MK} {H : MH} {τ : TV} {r p h : Nat} (hX : TXm τ T.1 T.2.1 r) (hru : ru = nI r) (hp : p < 6) (hh : h < 8): Mt X 44 0 0 yX10_mendingOf cX10_mendingOf 5 (some .int) [.ref 42, .int (nI p), .int (nI h)] (cst S ++ (mw T (ru, ou, we, me, ki, ro, ma) Λ C K H ++ tl)) (fun v w' => ∃ Λ' : ML, v = some (.int (meF τ (mO (ru, ou, we, me, ki, ro, ma)) r p h)) ∧ w' = cst S ++ (mw T (ru, ou, we, me, ki, ro, ma) Λ' C K H ++ tl)) := by
  refine Mt.of (by decide +kernel) (fun _ _ => Nat.le_of_ble_eq_true rfl) ?_
  show Ex X mX10_mendingOf _ _ _ _ _ _ _ _
  refine x_aload_n dX10_mendingOf_0 rfl ?_
  refine mg_29 dX10_mendingOf_1 ?_
  refine x_iload_n dX10_mendingOf_4 rfl ?_
  refine maN_48 dX10_mendingOf_5 hp ?_
  refine x_istore_n dX10_mendingOf_6 (by decide) ?_
  refine x_iload_n dX10_mendingOf_7 rfl ?_
  refine x_iconst 2 dX10_mendingOf_8 ?_
  refine x_icmp_eq 22 dX10_mendingOf_9 (fun h_9 => ?_) (fun h_9 => ?_)
  · refine x_iload_n dX10_mendingOf_22 rfl ?_
    refine x_iconst 5 dX10_mendingOf_23 ?_
    refine x_icmp_ne 31 dX10_mendingOf_24 (fun h_24 => ?_) (fun h_24 => ?_)
    · refine x_iconst 1 dX10_mendingOf_31 ?_
      exact Ex.ret (v := some (.int _)) ⟨dX10_mendingOf_32, _, rfl, by first | rfl | decide⟩ ⟨_, congrArg (fun z => some (Value.int z)) (me_1 (Or.inl h_9)), rfl⟩
    · refine x_iconst 0 dX10_mendingOf_27 ?_
      refine x_goto 32 dX10_mendingOf_28 ?_
      exact Ex.ret (v := some (.int _)) ⟨dX10_mendingOf_32, _, rfl, by first | rfl | decide⟩ ⟨_, congrArg (fun z => some (Value.int z)) (absurd (h_9.symm.trans h_24) (by decide)), rfl⟩
  · refine x_iload_n dX10_mendingOf_12 rfl ?_
    refine x_iconst 4 dX10_mendingOf_13 ?_
    refine x_icmp_eq 22 dX10_mendingOf_14 (fun h_14 => ?_) (fun h_14 => ?_)
    · refine x_iload_n dX10_mendingOf_22 rfl ?_
      refine x_iconst 5 dX10_mendingOf_23 ?_
      refine x_icmp_ne 31 dX10_mendingOf_24 (fun h_24 => ?_) (fun h_24 => ?_)
      · refine x_iconst 1 dX10_mendingOf_31 ?_
        exact Ex.ret (v := some (.int _)) ⟨dX10_mendingOf_32, _, rfl, by first | rfl | decide⟩ ⟨_, congrArg (fun z => some (Value.int z)) (me_1 (Or.inr h_14)), rfl⟩
      · refine x_iconst 0 dX10_mendingOf_27 ?_
        refine x_goto 32 dX10_mendingOf_28 ?_
        exact Ex.ret (v := some (.int _)) ⟨dX10_mendingOf_32, _, rfl, by first | rfl | decide⟩ ⟨_, congrArg (fun z => some (Value.int z)) (absurd (h_14.symm.trans h_24) (by decide)), rfl⟩
    · refine x_iload_n dX10_mendingOf_17 rfl ?_
      refine x_iconst 5 dX10_mendingOf_18 ?_
      refine x_icmp_ne 33 dX10_mendingOf_19 (fun h_19 => ?_) (fun h_19 => ?_)
      · refine x_aload_n dX10_mendingOf_33 rfl ?_
        refine x_iconst 1 dX10_mendingOf_34 ?_
        refine x_iload_n dX10_mendingOf_35 rfl ?_
        refine x_iload_n dX10_mendingOf_36 rfl ?_
        refine iv_X10_363 dX10_mendingOf_37 (c_X10_asks_h (wh := 1) (lo := 0) hX hru hp hh (by decide) rfl) mw_o (by decide) (Nat.le_of_ble_eq_true rfl) (fun v_37 w_37 hw_37 => ?_)
        obtain ⟨Λ1, rfl, rfl⟩ := hw_37
        refine x_istore dX10_mendingOf_40 (by decide) ?_
        refine x_iload_n dX10_mendingOf_42 rfl ?_
        refine x_iconst 1 dX10_mendingOf_43 ?_
        refine x_icmp_ne 54 dX10_mendingOf_44 (fun h_44 => ?_) (fun h_44 => ?_)
        · refine x_iload_n dX10_mendingOf_54 rfl ?_
          refine x_iconst 3 dX10_mendingOf_55 ?_
          refine x_icmp_ne 75 dX10_mendingOf_56 (fun h_56 => ?_) (fun h_56 => ?_)
          · refine x_iload dX10_mendingOf_75 rfl ?_
            refine x_iconst 0 dX10_mendingOf_77 ?_
            refine x_bipush 99 dX10_mendingOf_78 ?_
            refine ii_X10_359 dX10_mendingOf_80 c_X10_within (by decide) (Nat.le_of_ble_eq_true rfl) ?_
            exact Ex.ret (v := some (.int _)) ⟨dX10_mendingOf_83, _, rfl, by first | rfl | decide⟩ ⟨_, congrArg (fun z => some (Value.int z)) (congrArg (fun z => clp 0 z 99) ((show _ = meV (ki p) (clp 0 (τ r 1 (nmH (mO (ru, ou, we, me, ki, ro, ma)) p h)) 99) (ro (2 * p)) from by rw [meV, if_neg h_44, if_neg h_56]).trans (me_v h_9 h_14 h_19))), rfl⟩
          · refine x_iload dX10_mendingOf_59 rfl ?_
            refine x_iconst 2 dX10_mendingOf_61 ?_
            refine x_idiv dX10_mendingOf_62 (by decide) ?_
            refine x_aload_n dX10_mendingOf_63 rfl ?_
            refine mg_32 dX10_mendingOf_64 ?_
            refine x_iconst 2 dX10_mendingOf_67 ?_
            refine x_iload_n dX10_mendingOf_68 rfl ?_
            refine x_imul dX10_mendingOf_69 ?_
            rw [show (2 : Int32) * nI p = nI (2 * p) from pk_mul 2 p]
            refine maN_49 dX10_mendingOf_70 (show 2 * p < 12 by omega) ?_
            refine x_iadd dX10_mendingOf_71 ?_
            refine x_goto 77 dX10_mendingOf_72 ?_
            refine x_iconst 0 dX10_mendingOf_77 ?_
            refine x_bipush 99 dX10_mendingOf_78 ?_
            refine ii_X10_359 dX10_mendingOf_80 c_X10_within (by decide) (Nat.le_of_ble_eq_true rfl) ?_
            exact Ex.ret (v := some (.int _)) ⟨dX10_mendingOf_83, _, rfl, by first | rfl | decide⟩ ⟨_, congrArg (fun z => some (Value.int z)) (congrArg (fun z => clp 0 z 99) ((show _ = meV (ki p) (clp 0 (τ r 1 (nmH (mO (ru, ou, we, me, ki, ro, ma)) p h)) 99) (ro (2 * p)) from by rw [meV, if_neg h_44, if_pos h_56]).trans (me_v h_9 h_14 h_19))), rfl⟩
        · refine x_iload dX10_mendingOf_47 rfl ?_
          refine x_iconst 2 dX10_mendingOf_49 ?_
          refine x_idiv dX10_mendingOf_50 (by decide) ?_
          refine x_goto 77 dX10_mendingOf_51 ?_
          refine x_iconst 0 dX10_mendingOf_77 ?_
          refine x_bipush 99 dX10_mendingOf_78 ?_
          refine ii_X10_359 dX10_mendingOf_80 c_X10_within (by decide) (Nat.le_of_ble_eq_true rfl) ?_
          exact Ex.ret (v := some (.int _)) ⟨dX10_mendingOf_83, _, rfl, by first | rfl | decide⟩ ⟨_, congrArg (fun z => some (Value.int z)) (congrArg (fun z => clp 0 z 99) ((show _ = meV (ki p) (clp 0 (τ r 1 (nmH (mO (ru, ou, we, me, ki, ro, ma)) p h)) 99) (ro (2 * p)) from by rw [meV, if_pos h_44]).trans (me_v h_9 h_14 h_19))), rfl⟩
      · refine x_iload_n dX10_mendingOf_22 rfl ?_
        refine x_iconst 5 dX10_mendingOf_23 ?_
        refine x_icmp_ne 31 dX10_mendingOf_24 (fun h_24 => ?_) (fun h_24 => ?_)
        · refine x_iconst 1 dX10_mendingOf_31 ?_
          exact Ex.ret (v := some (.int _)) ⟨dX10_mendingOf_32, _, rfl, by first | rfl | decide⟩ ⟨_, congrArg (fun z => some (Value.int z)) (absurd h_19 h_24), rfl⟩
        · refine x_iconst 0 dX10_mendingOf_27 ?_
          refine x_goto 32 dX10_mendingOf_28 ?_
          exact Ex.ret (v := some (.int _)) ⟨dX10_mendingOf_32, _, rfl, by first | rfl | decide⟩ ⟨_, congrArg (fun z => some (Value.int z)) (me_0 h_19), rfl⟩
