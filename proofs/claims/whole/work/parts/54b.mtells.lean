theorem upd_upd (f : Nat → Int32) (k : Nat) (x y : Int32) : upd (upd f k x) k y = upd f k y := by
  funext j
  by_cases h : j = k
  · rw [h, pk_us, pk_us]
  · rw [pk_un h, pk_un h, pk_un h]
theorem upd_eta (f : Nat → Int32) (k : Nat) : upd f k (f k) = f := by
  funext j
  by_cases h : j = k
  · rw [h, pk_us]
  · rw [pk_un h]
def tlS (ok : Nat → Int32) (N : Nat) : Nat → Int32
  | 0 => 0
  | i + 1 => if ok (N - i) = -1 then tlS ok N i ||| (if N - i < 20 then (1 : Int32) <<< (nI (N - i) &&& 31) else 0) else tlS ok N i
def tlN (ok : Nat → Int32) (N : Nat) : Nat → Nat
  | 0 => 0
  | i + 1 => if ok (N - i) = -1 then tlN ok N i + 1 else tlN ok N i
def tlL (lo : Int32) (ok : Nat → Int32) (N : Nat) : Nat → Int32
  | 0 => -1
  | i + 1 => if ok (N - i) = -1 then lo + nI (N - i) else tlL lo ok N i
def vv (lo : Int32) (N i : Nat) : Int32 := if i ≤ N then lo + nI (N - i) else lo + -1
theorem vv_le {lo : Int32} {N i : Nat} (h : i ≤ N) : vv lo N i = lo + nI (N - i) := if_pos h
theorem vv_s {lo : Int32} {N i : Nat} (h : i ≤ N) : vv lo N i + -1 = vv lo N (i + 1) := by
  rw [vv_le h]
  unfold vv
  by_cases h2 : i + 1 ≤ N
  · rw [if_pos h2, Int32.add_assoc, iadm1 (by omega), show N - i - 1 = N - (i + 1) by omega]
  · rw [if_neg h2, show N - i = 0 by omega, nI_0, Int32.add_zero]
theorem vv_lt {lo : Int32} {N : Nat} (hl : lo = 0 ∨ lo = -9) : vv lo N (N + 1) < lo := by
  unfold vv
  rw [if_neg (by omega)]
  rcases hl with rfl | rfl <;> decide
theorem vv_nlt {lo : Int32} {N i : Nat} (hl : lo = 0 ∨ lo = -9) (h : i ≤ N) (hN : N ≤ 255) : ¬ vv lo N i < lo := by
  rw [vv_le h]
  have e := nI_toInt (n := N - i) (by omega)
  rcases hl with rfl | rfl
  · rw [Int32.zero_add]; exact nI_nlt (b := 0) (by omega) (by omega)
  · intro q
    have e9 : Int32.toInt (-9) = -9 := by decide
    rw [Int32.lt_iff_toInt_lt, Int32.toInt_add, e, e9, Int.bmod_eq_of_le (by omega) (by omega)] at q
    omega
theorem lo_sub (lo x : Int32) : lo + x - lo = x := by rw [Int32.add_comm, Int32.add_sub_cancel]
abbrev okK (τ : TV) (O : OT) (r p : Nat) (c : Nat → Int32) (k : Nat) : Int32 := foF (thF τ (uo_ki O (upd (o_ki O) p (nI k))) r p) c 8 0
abbrev okN (τ : TV) (O : OT) (r p : Nat) (c : Nat → Int32) (k : Nat) : Int32 := foF (thF τ (uo_nu O (upd (o_nu O) p (nI k))) r p) c 8 0
abbrev okY (τ : TV) (O : OT) (r p : Nat) (c : Nat → Int32) (k : Nat) : Int32 := foF (thF τ (uo_ye O (nI k)) r p) c 8 0
abbrev okD (τ : TV) (O : OT) (r p : Nat) (c : Nat → Int32) (k : Nat) : Int32 := foF (thF τ (uo_me O (nI k)) r p) c 8 0
abbrev okT (τ : TV) (O : OT) (p : Nat) (c : Nat → Int32) (k : Nat) : Int32 := foF (thF τ (uo_ru O (nI k)) k p) c 8 0
abbrev okW (τ : TV) (O : OT) (r p h : Nat) (c : Nat → Int32) (k : Nat) : Int32 := foF (thF τ (uo_we O (upd (o_we O) h (-9 + nI k))) r p) c 8 0
def teM (τ : TV) (O : OT) (r z m p : Nat) (c : Nat → Int32) (what : Int32) : Int32 := if what = 0 then foF (thF τ O r p) c 8 0 else if what = 8 then lsM τ O r c z else if what = 1 then tlS (okK τ O r p c) 5 6 else if what = 2 then tlS (okN τ O r p c) 9 10 else if what = 3 then nI (tlN (okY τ O r p c) 99 100) else if what = 4 then tlL 0 (okY τ O r p c) 99 100 else if what = 5 then nI (tlN (okD τ O r p c) 255 256) else if what = 6 then tlL 0 (okD τ O r p c) 255 256 else if what = 7 then tlS (okT τ O p c) (m - 1) m else tlS (okW τ O r p (what - 10).toNatClampNeg c) 18 19
abbrev teB (z : Nat) (s one what : Int32) : Prop := ¬ (0 ≤ s ∧ s < 4) ∨ ¬ onC z one ∨ (¬ (0 ≤ what ∧ what ≤ 8) ∧ ¬ (10 ≤ what ∧ what ≤ 17))
def teA (τ : TV) (H : MH) (O : OT) (r z m : Nat) (s one what : Int32) : Int32 := if teB z s one what then -2 else if H.1 s.toNatClampNeg = 0 then -11 else if ¬ H.2.2.1 s.toNatClampNeg = 8 then -2 else teM τ O r z m one.toNatClampNeg (fun j => H.2.2.2 (40 * s.toNatClampNeg + j)) what
theorem le8 {x : Int32} (h : 0 ≤ x ∧ x ≤ 8) : x = 0 ∨ x = 1 ∨ x = 2 ∨ x = 3 ∨ x = 4 ∨ x = 5 ∨ x = 6 ∨ x = 7 ∨ x = 8 := by
  simp only [Int32.le_iff_toInt_le, ← Int32.toInt_inj, tI_0, tI_1, tI_2, tI_3, tI_4, tI_5, tI_6, tI_7, tI_8] at *
  omega
theorem ge10 {x : Int32} (h : 10 ≤ x) : ¬ x = 0 ∧ ¬ x = 1 ∧ ¬ x = 2 ∧ ¬ x = 3 ∧ ¬ x = 4 ∧ ¬ x = 5 ∧ ¬ x = 6 ∧ ¬ x = 7 ∧ ¬ x = 8 ∧ ¬ x < 5 ∧ ¬ x < 7 := by
  have t10 : Int32.toInt 10 = 10 := by decide
  simp only [Int32.le_iff_toInt_le, Int32.lt_iff_toInt_lt, ← Int32.toInt_inj, tI_0, tI_1, tI_2, tI_3, tI_4, tI_5, tI_6, tI_7, tI_8, t10] at *
  omega
theorem td_k {τ : TV} {O : OT} {r z p : Nat} (h : onC z (nI p)) (hp : p < 6) : tdF τ O r z (nI p) 7 = o_ki O p := by
  unfold tdF
  rw [if_neg (by decide), if_neg (by decide), if_neg (fun q => q h), if_neg (by decide), if_neg (by decide), if_pos rfl, nI_clamp (by omega)]
theorem td_n {τ : TV} {O : OT} {r z p : Nat} (h : onC z (nI p)) (hp : p < 6) : tdF τ O r z (nI p) 5 = o_nu O p := by
  unfold tdF plF
  rw [if_pos (by decide), if_pos (Or.inr (Or.inr ⟨by decide, h⟩)), if_neg (by decide), if_neg (by decide), if_neg (by decide), if_neg (by decide), if_neg (by decide), if_pos rfl, nI_clamp (by omega)]
theorem td_y {τ : TV} {O : OT} {r z : Nat} {of : Int32} : tdF τ O r z of 0 = o_ye O := by
  unfold tdF plF
  rw [if_pos (by decide), if_pos (Or.inl (by decide)), if_pos rfl]
theorem td_w {τ : TV} {O : OT} {r z h : Nat} (hh : h < 8) : tdF τ O r z (nI h) 3 = o_we O h := by
  unfold tdF plF
  rw [if_pos (by decide), if_pos (Or.inr (Or.inl ⟨by decide, nI_le (a := 0) (by omega) (by omega), nI_lt (b := 8) hh (by decide)⟩)), if_neg (by decide), if_neg (by decide), if_neg (by decide), if_pos rfl, nI_clamp (by omega)]
set_option maxRecDepth 100000 in
set_option maxHeartbeats 4000000 in
theorem c_X10_tells {X : Nat × (Nat → Int32)} {S : CS} {tl : pc_W} {tx : (Nat → Int32)} {ts : (Nat → Int32)} {tc : Int32} {tp : (Nat → Int32)} {tn : Int32} {ru : Int32} {ou : (Nat → Int32)} {we : (Nat → Int32)} {me : Int32} {ki : (Nat → Int32)} {ro : (Nat → Int32)} {ma : Int32} {Λ : ML} {C : MC} {K : MK} {it : (Nat → Int32)} {so : (Nat → Int32)} {ss : (Nat → Int32)} {is : (Nat → Int32)} {τ : TV} {r z m : Nat} {s one what : Int32} (hX : TXm τ tx ts r) (hXa : ∀ k, k < m → TXm τ tx ts k) (hru : ru = nI r) (hz : ma = nI z) (hz6 : z ≤ 6) (hnu : ∀ i, i < z → ∃ m, m < 10 ∧ ro (2 * i) = nI m) (hm : tc = nI m) (hm1 : 1 ≤ m) (hm6 : m ≤ 6): Mt X 51 0 0 yX10_tells cX10_tells 13 (some .int) [.ref 42, .int s, .int one, .int what] (cst S ++ (mw (tx, ts, tc, tp, tn) (ru, ou, we, me, ki, ro, ma) Λ C K (it, so, ss, is) ++ tl)) (fun v w' => ∃ Λ' : ML, v = some (.int (teA τ (it, so, ss, is) (mO (ru, ou, we, me, ki, ro, ma)) r z m s one what)) ∧ w' = cst S ++ (mw (tx, ts, tc, tp, tn) (ru, ou, we, me, ki, ro, ma) Λ' C K (it, so, ss, is) ++ tl)) := by
  refine Mt.of (by decide +kernel) (fun _ _ => Nat.le_of_ble_eq_true rfl) ?_
  show Ex X mX10_tells _ _ _ _ _ _ _ _
  obtain ⟨x0, hx0⟩ : ∃ x0, x0 = teA τ (it, so, ss, is) (mO (ru, ou, we, me, ki, ro, ma)) r z m s one what := ⟨_, rfl⟩
  rw [← hx0]
  refine x_iload_n dX10_tells_0 rfl ?_
  refine ii_X10_405 dX10_tells_1 c_X10_isSheet (by decide) (Nat.le_of_ble_eq_true rfl) ?_
  refine x_if_eq 41 dX10_tells_4 (fun h_4 => ?_) (fun h_4 => ?_)
  · refine x_bipush (-2) dX10_tells_41 ?_
    exact Ex.ret (v := some (.int _)) ⟨dX10_tells_43, _, rfl, by first | rfl | decide⟩ ⟨_, congrArg (fun z => some (Value.int z)) (by rw [hx0, teA, if_pos (Or.inl (bi0.mp h_4))]), rfl⟩
  · refine x_aload_n dX10_tells_7 rfl ?_
    refine x_iload_n dX10_tells_8 rfl ?_
    refine ii_X10_86 dX10_tells_9 (c_X10_isOne hz hz6) mw_o (by decide) (Nat.le_of_ble_eq_true rfl) ?_
    refine x_if_eq 41 dX10_tells_12 (fun h_12 => ?_) (fun h_12 => ?_)
    · refine x_bipush (-2) dX10_tells_41 ?_
      exact Ex.ret (v := some (.int _)) ⟨dX10_tells_43, _, rfl, by first | rfl | decide⟩ ⟨_, congrArg (fun z => some (Value.int z)) (by rw [hx0, teA, if_pos (Or.inr (Or.inl (bi0.mp h_12)))]), rfl⟩
    · refine x_iload_n dX10_tells_15 rfl ?_
      refine x_i2l dX10_tells_16 ?_
      refine x_lconst 0 dX10_tells_17 ?_
      refine x_ldc2_w dX10_tells_18 kk_X10_408 ?_
      refine ii_X10_76 dX10_tells_21 (c_X10_inC (a := 0) (b := 8) (by first | rfl | decide) (by first | rfl | decide)) (by decide) (Nat.le_of_ble_eq_true rfl) ?_
      refine x_if_ne 44 dX10_tells_24 (fun h_24 => ?_) (fun h_24 => ?_)
      · have hoq := bi1.mp h_4
        have ho := bi1.mp h_12
        obtain ⟨q, hq, rfl⟩ := nat_of hoq.1 (show s < nI 4 from hoq.2) (by omega)
        obtain ⟨p, hpz, rfl⟩ := nat_of ho.1 ho.2 (by omega)
        have hclq : (nI q).toNatClampNeg = q := nI_clamp (by omega)
        have hclp : (nI p).toNatClampNeg = p := nI_clamp (by omega)
        have hp : p < 6 := by omega
        have hwh : (0 ≤ what ∧ what ≤ 8) ∨ (10 ≤ what ∧ what ≤ 17) := Or.inl (bi1.mp h_24)
        have hgd : ¬ teB z (nI q) (nI p) what := fun y => y.elim (fun y => y hoq) (fun y => y.elim (fun y => y ho) (fun y => hwh.elim y.1 y.2))
        suffices hS : Ex X mX10_tells 51 (fun v w' => ∃ Λ' : ML, v = some (.int x0) ∧ w' = cst S ++ (mw (tx, ts, tc, tp, tn) (ru, ou, we, me, ki, ro, ma) Λ' C K (it, so, ss, is) ++ tl)) 0 0 44 [some (.ref 42), some (.int (nI q)), some (.int (nI p)), some (.int what), none, none, none, none, none, none, none, none, none] [] (cst S ++ (mw (tx, ts, tc, tp, tn) (ru, ou, we, me, ki, ro, ma) Λ C K (it, so, ss, is) ++ tl)) from hS
        refine x_aload_n dX10_tells_44 rfl ?_
        refine mg_53 dX10_tells_45 ?_
        refine x_iload_n dX10_tells_48 rfl ?_
        refine maN_55 dX10_tells_49 hq ?_
        refine x_if_ne 56 dX10_tells_50 (fun h_50 => ?_) (fun h_50 => ?_)
        · refine x_aload_n dX10_tells_56 rfl ?_
          refine mg_60 dX10_tells_57 ?_
          refine x_iload_n dX10_tells_60 rfl ?_
          refine maN_57 dX10_tells_61 hq ?_
          refine x_bipush 8 dX10_tells_62 ?_
          refine x_icmp_eq 70 dX10_tells_64 (fun h_64 => ?_) (fun h_64 => ?_)
          · have hm8 : ss q = 8 := h_64
            have hA : x0 = teM τ (mO (ru, ou, we, me, ki, ro, ma)) r z m p (fun j => is (40 * q + j)) what := by rw [hx0, teA, if_neg hgd, hclq, hclp, if_neg h_50, if_neg (fun y => y hm8)]
            rcases hwh with hwh | hwh
            · rcases le8 hwh with rfl | rfl | rfl | rfl | rfl | rfl | rfl | rfl | rfl
              · skip
                refine x_iload_n dX10_tells_70 rfl ?_
                refine x_if_eq 80 dX10_tells_71 (fun _ => ?_) (fun hx => absurd (rfl) hx)
                refine x_iload_n dX10_tells_80 rfl ?_
                refine x_if_ne 93 dX10_tells_81 (fun hx => absurd (rfl) hx) (fun _ => ?_)
                refine x_aload_n dX10_tells_84 rfl ?_
                refine x_iload_n dX10_tells_85 rfl ?_
                refine x_iload_n dX10_tells_86 rfl ?_
                refine iv_X10_402 dX10_tells_87 (c_X10_firstOther hX hru hp hq) mw_o (by decide) (Nat.le_of_ble_eq_true rfl) (fun v_87 w_87 hw_87 => ?_)
                obtain ⟨Λ1, rfl, rfl⟩ := hw_87
                refine x_goto 98 dX10_tells_90 ?_
                exact Ex.ret (v := some (.int _)) ⟨dX10_tells_98, _, rfl, by first | rfl | decide⟩ ⟨_, congrArg (fun z => some (Value.int z)) (by rw [hA, teM, if_pos rfl]), rfl⟩
              · skip
                refine x_iload_n dX10_tells_70 rfl ?_
                refine x_if_eq 80 dX10_tells_71 (fun hx => absurd hx (by decide)) (fun _ => ?_)
                refine x_iload_n dX10_tells_74 rfl ?_
                refine x_bipush 8 dX10_tells_75 ?_
                refine x_icmp_ne 99 dX10_tells_77 (fun _ => ?_) (fun hx => absurd hx (by decide))
                refine x_iload_n dX10_tells_99 rfl ?_
                refine x_iconst 1 dX10_tells_100 ?_
                refine x_icmp_ne 109 dX10_tells_101 (fun hx => absurd (rfl) hx) (fun _ => ?_)
                refine x_bipush 7 dX10_tells_104 ?_
                refine x_goto 150 dX10_tells_106 ?_
                refine x_istore dX10_tells_150 (by decide) ?_
                refine x_iload dX10_tells_152 rfl ?_
                refine x_iconst 3 dX10_tells_154 ?_
                refine x_icmp_ne 165 dX10_tells_155 (fun _ => ?_) (fun hx => absurd hx (by decide))
                refine x_iload_n dX10_tells_165 rfl ?_
                refine x_istore dX10_tells_166 (by decide) ?_
                refine x_iload dX10_tells_168 rfl ?_
                refine x_bipush 9 dX10_tells_170 ?_
                refine x_icmp_ne 182 dX10_tells_172 (fun _ => ?_) (fun hx => absurd hx (by decide))
                refine x_iload dX10_tells_182 rfl ?_
                refine x_bipush 8 dX10_tells_184 ?_
                refine x_icmp_ne 196 dX10_tells_186 (fun _ => ?_) (fun hx => absurd hx (by decide))
                refine x_aload_n dX10_tells_196 rfl ?_
                refine x_iload dX10_tells_197 rfl ?_
                refine x_iload dX10_tells_199 rfl ?_
                refine iv_X10_105 dX10_tells_201 (c_X10_told hX hru hz hz6 hnu) mw_o (by decide) (Nat.le_of_ble_eq_true rfl) (fun v_201 w_201 hw_201 => ?_)
                obtain ⟨Λ5, rfl, rfl⟩ := hw_201
                rw [show tdF τ (mO (ru, ou, we, me, ki, ro, ma)) r z (nI p) 7 = (ki p) from (td_k ho hp)]
                refine x_istore dX10_tells_204 (by decide) ?_
                refine x_iload dX10_tells_206 rfl ?_
                refine x_bipush 9 dX10_tells_208 ?_
                refine x_icmp_ne 219 dX10_tells_210 (fun _ => ?_) (fun hx => absurd hx (by decide))
                refine x_iload dX10_tells_219 rfl ?_
                refine x_bipush 8 dX10_tells_221 ?_
                refine x_icmp_ne 235 dX10_tells_223 (fun _ => ?_) (fun hx => absurd hx (by decide))
                refine x_iload dX10_tells_235 rfl ?_
                refine x_bipush 7 dX10_tells_237 ?_
                refine x_icmp_ne 246 dX10_tells_239 (fun hx => absurd (rfl) hx) (fun _ => ?_)
                refine x_iconst 5 dX10_tells_242 ?_
                refine x_goto 251 dX10_tells_243 ?_
                refine x_istore dX10_tells_251 (by decide) ?_
                refine x_iload dX10_tells_253 rfl ?_
                refine ii_X10_97 dX10_tells_255 c_X10_leastOf (by decide) (Nat.le_of_ble_eq_true rfl) ?_
                rw [show leF 7 = 0 from rfl]
                refine x_istore dX10_tells_258 (by decide) ?_
                refine x_iconst 0 dX10_tells_260 ?_
                refine x_istore dX10_tells_261 (by decide) ?_
                refine x_iconst 0 dX10_tells_263 ?_
                refine x_istore dX10_tells_264 (by decide) ?_
                refine x_iconst (-1) dX10_tells_266 ?_
                refine x_istore dX10_tells_267 (by decide) ?_
                refine x_iload dX10_tells_269 rfl ?_
                refine x_istore dX10_tells_271 (by decide) ?_
                refine Ex.eqW (w' := (cst S ++ (mw (tx, ts, tc, tp, tn) (ru, ou, we, me, (upd ki p (ki p)), ro, ma) Λ5 C K (it, so, ss, is) ++ tl))) (by rw [upd_eta]) ?_
                refine Ex.forget (L' := [some (.ref 42), some (.int (nI q)), some (.int (nI p)), some (.int 1), some (.int 7), some (.int (nI p)), some (.int (ki p)), some (.int (5)), some (.int 0), some (.int (tlS (okK τ (mO (ru, ou, we, me, ki, ro, ma)) r p (fun j => is (40 * q + j))) 5 0)), some (.int (nI (tlN (okK τ (mO (ru, ou, we, me, ki, ro, ma)) r p (fun j => is (40 * q + j))) 5 0))), some (.int (tlL 0 (okK τ (mO (ru, ou, we, me, ki, ro, ma)) r p (fun j => is (40 * q + j))) 5 0)), some (.int (vv 0 5 0))]) ⟨rfl, rfl, rfl, rfl, rfl, rfl, rfl, rfl, rfl, rfl, rfl, rfl, rfl, trivial⟩ ?_
                refine for_up (P := fun i => ∀ (Λ : ML) (x : Int32), Ex X mX10_tells 51 (fun v w' => ∃ Λ' : ML, v = some (.int x0) ∧ w' = cst S ++ (mw (tx, ts, tc, tp, tn) (ru, ou, we, me, ki, ro, ma) Λ' C K (it, so, ss, is) ++ tl)) 0 0 273 [some (.ref 42), some (.int (nI q)), some (.int (nI p)), some (.int 1), some (.int 7), some (.int (nI p)), some (.int (ki p)), some (.int (5)), some (.int 0), some (.int (tlS (okK τ (mO (ru, ou, we, me, ki, ro, ma)) r p (fun j => is (40 * q + j))) 5 i)), some (.int (nI (tlN (okK τ (mO (ru, ou, we, me, ki, ro, ma)) r p (fun j => is (40 * q + j))) 5 i))), some (.int (tlL 0 (okK τ (mO (ru, ou, we, me, ki, ro, ma)) r p (fun j => is (40 * q + j))) 5 i)), some (.int (vv 0 5 i))] [] (cst S ++ (mw (tx, ts, tc, tp, tn) (ru, ou, we, me, (upd ki p x), ro, ma) Λ C K (it, so, ss, is) ++ tl))) (6) ?_ (fun i hi ih => ?_) (0) (Nat.zero_le _) _ _
                · intro Λ x
                  refine x_iload dX10_tells_273 rfl ?_
                  refine x_iload dX10_tells_275 rfl ?_
                  refine x_icmp_lt 339 dX10_tells_277 (fun _ => ?_) (fun hx => absurd (vv_lt (by decide)) hx)
                  refine x_aload_n dX10_tells_339 rfl ?_
                  refine x_iload dX10_tells_340 rfl ?_
                  refine x_iload dX10_tells_342 rfl ?_
                  refine x_iload dX10_tells_344 rfl ?_
                  refine ii_X10_109 dX10_tells_346 (c_X10_lays_7 hp) mw_o (by decide) (Nat.le_of_ble_eq_true rfl) ?_
                  refine x_iload_n dX10_tells_349 rfl ?_
                  refine x_iconst 3 dX10_tells_350 ?_
                  refine x_icmp_eq 359 dX10_tells_351 (fun hx => absurd hx (by decide)) (fun _ => ?_)
                  refine x_iload_n dX10_tells_354 rfl ?_
                  refine x_iconst 5 dX10_tells_355 ?_
                  refine x_icmp_ne 364 dX10_tells_356 (fun _ => ?_) (fun hx => absurd hx (by decide))
                  refine x_iload_n dX10_tells_364 rfl ?_
                  refine x_iconst 4 dX10_tells_365 ?_
                  refine x_icmp_eq 375 dX10_tells_366 (fun hx => absurd hx (by decide)) (fun _ => ?_)
                  refine x_iload_n dX10_tells_369 rfl ?_
                  refine x_bipush 6 dX10_tells_370 ?_
                  refine x_icmp_ne 380 dX10_tells_372 (fun _ => ?_) (fun hx => absurd hx (by decide))
                  refine x_iload dX10_tells_380 rfl ?_
                  exact Ex.ret (v := some (.int _)) ⟨dX10_tells_382, _, rfl, by first | rfl | decide⟩ ⟨_, congrArg (fun z => some (Value.int z)) (by rw [hA, teM, if_neg (by decide), if_neg (by decide), if_pos rfl]), by rw [upd_upd, upd_eta]⟩
                · intro Λ x
                  have hiN : i ≤ 5 := by omega
                  refine x_iload dX10_tells_273 rfl ?_
                  refine x_iload dX10_tells_275 rfl ?_
                  refine x_icmp_lt 339 dX10_tells_277 (fun hx => absurd hx (vv_nlt (by decide) hiN (by omega))) (fun _ => ?_)
                  refine x_aload_n dX10_tells_280 rfl ?_
                  refine x_iload dX10_tells_281 rfl ?_
                  refine x_iload dX10_tells_283 rfl ?_
                  refine x_iload dX10_tells_285 rfl ?_
                  rw [vv_le hiN, Int32.zero_add]
                  refine ii_X10_109 dX10_tells_287 (c_X10_lays_7 hp) mw_o (by decide) (Nat.le_of_ble_eq_true rfl) ?_
                  refine Ex.eqW (w' := (cst S ++ (mw (tx, ts, tc, tp, tn) (ru, ou, we, me, (upd ki p (nI (5 - i))), ro, ma) Λ C K (it, so, ss, is) ++ tl))) (by rw [upd_upd]) ?_
                  refine x_aload_n dX10_tells_290 rfl ?_
                  refine x_iload_n dX10_tells_291 rfl ?_
                  refine x_iload_n dX10_tells_292 rfl ?_
                  refine iv_X10_402 dX10_tells_293 (c_X10_firstOther hX hru hp hq) mw_o (by decide) (Nat.le_of_ble_eq_true rfl) (fun v_293 w_293 hw_293 => ?_)
                  obtain ⟨Λ6, rfl, rfl⟩ := hw_293
                  rw [show foF (thF τ (mO (ru, ou, we, me, (upd ki p (nI (5 - i))), ro, ma)) r p) (fun j => is (40 * q + j)) 8 0 = (okK τ (mO (ru, ou, we, me, ki, ro, ma)) r p (fun j => is (40 * q + j))) (5 - i) from rfl]
                  refine x_iconst (-1) dX10_tells_296 ?_
                  refine x_icmp_ne 333 dX10_tells_297 (fun h_297 => ?_) (fun h_297 => ?_)
                  · refine x_iinc (-1) dX10_tells_333 rfl (by decide) ?_
                    refine x_goto 273 dX10_tells_336 ?_
                    refine Ex.forget (L' := [some (.ref 42), some (.int (nI q)), some (.int (nI p)), some (.int 1), some (.int 7), some (.int (nI p)), some (.int (ki p)), some (.int (5)), some (.int 0), some (.int (tlS (okK τ (mO (ru, ou, we, me, ki, ro, ma)) r p (fun j => is (40 * q + j))) 5 (i + 1))), some (.int (nI (tlN (okK τ (mO (ru, ou, we, me, ki, ro, ma)) r p (fun j => is (40 * q + j))) 5 (i + 1)))), some (.int (tlL 0 (okK τ (mO (ru, ou, we, me, ki, ro, ma)) r p (fun j => is (40 * q + j))) 5 (i + 1))), some (.int (vv 0 5 (i + 1)))]) ⟨rfl, rfl, rfl, rfl, rfl, rfl, rfl, rfl, rfl, by rw [tlS, if_neg h_297] <;> rfl, by rw [tlN, if_neg h_297] <;> rfl, by rw [tlL, if_neg h_297] <;> rfl, by rw [← vv_s hiN, vv_le hiN, Int32.zero_add] <;> rfl, trivial⟩ ?_
                    exact ih _ _
                  · refine x_iload dX10_tells_300 rfl ?_
                    refine x_iload dX10_tells_302 rfl ?_
                    refine x_iload dX10_tells_304 rfl ?_
                    refine x_isub dX10_tells_306 ?_
                    rw [Int32.sub_zero]
                    refine x_bipush 20 dX10_tells_307 ?_
                    refine x_icmp_ge 322 dX10_tells_309 (fun h_309 => ?_) (fun h_309 => ?_)
                    · refine x_iconst 0 dX10_tells_322 ?_
                      refine x_ior dX10_tells_323 ?_
                      refine x_istore dX10_tells_324 (by decide) ?_
                      refine x_iincN dX10_tells_326 rfl (by decide) ?_
                      refine x_iload dX10_tells_329 rfl ?_
                      refine x_istore dX10_tells_331 (by decide) ?_
                      refine x_iinc (-1) dX10_tells_333 rfl (by decide) ?_
                      refine x_goto 273 dX10_tells_336 ?_
                      refine Ex.forget (L' := [some (.ref 42), some (.int (nI q)), some (.int (nI p)), some (.int 1), some (.int 7), some (.int (nI p)), some (.int (ki p)), some (.int (5)), some (.int 0), some (.int (tlS (okK τ (mO (ru, ou, we, me, ki, ro, ma)) r p (fun j => is (40 * q + j))) 5 (i + 1))), some (.int (nI (tlN (okK τ (mO (ru, ou, we, me, ki, ro, ma)) r p (fun j => is (40 * q + j))) 5 (i + 1)))), some (.int (tlL 0 (okK τ (mO (ru, ou, we, me, ki, ro, ma)) r p (fun j => is (40 * q + j))) 5 (i + 1))), some (.int (vv 0 5 (i + 1)))]) ⟨rfl, rfl, rfl, rfl, rfl, rfl, rfl, rfl, rfl, by rw [tlS, if_pos h_297, if_neg (show ¬ (5 - i) < 20 from fun y => nI_ge y (by decide) h_309)] <;> rfl, by rw [tlN, if_pos h_297] <;> rfl, by rw [tlL, if_pos h_297, Int32.zero_add] <;> rfl, by rw [← vv_s hiN, vv_le hiN, Int32.zero_add] <;> rfl, trivial⟩ ?_
                      exact ih _ _
                    · refine x_iconst 1 dX10_tells_312 ?_
                      refine x_iload dX10_tells_313 rfl ?_
                      refine x_iload dX10_tells_315 rfl ?_
                      refine x_isub dX10_tells_317 ?_
                      rw [Int32.sub_zero]
                      refine x_ishl dX10_tells_318 ?_
                      refine x_goto 323 dX10_tells_319 ?_
                      refine x_ior dX10_tells_323 ?_
                      refine x_istore dX10_tells_324 (by decide) ?_
                      refine x_iincN dX10_tells_326 rfl (by decide) ?_
                      refine x_iload dX10_tells_329 rfl ?_
                      refine x_istore dX10_tells_331 (by decide) ?_
                      refine x_iinc (-1) dX10_tells_333 rfl (by decide) ?_
                      refine x_goto 273 dX10_tells_336 ?_
                      refine Ex.forget (L' := [some (.ref 42), some (.int (nI q)), some (.int (nI p)), some (.int 1), some (.int 7), some (.int (nI p)), some (.int (ki p)), some (.int (5)), some (.int 0), some (.int (tlS (okK τ (mO (ru, ou, we, me, ki, ro, ma)) r p (fun j => is (40 * q + j))) 5 (i + 1))), some (.int (nI (tlN (okK τ (mO (ru, ou, we, me, ki, ro, ma)) r p (fun j => is (40 * q + j))) 5 (i + 1)))), some (.int (tlL 0 (okK τ (mO (ru, ou, we, me, ki, ro, ma)) r p (fun j => is (40 * q + j))) 5 (i + 1))), some (.int (vv 0 5 (i + 1)))]) ⟨rfl, rfl, rfl, rfl, rfl, rfl, rfl, rfl, rfl, by rw [tlS, if_pos h_297, if_pos (show (5 - i) < 20 from Nat.not_le.mp (fun y => h_309 (nI_le (a := 20) y (by omega))))] <;> rfl, by rw [tlN, if_pos h_297] <;> rfl, by rw [tlL, if_pos h_297, Int32.zero_add] <;> rfl, by rw [← vv_s hiN, vv_le hiN, Int32.zero_add] <;> rfl, trivial⟩ ?_
                      exact ih _ _
              · skip
                refine x_iload_n dX10_tells_70 rfl ?_
                refine x_if_eq 80 dX10_tells_71 (fun hx => absurd hx (by decide)) (fun _ => ?_)
                refine x_iload_n dX10_tells_74 rfl ?_
                refine x_bipush 8 dX10_tells_75 ?_
                refine x_icmp_ne 99 dX10_tells_77 (fun _ => ?_) (fun hx => absurd hx (by decide))
                refine x_iload_n dX10_tells_99 rfl ?_
                refine x_iconst 1 dX10_tells_100 ?_
                refine x_icmp_ne 109 dX10_tells_101 (fun _ => ?_) (fun hx => absurd hx (by decide))
                refine x_iload_n dX10_tells_109 rfl ?_
                refine x_iconst 2 dX10_tells_110 ?_
                refine x_icmp_ne 118 dX10_tells_111 (fun hx => absurd (rfl) hx) (fun _ => ?_)
                refine x_iconst 5 dX10_tells_114 ?_
                refine x_goto 150 dX10_tells_115 ?_
                refine x_istore dX10_tells_150 (by decide) ?_
                refine x_iload dX10_tells_152 rfl ?_
                refine x_iconst 3 dX10_tells_154 ?_
                refine x_icmp_ne 165 dX10_tells_155 (fun _ => ?_) (fun hx => absurd hx (by decide))
                refine x_iload_n dX10_tells_165 rfl ?_
                refine x_istore dX10_tells_166 (by decide) ?_
                refine x_iload dX10_tells_168 rfl ?_
                refine x_bipush 9 dX10_tells_170 ?_
                refine x_icmp_ne 182 dX10_tells_172 (fun _ => ?_) (fun hx => absurd hx (by decide))
                refine x_iload dX10_tells_182 rfl ?_
                refine x_bipush 8 dX10_tells_184 ?_
                refine x_icmp_ne 196 dX10_tells_186 (fun _ => ?_) (fun hx => absurd hx (by decide))
                refine x_aload_n dX10_tells_196 rfl ?_
                refine x_iload dX10_tells_197 rfl ?_
                refine x_iload dX10_tells_199 rfl ?_
                refine iv_X10_105 dX10_tells_201 (c_X10_told hX hru hz hz6 hnu) mw_o (by decide) (Nat.le_of_ble_eq_true rfl) (fun v_201 w_201 hw_201 => ?_)
                obtain ⟨Λ5, rfl, rfl⟩ := hw_201
                rw [show tdF τ (mO (ru, ou, we, me, ki, ro, ma)) r z (nI p) 5 = (ro (2 * p)) from (td_n ho hp)]
                refine x_istore dX10_tells_204 (by decide) ?_
                refine x_iload dX10_tells_206 rfl ?_
                refine x_bipush 9 dX10_tells_208 ?_
                refine x_icmp_ne 219 dX10_tells_210 (fun _ => ?_) (fun hx => absurd hx (by decide))
                refine x_iload dX10_tells_219 rfl ?_
                refine x_bipush 8 dX10_tells_221 ?_
                refine x_icmp_ne 235 dX10_tells_223 (fun _ => ?_) (fun hx => absurd hx (by decide))
                refine x_iload dX10_tells_235 rfl ?_
                refine x_bipush 7 dX10_tells_237 ?_
                refine x_icmp_ne 246 dX10_tells_239 (fun _ => ?_) (fun hx => absurd hx (by decide))
                refine x_iload dX10_tells_246 rfl ?_
                refine ii_X10_101 dX10_tells_248 c_X10_mostOf (by decide) (Nat.le_of_ble_eq_true rfl) ?_
                rw [show hiF 5 = 9 from rfl]
                refine x_istore dX10_tells_251 (by decide) ?_
                refine x_iload dX10_tells_253 rfl ?_
                refine ii_X10_97 dX10_tells_255 c_X10_leastOf (by decide) (Nat.le_of_ble_eq_true rfl) ?_
                rw [show leF 5 = 0 from rfl]
                refine x_istore dX10_tells_258 (by decide) ?_
                refine x_iconst 0 dX10_tells_260 ?_
                refine x_istore dX10_tells_261 (by decide) ?_
                refine x_iconst 0 dX10_tells_263 ?_
                refine x_istore dX10_tells_264 (by decide) ?_
                refine x_iconst (-1) dX10_tells_266 ?_
                refine x_istore dX10_tells_267 (by decide) ?_
                refine x_iload dX10_tells_269 rfl ?_
                refine x_istore dX10_tells_271 (by decide) ?_
                refine Ex.eqW (w' := (cst S ++ (mw (tx, ts, tc, tp, tn) (ru, ou, we, me, ki, (upd ro (2 * p) (ro (2 * p))), ma) Λ5 C K (it, so, ss, is) ++ tl))) (by rw [upd_eta]) ?_
                refine Ex.forget (L' := [some (.ref 42), some (.int (nI q)), some (.int (nI p)), some (.int 2), some (.int 5), some (.int (nI p)), some (.int (ro (2 * p))), some (.int (9)), some (.int 0), some (.int (tlS (okN τ (mO (ru, ou, we, me, ki, ro, ma)) r p (fun j => is (40 * q + j))) 9 0)), some (.int (nI (tlN (okN τ (mO (ru, ou, we, me, ki, ro, ma)) r p (fun j => is (40 * q + j))) 9 0))), some (.int (tlL 0 (okN τ (mO (ru, ou, we, me, ki, ro, ma)) r p (fun j => is (40 * q + j))) 9 0)), some (.int (vv 0 9 0))]) ⟨rfl, rfl, rfl, rfl, rfl, rfl, rfl, rfl, rfl, rfl, rfl, rfl, rfl, trivial⟩ ?_
                refine for_up (P := fun i => ∀ (Λ : ML) (x : Int32), Ex X mX10_tells 51 (fun v w' => ∃ Λ' : ML, v = some (.int x0) ∧ w' = cst S ++ (mw (tx, ts, tc, tp, tn) (ru, ou, we, me, ki, ro, ma) Λ' C K (it, so, ss, is) ++ tl)) 0 0 273 [some (.ref 42), some (.int (nI q)), some (.int (nI p)), some (.int 2), some (.int 5), some (.int (nI p)), some (.int (ro (2 * p))), some (.int (9)), some (.int 0), some (.int (tlS (okN τ (mO (ru, ou, we, me, ki, ro, ma)) r p (fun j => is (40 * q + j))) 9 i)), some (.int (nI (tlN (okN τ (mO (ru, ou, we, me, ki, ro, ma)) r p (fun j => is (40 * q + j))) 9 i))), some (.int (tlL 0 (okN τ (mO (ru, ou, we, me, ki, ro, ma)) r p (fun j => is (40 * q + j))) 9 i)), some (.int (vv 0 9 i))] [] (cst S ++ (mw (tx, ts, tc, tp, tn) (ru, ou, we, me, ki, (upd ro (2 * p) x), ma) Λ C K (it, so, ss, is) ++ tl))) (10) ?_ (fun i hi ih => ?_) (0) (Nat.zero_le _) _ _
                · intro Λ x
                  refine x_iload dX10_tells_273 rfl ?_
                  refine x_iload dX10_tells_275 rfl ?_
                  refine x_icmp_lt 339 dX10_tells_277 (fun _ => ?_) (fun hx => absurd (vv_lt (by decide)) hx)
                  refine x_aload_n dX10_tells_339 rfl ?_
                  refine x_iload dX10_tells_340 rfl ?_
                  refine x_iload dX10_tells_342 rfl ?_
                  refine x_iload dX10_tells_344 rfl ?_
                  refine ii_X10_109 dX10_tells_346 (c_X10_lays_5 hp) mw_o (by decide) (Nat.le_of_ble_eq_true rfl) ?_
                  refine x_iload_n dX10_tells_349 rfl ?_
                  refine x_iconst 3 dX10_tells_350 ?_
                  refine x_icmp_eq 359 dX10_tells_351 (fun hx => absurd hx (by decide)) (fun _ => ?_)
                  refine x_iload_n dX10_tells_354 rfl ?_
                  refine x_iconst 5 dX10_tells_355 ?_
                  refine x_icmp_ne 364 dX10_tells_356 (fun _ => ?_) (fun hx => absurd hx (by decide))
                  refine x_iload_n dX10_tells_364 rfl ?_
                  refine x_iconst 4 dX10_tells_365 ?_
                  refine x_icmp_eq 375 dX10_tells_366 (fun hx => absurd hx (by decide)) (fun _ => ?_)
                  refine x_iload_n dX10_tells_369 rfl ?_
                  refine x_bipush 6 dX10_tells_370 ?_
                  refine x_icmp_ne 380 dX10_tells_372 (fun _ => ?_) (fun hx => absurd hx (by decide))
                  refine x_iload dX10_tells_380 rfl ?_
                  exact Ex.ret (v := some (.int _)) ⟨dX10_tells_382, _, rfl, by first | rfl | decide⟩ ⟨_, congrArg (fun z => some (Value.int z)) (by rw [hA, teM, if_neg (by decide), if_neg (by decide), if_neg (by decide), if_pos rfl]), by rw [upd_upd, upd_eta]⟩
                · intro Λ x
                  have hiN : i ≤ 9 := by omega
                  refine x_iload dX10_tells_273 rfl ?_
                  refine x_iload dX10_tells_275 rfl ?_
                  refine x_icmp_lt 339 dX10_tells_277 (fun hx => absurd hx (vv_nlt (by decide) hiN (by omega))) (fun _ => ?_)
                  refine x_aload_n dX10_tells_280 rfl ?_
                  refine x_iload dX10_tells_281 rfl ?_
                  refine x_iload dX10_tells_283 rfl ?_
                  refine x_iload dX10_tells_285 rfl ?_
                  rw [vv_le hiN, Int32.zero_add]
                  refine ii_X10_109 dX10_tells_287 (c_X10_lays_5 hp) mw_o (by decide) (Nat.le_of_ble_eq_true rfl) ?_
                  refine Ex.eqW (w' := (cst S ++ (mw (tx, ts, tc, tp, tn) (ru, ou, we, me, ki, (upd ro (2 * p) (nI (9 - i))), ma) Λ C K (it, so, ss, is) ++ tl))) (by rw [upd_upd]) ?_
                  refine x_aload_n dX10_tells_290 rfl ?_
                  refine x_iload_n dX10_tells_291 rfl ?_
                  refine x_iload_n dX10_tells_292 rfl ?_
                  refine iv_X10_402 dX10_tells_293 (c_X10_firstOther hX hru hp hq) mw_o (by decide) (Nat.le_of_ble_eq_true rfl) (fun v_293 w_293 hw_293 => ?_)
                  obtain ⟨Λ6, rfl, rfl⟩ := hw_293
                  rw [show foF (thF τ (mO (ru, ou, we, me, ki, (upd ro (2 * p) (nI (9 - i))), ma)) r p) (fun j => is (40 * q + j)) 8 0 = (okN τ (mO (ru, ou, we, me, ki, ro, ma)) r p (fun j => is (40 * q + j))) (9 - i) from by unfold okN; rw [show mO (ru, ou, we, me, ki, (upd ro (2 * p) (nI (9 - i))), ma) = uo_nu (mO (ru, ou, we, me, ki, ro, ma)) (upd (o_nu (mO (ru, ou, we, me, ki, ro, ma))) p (nI (9 - i))) from by unfold mO; simp only [ro_nu, ro_pr0]]]
                  refine x_iconst (-1) dX10_tells_296 ?_
                  refine x_icmp_ne 333 dX10_tells_297 (fun h_297 => ?_) (fun h_297 => ?_)
                  · refine x_iinc (-1) dX10_tells_333 rfl (by decide) ?_
                    refine x_goto 273 dX10_tells_336 ?_
                    refine Ex.forget (L' := [some (.ref 42), some (.int (nI q)), some (.int (nI p)), some (.int 2), some (.int 5), some (.int (nI p)), some (.int (ro (2 * p))), some (.int (9)), some (.int 0), some (.int (tlS (okN τ (mO (ru, ou, we, me, ki, ro, ma)) r p (fun j => is (40 * q + j))) 9 (i + 1))), some (.int (nI (tlN (okN τ (mO (ru, ou, we, me, ki, ro, ma)) r p (fun j => is (40 * q + j))) 9 (i + 1)))), some (.int (tlL 0 (okN τ (mO (ru, ou, we, me, ki, ro, ma)) r p (fun j => is (40 * q + j))) 9 (i + 1))), some (.int (vv 0 9 (i + 1)))]) ⟨rfl, rfl, rfl, rfl, rfl, rfl, rfl, rfl, rfl, by rw [tlS, if_neg h_297] <;> rfl, by rw [tlN, if_neg h_297] <;> rfl, by rw [tlL, if_neg h_297] <;> rfl, by rw [← vv_s hiN, vv_le hiN, Int32.zero_add] <;> rfl, trivial⟩ ?_
                    exact ih _ _
                  · refine x_iload dX10_tells_300 rfl ?_
                    refine x_iload dX10_tells_302 rfl ?_
                    refine x_iload dX10_tells_304 rfl ?_
                    refine x_isub dX10_tells_306 ?_
                    rw [Int32.sub_zero]
                    refine x_bipush 20 dX10_tells_307 ?_
                    refine x_icmp_ge 322 dX10_tells_309 (fun h_309 => ?_) (fun h_309 => ?_)
                    · refine x_iconst 0 dX10_tells_322 ?_
                      refine x_ior dX10_tells_323 ?_
                      refine x_istore dX10_tells_324 (by decide) ?_
                      refine x_iincN dX10_tells_326 rfl (by decide) ?_
                      refine x_iload dX10_tells_329 rfl ?_
                      refine x_istore dX10_tells_331 (by decide) ?_
                      refine x_iinc (-1) dX10_tells_333 rfl (by decide) ?_
                      refine x_goto 273 dX10_tells_336 ?_
                      refine Ex.forget (L' := [some (.ref 42), some (.int (nI q)), some (.int (nI p)), some (.int 2), some (.int 5), some (.int (nI p)), some (.int (ro (2 * p))), some (.int (9)), some (.int 0), some (.int (tlS (okN τ (mO (ru, ou, we, me, ki, ro, ma)) r p (fun j => is (40 * q + j))) 9 (i + 1))), some (.int (nI (tlN (okN τ (mO (ru, ou, we, me, ki, ro, ma)) r p (fun j => is (40 * q + j))) 9 (i + 1)))), some (.int (tlL 0 (okN τ (mO (ru, ou, we, me, ki, ro, ma)) r p (fun j => is (40 * q + j))) 9 (i + 1))), some (.int (vv 0 9 (i + 1)))]) ⟨rfl, rfl, rfl, rfl, rfl, rfl, rfl, rfl, rfl, by rw [tlS, if_pos h_297, if_neg (show ¬ (9 - i) < 20 from fun y => nI_ge y (by decide) h_309)] <;> rfl, by rw [tlN, if_pos h_297] <;> rfl, by rw [tlL, if_pos h_297, Int32.zero_add] <;> rfl, by rw [← vv_s hiN, vv_le hiN, Int32.zero_add] <;> rfl, trivial⟩ ?_
                      exact ih _ _
                    · refine x_iconst 1 dX10_tells_312 ?_
                      refine x_iload dX10_tells_313 rfl ?_
                      refine x_iload dX10_tells_315 rfl ?_
                      refine x_isub dX10_tells_317 ?_
                      rw [Int32.sub_zero]
                      refine x_ishl dX10_tells_318 ?_
                      refine x_goto 323 dX10_tells_319 ?_
                      refine x_ior dX10_tells_323 ?_
                      refine x_istore dX10_tells_324 (by decide) ?_
                      refine x_iincN dX10_tells_326 rfl (by decide) ?_
                      refine x_iload dX10_tells_329 rfl ?_
                      refine x_istore dX10_tells_331 (by decide) ?_
                      refine x_iinc (-1) dX10_tells_333 rfl (by decide) ?_
                      refine x_goto 273 dX10_tells_336 ?_
                      refine Ex.forget (L' := [some (.ref 42), some (.int (nI q)), some (.int (nI p)), some (.int 2), some (.int 5), some (.int (nI p)), some (.int (ro (2 * p))), some (.int (9)), some (.int 0), some (.int (tlS (okN τ (mO (ru, ou, we, me, ki, ro, ma)) r p (fun j => is (40 * q + j))) 9 (i + 1))), some (.int (nI (tlN (okN τ (mO (ru, ou, we, me, ki, ro, ma)) r p (fun j => is (40 * q + j))) 9 (i + 1)))), some (.int (tlL 0 (okN τ (mO (ru, ou, we, me, ki, ro, ma)) r p (fun j => is (40 * q + j))) 9 (i + 1))), some (.int (vv 0 9 (i + 1)))]) ⟨rfl, rfl, rfl, rfl, rfl, rfl, rfl, rfl, rfl, by rw [tlS, if_pos h_297, if_pos (show (9 - i) < 20 from Nat.not_le.mp (fun y => h_309 (nI_le (a := 20) y (by omega))))] <;> rfl, by rw [tlN, if_pos h_297] <;> rfl, by rw [tlL, if_pos h_297, Int32.zero_add] <;> rfl, by rw [← vv_s hiN, vv_le hiN, Int32.zero_add] <;> rfl, trivial⟩ ?_
                      exact ih _ _
              · skip
                refine x_iload_n dX10_tells_70 rfl ?_
                refine x_if_eq 80 dX10_tells_71 (fun hx => absurd hx (by decide)) (fun _ => ?_)
                refine x_iload_n dX10_tells_74 rfl ?_
                refine x_bipush 8 dX10_tells_75 ?_
                refine x_icmp_ne 99 dX10_tells_77 (fun _ => ?_) (fun hx => absurd hx (by decide))
                refine x_iload_n dX10_tells_99 rfl ?_
                refine x_iconst 1 dX10_tells_100 ?_
                refine x_icmp_ne 109 dX10_tells_101 (fun _ => ?_) (fun hx => absurd hx (by decide))
                refine x_iload_n dX10_tells_109 rfl ?_
                refine x_iconst 2 dX10_tells_110 ?_
                refine x_icmp_ne 118 dX10_tells_111 (fun _ => ?_) (fun hx => absurd hx (by decide))
                refine x_iload_n dX10_tells_118 rfl ?_
                refine x_iconst 5 dX10_tells_119 ?_
                refine x_icmp_ge 127 dX10_tells_120 (fun hx => absurd hx (by decide)) (fun _ => ?_)
                refine x_iconst 0 dX10_tells_123 ?_
                refine x_goto 150 dX10_tells_124 ?_
                refine x_istore dX10_tells_150 (by decide) ?_
                refine x_iload dX10_tells_152 rfl ?_
                refine x_iconst 3 dX10_tells_154 ?_
                refine x_icmp_ne 165 dX10_tells_155 (fun _ => ?_) (fun hx => absurd hx (by decide))
                refine x_iload_n dX10_tells_165 rfl ?_
                refine x_istore dX10_tells_166 (by decide) ?_
                refine x_iload dX10_tells_168 rfl ?_
                refine x_bipush 9 dX10_tells_170 ?_
                refine x_icmp_ne 182 dX10_tells_172 (fun _ => ?_) (fun hx => absurd hx (by decide))
                refine x_iload dX10_tells_182 rfl ?_
                refine x_bipush 8 dX10_tells_184 ?_
                refine x_icmp_ne 196 dX10_tells_186 (fun _ => ?_) (fun hx => absurd hx (by decide))
                refine x_aload_n dX10_tells_196 rfl ?_
                refine x_iload dX10_tells_197 rfl ?_
                refine x_iload dX10_tells_199 rfl ?_
                refine iv_X10_105 dX10_tells_201 (c_X10_told hX hru hz hz6 hnu) mw_o (by decide) (Nat.le_of_ble_eq_true rfl) (fun v_201 w_201 hw_201 => ?_)
                obtain ⟨Λ5, rfl, rfl⟩ := hw_201
                rw [show tdF τ (mO (ru, ou, we, me, ki, ro, ma)) r z (nI p) 0 = (ou 0) from td_y]
                refine x_istore dX10_tells_204 (by decide) ?_
                refine x_iload dX10_tells_206 rfl ?_
                refine x_bipush 9 dX10_tells_208 ?_
                refine x_icmp_ne 219 dX10_tells_210 (fun _ => ?_) (fun hx => absurd hx (by decide))
                refine x_iload dX10_tells_219 rfl ?_
                refine x_bipush 8 dX10_tells_221 ?_
                refine x_icmp_ne 235 dX10_tells_223 (fun _ => ?_) (fun hx => absurd hx (by decide))
                refine x_iload dX10_tells_235 rfl ?_
                refine x_bipush 7 dX10_tells_237 ?_
                refine x_icmp_ne 246 dX10_tells_239 (fun _ => ?_) (fun hx => absurd hx (by decide))
                refine x_iload dX10_tells_246 rfl ?_
                refine ii_X10_101 dX10_tells_248 c_X10_mostOf (by decide) (Nat.le_of_ble_eq_true rfl) ?_
                rw [show hiF 0 = 99 from rfl]
                refine x_istore dX10_tells_251 (by decide) ?_
                refine x_iload dX10_tells_253 rfl ?_
                refine ii_X10_97 dX10_tells_255 c_X10_leastOf (by decide) (Nat.le_of_ble_eq_true rfl) ?_
                rw [show leF 0 = 0 from rfl]
                refine x_istore dX10_tells_258 (by decide) ?_
                refine x_iconst 0 dX10_tells_260 ?_
                refine x_istore dX10_tells_261 (by decide) ?_
                refine x_iconst 0 dX10_tells_263 ?_
                refine x_istore dX10_tells_264 (by decide) ?_
                refine x_iconst (-1) dX10_tells_266 ?_
                refine x_istore dX10_tells_267 (by decide) ?_
                refine x_iload dX10_tells_269 rfl ?_
                refine x_istore dX10_tells_271 (by decide) ?_
                refine Ex.eqW (w' := (cst S ++ (mw (tx, ts, tc, tp, tn) (ru, (upd ou 0 (ou 0)), we, me, ki, ro, ma) Λ5 C K (it, so, ss, is) ++ tl))) (by rw [upd_eta]) ?_
                refine Ex.forget (L' := [some (.ref 42), some (.int (nI q)), some (.int (nI p)), some (.int 3), some (.int 0), some (.int (nI p)), some (.int (ou 0)), some (.int (99)), some (.int 0), some (.int (tlS (okY τ (mO (ru, ou, we, me, ki, ro, ma)) r p (fun j => is (40 * q + j))) 99 0)), some (.int (nI (tlN (okY τ (mO (ru, ou, we, me, ki, ro, ma)) r p (fun j => is (40 * q + j))) 99 0))), some (.int (tlL 0 (okY τ (mO (ru, ou, we, me, ki, ro, ma)) r p (fun j => is (40 * q + j))) 99 0)), some (.int (vv 0 99 0))]) ⟨rfl, rfl, rfl, rfl, rfl, rfl, rfl, rfl, rfl, rfl, rfl, rfl, rfl, trivial⟩ ?_
                refine for_up (P := fun i => ∀ (Λ : ML) (x : Int32), Ex X mX10_tells 51 (fun v w' => ∃ Λ' : ML, v = some (.int x0) ∧ w' = cst S ++ (mw (tx, ts, tc, tp, tn) (ru, ou, we, me, ki, ro, ma) Λ' C K (it, so, ss, is) ++ tl)) 0 0 273 [some (.ref 42), some (.int (nI q)), some (.int (nI p)), some (.int 3), some (.int 0), some (.int (nI p)), some (.int (ou 0)), some (.int (99)), some (.int 0), some (.int (tlS (okY τ (mO (ru, ou, we, me, ki, ro, ma)) r p (fun j => is (40 * q + j))) 99 i)), some (.int (nI (tlN (okY τ (mO (ru, ou, we, me, ki, ro, ma)) r p (fun j => is (40 * q + j))) 99 i))), some (.int (tlL 0 (okY τ (mO (ru, ou, we, me, ki, ro, ma)) r p (fun j => is (40 * q + j))) 99 i)), some (.int (vv 0 99 i))] [] (cst S ++ (mw (tx, ts, tc, tp, tn) (ru, (upd ou 0 x), we, me, ki, ro, ma) Λ C K (it, so, ss, is) ++ tl))) (100) ?_ (fun i hi ih => ?_) (0) (Nat.zero_le _) _ _
                · intro Λ x
                  refine x_iload dX10_tells_273 rfl ?_
                  refine x_iload dX10_tells_275 rfl ?_
                  refine x_icmp_lt 339 dX10_tells_277 (fun _ => ?_) (fun hx => absurd (vv_lt (by decide)) hx)
                  refine x_aload_n dX10_tells_339 rfl ?_
                  refine x_iload dX10_tells_340 rfl ?_
                  refine x_iload dX10_tells_342 rfl ?_
                  refine x_iload dX10_tells_344 rfl ?_
                  refine ii_X10_109 dX10_tells_346 c_X10_lays_0 mw_o (by decide) (Nat.le_of_ble_eq_true rfl) ?_
                  refine x_iload_n dX10_tells_349 rfl ?_
                  refine x_iconst 3 dX10_tells_350 ?_
                  refine x_icmp_eq 359 dX10_tells_351 (fun _ => ?_) (fun hx => absurd (rfl) hx)
                  refine x_iload dX10_tells_359 rfl ?_
                  refine x_goto 382 dX10_tells_361 ?_
                  exact Ex.ret (v := some (.int _)) ⟨dX10_tells_382, _, rfl, by first | rfl | decide⟩ ⟨_, congrArg (fun z => some (Value.int z)) (by rw [hA, teM, if_neg (by decide), if_neg (by decide), if_neg (by decide), if_neg (by decide), if_pos rfl]), by rw [upd_upd, upd_eta]⟩
                · intro Λ x
                  have hiN : i ≤ 99 := by omega
                  refine x_iload dX10_tells_273 rfl ?_
                  refine x_iload dX10_tells_275 rfl ?_
                  refine x_icmp_lt 339 dX10_tells_277 (fun hx => absurd hx (vv_nlt (by decide) hiN (by omega))) (fun _ => ?_)
                  refine x_aload_n dX10_tells_280 rfl ?_
                  refine x_iload dX10_tells_281 rfl ?_
                  refine x_iload dX10_tells_283 rfl ?_
                  refine x_iload dX10_tells_285 rfl ?_
                  rw [vv_le hiN, Int32.zero_add]
                  refine ii_X10_109 dX10_tells_287 c_X10_lays_0 mw_o (by decide) (Nat.le_of_ble_eq_true rfl) ?_
                  refine Ex.eqW (w' := (cst S ++ (mw (tx, ts, tc, tp, tn) (ru, (upd ou 0 (nI (99 - i))), we, me, ki, ro, ma) Λ C K (it, so, ss, is) ++ tl))) (by rw [upd_upd]) ?_
                  refine x_aload_n dX10_tells_290 rfl ?_
                  refine x_iload_n dX10_tells_291 rfl ?_
                  refine x_iload_n dX10_tells_292 rfl ?_
                  refine iv_X10_402 dX10_tells_293 (c_X10_firstOther hX hru hp hq) mw_o (by decide) (Nat.le_of_ble_eq_true rfl) (fun v_293 w_293 hw_293 => ?_)
                  obtain ⟨Λ6, rfl, rfl⟩ := hw_293
                  rw [show foF (thF τ (mO (ru, (upd ou 0 (nI (99 - i))), we, me, ki, ro, ma)) r p) (fun j => is (40 * q + j)) 8 0 = (okY τ (mO (ru, ou, we, me, ki, ro, ma)) r p (fun j => is (40 * q + j))) (99 - i) from rfl]
                  refine x_iconst (-1) dX10_tells_296 ?_
                  refine x_icmp_ne 333 dX10_tells_297 (fun h_297 => ?_) (fun h_297 => ?_)
                  · refine x_iinc (-1) dX10_tells_333 rfl (by decide) ?_
                    refine x_goto 273 dX10_tells_336 ?_
                    refine Ex.forget (L' := [some (.ref 42), some (.int (nI q)), some (.int (nI p)), some (.int 3), some (.int 0), some (.int (nI p)), some (.int (ou 0)), some (.int (99)), some (.int 0), some (.int (tlS (okY τ (mO (ru, ou, we, me, ki, ro, ma)) r p (fun j => is (40 * q + j))) 99 (i + 1))), some (.int (nI (tlN (okY τ (mO (ru, ou, we, me, ki, ro, ma)) r p (fun j => is (40 * q + j))) 99 (i + 1)))), some (.int (tlL 0 (okY τ (mO (ru, ou, we, me, ki, ro, ma)) r p (fun j => is (40 * q + j))) 99 (i + 1))), some (.int (vv 0 99 (i + 1)))]) ⟨rfl, rfl, rfl, rfl, rfl, rfl, rfl, rfl, rfl, by rw [tlS, if_neg h_297] <;> rfl, by rw [tlN, if_neg h_297] <;> rfl, by rw [tlL, if_neg h_297] <;> rfl, by rw [← vv_s hiN, vv_le hiN, Int32.zero_add] <;> rfl, trivial⟩ ?_
                    exact ih _ _
                  · refine x_iload dX10_tells_300 rfl ?_
                    refine x_iload dX10_tells_302 rfl ?_
                    refine x_iload dX10_tells_304 rfl ?_
                    refine x_isub dX10_tells_306 ?_
                    rw [Int32.sub_zero]
                    refine x_bipush 20 dX10_tells_307 ?_
                    refine x_icmp_ge 322 dX10_tells_309 (fun h_309 => ?_) (fun h_309 => ?_)
                    · refine x_iconst 0 dX10_tells_322 ?_
                      refine x_ior dX10_tells_323 ?_
                      refine x_istore dX10_tells_324 (by decide) ?_
                      refine x_iincN dX10_tells_326 rfl (by decide) ?_
                      refine x_iload dX10_tells_329 rfl ?_
                      refine x_istore dX10_tells_331 (by decide) ?_
                      refine x_iinc (-1) dX10_tells_333 rfl (by decide) ?_
                      refine x_goto 273 dX10_tells_336 ?_
                      refine Ex.forget (L' := [some (.ref 42), some (.int (nI q)), some (.int (nI p)), some (.int 3), some (.int 0), some (.int (nI p)), some (.int (ou 0)), some (.int (99)), some (.int 0), some (.int (tlS (okY τ (mO (ru, ou, we, me, ki, ro, ma)) r p (fun j => is (40 * q + j))) 99 (i + 1))), some (.int (nI (tlN (okY τ (mO (ru, ou, we, me, ki, ro, ma)) r p (fun j => is (40 * q + j))) 99 (i + 1)))), some (.int (tlL 0 (okY τ (mO (ru, ou, we, me, ki, ro, ma)) r p (fun j => is (40 * q + j))) 99 (i + 1))), some (.int (vv 0 99 (i + 1)))]) ⟨rfl, rfl, rfl, rfl, rfl, rfl, rfl, rfl, rfl, by rw [tlS, if_pos h_297, if_neg (show ¬ (99 - i) < 20 from fun y => nI_ge y (by decide) h_309)] <;> rfl, by rw [tlN, if_pos h_297] <;> rfl, by rw [tlL, if_pos h_297, Int32.zero_add] <;> rfl, by rw [← vv_s hiN, vv_le hiN, Int32.zero_add] <;> rfl, trivial⟩ ?_
                      exact ih _ _
                    · refine x_iconst 1 dX10_tells_312 ?_
                      refine x_iload dX10_tells_313 rfl ?_
                      refine x_iload dX10_tells_315 rfl ?_
                      refine x_isub dX10_tells_317 ?_
                      rw [Int32.sub_zero]
                      refine x_ishl dX10_tells_318 ?_
                      refine x_goto 323 dX10_tells_319 ?_
                      refine x_ior dX10_tells_323 ?_
                      refine x_istore dX10_tells_324 (by decide) ?_
                      refine x_iincN dX10_tells_326 rfl (by decide) ?_
                      refine x_iload dX10_tells_329 rfl ?_
                      refine x_istore dX10_tells_331 (by decide) ?_
                      refine x_iinc (-1) dX10_tells_333 rfl (by decide) ?_
                      refine x_goto 273 dX10_tells_336 ?_
                      refine Ex.forget (L' := [some (.ref 42), some (.int (nI q)), some (.int (nI p)), some (.int 3), some (.int 0), some (.int (nI p)), some (.int (ou 0)), some (.int (99)), some (.int 0), some (.int (tlS (okY τ (mO (ru, ou, we, me, ki, ro, ma)) r p (fun j => is (40 * q + j))) 99 (i + 1))), some (.int (nI (tlN (okY τ (mO (ru, ou, we, me, ki, ro, ma)) r p (fun j => is (40 * q + j))) 99 (i + 1)))), some (.int (tlL 0 (okY τ (mO (ru, ou, we, me, ki, ro, ma)) r p (fun j => is (40 * q + j))) 99 (i + 1))), some (.int (vv 0 99 (i + 1)))]) ⟨rfl, rfl, rfl, rfl, rfl, rfl, rfl, rfl, rfl, by rw [tlS, if_pos h_297, if_pos (show (99 - i) < 20 from Nat.not_le.mp (fun y => h_309 (nI_le (a := 20) y (by omega))))] <;> rfl, by rw [tlN, if_pos h_297] <;> rfl, by rw [tlL, if_pos h_297, Int32.zero_add] <;> rfl, by rw [← vv_s hiN, vv_le hiN, Int32.zero_add] <;> rfl, trivial⟩ ?_
                      exact ih _ _
              · skip
                refine x_iload_n dX10_tells_70 rfl ?_
                refine x_if_eq 80 dX10_tells_71 (fun hx => absurd hx (by decide)) (fun _ => ?_)
                refine x_iload_n dX10_tells_74 rfl ?_
                refine x_bipush 8 dX10_tells_75 ?_
                refine x_icmp_ne 99 dX10_tells_77 (fun _ => ?_) (fun hx => absurd hx (by decide))
                refine x_iload_n dX10_tells_99 rfl ?_
                refine x_iconst 1 dX10_tells_100 ?_
                refine x_icmp_ne 109 dX10_tells_101 (fun _ => ?_) (fun hx => absurd hx (by decide))
                refine x_iload_n dX10_tells_109 rfl ?_
                refine x_iconst 2 dX10_tells_110 ?_
                refine x_icmp_ne 118 dX10_tells_111 (fun _ => ?_) (fun hx => absurd hx (by decide))
                refine x_iload_n dX10_tells_118 rfl ?_
                refine x_iconst 5 dX10_tells_119 ?_
                refine x_icmp_ge 127 dX10_tells_120 (fun hx => absurd hx (by decide)) (fun _ => ?_)
                refine x_iconst 0 dX10_tells_123 ?_
                refine x_goto 150 dX10_tells_124 ?_
                refine x_istore dX10_tells_150 (by decide) ?_
                refine x_iload dX10_tells_152 rfl ?_
                refine x_iconst 3 dX10_tells_154 ?_
                refine x_icmp_ne 165 dX10_tells_155 (fun _ => ?_) (fun hx => absurd hx (by decide))
                refine x_iload_n dX10_tells_165 rfl ?_
                refine x_istore dX10_tells_166 (by decide) ?_
                refine x_iload dX10_tells_168 rfl ?_
                refine x_bipush 9 dX10_tells_170 ?_
                refine x_icmp_ne 182 dX10_tells_172 (fun _ => ?_) (fun hx => absurd hx (by decide))
                refine x_iload dX10_tells_182 rfl ?_
                refine x_bipush 8 dX10_tells_184 ?_
                refine x_icmp_ne 196 dX10_tells_186 (fun _ => ?_) (fun hx => absurd hx (by decide))
                refine x_aload_n dX10_tells_196 rfl ?_
                refine x_iload dX10_tells_197 rfl ?_
                refine x_iload dX10_tells_199 rfl ?_
                refine iv_X10_105 dX10_tells_201 (c_X10_told hX hru hz hz6 hnu) mw_o (by decide) (Nat.le_of_ble_eq_true rfl) (fun v_201 w_201 hw_201 => ?_)
                obtain ⟨Λ5, rfl, rfl⟩ := hw_201
                rw [show tdF τ (mO (ru, ou, we, me, ki, ro, ma)) r z (nI p) 0 = (ou 0) from td_y]
                refine x_istore dX10_tells_204 (by decide) ?_
                refine x_iload dX10_tells_206 rfl ?_
                refine x_bipush 9 dX10_tells_208 ?_
                refine x_icmp_ne 219 dX10_tells_210 (fun _ => ?_) (fun hx => absurd hx (by decide))
                refine x_iload dX10_tells_219 rfl ?_
                refine x_bipush 8 dX10_tells_221 ?_
                refine x_icmp_ne 235 dX10_tells_223 (fun _ => ?_) (fun hx => absurd hx (by decide))
                refine x_iload dX10_tells_235 rfl ?_
                refine x_bipush 7 dX10_tells_237 ?_
                refine x_icmp_ne 246 dX10_tells_239 (fun _ => ?_) (fun hx => absurd hx (by decide))
                refine x_iload dX10_tells_246 rfl ?_
                refine ii_X10_101 dX10_tells_248 c_X10_mostOf (by decide) (Nat.le_of_ble_eq_true rfl) ?_
                rw [show hiF 0 = 99 from rfl]
                refine x_istore dX10_tells_251 (by decide) ?_
                refine x_iload dX10_tells_253 rfl ?_
                refine ii_X10_97 dX10_tells_255 c_X10_leastOf (by decide) (Nat.le_of_ble_eq_true rfl) ?_
                rw [show leF 0 = 0 from rfl]
                refine x_istore dX10_tells_258 (by decide) ?_
                refine x_iconst 0 dX10_tells_260 ?_
                refine x_istore dX10_tells_261 (by decide) ?_
                refine x_iconst 0 dX10_tells_263 ?_
                refine x_istore dX10_tells_264 (by decide) ?_
                refine x_iconst (-1) dX10_tells_266 ?_
                refine x_istore dX10_tells_267 (by decide) ?_
                refine x_iload dX10_tells_269 rfl ?_
                refine x_istore dX10_tells_271 (by decide) ?_
                refine Ex.eqW (w' := (cst S ++ (mw (tx, ts, tc, tp, tn) (ru, (upd ou 0 (ou 0)), we, me, ki, ro, ma) Λ5 C K (it, so, ss, is) ++ tl))) (by rw [upd_eta]) ?_
                refine Ex.forget (L' := [some (.ref 42), some (.int (nI q)), some (.int (nI p)), some (.int 4), some (.int 0), some (.int (nI p)), some (.int (ou 0)), some (.int (99)), some (.int 0), some (.int (tlS (okY τ (mO (ru, ou, we, me, ki, ro, ma)) r p (fun j => is (40 * q + j))) 99 0)), some (.int (nI (tlN (okY τ (mO (ru, ou, we, me, ki, ro, ma)) r p (fun j => is (40 * q + j))) 99 0))), some (.int (tlL 0 (okY τ (mO (ru, ou, we, me, ki, ro, ma)) r p (fun j => is (40 * q + j))) 99 0)), some (.int (vv 0 99 0))]) ⟨rfl, rfl, rfl, rfl, rfl, rfl, rfl, rfl, rfl, rfl, rfl, rfl, rfl, trivial⟩ ?_
                refine for_up (P := fun i => ∀ (Λ : ML) (x : Int32), Ex X mX10_tells 51 (fun v w' => ∃ Λ' : ML, v = some (.int x0) ∧ w' = cst S ++ (mw (tx, ts, tc, tp, tn) (ru, ou, we, me, ki, ro, ma) Λ' C K (it, so, ss, is) ++ tl)) 0 0 273 [some (.ref 42), some (.int (nI q)), some (.int (nI p)), some (.int 4), some (.int 0), some (.int (nI p)), some (.int (ou 0)), some (.int (99)), some (.int 0), some (.int (tlS (okY τ (mO (ru, ou, we, me, ki, ro, ma)) r p (fun j => is (40 * q + j))) 99 i)), some (.int (nI (tlN (okY τ (mO (ru, ou, we, me, ki, ro, ma)) r p (fun j => is (40 * q + j))) 99 i))), some (.int (tlL 0 (okY τ (mO (ru, ou, we, me, ki, ro, ma)) r p (fun j => is (40 * q + j))) 99 i)), some (.int (vv 0 99 i))] [] (cst S ++ (mw (tx, ts, tc, tp, tn) (ru, (upd ou 0 x), we, me, ki, ro, ma) Λ C K (it, so, ss, is) ++ tl))) (100) ?_ (fun i hi ih => ?_) (0) (Nat.zero_le _) _ _
                · intro Λ x
                  refine x_iload dX10_tells_273 rfl ?_
                  refine x_iload dX10_tells_275 rfl ?_
                  refine x_icmp_lt 339 dX10_tells_277 (fun _ => ?_) (fun hx => absurd (vv_lt (by decide)) hx)
                  refine x_aload_n dX10_tells_339 rfl ?_
                  refine x_iload dX10_tells_340 rfl ?_
                  refine x_iload dX10_tells_342 rfl ?_
                  refine x_iload dX10_tells_344 rfl ?_
                  refine ii_X10_109 dX10_tells_346 c_X10_lays_0 mw_o (by decide) (Nat.le_of_ble_eq_true rfl) ?_
                  refine x_iload_n dX10_tells_349 rfl ?_
                  refine x_iconst 3 dX10_tells_350 ?_
                  refine x_icmp_eq 359 dX10_tells_351 (fun hx => absurd hx (by decide)) (fun _ => ?_)
                  refine x_iload_n dX10_tells_354 rfl ?_
                  refine x_iconst 5 dX10_tells_355 ?_
                  refine x_icmp_ne 364 dX10_tells_356 (fun _ => ?_) (fun hx => absurd hx (by decide))
                  refine x_iload_n dX10_tells_364 rfl ?_
                  refine x_iconst 4 dX10_tells_365 ?_
                  refine x_icmp_eq 375 dX10_tells_366 (fun _ => ?_) (fun hx => absurd (rfl) hx)
                  refine x_iload dX10_tells_375 rfl ?_
                  refine x_goto 382 dX10_tells_377 ?_
                  exact Ex.ret (v := some (.int _)) ⟨dX10_tells_382, _, rfl, by first | rfl | decide⟩ ⟨_, congrArg (fun z => some (Value.int z)) (by rw [hA, teM, if_neg (by decide), if_neg (by decide), if_neg (by decide), if_neg (by decide), if_neg (by decide), if_pos rfl]), by rw [upd_upd, upd_eta]⟩
                · intro Λ x
                  have hiN : i ≤ 99 := by omega
                  refine x_iload dX10_tells_273 rfl ?_
                  refine x_iload dX10_tells_275 rfl ?_
                  refine x_icmp_lt 339 dX10_tells_277 (fun hx => absurd hx (vv_nlt (by decide) hiN (by omega))) (fun _ => ?_)
                  refine x_aload_n dX10_tells_280 rfl ?_
                  refine x_iload dX10_tells_281 rfl ?_
                  refine x_iload dX10_tells_283 rfl ?_
                  refine x_iload dX10_tells_285 rfl ?_
                  rw [vv_le hiN, Int32.zero_add]
                  refine ii_X10_109 dX10_tells_287 c_X10_lays_0 mw_o (by decide) (Nat.le_of_ble_eq_true rfl) ?_
                  refine Ex.eqW (w' := (cst S ++ (mw (tx, ts, tc, tp, tn) (ru, (upd ou 0 (nI (99 - i))), we, me, ki, ro, ma) Λ C K (it, so, ss, is) ++ tl))) (by rw [upd_upd]) ?_
                  refine x_aload_n dX10_tells_290 rfl ?_
                  refine x_iload_n dX10_tells_291 rfl ?_
                  refine x_iload_n dX10_tells_292 rfl ?_
                  refine iv_X10_402 dX10_tells_293 (c_X10_firstOther hX hru hp hq) mw_o (by decide) (Nat.le_of_ble_eq_true rfl) (fun v_293 w_293 hw_293 => ?_)
                  obtain ⟨Λ6, rfl, rfl⟩ := hw_293
                  rw [show foF (thF τ (mO (ru, (upd ou 0 (nI (99 - i))), we, me, ki, ro, ma)) r p) (fun j => is (40 * q + j)) 8 0 = (okY τ (mO (ru, ou, we, me, ki, ro, ma)) r p (fun j => is (40 * q + j))) (99 - i) from rfl]
                  refine x_iconst (-1) dX10_tells_296 ?_
                  refine x_icmp_ne 333 dX10_tells_297 (fun h_297 => ?_) (fun h_297 => ?_)
                  · refine x_iinc (-1) dX10_tells_333 rfl (by decide) ?_
                    refine x_goto 273 dX10_tells_336 ?_
                    refine Ex.forget (L' := [some (.ref 42), some (.int (nI q)), some (.int (nI p)), some (.int 4), some (.int 0), some (.int (nI p)), some (.int (ou 0)), some (.int (99)), some (.int 0), some (.int (tlS (okY τ (mO (ru, ou, we, me, ki, ro, ma)) r p (fun j => is (40 * q + j))) 99 (i + 1))), some (.int (nI (tlN (okY τ (mO (ru, ou, we, me, ki, ro, ma)) r p (fun j => is (40 * q + j))) 99 (i + 1)))), some (.int (tlL 0 (okY τ (mO (ru, ou, we, me, ki, ro, ma)) r p (fun j => is (40 * q + j))) 99 (i + 1))), some (.int (vv 0 99 (i + 1)))]) ⟨rfl, rfl, rfl, rfl, rfl, rfl, rfl, rfl, rfl, by rw [tlS, if_neg h_297] <;> rfl, by rw [tlN, if_neg h_297] <;> rfl, by rw [tlL, if_neg h_297] <;> rfl, by rw [← vv_s hiN, vv_le hiN, Int32.zero_add] <;> rfl, trivial⟩ ?_
                    exact ih _ _
                  · refine x_iload dX10_tells_300 rfl ?_
                    refine x_iload dX10_tells_302 rfl ?_
                    refine x_iload dX10_tells_304 rfl ?_
                    refine x_isub dX10_tells_306 ?_
                    rw [Int32.sub_zero]
                    refine x_bipush 20 dX10_tells_307 ?_
                    refine x_icmp_ge 322 dX10_tells_309 (fun h_309 => ?_) (fun h_309 => ?_)
                    · refine x_iconst 0 dX10_tells_322 ?_
                      refine x_ior dX10_tells_323 ?_
                      refine x_istore dX10_tells_324 (by decide) ?_
                      refine x_iincN dX10_tells_326 rfl (by decide) ?_
                      refine x_iload dX10_tells_329 rfl ?_
                      refine x_istore dX10_tells_331 (by decide) ?_
                      refine x_iinc (-1) dX10_tells_333 rfl (by decide) ?_
                      refine x_goto 273 dX10_tells_336 ?_
                      refine Ex.forget (L' := [some (.ref 42), some (.int (nI q)), some (.int (nI p)), some (.int 4), some (.int 0), some (.int (nI p)), some (.int (ou 0)), some (.int (99)), some (.int 0), some (.int (tlS (okY τ (mO (ru, ou, we, me, ki, ro, ma)) r p (fun j => is (40 * q + j))) 99 (i + 1))), some (.int (nI (tlN (okY τ (mO (ru, ou, we, me, ki, ro, ma)) r p (fun j => is (40 * q + j))) 99 (i + 1)))), some (.int (tlL 0 (okY τ (mO (ru, ou, we, me, ki, ro, ma)) r p (fun j => is (40 * q + j))) 99 (i + 1))), some (.int (vv 0 99 (i + 1)))]) ⟨rfl, rfl, rfl, rfl, rfl, rfl, rfl, rfl, rfl, by rw [tlS, if_pos h_297, if_neg (show ¬ (99 - i) < 20 from fun y => nI_ge y (by decide) h_309)] <;> rfl, by rw [tlN, if_pos h_297] <;> rfl, by rw [tlL, if_pos h_297, Int32.zero_add] <;> rfl, by rw [← vv_s hiN, vv_le hiN, Int32.zero_add] <;> rfl, trivial⟩ ?_
                      exact ih _ _
                    · refine x_iconst 1 dX10_tells_312 ?_
                      refine x_iload dX10_tells_313 rfl ?_
                      refine x_iload dX10_tells_315 rfl ?_
                      refine x_isub dX10_tells_317 ?_
                      rw [Int32.sub_zero]
                      refine x_ishl dX10_tells_318 ?_
                      refine x_goto 323 dX10_tells_319 ?_
                      refine x_ior dX10_tells_323 ?_
                      refine x_istore dX10_tells_324 (by decide) ?_
                      refine x_iincN dX10_tells_326 rfl (by decide) ?_
                      refine x_iload dX10_tells_329 rfl ?_
                      refine x_istore dX10_tells_331 (by decide) ?_
                      refine x_iinc (-1) dX10_tells_333 rfl (by decide) ?_
                      refine x_goto 273 dX10_tells_336 ?_
                      refine Ex.forget (L' := [some (.ref 42), some (.int (nI q)), some (.int (nI p)), some (.int 4), some (.int 0), some (.int (nI p)), some (.int (ou 0)), some (.int (99)), some (.int 0), some (.int (tlS (okY τ (mO (ru, ou, we, me, ki, ro, ma)) r p (fun j => is (40 * q + j))) 99 (i + 1))), some (.int (nI (tlN (okY τ (mO (ru, ou, we, me, ki, ro, ma)) r p (fun j => is (40 * q + j))) 99 (i + 1)))), some (.int (tlL 0 (okY τ (mO (ru, ou, we, me, ki, ro, ma)) r p (fun j => is (40 * q + j))) 99 (i + 1))), some (.int (vv 0 99 (i + 1)))]) ⟨rfl, rfl, rfl, rfl, rfl, rfl, rfl, rfl, rfl, by rw [tlS, if_pos h_297, if_pos (show (99 - i) < 20 from Nat.not_le.mp (fun y => h_309 (nI_le (a := 20) y (by omega))))] <;> rfl, by rw [tlN, if_pos h_297] <;> rfl, by rw [tlL, if_pos h_297, Int32.zero_add] <;> rfl, by rw [← vv_s hiN, vv_le hiN, Int32.zero_add] <;> rfl, trivial⟩ ?_
                      exact ih _ _
              · skip
                refine x_iload_n dX10_tells_70 rfl ?_
                refine x_if_eq 80 dX10_tells_71 (fun hx => absurd hx (by decide)) (fun _ => ?_)
                refine x_iload_n dX10_tells_74 rfl ?_
                refine x_bipush 8 dX10_tells_75 ?_
                refine x_icmp_ne 99 dX10_tells_77 (fun _ => ?_) (fun hx => absurd hx (by decide))
                refine x_iload_n dX10_tells_99 rfl ?_
                refine x_iconst 1 dX10_tells_100 ?_
                refine x_icmp_ne 109 dX10_tells_101 (fun _ => ?_) (fun hx => absurd hx (by decide))
                refine x_iload_n dX10_tells_109 rfl ?_
                refine x_iconst 2 dX10_tells_110 ?_
                refine x_icmp_ne 118 dX10_tells_111 (fun _ => ?_) (fun hx => absurd hx (by decide))
                refine x_iload_n dX10_tells_118 rfl ?_
                refine x_iconst 5 dX10_tells_119 ?_
                refine x_icmp_ge 127 dX10_tells_120 (fun _ => ?_) (fun hx => absurd (by decide) hx)
                refine x_iload_n dX10_tells_127 rfl ?_
                refine x_bipush 7 dX10_tells_128 ?_
                refine x_icmp_ge 138 dX10_tells_130 (fun hx => absurd hx (by decide)) (fun _ => ?_)
                refine x_bipush 9 dX10_tells_133 ?_
                refine x_goto 150 dX10_tells_135 ?_
                refine x_istore dX10_tells_150 (by decide) ?_
                refine x_iload dX10_tells_152 rfl ?_
                refine x_iconst 3 dX10_tells_154 ?_
                refine x_icmp_ne 165 dX10_tells_155 (fun _ => ?_) (fun hx => absurd hx (by decide))
                refine x_iload_n dX10_tells_165 rfl ?_
                refine x_istore dX10_tells_166 (by decide) ?_
                refine x_iload dX10_tells_168 rfl ?_
                refine x_bipush 9 dX10_tells_170 ?_
                refine x_icmp_ne 182 dX10_tells_172 (fun hx => absurd (rfl) hx) (fun _ => ?_)
                refine x_aload_n dX10_tells_175 rfl ?_
                refine mg_113 dX10_tells_176 ?_
                refine x_goto 204 dX10_tells_179 ?_
                refine x_istore dX10_tells_204 (by decide) ?_
                refine x_iload dX10_tells_206 rfl ?_
                refine x_bipush 9 dX10_tells_208 ?_
                refine x_icmp_ne 219 dX10_tells_210 (fun hx => absurd (rfl) hx) (fun _ => ?_)
                refine x_sipush 255 dX10_tells_213 ?_
                refine x_goto 251 dX10_tells_216 ?_
                refine x_istore dX10_tells_251 (by decide) ?_
                refine x_iload dX10_tells_253 rfl ?_
                refine ii_X10_97 dX10_tells_255 c_X10_leastOf (by decide) (Nat.le_of_ble_eq_true rfl) ?_
                rw [show leF 9 = 0 from rfl]
                refine x_istore dX10_tells_258 (by decide) ?_
                refine x_iconst 0 dX10_tells_260 ?_
                refine x_istore dX10_tells_261 (by decide) ?_
                refine x_iconst 0 dX10_tells_263 ?_
                refine x_istore dX10_tells_264 (by decide) ?_
                refine x_iconst (-1) dX10_tells_266 ?_
                refine x_istore dX10_tells_267 (by decide) ?_
                refine x_iload dX10_tells_269 rfl ?_
                refine x_istore dX10_tells_271 (by decide) ?_
                refine Ex.forget (L' := [some (.ref 42), some (.int (nI q)), some (.int (nI p)), some (.int 5), some (.int 9), some (.int (nI p)), some (.int me), some (.int (255)), some (.int 0), some (.int (tlS (okD τ (mO (ru, ou, we, me, ki, ro, ma)) r p (fun j => is (40 * q + j))) 255 0)), some (.int (nI (tlN (okD τ (mO (ru, ou, we, me, ki, ro, ma)) r p (fun j => is (40 * q + j))) 255 0))), some (.int (tlL 0 (okD τ (mO (ru, ou, we, me, ki, ro, ma)) r p (fun j => is (40 * q + j))) 255 0)), some (.int (vv 0 255 0))]) ⟨rfl, rfl, rfl, rfl, rfl, rfl, rfl, rfl, rfl, rfl, rfl, rfl, rfl, trivial⟩ ?_
                refine for_up (P := fun i => ∀ (Λ : ML) (x : Int32), Ex X mX10_tells 51 (fun v w' => ∃ Λ' : ML, v = some (.int x0) ∧ w' = cst S ++ (mw (tx, ts, tc, tp, tn) (ru, ou, we, me, ki, ro, ma) Λ' C K (it, so, ss, is) ++ tl)) 0 0 273 [some (.ref 42), some (.int (nI q)), some (.int (nI p)), some (.int 5), some (.int 9), some (.int (nI p)), some (.int me), some (.int (255)), some (.int 0), some (.int (tlS (okD τ (mO (ru, ou, we, me, ki, ro, ma)) r p (fun j => is (40 * q + j))) 255 i)), some (.int (nI (tlN (okD τ (mO (ru, ou, we, me, ki, ro, ma)) r p (fun j => is (40 * q + j))) 255 i))), some (.int (tlL 0 (okD τ (mO (ru, ou, we, me, ki, ro, ma)) r p (fun j => is (40 * q + j))) 255 i)), some (.int (vv 0 255 i))] [] (cst S ++ (mw (tx, ts, tc, tp, tn) (ru, ou, we, x, ki, ro, ma) Λ C K (it, so, ss, is) ++ tl))) (256) ?_ (fun i hi ih => ?_) (0) (Nat.zero_le _) _ _
                · intro Λ x
                  refine x_iload dX10_tells_273 rfl ?_
                  refine x_iload dX10_tells_275 rfl ?_
                  refine x_icmp_lt 339 dX10_tells_277 (fun _ => ?_) (fun hx => absurd (vv_lt (by decide)) hx)
                  refine x_aload_n dX10_tells_339 rfl ?_
                  refine x_iload dX10_tells_340 rfl ?_
                  refine x_iload dX10_tells_342 rfl ?_
                  refine x_iload dX10_tells_344 rfl ?_
                  refine ii_X10_109 dX10_tells_346 c_X10_lays_9 mw_o (by decide) (Nat.le_of_ble_eq_true rfl) ?_
                  refine x_iload_n dX10_tells_349 rfl ?_
                  refine x_iconst 3 dX10_tells_350 ?_
                  refine x_icmp_eq 359 dX10_tells_351 (fun hx => absurd hx (by decide)) (fun _ => ?_)
                  refine x_iload_n dX10_tells_354 rfl ?_
                  refine x_iconst 5 dX10_tells_355 ?_
                  refine x_icmp_ne 364 dX10_tells_356 (fun hx => absurd (rfl) hx) (fun _ => ?_)
                  refine x_iload dX10_tells_359 rfl ?_
                  refine x_goto 382 dX10_tells_361 ?_
                  exact Ex.ret (v := some (.int _)) ⟨dX10_tells_382, _, rfl, by first | rfl | decide⟩ ⟨_, congrArg (fun z => some (Value.int z)) (by rw [hA, teM, if_neg (by decide), if_neg (by decide), if_neg (by decide), if_neg (by decide), if_neg (by decide), if_neg (by decide), if_pos rfl]), rfl⟩
                · intro Λ x
                  have hiN : i ≤ 255 := by omega
                  refine x_iload dX10_tells_273 rfl ?_
                  refine x_iload dX10_tells_275 rfl ?_
                  refine x_icmp_lt 339 dX10_tells_277 (fun hx => absurd hx (vv_nlt (by decide) hiN (by omega))) (fun _ => ?_)
                  refine x_aload_n dX10_tells_280 rfl ?_
                  refine x_iload dX10_tells_281 rfl ?_
                  refine x_iload dX10_tells_283 rfl ?_
                  refine x_iload dX10_tells_285 rfl ?_
                  rw [vv_le hiN, Int32.zero_add]
                  refine ii_X10_109 dX10_tells_287 c_X10_lays_9 mw_o (by decide) (Nat.le_of_ble_eq_true rfl) ?_
                  refine x_aload_n dX10_tells_290 rfl ?_
                  refine x_iload_n dX10_tells_291 rfl ?_
                  refine x_iload_n dX10_tells_292 rfl ?_
                  refine iv_X10_402 dX10_tells_293 (c_X10_firstOther hX hru hp hq) mw_o (by decide) (Nat.le_of_ble_eq_true rfl) (fun v_293 w_293 hw_293 => ?_)
                  obtain ⟨Λ6, rfl, rfl⟩ := hw_293
                  rw [show foF (thF τ (mO (ru, ou, we, (nI (255 - i)), ki, ro, ma)) r p) (fun j => is (40 * q + j)) 8 0 = (okD τ (mO (ru, ou, we, me, ki, ro, ma)) r p (fun j => is (40 * q + j))) (255 - i) from rfl]
                  refine x_iconst (-1) dX10_tells_296 ?_
                  refine x_icmp_ne 333 dX10_tells_297 (fun h_297 => ?_) (fun h_297 => ?_)
                  · refine x_iinc (-1) dX10_tells_333 rfl (by decide) ?_
                    refine x_goto 273 dX10_tells_336 ?_
                    refine Ex.forget (L' := [some (.ref 42), some (.int (nI q)), some (.int (nI p)), some (.int 5), some (.int 9), some (.int (nI p)), some (.int me), some (.int (255)), some (.int 0), some (.int (tlS (okD τ (mO (ru, ou, we, me, ki, ro, ma)) r p (fun j => is (40 * q + j))) 255 (i + 1))), some (.int (nI (tlN (okD τ (mO (ru, ou, we, me, ki, ro, ma)) r p (fun j => is (40 * q + j))) 255 (i + 1)))), some (.int (tlL 0 (okD τ (mO (ru, ou, we, me, ki, ro, ma)) r p (fun j => is (40 * q + j))) 255 (i + 1))), some (.int (vv 0 255 (i + 1)))]) ⟨rfl, rfl, rfl, rfl, rfl, rfl, rfl, rfl, rfl, by rw [tlS, if_neg h_297] <;> rfl, by rw [tlN, if_neg h_297] <;> rfl, by rw [tlL, if_neg h_297] <;> rfl, by rw [← vv_s hiN, vv_le hiN, Int32.zero_add] <;> rfl, trivial⟩ ?_
                    exact ih _ _
                  · refine x_iload dX10_tells_300 rfl ?_
                    refine x_iload dX10_tells_302 rfl ?_
                    refine x_iload dX10_tells_304 rfl ?_
                    refine x_isub dX10_tells_306 ?_
                    rw [Int32.sub_zero]
                    refine x_bipush 20 dX10_tells_307 ?_
                    refine x_icmp_ge 322 dX10_tells_309 (fun h_309 => ?_) (fun h_309 => ?_)
                    · refine x_iconst 0 dX10_tells_322 ?_
                      refine x_ior dX10_tells_323 ?_
                      refine x_istore dX10_tells_324 (by decide) ?_
                      refine x_iincN dX10_tells_326 rfl (by decide) ?_
                      refine x_iload dX10_tells_329 rfl ?_
                      refine x_istore dX10_tells_331 (by decide) ?_
                      refine x_iinc (-1) dX10_tells_333 rfl (by decide) ?_
                      refine x_goto 273 dX10_tells_336 ?_
                      refine Ex.forget (L' := [some (.ref 42), some (.int (nI q)), some (.int (nI p)), some (.int 5), some (.int 9), some (.int (nI p)), some (.int me), some (.int (255)), some (.int 0), some (.int (tlS (okD τ (mO (ru, ou, we, me, ki, ro, ma)) r p (fun j => is (40 * q + j))) 255 (i + 1))), some (.int (nI (tlN (okD τ (mO (ru, ou, we, me, ki, ro, ma)) r p (fun j => is (40 * q + j))) 255 (i + 1)))), some (.int (tlL 0 (okD τ (mO (ru, ou, we, me, ki, ro, ma)) r p (fun j => is (40 * q + j))) 255 (i + 1))), some (.int (vv 0 255 (i + 1)))]) ⟨rfl, rfl, rfl, rfl, rfl, rfl, rfl, rfl, rfl, by rw [tlS, if_pos h_297, if_neg (show ¬ (255 - i) < 20 from fun y => nI_ge y (by decide) h_309)] <;> rfl, by rw [tlN, if_pos h_297] <;> rfl, by rw [tlL, if_pos h_297, Int32.zero_add] <;> rfl, by rw [← vv_s hiN, vv_le hiN, Int32.zero_add] <;> rfl, trivial⟩ ?_
                      exact ih _ _
                    · refine x_iconst 1 dX10_tells_312 ?_
                      refine x_iload dX10_tells_313 rfl ?_
                      refine x_iload dX10_tells_315 rfl ?_
                      refine x_isub dX10_tells_317 ?_
                      rw [Int32.sub_zero]
                      refine x_ishl dX10_tells_318 ?_
                      refine x_goto 323 dX10_tells_319 ?_
                      refine x_ior dX10_tells_323 ?_
                      refine x_istore dX10_tells_324 (by decide) ?_
                      refine x_iincN dX10_tells_326 rfl (by decide) ?_
                      refine x_iload dX10_tells_329 rfl ?_
                      refine x_istore dX10_tells_331 (by decide) ?_
                      refine x_iinc (-1) dX10_tells_333 rfl (by decide) ?_
                      refine x_goto 273 dX10_tells_336 ?_
                      refine Ex.forget (L' := [some (.ref 42), some (.int (nI q)), some (.int (nI p)), some (.int 5), some (.int 9), some (.int (nI p)), some (.int me), some (.int (255)), some (.int 0), some (.int (tlS (okD τ (mO (ru, ou, we, me, ki, ro, ma)) r p (fun j => is (40 * q + j))) 255 (i + 1))), some (.int (nI (tlN (okD τ (mO (ru, ou, we, me, ki, ro, ma)) r p (fun j => is (40 * q + j))) 255 (i + 1)))), some (.int (tlL 0 (okD τ (mO (ru, ou, we, me, ki, ro, ma)) r p (fun j => is (40 * q + j))) 255 (i + 1))), some (.int (vv 0 255 (i + 1)))]) ⟨rfl, rfl, rfl, rfl, rfl, rfl, rfl, rfl, rfl, by rw [tlS, if_pos h_297, if_pos (show (255 - i) < 20 from Nat.not_le.mp (fun y => h_309 (nI_le (a := 20) y (by omega))))] <;> rfl, by rw [tlN, if_pos h_297] <;> rfl, by rw [tlL, if_pos h_297, Int32.zero_add] <;> rfl, by rw [← vv_s hiN, vv_le hiN, Int32.zero_add] <;> rfl, trivial⟩ ?_
                      exact ih _ _
              · skip
                refine x_iload_n dX10_tells_70 rfl ?_
                refine x_if_eq 80 dX10_tells_71 (fun hx => absurd hx (by decide)) (fun _ => ?_)
                refine x_iload_n dX10_tells_74 rfl ?_
                refine x_bipush 8 dX10_tells_75 ?_
                refine x_icmp_ne 99 dX10_tells_77 (fun _ => ?_) (fun hx => absurd hx (by decide))
                refine x_iload_n dX10_tells_99 rfl ?_
                refine x_iconst 1 dX10_tells_100 ?_
                refine x_icmp_ne 109 dX10_tells_101 (fun _ => ?_) (fun hx => absurd hx (by decide))
                refine x_iload_n dX10_tells_109 rfl ?_
                refine x_iconst 2 dX10_tells_110 ?_
                refine x_icmp_ne 118 dX10_tells_111 (fun _ => ?_) (fun hx => absurd hx (by decide))
                refine x_iload_n dX10_tells_118 rfl ?_
                refine x_iconst 5 dX10_tells_119 ?_
                refine x_icmp_ge 127 dX10_tells_120 (fun _ => ?_) (fun hx => absurd (by decide) hx)
                refine x_iload_n dX10_tells_127 rfl ?_
                refine x_bipush 7 dX10_tells_128 ?_
                refine x_icmp_ge 138 dX10_tells_130 (fun hx => absurd hx (by decide)) (fun _ => ?_)
                refine x_bipush 9 dX10_tells_133 ?_
                refine x_goto 150 dX10_tells_135 ?_
                refine x_istore dX10_tells_150 (by decide) ?_
                refine x_iload dX10_tells_152 rfl ?_
                refine x_iconst 3 dX10_tells_154 ?_
                refine x_icmp_ne 165 dX10_tells_155 (fun _ => ?_) (fun hx => absurd hx (by decide))
                refine x_iload_n dX10_tells_165 rfl ?_
                refine x_istore dX10_tells_166 (by decide) ?_
                refine x_iload dX10_tells_168 rfl ?_
                refine x_bipush 9 dX10_tells_170 ?_
                refine x_icmp_ne 182 dX10_tells_172 (fun hx => absurd (rfl) hx) (fun _ => ?_)
                refine x_aload_n dX10_tells_175 rfl ?_
                refine mg_113 dX10_tells_176 ?_
                refine x_goto 204 dX10_tells_179 ?_
                refine x_istore dX10_tells_204 (by decide) ?_
                refine x_iload dX10_tells_206 rfl ?_
                refine x_bipush 9 dX10_tells_208 ?_
                refine x_icmp_ne 219 dX10_tells_210 (fun hx => absurd (rfl) hx) (fun _ => ?_)
                refine x_sipush 255 dX10_tells_213 ?_
                refine x_goto 251 dX10_tells_216 ?_
                refine x_istore dX10_tells_251 (by decide) ?_
                refine x_iload dX10_tells_253 rfl ?_
                refine ii_X10_97 dX10_tells_255 c_X10_leastOf (by decide) (Nat.le_of_ble_eq_true rfl) ?_
                rw [show leF 9 = 0 from rfl]
                refine x_istore dX10_tells_258 (by decide) ?_
                refine x_iconst 0 dX10_tells_260 ?_
                refine x_istore dX10_tells_261 (by decide) ?_
                refine x_iconst 0 dX10_tells_263 ?_
                refine x_istore dX10_tells_264 (by decide) ?_
                refine x_iconst (-1) dX10_tells_266 ?_
                refine x_istore dX10_tells_267 (by decide) ?_
                refine x_iload dX10_tells_269 rfl ?_
                refine x_istore dX10_tells_271 (by decide) ?_
                refine Ex.forget (L' := [some (.ref 42), some (.int (nI q)), some (.int (nI p)), some (.int 6), some (.int 9), some (.int (nI p)), some (.int me), some (.int (255)), some (.int 0), some (.int (tlS (okD τ (mO (ru, ou, we, me, ki, ro, ma)) r p (fun j => is (40 * q + j))) 255 0)), some (.int (nI (tlN (okD τ (mO (ru, ou, we, me, ki, ro, ma)) r p (fun j => is (40 * q + j))) 255 0))), some (.int (tlL 0 (okD τ (mO (ru, ou, we, me, ki, ro, ma)) r p (fun j => is (40 * q + j))) 255 0)), some (.int (vv 0 255 0))]) ⟨rfl, rfl, rfl, rfl, rfl, rfl, rfl, rfl, rfl, rfl, rfl, rfl, rfl, trivial⟩ ?_
                refine for_up (P := fun i => ∀ (Λ : ML) (x : Int32), Ex X mX10_tells 51 (fun v w' => ∃ Λ' : ML, v = some (.int x0) ∧ w' = cst S ++ (mw (tx, ts, tc, tp, tn) (ru, ou, we, me, ki, ro, ma) Λ' C K (it, so, ss, is) ++ tl)) 0 0 273 [some (.ref 42), some (.int (nI q)), some (.int (nI p)), some (.int 6), some (.int 9), some (.int (nI p)), some (.int me), some (.int (255)), some (.int 0), some (.int (tlS (okD τ (mO (ru, ou, we, me, ki, ro, ma)) r p (fun j => is (40 * q + j))) 255 i)), some (.int (nI (tlN (okD τ (mO (ru, ou, we, me, ki, ro, ma)) r p (fun j => is (40 * q + j))) 255 i))), some (.int (tlL 0 (okD τ (mO (ru, ou, we, me, ki, ro, ma)) r p (fun j => is (40 * q + j))) 255 i)), some (.int (vv 0 255 i))] [] (cst S ++ (mw (tx, ts, tc, tp, tn) (ru, ou, we, x, ki, ro, ma) Λ C K (it, so, ss, is) ++ tl))) (256) ?_ (fun i hi ih => ?_) (0) (Nat.zero_le _) _ _
                · intro Λ x
                  refine x_iload dX10_tells_273 rfl ?_
                  refine x_iload dX10_tells_275 rfl ?_
                  refine x_icmp_lt 339 dX10_tells_277 (fun _ => ?_) (fun hx => absurd (vv_lt (by decide)) hx)
                  refine x_aload_n dX10_tells_339 rfl ?_
                  refine x_iload dX10_tells_340 rfl ?_
                  refine x_iload dX10_tells_342 rfl ?_
                  refine x_iload dX10_tells_344 rfl ?_
                  refine ii_X10_109 dX10_tells_346 c_X10_lays_9 mw_o (by decide) (Nat.le_of_ble_eq_true rfl) ?_
                  refine x_iload_n dX10_tells_349 rfl ?_
                  refine x_iconst 3 dX10_tells_350 ?_
                  refine x_icmp_eq 359 dX10_tells_351 (fun hx => absurd hx (by decide)) (fun _ => ?_)
                  refine x_iload_n dX10_tells_354 rfl ?_
                  refine x_iconst 5 dX10_tells_355 ?_
                  refine x_icmp_ne 364 dX10_tells_356 (fun _ => ?_) (fun hx => absurd hx (by decide))
                  refine x_iload_n dX10_tells_364 rfl ?_
                  refine x_iconst 4 dX10_tells_365 ?_
                  refine x_icmp_eq 375 dX10_tells_366 (fun hx => absurd hx (by decide)) (fun _ => ?_)
                  refine x_iload_n dX10_tells_369 rfl ?_
                  refine x_bipush 6 dX10_tells_370 ?_
                  refine x_icmp_ne 380 dX10_tells_372 (fun hx => absurd (rfl) hx) (fun _ => ?_)
                  refine x_iload dX10_tells_375 rfl ?_
                  refine x_goto 382 dX10_tells_377 ?_
                  exact Ex.ret (v := some (.int _)) ⟨dX10_tells_382, _, rfl, by first | rfl | decide⟩ ⟨_, congrArg (fun z => some (Value.int z)) (by rw [hA, teM, if_neg (by decide), if_neg (by decide), if_neg (by decide), if_neg (by decide), if_neg (by decide), if_neg (by decide), if_neg (by decide), if_pos rfl]), rfl⟩
                · intro Λ x
                  have hiN : i ≤ 255 := by omega
                  refine x_iload dX10_tells_273 rfl ?_
                  refine x_iload dX10_tells_275 rfl ?_
                  refine x_icmp_lt 339 dX10_tells_277 (fun hx => absurd hx (vv_nlt (by decide) hiN (by omega))) (fun _ => ?_)
                  refine x_aload_n dX10_tells_280 rfl ?_
                  refine x_iload dX10_tells_281 rfl ?_
                  refine x_iload dX10_tells_283 rfl ?_
                  refine x_iload dX10_tells_285 rfl ?_
                  rw [vv_le hiN, Int32.zero_add]
                  refine ii_X10_109 dX10_tells_287 c_X10_lays_9 mw_o (by decide) (Nat.le_of_ble_eq_true rfl) ?_
                  refine x_aload_n dX10_tells_290 rfl ?_
                  refine x_iload_n dX10_tells_291 rfl ?_
                  refine x_iload_n dX10_tells_292 rfl ?_
                  refine iv_X10_402 dX10_tells_293 (c_X10_firstOther hX hru hp hq) mw_o (by decide) (Nat.le_of_ble_eq_true rfl) (fun v_293 w_293 hw_293 => ?_)
                  obtain ⟨Λ6, rfl, rfl⟩ := hw_293
                  rw [show foF (thF τ (mO (ru, ou, we, (nI (255 - i)), ki, ro, ma)) r p) (fun j => is (40 * q + j)) 8 0 = (okD τ (mO (ru, ou, we, me, ki, ro, ma)) r p (fun j => is (40 * q + j))) (255 - i) from rfl]
                  refine x_iconst (-1) dX10_tells_296 ?_
                  refine x_icmp_ne 333 dX10_tells_297 (fun h_297 => ?_) (fun h_297 => ?_)
                  · refine x_iinc (-1) dX10_tells_333 rfl (by decide) ?_
                    refine x_goto 273 dX10_tells_336 ?_
                    refine Ex.forget (L' := [some (.ref 42), some (.int (nI q)), some (.int (nI p)), some (.int 6), some (.int 9), some (.int (nI p)), some (.int me), some (.int (255)), some (.int 0), some (.int (tlS (okD τ (mO (ru, ou, we, me, ki, ro, ma)) r p (fun j => is (40 * q + j))) 255 (i + 1))), some (.int (nI (tlN (okD τ (mO (ru, ou, we, me, ki, ro, ma)) r p (fun j => is (40 * q + j))) 255 (i + 1)))), some (.int (tlL 0 (okD τ (mO (ru, ou, we, me, ki, ro, ma)) r p (fun j => is (40 * q + j))) 255 (i + 1))), some (.int (vv 0 255 (i + 1)))]) ⟨rfl, rfl, rfl, rfl, rfl, rfl, rfl, rfl, rfl, by rw [tlS, if_neg h_297] <;> rfl, by rw [tlN, if_neg h_297] <;> rfl, by rw [tlL, if_neg h_297] <;> rfl, by rw [← vv_s hiN, vv_le hiN, Int32.zero_add] <;> rfl, trivial⟩ ?_
                    exact ih _ _
                  · refine x_iload dX10_tells_300 rfl ?_
                    refine x_iload dX10_tells_302 rfl ?_
                    refine x_iload dX10_tells_304 rfl ?_
                    refine x_isub dX10_tells_306 ?_
                    rw [Int32.sub_zero]
                    refine x_bipush 20 dX10_tells_307 ?_
                    refine x_icmp_ge 322 dX10_tells_309 (fun h_309 => ?_) (fun h_309 => ?_)
                    · refine x_iconst 0 dX10_tells_322 ?_
                      refine x_ior dX10_tells_323 ?_
                      refine x_istore dX10_tells_324 (by decide) ?_
                      refine x_iincN dX10_tells_326 rfl (by decide) ?_
                      refine x_iload dX10_tells_329 rfl ?_
                      refine x_istore dX10_tells_331 (by decide) ?_
                      refine x_iinc (-1) dX10_tells_333 rfl (by decide) ?_
                      refine x_goto 273 dX10_tells_336 ?_
                      refine Ex.forget (L' := [some (.ref 42), some (.int (nI q)), some (.int (nI p)), some (.int 6), some (.int 9), some (.int (nI p)), some (.int me), some (.int (255)), some (.int 0), some (.int (tlS (okD τ (mO (ru, ou, we, me, ki, ro, ma)) r p (fun j => is (40 * q + j))) 255 (i + 1))), some (.int (nI (tlN (okD τ (mO (ru, ou, we, me, ki, ro, ma)) r p (fun j => is (40 * q + j))) 255 (i + 1)))), some (.int (tlL 0 (okD τ (mO (ru, ou, we, me, ki, ro, ma)) r p (fun j => is (40 * q + j))) 255 (i + 1))), some (.int (vv 0 255 (i + 1)))]) ⟨rfl, rfl, rfl, rfl, rfl, rfl, rfl, rfl, rfl, by rw [tlS, if_pos h_297, if_neg (show ¬ (255 - i) < 20 from fun y => nI_ge y (by decide) h_309)] <;> rfl, by rw [tlN, if_pos h_297] <;> rfl, by rw [tlL, if_pos h_297, Int32.zero_add] <;> rfl, by rw [← vv_s hiN, vv_le hiN, Int32.zero_add] <;> rfl, trivial⟩ ?_
                      exact ih _ _
                    · refine x_iconst 1 dX10_tells_312 ?_
                      refine x_iload dX10_tells_313 rfl ?_
                      refine x_iload dX10_tells_315 rfl ?_
                      refine x_isub dX10_tells_317 ?_
                      rw [Int32.sub_zero]
                      refine x_ishl dX10_tells_318 ?_
                      refine x_goto 323 dX10_tells_319 ?_
                      refine x_ior dX10_tells_323 ?_
                      refine x_istore dX10_tells_324 (by decide) ?_
                      refine x_iincN dX10_tells_326 rfl (by decide) ?_
                      refine x_iload dX10_tells_329 rfl ?_
                      refine x_istore dX10_tells_331 (by decide) ?_
                      refine x_iinc (-1) dX10_tells_333 rfl (by decide) ?_
                      refine x_goto 273 dX10_tells_336 ?_
                      refine Ex.forget (L' := [some (.ref 42), some (.int (nI q)), some (.int (nI p)), some (.int 6), some (.int 9), some (.int (nI p)), some (.int me), some (.int (255)), some (.int 0), some (.int (tlS (okD τ (mO (ru, ou, we, me, ki, ro, ma)) r p (fun j => is (40 * q + j))) 255 (i + 1))), some (.int (nI (tlN (okD τ (mO (ru, ou, we, me, ki, ro, ma)) r p (fun j => is (40 * q + j))) 255 (i + 1)))), some (.int (tlL 0 (okD τ (mO (ru, ou, we, me, ki, ro, ma)) r p (fun j => is (40 * q + j))) 255 (i + 1))), some (.int (vv 0 255 (i + 1)))]) ⟨rfl, rfl, rfl, rfl, rfl, rfl, rfl, rfl, rfl, by rw [tlS, if_pos h_297, if_pos (show (255 - i) < 20 from Nat.not_le.mp (fun y => h_309 (nI_le (a := 20) y (by omega))))] <;> rfl, by rw [tlN, if_pos h_297] <;> rfl, by rw [tlL, if_pos h_297, Int32.zero_add] <;> rfl, by rw [← vv_s hiN, vv_le hiN, Int32.zero_add] <;> rfl, trivial⟩ ?_
                      exact ih _ _
              · skip
                refine x_iload_n dX10_tells_70 rfl ?_
                refine x_if_eq 80 dX10_tells_71 (fun hx => absurd hx (by decide)) (fun _ => ?_)
                refine x_iload_n dX10_tells_74 rfl ?_
                refine x_bipush 8 dX10_tells_75 ?_
                refine x_icmp_ne 99 dX10_tells_77 (fun _ => ?_) (fun hx => absurd hx (by decide))
                refine x_iload_n dX10_tells_99 rfl ?_
                refine x_iconst 1 dX10_tells_100 ?_
                refine x_icmp_ne 109 dX10_tells_101 (fun _ => ?_) (fun hx => absurd hx (by decide))
                refine x_iload_n dX10_tells_109 rfl ?_
                refine x_iconst 2 dX10_tells_110 ?_
                refine x_icmp_ne 118 dX10_tells_111 (fun _ => ?_) (fun hx => absurd hx (by decide))
                refine x_iload_n dX10_tells_118 rfl ?_
                refine x_iconst 5 dX10_tells_119 ?_
                refine x_icmp_ge 127 dX10_tells_120 (fun _ => ?_) (fun hx => absurd (by decide) hx)
                refine x_iload_n dX10_tells_127 rfl ?_
                refine x_bipush 7 dX10_tells_128 ?_
                refine x_icmp_ge 138 dX10_tells_130 (fun _ => ?_) (fun hx => absurd (by decide) hx)
                refine x_iload_n dX10_tells_138 rfl ?_
                refine x_bipush 7 dX10_tells_139 ?_
                refine x_icmp_ne 149 dX10_tells_141 (fun hx => absurd (rfl) hx) (fun _ => ?_)
                refine x_bipush 8 dX10_tells_144 ?_
                refine x_goto 150 dX10_tells_146 ?_
                refine x_istore dX10_tells_150 (by decide) ?_
                refine x_iload dX10_tells_152 rfl ?_
                refine x_iconst 3 dX10_tells_154 ?_
                refine x_icmp_ne 165 dX10_tells_155 (fun _ => ?_) (fun hx => absurd hx (by decide))
                refine x_iload_n dX10_tells_165 rfl ?_
                refine x_istore dX10_tells_166 (by decide) ?_
                refine x_iload dX10_tells_168 rfl ?_
                refine x_bipush 9 dX10_tells_170 ?_
                refine x_icmp_ne 182 dX10_tells_172 (fun _ => ?_) (fun hx => absurd hx (by decide))
                refine x_iload dX10_tells_182 rfl ?_
                refine x_bipush 8 dX10_tells_184 ?_
                refine x_icmp_ne 196 dX10_tells_186 (fun hx => absurd (rfl) hx) (fun _ => ?_)
                refine x_aload_n dX10_tells_189 rfl ?_
                refine mg_116 dX10_tells_190 ?_
                refine x_goto 204 dX10_tells_193 ?_
                refine x_istore dX10_tells_204 (by decide) ?_
                refine x_iload dX10_tells_206 rfl ?_
                refine x_bipush 9 dX10_tells_208 ?_
                refine x_icmp_ne 219 dX10_tells_210 (fun _ => ?_) (fun hx => absurd hx (by decide))
                refine x_iload dX10_tells_219 rfl ?_
                refine x_bipush 8 dX10_tells_221 ?_
                refine x_icmp_ne 235 dX10_tells_223 (fun hx => absurd (rfl) hx) (fun _ => ?_)
                refine x_aload_n dX10_tells_226 rfl ?_
                refine mg_70 dX10_tells_227 ?_
                refine x_iconst 1 dX10_tells_230 ?_
                refine x_isub dX10_tells_231 ?_
                rw [show tc - 1 = nI (m - 1) from by rw [hm, isub1 hm1]]
                refine x_goto 251 dX10_tells_232 ?_
                refine x_istore dX10_tells_251 (by decide) ?_
                refine x_iload dX10_tells_253 rfl ?_
                refine ii_X10_97 dX10_tells_255 c_X10_leastOf (by decide) (Nat.le_of_ble_eq_true rfl) ?_
                rw [show leF 8 = 0 from rfl]
                refine x_istore dX10_tells_258 (by decide) ?_
                refine x_iconst 0 dX10_tells_260 ?_
                refine x_istore dX10_tells_261 (by decide) ?_
                refine x_iconst 0 dX10_tells_263 ?_
                refine x_istore dX10_tells_264 (by decide) ?_
                refine x_iconst (-1) dX10_tells_266 ?_
                refine x_istore dX10_tells_267 (by decide) ?_
                refine x_iload dX10_tells_269 rfl ?_
                refine x_istore dX10_tells_271 (by decide) ?_
                refine Ex.forget (L' := [some (.ref 42), some (.int (nI q)), some (.int (nI p)), some (.int 7), some (.int 8), some (.int (nI p)), some (.int ru), some (.int (nI (m - 1))), some (.int 0), some (.int (tlS (okT τ (mO (ru, ou, we, me, ki, ro, ma)) p (fun j => is (40 * q + j))) (m - 1) 0)), some (.int (nI (tlN (okT τ (mO (ru, ou, we, me, ki, ro, ma)) p (fun j => is (40 * q + j))) (m - 1) 0))), some (.int (tlL 0 (okT τ (mO (ru, ou, we, me, ki, ro, ma)) p (fun j => is (40 * q + j))) (m - 1) 0)), some (.int (vv 0 (m - 1) 0))]) ⟨rfl, rfl, rfl, rfl, rfl, rfl, rfl, rfl, rfl, rfl, rfl, rfl, congrArg (fun z => some (Value.int z)) ((Int32.zero_add _).symm.trans (vv_le (Nat.zero_le _)).symm), trivial⟩ ?_
                refine for_up (P := fun i => ∀ (Λ : ML) (x : Int32), Ex X mX10_tells 51 (fun v w' => ∃ Λ' : ML, v = some (.int x0) ∧ w' = cst S ++ (mw (tx, ts, tc, tp, tn) (ru, ou, we, me, ki, ro, ma) Λ' C K (it, so, ss, is) ++ tl)) 0 0 273 [some (.ref 42), some (.int (nI q)), some (.int (nI p)), some (.int 7), some (.int 8), some (.int (nI p)), some (.int ru), some (.int (nI (m - 1))), some (.int 0), some (.int (tlS (okT τ (mO (ru, ou, we, me, ki, ro, ma)) p (fun j => is (40 * q + j))) (m - 1) i)), some (.int (nI (tlN (okT τ (mO (ru, ou, we, me, ki, ro, ma)) p (fun j => is (40 * q + j))) (m - 1) i))), some (.int (tlL 0 (okT τ (mO (ru, ou, we, me, ki, ro, ma)) p (fun j => is (40 * q + j))) (m - 1) i)), some (.int (vv 0 (m - 1) i))] [] (cst S ++ (mw (tx, ts, tc, tp, tn) (x, ou, we, me, ki, ro, ma) Λ C K (it, so, ss, is) ++ tl))) ((m - 1 + 1)) ?_ (fun i hi ih => ?_) (0) (Nat.zero_le _) _ _
                · intro Λ x
                  refine x_iload dX10_tells_273 rfl ?_
                  refine x_iload dX10_tells_275 rfl ?_
                  refine x_icmp_lt 339 dX10_tells_277 (fun _ => ?_) (fun hx => absurd (vv_lt (by decide)) hx)
                  refine x_aload_n dX10_tells_339 rfl ?_
                  refine x_iload dX10_tells_340 rfl ?_
                  refine x_iload dX10_tells_342 rfl ?_
                  refine x_iload dX10_tells_344 rfl ?_
                  refine ii_X10_109 dX10_tells_346 c_X10_lays_8 mw_o (by decide) (Nat.le_of_ble_eq_true rfl) ?_
                  refine x_iload_n dX10_tells_349 rfl ?_
                  refine x_iconst 3 dX10_tells_350 ?_
                  refine x_icmp_eq 359 dX10_tells_351 (fun hx => absurd hx (by decide)) (fun _ => ?_)
                  refine x_iload_n dX10_tells_354 rfl ?_
                  refine x_iconst 5 dX10_tells_355 ?_
                  refine x_icmp_ne 364 dX10_tells_356 (fun _ => ?_) (fun hx => absurd hx (by decide))
                  refine x_iload_n dX10_tells_364 rfl ?_
                  refine x_iconst 4 dX10_tells_365 ?_
                  refine x_icmp_eq 375 dX10_tells_366 (fun hx => absurd hx (by decide)) (fun _ => ?_)
                  refine x_iload_n dX10_tells_369 rfl ?_
                  refine x_bipush 6 dX10_tells_370 ?_
                  refine x_icmp_ne 380 dX10_tells_372 (fun _ => ?_) (fun hx => absurd hx (by decide))
                  refine x_iload dX10_tells_380 rfl ?_
                  exact Ex.ret (v := some (.int _)) ⟨dX10_tells_382, _, rfl, by first | rfl | decide⟩ ⟨_, congrArg (fun z => some (Value.int z)) (by rw [hA, teM, if_neg (by decide), if_neg (by decide), if_neg (by decide), if_neg (by decide), if_neg (by decide), if_neg (by decide), if_neg (by decide), if_neg (by decide), if_pos rfl]; rw [show m - 1 + 1 = m by omega]), rfl⟩
                · intro Λ x
                  have hiN : i ≤ (m - 1) := by omega
                  refine x_iload dX10_tells_273 rfl ?_
                  refine x_iload dX10_tells_275 rfl ?_
                  refine x_icmp_lt 339 dX10_tells_277 (fun hx => absurd hx (vv_nlt (by decide) hiN (by omega))) (fun _ => ?_)
                  refine x_aload_n dX10_tells_280 rfl ?_
                  refine x_iload dX10_tells_281 rfl ?_
                  refine x_iload dX10_tells_283 rfl ?_
                  refine x_iload dX10_tells_285 rfl ?_
                  rw [vv_le hiN, Int32.zero_add]
                  refine ii_X10_109 dX10_tells_287 c_X10_lays_8 mw_o (by decide) (Nat.le_of_ble_eq_true rfl) ?_
                  refine x_aload_n dX10_tells_290 rfl ?_
                  refine x_iload_n dX10_tells_291 rfl ?_
                  refine x_iload_n dX10_tells_292 rfl ?_
                  refine iv_X10_402 dX10_tells_293 (c_X10_firstOther (hXa ((m - 1) - i) (by omega)) rfl hp hq) mw_o (by decide) (Nat.le_of_ble_eq_true rfl) (fun v_293 w_293 hw_293 => ?_)
                  obtain ⟨Λ6, rfl, rfl⟩ := hw_293
                  rw [show foF (thF τ (mO ((nI ((m - 1) - i)), ou, we, me, ki, ro, ma)) ((m - 1) - i) p) (fun j => is (40 * q + j)) 8 0 = (okT τ (mO (ru, ou, we, me, ki, ro, ma)) p (fun j => is (40 * q + j))) ((m - 1) - i) from rfl]
                  refine x_iconst (-1) dX10_tells_296 ?_
                  refine x_icmp_ne 333 dX10_tells_297 (fun h_297 => ?_) (fun h_297 => ?_)
                  · refine x_iinc (-1) dX10_tells_333 rfl (by decide) ?_
                    refine x_goto 273 dX10_tells_336 ?_
                    refine Ex.forget (L' := [some (.ref 42), some (.int (nI q)), some (.int (nI p)), some (.int 7), some (.int 8), some (.int (nI p)), some (.int ru), some (.int (nI (m - 1))), some (.int 0), some (.int (tlS (okT τ (mO (ru, ou, we, me, ki, ro, ma)) p (fun j => is (40 * q + j))) (m - 1) (i + 1))), some (.int (nI (tlN (okT τ (mO (ru, ou, we, me, ki, ro, ma)) p (fun j => is (40 * q + j))) (m - 1) (i + 1)))), some (.int (tlL 0 (okT τ (mO (ru, ou, we, me, ki, ro, ma)) p (fun j => is (40 * q + j))) (m - 1) (i + 1))), some (.int (vv 0 (m - 1) (i + 1)))]) ⟨rfl, rfl, rfl, rfl, rfl, rfl, rfl, rfl, rfl, by rw [tlS, if_neg h_297] <;> rfl, by rw [tlN, if_neg h_297] <;> rfl, by rw [tlL, if_neg h_297] <;> rfl, by rw [← vv_s hiN, vv_le hiN, Int32.zero_add] <;> rfl, trivial⟩ ?_
                    exact ih _ _
                  · refine x_iload dX10_tells_300 rfl ?_
                    refine x_iload dX10_tells_302 rfl ?_
                    refine x_iload dX10_tells_304 rfl ?_
                    refine x_isub dX10_tells_306 ?_
                    rw [Int32.sub_zero]
                    refine x_bipush 20 dX10_tells_307 ?_
                    refine x_icmp_ge 322 dX10_tells_309 (fun h_309 => ?_) (fun h_309 => ?_)
                    · refine x_iconst 0 dX10_tells_322 ?_
                      refine x_ior dX10_tells_323 ?_
                      refine x_istore dX10_tells_324 (by decide) ?_
                      refine x_iincN dX10_tells_326 rfl (by decide) ?_
                      refine x_iload dX10_tells_329 rfl ?_
                      refine x_istore dX10_tells_331 (by decide) ?_
                      refine x_iinc (-1) dX10_tells_333 rfl (by decide) ?_
                      refine x_goto 273 dX10_tells_336 ?_
                      refine Ex.forget (L' := [some (.ref 42), some (.int (nI q)), some (.int (nI p)), some (.int 7), some (.int 8), some (.int (nI p)), some (.int ru), some (.int (nI (m - 1))), some (.int 0), some (.int (tlS (okT τ (mO (ru, ou, we, me, ki, ro, ma)) p (fun j => is (40 * q + j))) (m - 1) (i + 1))), some (.int (nI (tlN (okT τ (mO (ru, ou, we, me, ki, ro, ma)) p (fun j => is (40 * q + j))) (m - 1) (i + 1)))), some (.int (tlL 0 (okT τ (mO (ru, ou, we, me, ki, ro, ma)) p (fun j => is (40 * q + j))) (m - 1) (i + 1))), some (.int (vv 0 (m - 1) (i + 1)))]) ⟨rfl, rfl, rfl, rfl, rfl, rfl, rfl, rfl, rfl, by rw [tlS, if_pos h_297, if_neg (show ¬ ((m - 1) - i) < 20 from fun y => nI_ge y (by decide) h_309)] <;> rfl, by rw [tlN, if_pos h_297] <;> rfl, by rw [tlL, if_pos h_297, Int32.zero_add] <;> rfl, by rw [← vv_s hiN, vv_le hiN, Int32.zero_add] <;> rfl, trivial⟩ ?_
                      exact ih _ _
                    · refine x_iconst 1 dX10_tells_312 ?_
                      refine x_iload dX10_tells_313 rfl ?_
                      refine x_iload dX10_tells_315 rfl ?_
                      refine x_isub dX10_tells_317 ?_
                      rw [Int32.sub_zero]
                      refine x_ishl dX10_tells_318 ?_
                      refine x_goto 323 dX10_tells_319 ?_
                      refine x_ior dX10_tells_323 ?_
                      refine x_istore dX10_tells_324 (by decide) ?_
                      refine x_iincN dX10_tells_326 rfl (by decide) ?_
                      refine x_iload dX10_tells_329 rfl ?_
                      refine x_istore dX10_tells_331 (by decide) ?_
                      refine x_iinc (-1) dX10_tells_333 rfl (by decide) ?_
                      refine x_goto 273 dX10_tells_336 ?_
                      refine Ex.forget (L' := [some (.ref 42), some (.int (nI q)), some (.int (nI p)), some (.int 7), some (.int 8), some (.int (nI p)), some (.int ru), some (.int (nI (m - 1))), some (.int 0), some (.int (tlS (okT τ (mO (ru, ou, we, me, ki, ro, ma)) p (fun j => is (40 * q + j))) (m - 1) (i + 1))), some (.int (nI (tlN (okT τ (mO (ru, ou, we, me, ki, ro, ma)) p (fun j => is (40 * q + j))) (m - 1) (i + 1)))), some (.int (tlL 0 (okT τ (mO (ru, ou, we, me, ki, ro, ma)) p (fun j => is (40 * q + j))) (m - 1) (i + 1))), some (.int (vv 0 (m - 1) (i + 1)))]) ⟨rfl, rfl, rfl, rfl, rfl, rfl, rfl, rfl, rfl, by rw [tlS, if_pos h_297, if_pos (show ((m - 1) - i) < 20 from Nat.not_le.mp (fun y => h_309 (nI_le (a := 20) y (by omega))))] <;> rfl, by rw [tlN, if_pos h_297] <;> rfl, by rw [tlL, if_pos h_297, Int32.zero_add] <;> rfl, by rw [← vv_s hiN, vv_le hiN, Int32.zero_add] <;> rfl, trivial⟩ ?_
                      exact ih _ _
              · skip
                refine x_iload_n dX10_tells_70 rfl ?_
                refine x_if_eq 80 dX10_tells_71 (fun hx => absurd hx (by decide)) (fun _ => ?_)
                refine x_iload_n dX10_tells_74 rfl ?_
                refine x_bipush 8 dX10_tells_75 ?_
                refine x_icmp_ne 99 dX10_tells_77 (fun hx => absurd (rfl) hx) (fun _ => ?_)
                refine x_iload_n dX10_tells_80 rfl ?_
                refine x_if_ne 93 dX10_tells_81 (fun _ => ?_) (fun hx => absurd hx (by decide))
                refine x_aload_n dX10_tells_93 rfl ?_
                refine x_iload_n dX10_tells_94 rfl ?_
                refine iv_X10_412 dX10_tells_95 (c_X10_likeSet hX hru hz hz6 hq) mw_o (by decide) (Nat.le_of_ble_eq_true rfl) (fun v_95 w_95 hw_95 => ?_)
                obtain ⟨Λ1, rfl, rfl⟩ := hw_95
                exact Ex.ret (v := some (.int _)) ⟨dX10_tells_98, _, rfl, by first | rfl | decide⟩ ⟨_, congrArg (fun z => some (Value.int z)) (by rw [hA, teM, if_neg (by decide), if_pos rfl]), rfl⟩
            · obtain ⟨g0, g1, g2, g3, g4, g5, g6, g7, g8, gl5, gl7⟩ := ge10 hwh.1
              obtain ⟨h, hh, eh⟩ := sub_hr (c := 10) (a := 10) (by decide) rfl hwh.1 hwh.2
              refine x_iload_n dX10_tells_70 rfl ?_
              refine x_if_eq 80 dX10_tells_71 (fun hx => absurd hx (g0)) (fun _ => ?_)
              refine x_iload_n dX10_tells_74 rfl ?_
              refine x_bipush 8 dX10_tells_75 ?_
              refine x_icmp_ne 99 dX10_tells_77 (fun _ => ?_) (fun hx => absurd hx (g8))
              refine x_iload_n dX10_tells_99 rfl ?_
              refine x_iconst 1 dX10_tells_100 ?_
              refine x_icmp_ne 109 dX10_tells_101 (fun _ => ?_) (fun hx => absurd hx (g1))
              refine x_iload_n dX10_tells_109 rfl ?_
              refine x_iconst 2 dX10_tells_110 ?_
              refine x_icmp_ne 118 dX10_tells_111 (fun _ => ?_) (fun hx => absurd hx (g2))
              refine x_iload_n dX10_tells_118 rfl ?_
              refine x_iconst 5 dX10_tells_119 ?_
              refine x_icmp_ge 127 dX10_tells_120 (fun _ => ?_) (fun hx => absurd (Int32.not_lt.mp gl5) hx)
              refine x_iload_n dX10_tells_127 rfl ?_
              refine x_bipush 7 dX10_tells_128 ?_
              refine x_icmp_ge 138 dX10_tells_130 (fun _ => ?_) (fun hx => absurd (Int32.not_lt.mp gl7) hx)
              refine x_iload_n dX10_tells_138 rfl ?_
              refine x_bipush 7 dX10_tells_139 ?_
              refine x_icmp_ne 149 dX10_tells_141 (fun _ => ?_) (fun hx => absurd hx (g7))
              refine x_iconst 3 dX10_tells_149 ?_
              refine x_istore dX10_tells_150 (by decide) ?_
              refine x_iload dX10_tells_152 rfl ?_
              refine x_iconst 3 dX10_tells_154 ?_
              refine x_icmp_ne 165 dX10_tells_155 (fun hx => absurd (rfl) hx) (fun _ => ?_)
              refine x_iload_n dX10_tells_158 rfl ?_
              refine x_bipush 10 dX10_tells_159 ?_
              refine x_isub dX10_tells_161 ?_
              rw [eh]
              refine x_goto 166 dX10_tells_162 ?_
              refine x_istore dX10_tells_166 (by decide) ?_
              refine x_iload dX10_tells_168 rfl ?_
              refine x_bipush 9 dX10_tells_170 ?_
              refine x_icmp_ne 182 dX10_tells_172 (fun _ => ?_) (fun hx => absurd hx (by decide))
              refine x_iload dX10_tells_182 rfl ?_
              refine x_bipush 8 dX10_tells_184 ?_
              refine x_icmp_ne 196 dX10_tells_186 (fun _ => ?_) (fun hx => absurd hx (by decide))
              refine x_aload_n dX10_tells_196 rfl ?_
              refine x_iload dX10_tells_197 rfl ?_
              refine x_iload dX10_tells_199 rfl ?_
              refine iv_X10_105 dX10_tells_201 (c_X10_told hX hru hz hz6 hnu) mw_o (by decide) (Nat.le_of_ble_eq_true rfl) (fun v_201 w_201 hw_201 => ?_)
              obtain ⟨Λ5, rfl, rfl⟩ := hw_201
              rw [show tdF τ (mO (ru, ou, we, me, ki, ro, ma)) r z (nI h) 3 = (we h) from (td_w hh)]
              refine x_istore dX10_tells_204 (by decide) ?_
              refine x_iload dX10_tells_206 rfl ?_
              refine x_bipush 9 dX10_tells_208 ?_
              refine x_icmp_ne 219 dX10_tells_210 (fun _ => ?_) (fun hx => absurd hx (by decide))
              refine x_iload dX10_tells_219 rfl ?_
              refine x_bipush 8 dX10_tells_221 ?_
              refine x_icmp_ne 235 dX10_tells_223 (fun _ => ?_) (fun hx => absurd hx (by decide))
              refine x_iload dX10_tells_235 rfl ?_
              refine x_bipush 7 dX10_tells_237 ?_
              refine x_icmp_ne 246 dX10_tells_239 (fun _ => ?_) (fun hx => absurd hx (by decide))
              refine x_iload dX10_tells_246 rfl ?_
              refine ii_X10_101 dX10_tells_248 c_X10_mostOf (by decide) (Nat.le_of_ble_eq_true rfl) ?_
              rw [show hiF 3 = 9 from rfl]
              refine x_istore dX10_tells_251 (by decide) ?_
              refine x_iload dX10_tells_253 rfl ?_
              refine ii_X10_97 dX10_tells_255 c_X10_leastOf (by decide) (Nat.le_of_ble_eq_true rfl) ?_
              rw [show leF 3 = (-9) from rfl]
              refine x_istore dX10_tells_258 (by decide) ?_
              refine x_iconst 0 dX10_tells_260 ?_
              refine x_istore dX10_tells_261 (by decide) ?_
              refine x_iconst 0 dX10_tells_263 ?_
              refine x_istore dX10_tells_264 (by decide) ?_
              refine x_iconst (-1) dX10_tells_266 ?_
              refine x_istore dX10_tells_267 (by decide) ?_
              refine x_iload dX10_tells_269 rfl ?_
              refine x_istore dX10_tells_271 (by decide) ?_
              refine Ex.eqW (w' := (cst S ++ (mw (tx, ts, tc, tp, tn) (ru, ou, (upd we h (we h)), me, ki, ro, ma) Λ5 C K (it, so, ss, is) ++ tl))) (by rw [upd_eta]) ?_
              refine Ex.forget (L' := [some (.ref 42), some (.int (nI q)), some (.int (nI p)), some (.int what), some (.int 3), some (.int (nI h)), some (.int (we h)), some (.int (9)), some (.int (-9)), some (.int (tlS (okW τ (mO (ru, ou, we, me, ki, ro, ma)) r p h (fun j => is (40 * q + j))) 18 0)), some (.int (nI (tlN (okW τ (mO (ru, ou, we, me, ki, ro, ma)) r p h (fun j => is (40 * q + j))) 18 0))), some (.int (tlL (-9) (okW τ (mO (ru, ou, we, me, ki, ro, ma)) r p h (fun j => is (40 * q + j))) 18 0)), some (.int (vv (-9) 18 0))]) ⟨rfl, rfl, rfl, rfl, rfl, rfl, rfl, rfl, rfl, rfl, rfl, rfl, rfl, trivial⟩ ?_
              refine for_up (P := fun i => ∀ (Λ : ML) (x : Int32), Ex X mX10_tells 51 (fun v w' => ∃ Λ' : ML, v = some (.int x0) ∧ w' = cst S ++ (mw (tx, ts, tc, tp, tn) (ru, ou, we, me, ki, ro, ma) Λ' C K (it, so, ss, is) ++ tl)) 0 0 273 [some (.ref 42), some (.int (nI q)), some (.int (nI p)), some (.int what), some (.int 3), some (.int (nI h)), some (.int (we h)), some (.int (9)), some (.int (-9)), some (.int (tlS (okW τ (mO (ru, ou, we, me, ki, ro, ma)) r p h (fun j => is (40 * q + j))) 18 i)), some (.int (nI (tlN (okW τ (mO (ru, ou, we, me, ki, ro, ma)) r p h (fun j => is (40 * q + j))) 18 i))), some (.int (tlL (-9) (okW τ (mO (ru, ou, we, me, ki, ro, ma)) r p h (fun j => is (40 * q + j))) 18 i)), some (.int (vv (-9) 18 i))] [] (cst S ++ (mw (tx, ts, tc, tp, tn) (ru, ou, (upd we h x), me, ki, ro, ma) Λ C K (it, so, ss, is) ++ tl))) (19) ?_ (fun i hi ih => ?_) (0) (Nat.zero_le _) _ _
              · intro Λ x
                refine x_iload dX10_tells_273 rfl ?_
                refine x_iload dX10_tells_275 rfl ?_
                refine x_icmp_lt 339 dX10_tells_277 (fun _ => ?_) (fun hx => absurd (vv_lt (by decide)) hx)
                refine x_aload_n dX10_tells_339 rfl ?_
                refine x_iload dX10_tells_340 rfl ?_
                refine x_iload dX10_tells_342 rfl ?_
                refine x_iload dX10_tells_344 rfl ?_
                refine ii_X10_109 dX10_tells_346 (c_X10_lays_3 hh) mw_o (by decide) (Nat.le_of_ble_eq_true rfl) ?_
                refine x_iload_n dX10_tells_349 rfl ?_
                refine x_iconst 3 dX10_tells_350 ?_
                refine x_icmp_eq 359 dX10_tells_351 (fun hx => absurd hx (g3)) (fun _ => ?_)
                refine x_iload_n dX10_tells_354 rfl ?_
                refine x_iconst 5 dX10_tells_355 ?_
                refine x_icmp_ne 364 dX10_tells_356 (fun _ => ?_) (fun hx => absurd hx (g5))
                refine x_iload_n dX10_tells_364 rfl ?_
                refine x_iconst 4 dX10_tells_365 ?_
                refine x_icmp_eq 375 dX10_tells_366 (fun hx => absurd hx (g4)) (fun _ => ?_)
                refine x_iload_n dX10_tells_369 rfl ?_
                refine x_bipush 6 dX10_tells_370 ?_
                refine x_icmp_ne 380 dX10_tells_372 (fun _ => ?_) (fun hx => absurd hx (g6))
                refine x_iload dX10_tells_380 rfl ?_
                exact Ex.ret (v := some (.int _)) ⟨dX10_tells_382, _, rfl, by first | rfl | decide⟩ ⟨_, congrArg (fun z => some (Value.int z)) (by rw [hA, teM, if_neg g0, if_neg g8, if_neg g1, if_neg g2, if_neg g3, if_neg g4, if_neg g5, if_neg g6, if_neg g7, eh, nI_clamp (show h < 2 ^ 31 by omega)]), by rw [upd_upd, upd_eta]⟩
              · intro Λ x
                have hiN : i ≤ 18 := by omega
                refine x_iload dX10_tells_273 rfl ?_
                refine x_iload dX10_tells_275 rfl ?_
                refine x_icmp_lt 339 dX10_tells_277 (fun hx => absurd hx (vv_nlt (by decide) hiN (by omega))) (fun _ => ?_)
                refine x_aload_n dX10_tells_280 rfl ?_
                refine x_iload dX10_tells_281 rfl ?_
                refine x_iload dX10_tells_283 rfl ?_
                refine x_iload dX10_tells_285 rfl ?_
                rw [vv_le hiN]
                refine ii_X10_109 dX10_tells_287 (c_X10_lays_3 hh) mw_o (by decide) (Nat.le_of_ble_eq_true rfl) ?_
                refine Ex.eqW (w' := (cst S ++ (mw (tx, ts, tc, tp, tn) (ru, ou, (upd we h (-9 + nI (18 - i))), me, ki, ro, ma) Λ C K (it, so, ss, is) ++ tl))) (by rw [upd_upd]) ?_
                refine x_aload_n dX10_tells_290 rfl ?_
                refine x_iload_n dX10_tells_291 rfl ?_
                refine x_iload_n dX10_tells_292 rfl ?_
                refine iv_X10_402 dX10_tells_293 (c_X10_firstOther hX hru hp hq) mw_o (by decide) (Nat.le_of_ble_eq_true rfl) (fun v_293 w_293 hw_293 => ?_)
                obtain ⟨Λ6, rfl, rfl⟩ := hw_293
                rw [show foF (thF τ (mO (ru, ou, (upd we h (-9 + nI (18 - i))), me, ki, ro, ma)) r p) (fun j => is (40 * q + j)) 8 0 = (okW τ (mO (ru, ou, we, me, ki, ro, ma)) r p h (fun j => is (40 * q + j))) (18 - i) from rfl]
                refine x_iconst (-1) dX10_tells_296 ?_
                refine x_icmp_ne 333 dX10_tells_297 (fun h_297 => ?_) (fun h_297 => ?_)
                · refine x_iinc (-1) dX10_tells_333 rfl (by decide) ?_
                  refine x_goto 273 dX10_tells_336 ?_
                  refine Ex.forget (L' := [some (.ref 42), some (.int (nI q)), some (.int (nI p)), some (.int what), some (.int 3), some (.int (nI h)), some (.int (we h)), some (.int (9)), some (.int (-9)), some (.int (tlS (okW τ (mO (ru, ou, we, me, ki, ro, ma)) r p h (fun j => is (40 * q + j))) 18 (i + 1))), some (.int (nI (tlN (okW τ (mO (ru, ou, we, me, ki, ro, ma)) r p h (fun j => is (40 * q + j))) 18 (i + 1)))), some (.int (tlL (-9) (okW τ (mO (ru, ou, we, me, ki, ro, ma)) r p h (fun j => is (40 * q + j))) 18 (i + 1))), some (.int (vv (-9) 18 (i + 1)))]) ⟨rfl, rfl, rfl, rfl, rfl, rfl, rfl, rfl, rfl, by rw [tlS, if_neg h_297] <;> rfl, by rw [tlN, if_neg h_297] <;> rfl, by rw [tlL, if_neg h_297] <;> rfl, by rw [← vv_s hiN, vv_le hiN] <;> rfl, trivial⟩ ?_
                  exact ih _ _
                · refine x_iload dX10_tells_300 rfl ?_
                  refine x_iload dX10_tells_302 rfl ?_
                  refine x_iload dX10_tells_304 rfl ?_
                  refine x_isub dX10_tells_306 ?_
                  rw [lo_sub]
                  refine x_bipush 20 dX10_tells_307 ?_
                  refine x_icmp_ge 322 dX10_tells_309 (fun h_309 => ?_) (fun h_309 => ?_)
                  · refine x_iconst 0 dX10_tells_322 ?_
                    refine x_ior dX10_tells_323 ?_
                    refine x_istore dX10_tells_324 (by decide) ?_
                    refine x_iincN dX10_tells_326 rfl (by decide) ?_
                    refine x_iload dX10_tells_329 rfl ?_
                    refine x_istore dX10_tells_331 (by decide) ?_
                    refine x_iinc (-1) dX10_tells_333 rfl (by decide) ?_
                    refine x_goto 273 dX10_tells_336 ?_
                    refine Ex.forget (L' := [some (.ref 42), some (.int (nI q)), some (.int (nI p)), some (.int what), some (.int 3), some (.int (nI h)), some (.int (we h)), some (.int (9)), some (.int (-9)), some (.int (tlS (okW τ (mO (ru, ou, we, me, ki, ro, ma)) r p h (fun j => is (40 * q + j))) 18 (i + 1))), some (.int (nI (tlN (okW τ (mO (ru, ou, we, me, ki, ro, ma)) r p h (fun j => is (40 * q + j))) 18 (i + 1)))), some (.int (tlL (-9) (okW τ (mO (ru, ou, we, me, ki, ro, ma)) r p h (fun j => is (40 * q + j))) 18 (i + 1))), some (.int (vv (-9) 18 (i + 1)))]) ⟨rfl, rfl, rfl, rfl, rfl, rfl, rfl, rfl, rfl, by rw [tlS, if_pos h_297, if_neg (show ¬ (18 - i) < 20 from fun y => nI_ge y (by decide) h_309)] <;> rfl, by rw [tlN, if_pos h_297] <;> rfl, by rw [tlL, if_pos h_297] <;> rfl, by rw [← vv_s hiN, vv_le hiN] <;> rfl, trivial⟩ ?_
                    exact ih _ _
                  · refine x_iconst 1 dX10_tells_312 ?_
                    refine x_iload dX10_tells_313 rfl ?_
                    refine x_iload dX10_tells_315 rfl ?_
                    refine x_isub dX10_tells_317 ?_
                    rw [lo_sub]
                    refine x_ishl dX10_tells_318 ?_
                    refine x_goto 323 dX10_tells_319 ?_
                    refine x_ior dX10_tells_323 ?_
                    refine x_istore dX10_tells_324 (by decide) ?_
                    refine x_iincN dX10_tells_326 rfl (by decide) ?_
                    refine x_iload dX10_tells_329 rfl ?_
                    refine x_istore dX10_tells_331 (by decide) ?_
                    refine x_iinc (-1) dX10_tells_333 rfl (by decide) ?_
                    refine x_goto 273 dX10_tells_336 ?_
                    refine Ex.forget (L' := [some (.ref 42), some (.int (nI q)), some (.int (nI p)), some (.int what), some (.int 3), some (.int (nI h)), some (.int (we h)), some (.int (9)), some (.int (-9)), some (.int (tlS (okW τ (mO (ru, ou, we, me, ki, ro, ma)) r p h (fun j => is (40 * q + j))) 18 (i + 1))), some (.int (nI (tlN (okW τ (mO (ru, ou, we, me, ki, ro, ma)) r p h (fun j => is (40 * q + j))) 18 (i + 1)))), some (.int (tlL (-9) (okW τ (mO (ru, ou, we, me, ki, ro, ma)) r p h (fun j => is (40 * q + j))) 18 (i + 1))), some (.int (vv (-9) 18 (i + 1)))]) ⟨rfl, rfl, rfl, rfl, rfl, rfl, rfl, rfl, rfl, by rw [tlS, if_pos h_297, if_pos (show (18 - i) < 20 from Nat.not_le.mp (fun y => h_309 (nI_le (a := 20) y (by omega))))] <;> rfl, by rw [tlN, if_pos h_297] <;> rfl, by rw [tlL, if_pos h_297] <;> rfl, by rw [← vv_s hiN, vv_le hiN] <;> rfl, trivial⟩ ?_
                    exact ih _ _
          · refine x_bipush (-2) dX10_tells_67 ?_
            exact Ex.ret (v := some (.int _)) ⟨dX10_tells_69, _, rfl, by first | rfl | decide⟩ ⟨_, congrArg (fun z => some (Value.int z)) (by rw [hx0, teA, if_neg hgd, hclq, if_neg h_50, if_pos h_64]), rfl⟩
        · refine x_bipush (-11) dX10_tells_53 ?_
          exact Ex.ret (v := some (.int _)) ⟨dX10_tells_55, _, rfl, by first | rfl | decide⟩ ⟨_, congrArg (fun z => some (Value.int z)) (by rw [hx0, teA, if_neg hgd, hclq, if_pos h_50]), rfl⟩
      · refine x_iload_n dX10_tells_27 rfl ?_
        refine x_i2l dX10_tells_28 ?_
        refine x_ldc2_w dX10_tells_29 kk_X10_186 ?_
        refine x_ldc2_w dX10_tells_32 kk_X10_410 ?_
        refine ii_X10_76 dX10_tells_35 (c_X10_inC (a := 10) (b := 17) (by first | rfl | decide) (by first | rfl | decide)) (by decide) (Nat.le_of_ble_eq_true rfl) ?_
        refine x_if_ne 44 dX10_tells_38 (fun h_38 => ?_) (fun h_38 => ?_)
        · have hoq := bi1.mp h_4
          have ho := bi1.mp h_12
          obtain ⟨q, hq, rfl⟩ := nat_of hoq.1 (show s < nI 4 from hoq.2) (by omega)
          obtain ⟨p, hpz, rfl⟩ := nat_of ho.1 ho.2 (by omega)
          have hclq : (nI q).toNatClampNeg = q := nI_clamp (by omega)
          have hclp : (nI p).toNatClampNeg = p := nI_clamp (by omega)
          have hp : p < 6 := by omega
          have hwh : (0 ≤ what ∧ what ≤ 8) ∨ (10 ≤ what ∧ what ≤ 17) := Or.inr (bi1.mp h_38)
          have hgd : ¬ teB z (nI q) (nI p) what := fun y => y.elim (fun y => y hoq) (fun y => y.elim (fun y => y ho) (fun y => hwh.elim y.1 y.2))
          suffices hS : Ex X mX10_tells 51 (fun v w' => ∃ Λ' : ML, v = some (.int x0) ∧ w' = cst S ++ (mw (tx, ts, tc, tp, tn) (ru, ou, we, me, ki, ro, ma) Λ' C K (it, so, ss, is) ++ tl)) 0 0 44 [some (.ref 42), some (.int (nI q)), some (.int (nI p)), some (.int what), none, none, none, none, none, none, none, none, none] [] (cst S ++ (mw (tx, ts, tc, tp, tn) (ru, ou, we, me, ki, ro, ma) Λ C K (it, so, ss, is) ++ tl)) from hS
          refine x_aload_n dX10_tells_44 rfl ?_
          refine mg_53 dX10_tells_45 ?_
          refine x_iload_n dX10_tells_48 rfl ?_
          refine maN_55 dX10_tells_49 hq ?_
          refine x_if_ne 56 dX10_tells_50 (fun h_50 => ?_) (fun h_50 => ?_)
          · refine x_aload_n dX10_tells_56 rfl ?_
            refine mg_60 dX10_tells_57 ?_
            refine x_iload_n dX10_tells_60 rfl ?_
            refine maN_57 dX10_tells_61 hq ?_
            refine x_bipush 8 dX10_tells_62 ?_
            refine x_icmp_eq 70 dX10_tells_64 (fun h_64 => ?_) (fun h_64 => ?_)
            · have hm8 : ss q = 8 := h_64
              have hA : x0 = teM τ (mO (ru, ou, we, me, ki, ro, ma)) r z m p (fun j => is (40 * q + j)) what := by rw [hx0, teA, if_neg hgd, hclq, hclp, if_neg h_50, if_neg (fun y => y hm8)]
              rcases hwh with hwh | hwh
              · rcases le8 hwh with rfl | rfl | rfl | rfl | rfl | rfl | rfl | rfl | rfl
                · skip
                  refine x_iload_n dX10_tells_70 rfl ?_
                  refine x_if_eq 80 dX10_tells_71 (fun _ => ?_) (fun hx => absurd (rfl) hx)
                  refine x_iload_n dX10_tells_80 rfl ?_
                  refine x_if_ne 93 dX10_tells_81 (fun hx => absurd (rfl) hx) (fun _ => ?_)
                  refine x_aload_n dX10_tells_84 rfl ?_
                  refine x_iload_n dX10_tells_85 rfl ?_
                  refine x_iload_n dX10_tells_86 rfl ?_
                  refine iv_X10_402 dX10_tells_87 (c_X10_firstOther hX hru hp hq) mw_o (by decide) (Nat.le_of_ble_eq_true rfl) (fun v_87 w_87 hw_87 => ?_)
                  obtain ⟨Λ1, rfl, rfl⟩ := hw_87
                  refine x_goto 98 dX10_tells_90 ?_
                  exact Ex.ret (v := some (.int _)) ⟨dX10_tells_98, _, rfl, by first | rfl | decide⟩ ⟨_, congrArg (fun z => some (Value.int z)) (by rw [hA, teM, if_pos rfl]), rfl⟩
                · skip
                  refine x_iload_n dX10_tells_70 rfl ?_
                  refine x_if_eq 80 dX10_tells_71 (fun hx => absurd hx (by decide)) (fun _ => ?_)
                  refine x_iload_n dX10_tells_74 rfl ?_
                  refine x_bipush 8 dX10_tells_75 ?_
                  refine x_icmp_ne 99 dX10_tells_77 (fun _ => ?_) (fun hx => absurd hx (by decide))
                  refine x_iload_n dX10_tells_99 rfl ?_
                  refine x_iconst 1 dX10_tells_100 ?_
                  refine x_icmp_ne 109 dX10_tells_101 (fun hx => absurd (rfl) hx) (fun _ => ?_)
                  refine x_bipush 7 dX10_tells_104 ?_
                  refine x_goto 150 dX10_tells_106 ?_
                  refine x_istore dX10_tells_150 (by decide) ?_
                  refine x_iload dX10_tells_152 rfl ?_
                  refine x_iconst 3 dX10_tells_154 ?_
                  refine x_icmp_ne 165 dX10_tells_155 (fun _ => ?_) (fun hx => absurd hx (by decide))
                  refine x_iload_n dX10_tells_165 rfl ?_
                  refine x_istore dX10_tells_166 (by decide) ?_
                  refine x_iload dX10_tells_168 rfl ?_
                  refine x_bipush 9 dX10_tells_170 ?_
                  refine x_icmp_ne 182 dX10_tells_172 (fun _ => ?_) (fun hx => absurd hx (by decide))
                  refine x_iload dX10_tells_182 rfl ?_
                  refine x_bipush 8 dX10_tells_184 ?_
                  refine x_icmp_ne 196 dX10_tells_186 (fun _ => ?_) (fun hx => absurd hx (by decide))
                  refine x_aload_n dX10_tells_196 rfl ?_
                  refine x_iload dX10_tells_197 rfl ?_
                  refine x_iload dX10_tells_199 rfl ?_
                  refine iv_X10_105 dX10_tells_201 (c_X10_told hX hru hz hz6 hnu) mw_o (by decide) (Nat.le_of_ble_eq_true rfl) (fun v_201 w_201 hw_201 => ?_)
                  obtain ⟨Λ5, rfl, rfl⟩ := hw_201
                  rw [show tdF τ (mO (ru, ou, we, me, ki, ro, ma)) r z (nI p) 7 = (ki p) from (td_k ho hp)]
                  refine x_istore dX10_tells_204 (by decide) ?_
                  refine x_iload dX10_tells_206 rfl ?_
                  refine x_bipush 9 dX10_tells_208 ?_
                  refine x_icmp_ne 219 dX10_tells_210 (fun _ => ?_) (fun hx => absurd hx (by decide))
                  refine x_iload dX10_tells_219 rfl ?_
                  refine x_bipush 8 dX10_tells_221 ?_
                  refine x_icmp_ne 235 dX10_tells_223 (fun _ => ?_) (fun hx => absurd hx (by decide))
                  refine x_iload dX10_tells_235 rfl ?_
                  refine x_bipush 7 dX10_tells_237 ?_
                  refine x_icmp_ne 246 dX10_tells_239 (fun hx => absurd (rfl) hx) (fun _ => ?_)
                  refine x_iconst 5 dX10_tells_242 ?_
                  refine x_goto 251 dX10_tells_243 ?_
                  refine x_istore dX10_tells_251 (by decide) ?_
                  refine x_iload dX10_tells_253 rfl ?_
                  refine ii_X10_97 dX10_tells_255 c_X10_leastOf (by decide) (Nat.le_of_ble_eq_true rfl) ?_
                  rw [show leF 7 = 0 from rfl]
                  refine x_istore dX10_tells_258 (by decide) ?_
                  refine x_iconst 0 dX10_tells_260 ?_
                  refine x_istore dX10_tells_261 (by decide) ?_
                  refine x_iconst 0 dX10_tells_263 ?_
                  refine x_istore dX10_tells_264 (by decide) ?_
                  refine x_iconst (-1) dX10_tells_266 ?_
                  refine x_istore dX10_tells_267 (by decide) ?_
                  refine x_iload dX10_tells_269 rfl ?_
                  refine x_istore dX10_tells_271 (by decide) ?_
                  refine Ex.eqW (w' := (cst S ++ (mw (tx, ts, tc, tp, tn) (ru, ou, we, me, (upd ki p (ki p)), ro, ma) Λ5 C K (it, so, ss, is) ++ tl))) (by rw [upd_eta]) ?_
                  refine Ex.forget (L' := [some (.ref 42), some (.int (nI q)), some (.int (nI p)), some (.int 1), some (.int 7), some (.int (nI p)), some (.int (ki p)), some (.int (5)), some (.int 0), some (.int (tlS (okK τ (mO (ru, ou, we, me, ki, ro, ma)) r p (fun j => is (40 * q + j))) 5 0)), some (.int (nI (tlN (okK τ (mO (ru, ou, we, me, ki, ro, ma)) r p (fun j => is (40 * q + j))) 5 0))), some (.int (tlL 0 (okK τ (mO (ru, ou, we, me, ki, ro, ma)) r p (fun j => is (40 * q + j))) 5 0)), some (.int (vv 0 5 0))]) ⟨rfl, rfl, rfl, rfl, rfl, rfl, rfl, rfl, rfl, rfl, rfl, rfl, rfl, trivial⟩ ?_
                  refine for_up (P := fun i => ∀ (Λ : ML) (x : Int32), Ex X mX10_tells 51 (fun v w' => ∃ Λ' : ML, v = some (.int x0) ∧ w' = cst S ++ (mw (tx, ts, tc, tp, tn) (ru, ou, we, me, ki, ro, ma) Λ' C K (it, so, ss, is) ++ tl)) 0 0 273 [some (.ref 42), some (.int (nI q)), some (.int (nI p)), some (.int 1), some (.int 7), some (.int (nI p)), some (.int (ki p)), some (.int (5)), some (.int 0), some (.int (tlS (okK τ (mO (ru, ou, we, me, ki, ro, ma)) r p (fun j => is (40 * q + j))) 5 i)), some (.int (nI (tlN (okK τ (mO (ru, ou, we, me, ki, ro, ma)) r p (fun j => is (40 * q + j))) 5 i))), some (.int (tlL 0 (okK τ (mO (ru, ou, we, me, ki, ro, ma)) r p (fun j => is (40 * q + j))) 5 i)), some (.int (vv 0 5 i))] [] (cst S ++ (mw (tx, ts, tc, tp, tn) (ru, ou, we, me, (upd ki p x), ro, ma) Λ C K (it, so, ss, is) ++ tl))) (6) ?_ (fun i hi ih => ?_) (0) (Nat.zero_le _) _ _
                  · intro Λ x
                    refine x_iload dX10_tells_273 rfl ?_
                    refine x_iload dX10_tells_275 rfl ?_
                    refine x_icmp_lt 339 dX10_tells_277 (fun _ => ?_) (fun hx => absurd (vv_lt (by decide)) hx)
                    refine x_aload_n dX10_tells_339 rfl ?_
                    refine x_iload dX10_tells_340 rfl ?_
                    refine x_iload dX10_tells_342 rfl ?_
                    refine x_iload dX10_tells_344 rfl ?_
                    refine ii_X10_109 dX10_tells_346 (c_X10_lays_7 hp) mw_o (by decide) (Nat.le_of_ble_eq_true rfl) ?_
                    refine x_iload_n dX10_tells_349 rfl ?_
                    refine x_iconst 3 dX10_tells_350 ?_
                    refine x_icmp_eq 359 dX10_tells_351 (fun hx => absurd hx (by decide)) (fun _ => ?_)
                    refine x_iload_n dX10_tells_354 rfl ?_
                    refine x_iconst 5 dX10_tells_355 ?_
                    refine x_icmp_ne 364 dX10_tells_356 (fun _ => ?_) (fun hx => absurd hx (by decide))
                    refine x_iload_n dX10_tells_364 rfl ?_
                    refine x_iconst 4 dX10_tells_365 ?_
                    refine x_icmp_eq 375 dX10_tells_366 (fun hx => absurd hx (by decide)) (fun _ => ?_)
                    refine x_iload_n dX10_tells_369 rfl ?_
                    refine x_bipush 6 dX10_tells_370 ?_
                    refine x_icmp_ne 380 dX10_tells_372 (fun _ => ?_) (fun hx => absurd hx (by decide))
                    refine x_iload dX10_tells_380 rfl ?_
                    exact Ex.ret (v := some (.int _)) ⟨dX10_tells_382, _, rfl, by first | rfl | decide⟩ ⟨_, congrArg (fun z => some (Value.int z)) (by rw [hA, teM, if_neg (by decide), if_neg (by decide), if_pos rfl]), by rw [upd_upd, upd_eta]⟩
                  · intro Λ x
                    have hiN : i ≤ 5 := by omega
                    refine x_iload dX10_tells_273 rfl ?_
                    refine x_iload dX10_tells_275 rfl ?_
                    refine x_icmp_lt 339 dX10_tells_277 (fun hx => absurd hx (vv_nlt (by decide) hiN (by omega))) (fun _ => ?_)
                    refine x_aload_n dX10_tells_280 rfl ?_
                    refine x_iload dX10_tells_281 rfl ?_
                    refine x_iload dX10_tells_283 rfl ?_
                    refine x_iload dX10_tells_285 rfl ?_
                    rw [vv_le hiN, Int32.zero_add]
                    refine ii_X10_109 dX10_tells_287 (c_X10_lays_7 hp) mw_o (by decide) (Nat.le_of_ble_eq_true rfl) ?_
                    refine Ex.eqW (w' := (cst S ++ (mw (tx, ts, tc, tp, tn) (ru, ou, we, me, (upd ki p (nI (5 - i))), ro, ma) Λ C K (it, so, ss, is) ++ tl))) (by rw [upd_upd]) ?_
                    refine x_aload_n dX10_tells_290 rfl ?_
                    refine x_iload_n dX10_tells_291 rfl ?_
                    refine x_iload_n dX10_tells_292 rfl ?_
                    refine iv_X10_402 dX10_tells_293 (c_X10_firstOther hX hru hp hq) mw_o (by decide) (Nat.le_of_ble_eq_true rfl) (fun v_293 w_293 hw_293 => ?_)
                    obtain ⟨Λ6, rfl, rfl⟩ := hw_293
                    rw [show foF (thF τ (mO (ru, ou, we, me, (upd ki p (nI (5 - i))), ro, ma)) r p) (fun j => is (40 * q + j)) 8 0 = (okK τ (mO (ru, ou, we, me, ki, ro, ma)) r p (fun j => is (40 * q + j))) (5 - i) from rfl]
                    refine x_iconst (-1) dX10_tells_296 ?_
                    refine x_icmp_ne 333 dX10_tells_297 (fun h_297 => ?_) (fun h_297 => ?_)
                    · refine x_iinc (-1) dX10_tells_333 rfl (by decide) ?_
                      refine x_goto 273 dX10_tells_336 ?_
                      refine Ex.forget (L' := [some (.ref 42), some (.int (nI q)), some (.int (nI p)), some (.int 1), some (.int 7), some (.int (nI p)), some (.int (ki p)), some (.int (5)), some (.int 0), some (.int (tlS (okK τ (mO (ru, ou, we, me, ki, ro, ma)) r p (fun j => is (40 * q + j))) 5 (i + 1))), some (.int (nI (tlN (okK τ (mO (ru, ou, we, me, ki, ro, ma)) r p (fun j => is (40 * q + j))) 5 (i + 1)))), some (.int (tlL 0 (okK τ (mO (ru, ou, we, me, ki, ro, ma)) r p (fun j => is (40 * q + j))) 5 (i + 1))), some (.int (vv 0 5 (i + 1)))]) ⟨rfl, rfl, rfl, rfl, rfl, rfl, rfl, rfl, rfl, by rw [tlS, if_neg h_297] <;> rfl, by rw [tlN, if_neg h_297] <;> rfl, by rw [tlL, if_neg h_297] <;> rfl, by rw [← vv_s hiN, vv_le hiN, Int32.zero_add] <;> rfl, trivial⟩ ?_
                      exact ih _ _
                    · refine x_iload dX10_tells_300 rfl ?_
                      refine x_iload dX10_tells_302 rfl ?_
                      refine x_iload dX10_tells_304 rfl ?_
                      refine x_isub dX10_tells_306 ?_
                      rw [Int32.sub_zero]
                      refine x_bipush 20 dX10_tells_307 ?_
                      refine x_icmp_ge 322 dX10_tells_309 (fun h_309 => ?_) (fun h_309 => ?_)
                      · refine x_iconst 0 dX10_tells_322 ?_
                        refine x_ior dX10_tells_323 ?_
                        refine x_istore dX10_tells_324 (by decide) ?_
                        refine x_iincN dX10_tells_326 rfl (by decide) ?_
                        refine x_iload dX10_tells_329 rfl ?_
                        refine x_istore dX10_tells_331 (by decide) ?_
                        refine x_iinc (-1) dX10_tells_333 rfl (by decide) ?_
                        refine x_goto 273 dX10_tells_336 ?_
                        refine Ex.forget (L' := [some (.ref 42), some (.int (nI q)), some (.int (nI p)), some (.int 1), some (.int 7), some (.int (nI p)), some (.int (ki p)), some (.int (5)), some (.int 0), some (.int (tlS (okK τ (mO (ru, ou, we, me, ki, ro, ma)) r p (fun j => is (40 * q + j))) 5 (i + 1))), some (.int (nI (tlN (okK τ (mO (ru, ou, we, me, ki, ro, ma)) r p (fun j => is (40 * q + j))) 5 (i + 1)))), some (.int (tlL 0 (okK τ (mO (ru, ou, we, me, ki, ro, ma)) r p (fun j => is (40 * q + j))) 5 (i + 1))), some (.int (vv 0 5 (i + 1)))]) ⟨rfl, rfl, rfl, rfl, rfl, rfl, rfl, rfl, rfl, by rw [tlS, if_pos h_297, if_neg (show ¬ (5 - i) < 20 from fun y => nI_ge y (by decide) h_309)] <;> rfl, by rw [tlN, if_pos h_297] <;> rfl, by rw [tlL, if_pos h_297, Int32.zero_add] <;> rfl, by rw [← vv_s hiN, vv_le hiN, Int32.zero_add] <;> rfl, trivial⟩ ?_
                        exact ih _ _
                      · refine x_iconst 1 dX10_tells_312 ?_
                        refine x_iload dX10_tells_313 rfl ?_
                        refine x_iload dX10_tells_315 rfl ?_
                        refine x_isub dX10_tells_317 ?_
                        rw [Int32.sub_zero]
                        refine x_ishl dX10_tells_318 ?_
                        refine x_goto 323 dX10_tells_319 ?_
                        refine x_ior dX10_tells_323 ?_
                        refine x_istore dX10_tells_324 (by decide) ?_
                        refine x_iincN dX10_tells_326 rfl (by decide) ?_
                        refine x_iload dX10_tells_329 rfl ?_
                        refine x_istore dX10_tells_331 (by decide) ?_
                        refine x_iinc (-1) dX10_tells_333 rfl (by decide) ?_
                        refine x_goto 273 dX10_tells_336 ?_
                        refine Ex.forget (L' := [some (.ref 42), some (.int (nI q)), some (.int (nI p)), some (.int 1), some (.int 7), some (.int (nI p)), some (.int (ki p)), some (.int (5)), some (.int 0), some (.int (tlS (okK τ (mO (ru, ou, we, me, ki, ro, ma)) r p (fun j => is (40 * q + j))) 5 (i + 1))), some (.int (nI (tlN (okK τ (mO (ru, ou, we, me, ki, ro, ma)) r p (fun j => is (40 * q + j))) 5 (i + 1)))), some (.int (tlL 0 (okK τ (mO (ru, ou, we, me, ki, ro, ma)) r p (fun j => is (40 * q + j))) 5 (i + 1))), some (.int (vv 0 5 (i + 1)))]) ⟨rfl, rfl, rfl, rfl, rfl, rfl, rfl, rfl, rfl, by rw [tlS, if_pos h_297, if_pos (show (5 - i) < 20 from Nat.not_le.mp (fun y => h_309 (nI_le (a := 20) y (by omega))))] <;> rfl, by rw [tlN, if_pos h_297] <;> rfl, by rw [tlL, if_pos h_297, Int32.zero_add] <;> rfl, by rw [← vv_s hiN, vv_le hiN, Int32.zero_add] <;> rfl, trivial⟩ ?_
                        exact ih _ _
                · skip
                  refine x_iload_n dX10_tells_70 rfl ?_
                  refine x_if_eq 80 dX10_tells_71 (fun hx => absurd hx (by decide)) (fun _ => ?_)
                  refine x_iload_n dX10_tells_74 rfl ?_
                  refine x_bipush 8 dX10_tells_75 ?_
                  refine x_icmp_ne 99 dX10_tells_77 (fun _ => ?_) (fun hx => absurd hx (by decide))
                  refine x_iload_n dX10_tells_99 rfl ?_
                  refine x_iconst 1 dX10_tells_100 ?_
                  refine x_icmp_ne 109 dX10_tells_101 (fun _ => ?_) (fun hx => absurd hx (by decide))
                  refine x_iload_n dX10_tells_109 rfl ?_
                  refine x_iconst 2 dX10_tells_110 ?_
                  refine x_icmp_ne 118 dX10_tells_111 (fun hx => absurd (rfl) hx) (fun _ => ?_)
                  refine x_iconst 5 dX10_tells_114 ?_
                  refine x_goto 150 dX10_tells_115 ?_
                  refine x_istore dX10_tells_150 (by decide) ?_
                  refine x_iload dX10_tells_152 rfl ?_
                  refine x_iconst 3 dX10_tells_154 ?_
                  refine x_icmp_ne 165 dX10_tells_155 (fun _ => ?_) (fun hx => absurd hx (by decide))
                  refine x_iload_n dX10_tells_165 rfl ?_
                  refine x_istore dX10_tells_166 (by decide) ?_
                  refine x_iload dX10_tells_168 rfl ?_
                  refine x_bipush 9 dX10_tells_170 ?_
                  refine x_icmp_ne 182 dX10_tells_172 (fun _ => ?_) (fun hx => absurd hx (by decide))
                  refine x_iload dX10_tells_182 rfl ?_
                  refine x_bipush 8 dX10_tells_184 ?_
                  refine x_icmp_ne 196 dX10_tells_186 (fun _ => ?_) (fun hx => absurd hx (by decide))
                  refine x_aload_n dX10_tells_196 rfl ?_
                  refine x_iload dX10_tells_197 rfl ?_
                  refine x_iload dX10_tells_199 rfl ?_
                  refine iv_X10_105 dX10_tells_201 (c_X10_told hX hru hz hz6 hnu) mw_o (by decide) (Nat.le_of_ble_eq_true rfl) (fun v_201 w_201 hw_201 => ?_)
                  obtain ⟨Λ5, rfl, rfl⟩ := hw_201
                  rw [show tdF τ (mO (ru, ou, we, me, ki, ro, ma)) r z (nI p) 5 = (ro (2 * p)) from (td_n ho hp)]
                  refine x_istore dX10_tells_204 (by decide) ?_
                  refine x_iload dX10_tells_206 rfl ?_
                  refine x_bipush 9 dX10_tells_208 ?_
                  refine x_icmp_ne 219 dX10_tells_210 (fun _ => ?_) (fun hx => absurd hx (by decide))
                  refine x_iload dX10_tells_219 rfl ?_
                  refine x_bipush 8 dX10_tells_221 ?_
                  refine x_icmp_ne 235 dX10_tells_223 (fun _ => ?_) (fun hx => absurd hx (by decide))
                  refine x_iload dX10_tells_235 rfl ?_
                  refine x_bipush 7 dX10_tells_237 ?_
                  refine x_icmp_ne 246 dX10_tells_239 (fun _ => ?_) (fun hx => absurd hx (by decide))
                  refine x_iload dX10_tells_246 rfl ?_
                  refine ii_X10_101 dX10_tells_248 c_X10_mostOf (by decide) (Nat.le_of_ble_eq_true rfl) ?_
                  rw [show hiF 5 = 9 from rfl]
                  refine x_istore dX10_tells_251 (by decide) ?_
                  refine x_iload dX10_tells_253 rfl ?_
                  refine ii_X10_97 dX10_tells_255 c_X10_leastOf (by decide) (Nat.le_of_ble_eq_true rfl) ?_
                  rw [show leF 5 = 0 from rfl]
                  refine x_istore dX10_tells_258 (by decide) ?_
                  refine x_iconst 0 dX10_tells_260 ?_
                  refine x_istore dX10_tells_261 (by decide) ?_
                  refine x_iconst 0 dX10_tells_263 ?_
                  refine x_istore dX10_tells_264 (by decide) ?_
                  refine x_iconst (-1) dX10_tells_266 ?_
                  refine x_istore dX10_tells_267 (by decide) ?_
                  refine x_iload dX10_tells_269 rfl ?_
                  refine x_istore dX10_tells_271 (by decide) ?_
                  refine Ex.eqW (w' := (cst S ++ (mw (tx, ts, tc, tp, tn) (ru, ou, we, me, ki, (upd ro (2 * p) (ro (2 * p))), ma) Λ5 C K (it, so, ss, is) ++ tl))) (by rw [upd_eta]) ?_
                  refine Ex.forget (L' := [some (.ref 42), some (.int (nI q)), some (.int (nI p)), some (.int 2), some (.int 5), some (.int (nI p)), some (.int (ro (2 * p))), some (.int (9)), some (.int 0), some (.int (tlS (okN τ (mO (ru, ou, we, me, ki, ro, ma)) r p (fun j => is (40 * q + j))) 9 0)), some (.int (nI (tlN (okN τ (mO (ru, ou, we, me, ki, ro, ma)) r p (fun j => is (40 * q + j))) 9 0))), some (.int (tlL 0 (okN τ (mO (ru, ou, we, me, ki, ro, ma)) r p (fun j => is (40 * q + j))) 9 0)), some (.int (vv 0 9 0))]) ⟨rfl, rfl, rfl, rfl, rfl, rfl, rfl, rfl, rfl, rfl, rfl, rfl, rfl, trivial⟩ ?_
                  refine for_up (P := fun i => ∀ (Λ : ML) (x : Int32), Ex X mX10_tells 51 (fun v w' => ∃ Λ' : ML, v = some (.int x0) ∧ w' = cst S ++ (mw (tx, ts, tc, tp, tn) (ru, ou, we, me, ki, ro, ma) Λ' C K (it, so, ss, is) ++ tl)) 0 0 273 [some (.ref 42), some (.int (nI q)), some (.int (nI p)), some (.int 2), some (.int 5), some (.int (nI p)), some (.int (ro (2 * p))), some (.int (9)), some (.int 0), some (.int (tlS (okN τ (mO (ru, ou, we, me, ki, ro, ma)) r p (fun j => is (40 * q + j))) 9 i)), some (.int (nI (tlN (okN τ (mO (ru, ou, we, me, ki, ro, ma)) r p (fun j => is (40 * q + j))) 9 i))), some (.int (tlL 0 (okN τ (mO (ru, ou, we, me, ki, ro, ma)) r p (fun j => is (40 * q + j))) 9 i)), some (.int (vv 0 9 i))] [] (cst S ++ (mw (tx, ts, tc, tp, tn) (ru, ou, we, me, ki, (upd ro (2 * p) x), ma) Λ C K (it, so, ss, is) ++ tl))) (10) ?_ (fun i hi ih => ?_) (0) (Nat.zero_le _) _ _
                  · intro Λ x
                    refine x_iload dX10_tells_273 rfl ?_
                    refine x_iload dX10_tells_275 rfl ?_
                    refine x_icmp_lt 339 dX10_tells_277 (fun _ => ?_) (fun hx => absurd (vv_lt (by decide)) hx)
                    refine x_aload_n dX10_tells_339 rfl ?_
                    refine x_iload dX10_tells_340 rfl ?_
                    refine x_iload dX10_tells_342 rfl ?_
                    refine x_iload dX10_tells_344 rfl ?_
                    refine ii_X10_109 dX10_tells_346 (c_X10_lays_5 hp) mw_o (by decide) (Nat.le_of_ble_eq_true rfl) ?_
                    refine x_iload_n dX10_tells_349 rfl ?_
                    refine x_iconst 3 dX10_tells_350 ?_
                    refine x_icmp_eq 359 dX10_tells_351 (fun hx => absurd hx (by decide)) (fun _ => ?_)
                    refine x_iload_n dX10_tells_354 rfl ?_
                    refine x_iconst 5 dX10_tells_355 ?_
                    refine x_icmp_ne 364 dX10_tells_356 (fun _ => ?_) (fun hx => absurd hx (by decide))
                    refine x_iload_n dX10_tells_364 rfl ?_
                    refine x_iconst 4 dX10_tells_365 ?_
                    refine x_icmp_eq 375 dX10_tells_366 (fun hx => absurd hx (by decide)) (fun _ => ?_)
                    refine x_iload_n dX10_tells_369 rfl ?_
                    refine x_bipush 6 dX10_tells_370 ?_
                    refine x_icmp_ne 380 dX10_tells_372 (fun _ => ?_) (fun hx => absurd hx (by decide))
                    refine x_iload dX10_tells_380 rfl ?_
                    exact Ex.ret (v := some (.int _)) ⟨dX10_tells_382, _, rfl, by first | rfl | decide⟩ ⟨_, congrArg (fun z => some (Value.int z)) (by rw [hA, teM, if_neg (by decide), if_neg (by decide), if_neg (by decide), if_pos rfl]), by rw [upd_upd, upd_eta]⟩
                  · intro Λ x
                    have hiN : i ≤ 9 := by omega
                    refine x_iload dX10_tells_273 rfl ?_
                    refine x_iload dX10_tells_275 rfl ?_
                    refine x_icmp_lt 339 dX10_tells_277 (fun hx => absurd hx (vv_nlt (by decide) hiN (by omega))) (fun _ => ?_)
                    refine x_aload_n dX10_tells_280 rfl ?_
                    refine x_iload dX10_tells_281 rfl ?_
                    refine x_iload dX10_tells_283 rfl ?_
                    refine x_iload dX10_tells_285 rfl ?_
                    rw [vv_le hiN, Int32.zero_add]
                    refine ii_X10_109 dX10_tells_287 (c_X10_lays_5 hp) mw_o (by decide) (Nat.le_of_ble_eq_true rfl) ?_
                    refine Ex.eqW (w' := (cst S ++ (mw (tx, ts, tc, tp, tn) (ru, ou, we, me, ki, (upd ro (2 * p) (nI (9 - i))), ma) Λ C K (it, so, ss, is) ++ tl))) (by rw [upd_upd]) ?_
                    refine x_aload_n dX10_tells_290 rfl ?_
                    refine x_iload_n dX10_tells_291 rfl ?_
                    refine x_iload_n dX10_tells_292 rfl ?_
                    refine iv_X10_402 dX10_tells_293 (c_X10_firstOther hX hru hp hq) mw_o (by decide) (Nat.le_of_ble_eq_true rfl) (fun v_293 w_293 hw_293 => ?_)
                    obtain ⟨Λ6, rfl, rfl⟩ := hw_293
                    rw [show foF (thF τ (mO (ru, ou, we, me, ki, (upd ro (2 * p) (nI (9 - i))), ma)) r p) (fun j => is (40 * q + j)) 8 0 = (okN τ (mO (ru, ou, we, me, ki, ro, ma)) r p (fun j => is (40 * q + j))) (9 - i) from by unfold okN; rw [show mO (ru, ou, we, me, ki, (upd ro (2 * p) (nI (9 - i))), ma) = uo_nu (mO (ru, ou, we, me, ki, ro, ma)) (upd (o_nu (mO (ru, ou, we, me, ki, ro, ma))) p (nI (9 - i))) from by unfold mO; simp only [ro_nu, ro_pr0]]]
                    refine x_iconst (-1) dX10_tells_296 ?_
                    refine x_icmp_ne 333 dX10_tells_297 (fun h_297 => ?_) (fun h_297 => ?_)
                    · refine x_iinc (-1) dX10_tells_333 rfl (by decide) ?_
                      refine x_goto 273 dX10_tells_336 ?_
                      refine Ex.forget (L' := [some (.ref 42), some (.int (nI q)), some (.int (nI p)), some (.int 2), some (.int 5), some (.int (nI p)), some (.int (ro (2 * p))), some (.int (9)), some (.int 0), some (.int (tlS (okN τ (mO (ru, ou, we, me, ki, ro, ma)) r p (fun j => is (40 * q + j))) 9 (i + 1))), some (.int (nI (tlN (okN τ (mO (ru, ou, we, me, ki, ro, ma)) r p (fun j => is (40 * q + j))) 9 (i + 1)))), some (.int (tlL 0 (okN τ (mO (ru, ou, we, me, ki, ro, ma)) r p (fun j => is (40 * q + j))) 9 (i + 1))), some (.int (vv 0 9 (i + 1)))]) ⟨rfl, rfl, rfl, rfl, rfl, rfl, rfl, rfl, rfl, by rw [tlS, if_neg h_297] <;> rfl, by rw [tlN, if_neg h_297] <;> rfl, by rw [tlL, if_neg h_297] <;> rfl, by rw [← vv_s hiN, vv_le hiN, Int32.zero_add] <;> rfl, trivial⟩ ?_
                      exact ih _ _
                    · refine x_iload dX10_tells_300 rfl ?_
                      refine x_iload dX10_tells_302 rfl ?_
                      refine x_iload dX10_tells_304 rfl ?_
                      refine x_isub dX10_tells_306 ?_
                      rw [Int32.sub_zero]
                      refine x_bipush 20 dX10_tells_307 ?_
                      refine x_icmp_ge 322 dX10_tells_309 (fun h_309 => ?_) (fun h_309 => ?_)
                      · refine x_iconst 0 dX10_tells_322 ?_
                        refine x_ior dX10_tells_323 ?_
                        refine x_istore dX10_tells_324 (by decide) ?_
                        refine x_iincN dX10_tells_326 rfl (by decide) ?_
                        refine x_iload dX10_tells_329 rfl ?_
                        refine x_istore dX10_tells_331 (by decide) ?_
                        refine x_iinc (-1) dX10_tells_333 rfl (by decide) ?_
                        refine x_goto 273 dX10_tells_336 ?_
                        refine Ex.forget (L' := [some (.ref 42), some (.int (nI q)), some (.int (nI p)), some (.int 2), some (.int 5), some (.int (nI p)), some (.int (ro (2 * p))), some (.int (9)), some (.int 0), some (.int (tlS (okN τ (mO (ru, ou, we, me, ki, ro, ma)) r p (fun j => is (40 * q + j))) 9 (i + 1))), some (.int (nI (tlN (okN τ (mO (ru, ou, we, me, ki, ro, ma)) r p (fun j => is (40 * q + j))) 9 (i + 1)))), some (.int (tlL 0 (okN τ (mO (ru, ou, we, me, ki, ro, ma)) r p (fun j => is (40 * q + j))) 9 (i + 1))), some (.int (vv 0 9 (i + 1)))]) ⟨rfl, rfl, rfl, rfl, rfl, rfl, rfl, rfl, rfl, by rw [tlS, if_pos h_297, if_neg (show ¬ (9 - i) < 20 from fun y => nI_ge y (by decide) h_309)] <;> rfl, by rw [tlN, if_pos h_297] <;> rfl, by rw [tlL, if_pos h_297, Int32.zero_add] <;> rfl, by rw [← vv_s hiN, vv_le hiN, Int32.zero_add] <;> rfl, trivial⟩ ?_
                        exact ih _ _
                      · refine x_iconst 1 dX10_tells_312 ?_
                        refine x_iload dX10_tells_313 rfl ?_
                        refine x_iload dX10_tells_315 rfl ?_
                        refine x_isub dX10_tells_317 ?_
                        rw [Int32.sub_zero]
                        refine x_ishl dX10_tells_318 ?_
                        refine x_goto 323 dX10_tells_319 ?_
                        refine x_ior dX10_tells_323 ?_
                        refine x_istore dX10_tells_324 (by decide) ?_
                        refine x_iincN dX10_tells_326 rfl (by decide) ?_
                        refine x_iload dX10_tells_329 rfl ?_
                        refine x_istore dX10_tells_331 (by decide) ?_
                        refine x_iinc (-1) dX10_tells_333 rfl (by decide) ?_
                        refine x_goto 273 dX10_tells_336 ?_
                        refine Ex.forget (L' := [some (.ref 42), some (.int (nI q)), some (.int (nI p)), some (.int 2), some (.int 5), some (.int (nI p)), some (.int (ro (2 * p))), some (.int (9)), some (.int 0), some (.int (tlS (okN τ (mO (ru, ou, we, me, ki, ro, ma)) r p (fun j => is (40 * q + j))) 9 (i + 1))), some (.int (nI (tlN (okN τ (mO (ru, ou, we, me, ki, ro, ma)) r p (fun j => is (40 * q + j))) 9 (i + 1)))), some (.int (tlL 0 (okN τ (mO (ru, ou, we, me, ki, ro, ma)) r p (fun j => is (40 * q + j))) 9 (i + 1))), some (.int (vv 0 9 (i + 1)))]) ⟨rfl, rfl, rfl, rfl, rfl, rfl, rfl, rfl, rfl, by rw [tlS, if_pos h_297, if_pos (show (9 - i) < 20 from Nat.not_le.mp (fun y => h_309 (nI_le (a := 20) y (by omega))))] <;> rfl, by rw [tlN, if_pos h_297] <;> rfl, by rw [tlL, if_pos h_297, Int32.zero_add] <;> rfl, by rw [← vv_s hiN, vv_le hiN, Int32.zero_add] <;> rfl, trivial⟩ ?_
                        exact ih _ _
                · skip
                  refine x_iload_n dX10_tells_70 rfl ?_
                  refine x_if_eq 80 dX10_tells_71 (fun hx => absurd hx (by decide)) (fun _ => ?_)
                  refine x_iload_n dX10_tells_74 rfl ?_
                  refine x_bipush 8 dX10_tells_75 ?_
                  refine x_icmp_ne 99 dX10_tells_77 (fun _ => ?_) (fun hx => absurd hx (by decide))
                  refine x_iload_n dX10_tells_99 rfl ?_
                  refine x_iconst 1 dX10_tells_100 ?_
                  refine x_icmp_ne 109 dX10_tells_101 (fun _ => ?_) (fun hx => absurd hx (by decide))
                  refine x_iload_n dX10_tells_109 rfl ?_
                  refine x_iconst 2 dX10_tells_110 ?_
                  refine x_icmp_ne 118 dX10_tells_111 (fun _ => ?_) (fun hx => absurd hx (by decide))
                  refine x_iload_n dX10_tells_118 rfl ?_
                  refine x_iconst 5 dX10_tells_119 ?_
                  refine x_icmp_ge 127 dX10_tells_120 (fun hx => absurd hx (by decide)) (fun _ => ?_)
                  refine x_iconst 0 dX10_tells_123 ?_
                  refine x_goto 150 dX10_tells_124 ?_
                  refine x_istore dX10_tells_150 (by decide) ?_
                  refine x_iload dX10_tells_152 rfl ?_
                  refine x_iconst 3 dX10_tells_154 ?_
                  refine x_icmp_ne 165 dX10_tells_155 (fun _ => ?_) (fun hx => absurd hx (by decide))
                  refine x_iload_n dX10_tells_165 rfl ?_
                  refine x_istore dX10_tells_166 (by decide) ?_
                  refine x_iload dX10_tells_168 rfl ?_
                  refine x_bipush 9 dX10_tells_170 ?_
                  refine x_icmp_ne 182 dX10_tells_172 (fun _ => ?_) (fun hx => absurd hx (by decide))
                  refine x_iload dX10_tells_182 rfl ?_
                  refine x_bipush 8 dX10_tells_184 ?_
                  refine x_icmp_ne 196 dX10_tells_186 (fun _ => ?_) (fun hx => absurd hx (by decide))
                  refine x_aload_n dX10_tells_196 rfl ?_
                  refine x_iload dX10_tells_197 rfl ?_
                  refine x_iload dX10_tells_199 rfl ?_
                  refine iv_X10_105 dX10_tells_201 (c_X10_told hX hru hz hz6 hnu) mw_o (by decide) (Nat.le_of_ble_eq_true rfl) (fun v_201 w_201 hw_201 => ?_)
                  obtain ⟨Λ5, rfl, rfl⟩ := hw_201
                  rw [show tdF τ (mO (ru, ou, we, me, ki, ro, ma)) r z (nI p) 0 = (ou 0) from td_y]
                  refine x_istore dX10_tells_204 (by decide) ?_
                  refine x_iload dX10_tells_206 rfl ?_
                  refine x_bipush 9 dX10_tells_208 ?_
                  refine x_icmp_ne 219 dX10_tells_210 (fun _ => ?_) (fun hx => absurd hx (by decide))
                  refine x_iload dX10_tells_219 rfl ?_
                  refine x_bipush 8 dX10_tells_221 ?_
                  refine x_icmp_ne 235 dX10_tells_223 (fun _ => ?_) (fun hx => absurd hx (by decide))
                  refine x_iload dX10_tells_235 rfl ?_
                  refine x_bipush 7 dX10_tells_237 ?_
                  refine x_icmp_ne 246 dX10_tells_239 (fun _ => ?_) (fun hx => absurd hx (by decide))
                  refine x_iload dX10_tells_246 rfl ?_
                  refine ii_X10_101 dX10_tells_248 c_X10_mostOf (by decide) (Nat.le_of_ble_eq_true rfl) ?_
                  rw [show hiF 0 = 99 from rfl]
                  refine x_istore dX10_tells_251 (by decide) ?_
                  refine x_iload dX10_tells_253 rfl ?_
                  refine ii_X10_97 dX10_tells_255 c_X10_leastOf (by decide) (Nat.le_of_ble_eq_true rfl) ?_
                  rw [show leF 0 = 0 from rfl]
                  refine x_istore dX10_tells_258 (by decide) ?_
                  refine x_iconst 0 dX10_tells_260 ?_
                  refine x_istore dX10_tells_261 (by decide) ?_
                  refine x_iconst 0 dX10_tells_263 ?_
                  refine x_istore dX10_tells_264 (by decide) ?_
                  refine x_iconst (-1) dX10_tells_266 ?_
                  refine x_istore dX10_tells_267 (by decide) ?_
                  refine x_iload dX10_tells_269 rfl ?_
                  refine x_istore dX10_tells_271 (by decide) ?_
                  refine Ex.eqW (w' := (cst S ++ (mw (tx, ts, tc, tp, tn) (ru, (upd ou 0 (ou 0)), we, me, ki, ro, ma) Λ5 C K (it, so, ss, is) ++ tl))) (by rw [upd_eta]) ?_
                  refine Ex.forget (L' := [some (.ref 42), some (.int (nI q)), some (.int (nI p)), some (.int 3), some (.int 0), some (.int (nI p)), some (.int (ou 0)), some (.int (99)), some (.int 0), some (.int (tlS (okY τ (mO (ru, ou, we, me, ki, ro, ma)) r p (fun j => is (40 * q + j))) 99 0)), some (.int (nI (tlN (okY τ (mO (ru, ou, we, me, ki, ro, ma)) r p (fun j => is (40 * q + j))) 99 0))), some (.int (tlL 0 (okY τ (mO (ru, ou, we, me, ki, ro, ma)) r p (fun j => is (40 * q + j))) 99 0)), some (.int (vv 0 99 0))]) ⟨rfl, rfl, rfl, rfl, rfl, rfl, rfl, rfl, rfl, rfl, rfl, rfl, rfl, trivial⟩ ?_
                  refine for_up (P := fun i => ∀ (Λ : ML) (x : Int32), Ex X mX10_tells 51 (fun v w' => ∃ Λ' : ML, v = some (.int x0) ∧ w' = cst S ++ (mw (tx, ts, tc, tp, tn) (ru, ou, we, me, ki, ro, ma) Λ' C K (it, so, ss, is) ++ tl)) 0 0 273 [some (.ref 42), some (.int (nI q)), some (.int (nI p)), some (.int 3), some (.int 0), some (.int (nI p)), some (.int (ou 0)), some (.int (99)), some (.int 0), some (.int (tlS (okY τ (mO (ru, ou, we, me, ki, ro, ma)) r p (fun j => is (40 * q + j))) 99 i)), some (.int (nI (tlN (okY τ (mO (ru, ou, we, me, ki, ro, ma)) r p (fun j => is (40 * q + j))) 99 i))), some (.int (tlL 0 (okY τ (mO (ru, ou, we, me, ki, ro, ma)) r p (fun j => is (40 * q + j))) 99 i)), some (.int (vv 0 99 i))] [] (cst S ++ (mw (tx, ts, tc, tp, tn) (ru, (upd ou 0 x), we, me, ki, ro, ma) Λ C K (it, so, ss, is) ++ tl))) (100) ?_ (fun i hi ih => ?_) (0) (Nat.zero_le _) _ _
                  · intro Λ x
                    refine x_iload dX10_tells_273 rfl ?_
                    refine x_iload dX10_tells_275 rfl ?_
                    refine x_icmp_lt 339 dX10_tells_277 (fun _ => ?_) (fun hx => absurd (vv_lt (by decide)) hx)
                    refine x_aload_n dX10_tells_339 rfl ?_
                    refine x_iload dX10_tells_340 rfl ?_
                    refine x_iload dX10_tells_342 rfl ?_
                    refine x_iload dX10_tells_344 rfl ?_
                    refine ii_X10_109 dX10_tells_346 c_X10_lays_0 mw_o (by decide) (Nat.le_of_ble_eq_true rfl) ?_
                    refine x_iload_n dX10_tells_349 rfl ?_
                    refine x_iconst 3 dX10_tells_350 ?_
                    refine x_icmp_eq 359 dX10_tells_351 (fun _ => ?_) (fun hx => absurd (rfl) hx)
                    refine x_iload dX10_tells_359 rfl ?_
                    refine x_goto 382 dX10_tells_361 ?_
                    exact Ex.ret (v := some (.int _)) ⟨dX10_tells_382, _, rfl, by first | rfl | decide⟩ ⟨_, congrArg (fun z => some (Value.int z)) (by rw [hA, teM, if_neg (by decide), if_neg (by decide), if_neg (by decide), if_neg (by decide), if_pos rfl]), by rw [upd_upd, upd_eta]⟩
                  · intro Λ x
                    have hiN : i ≤ 99 := by omega
                    refine x_iload dX10_tells_273 rfl ?_
                    refine x_iload dX10_tells_275 rfl ?_
                    refine x_icmp_lt 339 dX10_tells_277 (fun hx => absurd hx (vv_nlt (by decide) hiN (by omega))) (fun _ => ?_)
                    refine x_aload_n dX10_tells_280 rfl ?_
                    refine x_iload dX10_tells_281 rfl ?_
                    refine x_iload dX10_tells_283 rfl ?_
                    refine x_iload dX10_tells_285 rfl ?_
                    rw [vv_le hiN, Int32.zero_add]
                    refine ii_X10_109 dX10_tells_287 c_X10_lays_0 mw_o (by decide) (Nat.le_of_ble_eq_true rfl) ?_
                    refine Ex.eqW (w' := (cst S ++ (mw (tx, ts, tc, tp, tn) (ru, (upd ou 0 (nI (99 - i))), we, me, ki, ro, ma) Λ C K (it, so, ss, is) ++ tl))) (by rw [upd_upd]) ?_
                    refine x_aload_n dX10_tells_290 rfl ?_
                    refine x_iload_n dX10_tells_291 rfl ?_
                    refine x_iload_n dX10_tells_292 rfl ?_
                    refine iv_X10_402 dX10_tells_293 (c_X10_firstOther hX hru hp hq) mw_o (by decide) (Nat.le_of_ble_eq_true rfl) (fun v_293 w_293 hw_293 => ?_)
                    obtain ⟨Λ6, rfl, rfl⟩ := hw_293
                    rw [show foF (thF τ (mO (ru, (upd ou 0 (nI (99 - i))), we, me, ki, ro, ma)) r p) (fun j => is (40 * q + j)) 8 0 = (okY τ (mO (ru, ou, we, me, ki, ro, ma)) r p (fun j => is (40 * q + j))) (99 - i) from rfl]
                    refine x_iconst (-1) dX10_tells_296 ?_
                    refine x_icmp_ne 333 dX10_tells_297 (fun h_297 => ?_) (fun h_297 => ?_)
                    · refine x_iinc (-1) dX10_tells_333 rfl (by decide) ?_
                      refine x_goto 273 dX10_tells_336 ?_
                      refine Ex.forget (L' := [some (.ref 42), some (.int (nI q)), some (.int (nI p)), some (.int 3), some (.int 0), some (.int (nI p)), some (.int (ou 0)), some (.int (99)), some (.int 0), some (.int (tlS (okY τ (mO (ru, ou, we, me, ki, ro, ma)) r p (fun j => is (40 * q + j))) 99 (i + 1))), some (.int (nI (tlN (okY τ (mO (ru, ou, we, me, ki, ro, ma)) r p (fun j => is (40 * q + j))) 99 (i + 1)))), some (.int (tlL 0 (okY τ (mO (ru, ou, we, me, ki, ro, ma)) r p (fun j => is (40 * q + j))) 99 (i + 1))), some (.int (vv 0 99 (i + 1)))]) ⟨rfl, rfl, rfl, rfl, rfl, rfl, rfl, rfl, rfl, by rw [tlS, if_neg h_297] <;> rfl, by rw [tlN, if_neg h_297] <;> rfl, by rw [tlL, if_neg h_297] <;> rfl, by rw [← vv_s hiN, vv_le hiN, Int32.zero_add] <;> rfl, trivial⟩ ?_
                      exact ih _ _
                    · refine x_iload dX10_tells_300 rfl ?_
                      refine x_iload dX10_tells_302 rfl ?_
                      refine x_iload dX10_tells_304 rfl ?_
                      refine x_isub dX10_tells_306 ?_
                      rw [Int32.sub_zero]
                      refine x_bipush 20 dX10_tells_307 ?_
                      refine x_icmp_ge 322 dX10_tells_309 (fun h_309 => ?_) (fun h_309 => ?_)
                      · refine x_iconst 0 dX10_tells_322 ?_
                        refine x_ior dX10_tells_323 ?_
                        refine x_istore dX10_tells_324 (by decide) ?_
                        refine x_iincN dX10_tells_326 rfl (by decide) ?_
                        refine x_iload dX10_tells_329 rfl ?_
                        refine x_istore dX10_tells_331 (by decide) ?_
                        refine x_iinc (-1) dX10_tells_333 rfl (by decide) ?_
                        refine x_goto 273 dX10_tells_336 ?_
                        refine Ex.forget (L' := [some (.ref 42), some (.int (nI q)), some (.int (nI p)), some (.int 3), some (.int 0), some (.int (nI p)), some (.int (ou 0)), some (.int (99)), some (.int 0), some (.int (tlS (okY τ (mO (ru, ou, we, me, ki, ro, ma)) r p (fun j => is (40 * q + j))) 99 (i + 1))), some (.int (nI (tlN (okY τ (mO (ru, ou, we, me, ki, ro, ma)) r p (fun j => is (40 * q + j))) 99 (i + 1)))), some (.int (tlL 0 (okY τ (mO (ru, ou, we, me, ki, ro, ma)) r p (fun j => is (40 * q + j))) 99 (i + 1))), some (.int (vv 0 99 (i + 1)))]) ⟨rfl, rfl, rfl, rfl, rfl, rfl, rfl, rfl, rfl, by rw [tlS, if_pos h_297, if_neg (show ¬ (99 - i) < 20 from fun y => nI_ge y (by decide) h_309)] <;> rfl, by rw [tlN, if_pos h_297] <;> rfl, by rw [tlL, if_pos h_297, Int32.zero_add] <;> rfl, by rw [← vv_s hiN, vv_le hiN, Int32.zero_add] <;> rfl, trivial⟩ ?_
                        exact ih _ _
                      · refine x_iconst 1 dX10_tells_312 ?_
                        refine x_iload dX10_tells_313 rfl ?_
                        refine x_iload dX10_tells_315 rfl ?_
                        refine x_isub dX10_tells_317 ?_
                        rw [Int32.sub_zero]
                        refine x_ishl dX10_tells_318 ?_
                        refine x_goto 323 dX10_tells_319 ?_
                        refine x_ior dX10_tells_323 ?_
                        refine x_istore dX10_tells_324 (by decide) ?_
                        refine x_iincN dX10_tells_326 rfl (by decide) ?_
                        refine x_iload dX10_tells_329 rfl ?_
                        refine x_istore dX10_tells_331 (by decide) ?_
                        refine x_iinc (-1) dX10_tells_333 rfl (by decide) ?_
                        refine x_goto 273 dX10_tells_336 ?_
                        refine Ex.forget (L' := [some (.ref 42), some (.int (nI q)), some (.int (nI p)), some (.int 3), some (.int 0), some (.int (nI p)), some (.int (ou 0)), some (.int (99)), some (.int 0), some (.int (tlS (okY τ (mO (ru, ou, we, me, ki, ro, ma)) r p (fun j => is (40 * q + j))) 99 (i + 1))), some (.int (nI (tlN (okY τ (mO (ru, ou, we, me, ki, ro, ma)) r p (fun j => is (40 * q + j))) 99 (i + 1)))), some (.int (tlL 0 (okY τ (mO (ru, ou, we, me, ki, ro, ma)) r p (fun j => is (40 * q + j))) 99 (i + 1))), some (.int (vv 0 99 (i + 1)))]) ⟨rfl, rfl, rfl, rfl, rfl, rfl, rfl, rfl, rfl, by rw [tlS, if_pos h_297, if_pos (show (99 - i) < 20 from Nat.not_le.mp (fun y => h_309 (nI_le (a := 20) y (by omega))))] <;> rfl, by rw [tlN, if_pos h_297] <;> rfl, by rw [tlL, if_pos h_297, Int32.zero_add] <;> rfl, by rw [← vv_s hiN, vv_le hiN, Int32.zero_add] <;> rfl, trivial⟩ ?_
                        exact ih _ _
                · skip
                  refine x_iload_n dX10_tells_70 rfl ?_
                  refine x_if_eq 80 dX10_tells_71 (fun hx => absurd hx (by decide)) (fun _ => ?_)
                  refine x_iload_n dX10_tells_74 rfl ?_
                  refine x_bipush 8 dX10_tells_75 ?_
                  refine x_icmp_ne 99 dX10_tells_77 (fun _ => ?_) (fun hx => absurd hx (by decide))
                  refine x_iload_n dX10_tells_99 rfl ?_
                  refine x_iconst 1 dX10_tells_100 ?_
                  refine x_icmp_ne 109 dX10_tells_101 (fun _ => ?_) (fun hx => absurd hx (by decide))
                  refine x_iload_n dX10_tells_109 rfl ?_
                  refine x_iconst 2 dX10_tells_110 ?_
                  refine x_icmp_ne 118 dX10_tells_111 (fun _ => ?_) (fun hx => absurd hx (by decide))
                  refine x_iload_n dX10_tells_118 rfl ?_
                  refine x_iconst 5 dX10_tells_119 ?_
                  refine x_icmp_ge 127 dX10_tells_120 (fun hx => absurd hx (by decide)) (fun _ => ?_)
                  refine x_iconst 0 dX10_tells_123 ?_
                  refine x_goto 150 dX10_tells_124 ?_
                  refine x_istore dX10_tells_150 (by decide) ?_
                  refine x_iload dX10_tells_152 rfl ?_
                  refine x_iconst 3 dX10_tells_154 ?_
                  refine x_icmp_ne 165 dX10_tells_155 (fun _ => ?_) (fun hx => absurd hx (by decide))
                  refine x_iload_n dX10_tells_165 rfl ?_
                  refine x_istore dX10_tells_166 (by decide) ?_
                  refine x_iload dX10_tells_168 rfl ?_
                  refine x_bipush 9 dX10_tells_170 ?_
                  refine x_icmp_ne 182 dX10_tells_172 (fun _ => ?_) (fun hx => absurd hx (by decide))
                  refine x_iload dX10_tells_182 rfl ?_
                  refine x_bipush 8 dX10_tells_184 ?_
                  refine x_icmp_ne 196 dX10_tells_186 (fun _ => ?_) (fun hx => absurd hx (by decide))
                  refine x_aload_n dX10_tells_196 rfl ?_
                  refine x_iload dX10_tells_197 rfl ?_
                  refine x_iload dX10_tells_199 rfl ?_
                  refine iv_X10_105 dX10_tells_201 (c_X10_told hX hru hz hz6 hnu) mw_o (by decide) (Nat.le_of_ble_eq_true rfl) (fun v_201 w_201 hw_201 => ?_)
                  obtain ⟨Λ5, rfl, rfl⟩ := hw_201
                  rw [show tdF τ (mO (ru, ou, we, me, ki, ro, ma)) r z (nI p) 0 = (ou 0) from td_y]
                  refine x_istore dX10_tells_204 (by decide) ?_
                  refine x_iload dX10_tells_206 rfl ?_
                  refine x_bipush 9 dX10_tells_208 ?_
                  refine x_icmp_ne 219 dX10_tells_210 (fun _ => ?_) (fun hx => absurd hx (by decide))
                  refine x_iload dX10_tells_219 rfl ?_
                  refine x_bipush 8 dX10_tells_221 ?_
                  refine x_icmp_ne 235 dX10_tells_223 (fun _ => ?_) (fun hx => absurd hx (by decide))
                  refine x_iload dX10_tells_235 rfl ?_
                  refine x_bipush 7 dX10_tells_237 ?_
                  refine x_icmp_ne 246 dX10_tells_239 (fun _ => ?_) (fun hx => absurd hx (by decide))
                  refine x_iload dX10_tells_246 rfl ?_
                  refine ii_X10_101 dX10_tells_248 c_X10_mostOf (by decide) (Nat.le_of_ble_eq_true rfl) ?_
                  rw [show hiF 0 = 99 from rfl]
                  refine x_istore dX10_tells_251 (by decide) ?_
                  refine x_iload dX10_tells_253 rfl ?_
                  refine ii_X10_97 dX10_tells_255 c_X10_leastOf (by decide) (Nat.le_of_ble_eq_true rfl) ?_
                  rw [show leF 0 = 0 from rfl]
                  refine x_istore dX10_tells_258 (by decide) ?_
                  refine x_iconst 0 dX10_tells_260 ?_
                  refine x_istore dX10_tells_261 (by decide) ?_
                  refine x_iconst 0 dX10_tells_263 ?_
                  refine x_istore dX10_tells_264 (by decide) ?_
                  refine x_iconst (-1) dX10_tells_266 ?_
                  refine x_istore dX10_tells_267 (by decide) ?_
                  refine x_iload dX10_tells_269 rfl ?_
                  refine x_istore dX10_tells_271 (by decide) ?_
                  refine Ex.eqW (w' := (cst S ++ (mw (tx, ts, tc, tp, tn) (ru, (upd ou 0 (ou 0)), we, me, ki, ro, ma) Λ5 C K (it, so, ss, is) ++ tl))) (by rw [upd_eta]) ?_
                  refine Ex.forget (L' := [some (.ref 42), some (.int (nI q)), some (.int (nI p)), some (.int 4), some (.int 0), some (.int (nI p)), some (.int (ou 0)), some (.int (99)), some (.int 0), some (.int (tlS (okY τ (mO (ru, ou, we, me, ki, ro, ma)) r p (fun j => is (40 * q + j))) 99 0)), some (.int (nI (tlN (okY τ (mO (ru, ou, we, me, ki, ro, ma)) r p (fun j => is (40 * q + j))) 99 0))), some (.int (tlL 0 (okY τ (mO (ru, ou, we, me, ki, ro, ma)) r p (fun j => is (40 * q + j))) 99 0)), some (.int (vv 0 99 0))]) ⟨rfl, rfl, rfl, rfl, rfl, rfl, rfl, rfl, rfl, rfl, rfl, rfl, rfl, trivial⟩ ?_
                  refine for_up (P := fun i => ∀ (Λ : ML) (x : Int32), Ex X mX10_tells 51 (fun v w' => ∃ Λ' : ML, v = some (.int x0) ∧ w' = cst S ++ (mw (tx, ts, tc, tp, tn) (ru, ou, we, me, ki, ro, ma) Λ' C K (it, so, ss, is) ++ tl)) 0 0 273 [some (.ref 42), some (.int (nI q)), some (.int (nI p)), some (.int 4), some (.int 0), some (.int (nI p)), some (.int (ou 0)), some (.int (99)), some (.int 0), some (.int (tlS (okY τ (mO (ru, ou, we, me, ki, ro, ma)) r p (fun j => is (40 * q + j))) 99 i)), some (.int (nI (tlN (okY τ (mO (ru, ou, we, me, ki, ro, ma)) r p (fun j => is (40 * q + j))) 99 i))), some (.int (tlL 0 (okY τ (mO (ru, ou, we, me, ki, ro, ma)) r p (fun j => is (40 * q + j))) 99 i)), some (.int (vv 0 99 i))] [] (cst S ++ (mw (tx, ts, tc, tp, tn) (ru, (upd ou 0 x), we, me, ki, ro, ma) Λ C K (it, so, ss, is) ++ tl))) (100) ?_ (fun i hi ih => ?_) (0) (Nat.zero_le _) _ _
                  · intro Λ x
                    refine x_iload dX10_tells_273 rfl ?_
                    refine x_iload dX10_tells_275 rfl ?_
                    refine x_icmp_lt 339 dX10_tells_277 (fun _ => ?_) (fun hx => absurd (vv_lt (by decide)) hx)
                    refine x_aload_n dX10_tells_339 rfl ?_
                    refine x_iload dX10_tells_340 rfl ?_
                    refine x_iload dX10_tells_342 rfl ?_
                    refine x_iload dX10_tells_344 rfl ?_
                    refine ii_X10_109 dX10_tells_346 c_X10_lays_0 mw_o (by decide) (Nat.le_of_ble_eq_true rfl) ?_
                    refine x_iload_n dX10_tells_349 rfl ?_
                    refine x_iconst 3 dX10_tells_350 ?_
                    refine x_icmp_eq 359 dX10_tells_351 (fun hx => absurd hx (by decide)) (fun _ => ?_)
                    refine x_iload_n dX10_tells_354 rfl ?_
                    refine x_iconst 5 dX10_tells_355 ?_
                    refine x_icmp_ne 364 dX10_tells_356 (fun _ => ?_) (fun hx => absurd hx (by decide))
                    refine x_iload_n dX10_tells_364 rfl ?_
                    refine x_iconst 4 dX10_tells_365 ?_
                    refine x_icmp_eq 375 dX10_tells_366 (fun _ => ?_) (fun hx => absurd (rfl) hx)
                    refine x_iload dX10_tells_375 rfl ?_
                    refine x_goto 382 dX10_tells_377 ?_
                    exact Ex.ret (v := some (.int _)) ⟨dX10_tells_382, _, rfl, by first | rfl | decide⟩ ⟨_, congrArg (fun z => some (Value.int z)) (by rw [hA, teM, if_neg (by decide), if_neg (by decide), if_neg (by decide), if_neg (by decide), if_neg (by decide), if_pos rfl]), by rw [upd_upd, upd_eta]⟩
                  · intro Λ x
                    have hiN : i ≤ 99 := by omega
                    refine x_iload dX10_tells_273 rfl ?_
                    refine x_iload dX10_tells_275 rfl ?_
                    refine x_icmp_lt 339 dX10_tells_277 (fun hx => absurd hx (vv_nlt (by decide) hiN (by omega))) (fun _ => ?_)
                    refine x_aload_n dX10_tells_280 rfl ?_
                    refine x_iload dX10_tells_281 rfl ?_
                    refine x_iload dX10_tells_283 rfl ?_
                    refine x_iload dX10_tells_285 rfl ?_
                    rw [vv_le hiN, Int32.zero_add]
                    refine ii_X10_109 dX10_tells_287 c_X10_lays_0 mw_o (by decide) (Nat.le_of_ble_eq_true rfl) ?_
                    refine Ex.eqW (w' := (cst S ++ (mw (tx, ts, tc, tp, tn) (ru, (upd ou 0 (nI (99 - i))), we, me, ki, ro, ma) Λ C K (it, so, ss, is) ++ tl))) (by rw [upd_upd]) ?_
                    refine x_aload_n dX10_tells_290 rfl ?_
                    refine x_iload_n dX10_tells_291 rfl ?_
                    refine x_iload_n dX10_tells_292 rfl ?_
                    refine iv_X10_402 dX10_tells_293 (c_X10_firstOther hX hru hp hq) mw_o (by decide) (Nat.le_of_ble_eq_true rfl) (fun v_293 w_293 hw_293 => ?_)
                    obtain ⟨Λ6, rfl, rfl⟩ := hw_293
                    rw [show foF (thF τ (mO (ru, (upd ou 0 (nI (99 - i))), we, me, ki, ro, ma)) r p) (fun j => is (40 * q + j)) 8 0 = (okY τ (mO (ru, ou, we, me, ki, ro, ma)) r p (fun j => is (40 * q + j))) (99 - i) from rfl]
                    refine x_iconst (-1) dX10_tells_296 ?_
                    refine x_icmp_ne 333 dX10_tells_297 (fun h_297 => ?_) (fun h_297 => ?_)
                    · refine x_iinc (-1) dX10_tells_333 rfl (by decide) ?_
                      refine x_goto 273 dX10_tells_336 ?_
                      refine Ex.forget (L' := [some (.ref 42), some (.int (nI q)), some (.int (nI p)), some (.int 4), some (.int 0), some (.int (nI p)), some (.int (ou 0)), some (.int (99)), some (.int 0), some (.int (tlS (okY τ (mO (ru, ou, we, me, ki, ro, ma)) r p (fun j => is (40 * q + j))) 99 (i + 1))), some (.int (nI (tlN (okY τ (mO (ru, ou, we, me, ki, ro, ma)) r p (fun j => is (40 * q + j))) 99 (i + 1)))), some (.int (tlL 0 (okY τ (mO (ru, ou, we, me, ki, ro, ma)) r p (fun j => is (40 * q + j))) 99 (i + 1))), some (.int (vv 0 99 (i + 1)))]) ⟨rfl, rfl, rfl, rfl, rfl, rfl, rfl, rfl, rfl, by rw [tlS, if_neg h_297] <;> rfl, by rw [tlN, if_neg h_297] <;> rfl, by rw [tlL, if_neg h_297] <;> rfl, by rw [← vv_s hiN, vv_le hiN, Int32.zero_add] <;> rfl, trivial⟩ ?_
                      exact ih _ _
                    · refine x_iload dX10_tells_300 rfl ?_
                      refine x_iload dX10_tells_302 rfl ?_
                      refine x_iload dX10_tells_304 rfl ?_
                      refine x_isub dX10_tells_306 ?_
                      rw [Int32.sub_zero]
                      refine x_bipush 20 dX10_tells_307 ?_
                      refine x_icmp_ge 322 dX10_tells_309 (fun h_309 => ?_) (fun h_309 => ?_)
                      · refine x_iconst 0 dX10_tells_322 ?_
                        refine x_ior dX10_tells_323 ?_
                        refine x_istore dX10_tells_324 (by decide) ?_
                        refine x_iincN dX10_tells_326 rfl (by decide) ?_
                        refine x_iload dX10_tells_329 rfl ?_
                        refine x_istore dX10_tells_331 (by decide) ?_
                        refine x_iinc (-1) dX10_tells_333 rfl (by decide) ?_
                        refine x_goto 273 dX10_tells_336 ?_
                        refine Ex.forget (L' := [some (.ref 42), some (.int (nI q)), some (.int (nI p)), some (.int 4), some (.int 0), some (.int (nI p)), some (.int (ou 0)), some (.int (99)), some (.int 0), some (.int (tlS (okY τ (mO (ru, ou, we, me, ki, ro, ma)) r p (fun j => is (40 * q + j))) 99 (i + 1))), some (.int (nI (tlN (okY τ (mO (ru, ou, we, me, ki, ro, ma)) r p (fun j => is (40 * q + j))) 99 (i + 1)))), some (.int (tlL 0 (okY τ (mO (ru, ou, we, me, ki, ro, ma)) r p (fun j => is (40 * q + j))) 99 (i + 1))), some (.int (vv 0 99 (i + 1)))]) ⟨rfl, rfl, rfl, rfl, rfl, rfl, rfl, rfl, rfl, by rw [tlS, if_pos h_297, if_neg (show ¬ (99 - i) < 20 from fun y => nI_ge y (by decide) h_309)] <;> rfl, by rw [tlN, if_pos h_297] <;> rfl, by rw [tlL, if_pos h_297, Int32.zero_add] <;> rfl, by rw [← vv_s hiN, vv_le hiN, Int32.zero_add] <;> rfl, trivial⟩ ?_
                        exact ih _ _
                      · refine x_iconst 1 dX10_tells_312 ?_
                        refine x_iload dX10_tells_313 rfl ?_
                        refine x_iload dX10_tells_315 rfl ?_
                        refine x_isub dX10_tells_317 ?_
                        rw [Int32.sub_zero]
                        refine x_ishl dX10_tells_318 ?_
                        refine x_goto 323 dX10_tells_319 ?_
                        refine x_ior dX10_tells_323 ?_
                        refine x_istore dX10_tells_324 (by decide) ?_
                        refine x_iincN dX10_tells_326 rfl (by decide) ?_
                        refine x_iload dX10_tells_329 rfl ?_
                        refine x_istore dX10_tells_331 (by decide) ?_
                        refine x_iinc (-1) dX10_tells_333 rfl (by decide) ?_
                        refine x_goto 273 dX10_tells_336 ?_
                        refine Ex.forget (L' := [some (.ref 42), some (.int (nI q)), some (.int (nI p)), some (.int 4), some (.int 0), some (.int (nI p)), some (.int (ou 0)), some (.int (99)), some (.int 0), some (.int (tlS (okY τ (mO (ru, ou, we, me, ki, ro, ma)) r p (fun j => is (40 * q + j))) 99 (i + 1))), some (.int (nI (tlN (okY τ (mO (ru, ou, we, me, ki, ro, ma)) r p (fun j => is (40 * q + j))) 99 (i + 1)))), some (.int (tlL 0 (okY τ (mO (ru, ou, we, me, ki, ro, ma)) r p (fun j => is (40 * q + j))) 99 (i + 1))), some (.int (vv 0 99 (i + 1)))]) ⟨rfl, rfl, rfl, rfl, rfl, rfl, rfl, rfl, rfl, by rw [tlS, if_pos h_297, if_pos (show (99 - i) < 20 from Nat.not_le.mp (fun y => h_309 (nI_le (a := 20) y (by omega))))] <;> rfl, by rw [tlN, if_pos h_297] <;> rfl, by rw [tlL, if_pos h_297, Int32.zero_add] <;> rfl, by rw [← vv_s hiN, vv_le hiN, Int32.zero_add] <;> rfl, trivial⟩ ?_
                        exact ih _ _
                · skip
                  refine x_iload_n dX10_tells_70 rfl ?_
                  refine x_if_eq 80 dX10_tells_71 (fun hx => absurd hx (by decide)) (fun _ => ?_)
                  refine x_iload_n dX10_tells_74 rfl ?_
                  refine x_bipush 8 dX10_tells_75 ?_
                  refine x_icmp_ne 99 dX10_tells_77 (fun _ => ?_) (fun hx => absurd hx (by decide))
                  refine x_iload_n dX10_tells_99 rfl ?_
                  refine x_iconst 1 dX10_tells_100 ?_
                  refine x_icmp_ne 109 dX10_tells_101 (fun _ => ?_) (fun hx => absurd hx (by decide))
                  refine x_iload_n dX10_tells_109 rfl ?_
                  refine x_iconst 2 dX10_tells_110 ?_
                  refine x_icmp_ne 118 dX10_tells_111 (fun _ => ?_) (fun hx => absurd hx (by decide))
                  refine x_iload_n dX10_tells_118 rfl ?_
                  refine x_iconst 5 dX10_tells_119 ?_
                  refine x_icmp_ge 127 dX10_tells_120 (fun _ => ?_) (fun hx => absurd (by decide) hx)
                  refine x_iload_n dX10_tells_127 rfl ?_
                  refine x_bipush 7 dX10_tells_128 ?_
                  refine x_icmp_ge 138 dX10_tells_130 (fun hx => absurd hx (by decide)) (fun _ => ?_)
                  refine x_bipush 9 dX10_tells_133 ?_
                  refine x_goto 150 dX10_tells_135 ?_
                  refine x_istore dX10_tells_150 (by decide) ?_
                  refine x_iload dX10_tells_152 rfl ?_
                  refine x_iconst 3 dX10_tells_154 ?_
                  refine x_icmp_ne 165 dX10_tells_155 (fun _ => ?_) (fun hx => absurd hx (by decide))
                  refine x_iload_n dX10_tells_165 rfl ?_
                  refine x_istore dX10_tells_166 (by decide) ?_
                  refine x_iload dX10_tells_168 rfl ?_
                  refine x_bipush 9 dX10_tells_170 ?_
                  refine x_icmp_ne 182 dX10_tells_172 (fun hx => absurd (rfl) hx) (fun _ => ?_)
                  refine x_aload_n dX10_tells_175 rfl ?_
                  refine mg_113 dX10_tells_176 ?_
                  refine x_goto 204 dX10_tells_179 ?_
                  refine x_istore dX10_tells_204 (by decide) ?_
                  refine x_iload dX10_tells_206 rfl ?_
                  refine x_bipush 9 dX10_tells_208 ?_
                  refine x_icmp_ne 219 dX10_tells_210 (fun hx => absurd (rfl) hx) (fun _ => ?_)
                  refine x_sipush 255 dX10_tells_213 ?_
                  refine x_goto 251 dX10_tells_216 ?_
                  refine x_istore dX10_tells_251 (by decide) ?_
                  refine x_iload dX10_tells_253 rfl ?_
                  refine ii_X10_97 dX10_tells_255 c_X10_leastOf (by decide) (Nat.le_of_ble_eq_true rfl) ?_
                  rw [show leF 9 = 0 from rfl]
                  refine x_istore dX10_tells_258 (by decide) ?_
                  refine x_iconst 0 dX10_tells_260 ?_
                  refine x_istore dX10_tells_261 (by decide) ?_
                  refine x_iconst 0 dX10_tells_263 ?_
                  refine x_istore dX10_tells_264 (by decide) ?_
                  refine x_iconst (-1) dX10_tells_266 ?_
                  refine x_istore dX10_tells_267 (by decide) ?_
                  refine x_iload dX10_tells_269 rfl ?_
                  refine x_istore dX10_tells_271 (by decide) ?_
                  refine Ex.forget (L' := [some (.ref 42), some (.int (nI q)), some (.int (nI p)), some (.int 5), some (.int 9), some (.int (nI p)), some (.int me), some (.int (255)), some (.int 0), some (.int (tlS (okD τ (mO (ru, ou, we, me, ki, ro, ma)) r p (fun j => is (40 * q + j))) 255 0)), some (.int (nI (tlN (okD τ (mO (ru, ou, we, me, ki, ro, ma)) r p (fun j => is (40 * q + j))) 255 0))), some (.int (tlL 0 (okD τ (mO (ru, ou, we, me, ki, ro, ma)) r p (fun j => is (40 * q + j))) 255 0)), some (.int (vv 0 255 0))]) ⟨rfl, rfl, rfl, rfl, rfl, rfl, rfl, rfl, rfl, rfl, rfl, rfl, rfl, trivial⟩ ?_
                  refine for_up (P := fun i => ∀ (Λ : ML) (x : Int32), Ex X mX10_tells 51 (fun v w' => ∃ Λ' : ML, v = some (.int x0) ∧ w' = cst S ++ (mw (tx, ts, tc, tp, tn) (ru, ou, we, me, ki, ro, ma) Λ' C K (it, so, ss, is) ++ tl)) 0 0 273 [some (.ref 42), some (.int (nI q)), some (.int (nI p)), some (.int 5), some (.int 9), some (.int (nI p)), some (.int me), some (.int (255)), some (.int 0), some (.int (tlS (okD τ (mO (ru, ou, we, me, ki, ro, ma)) r p (fun j => is (40 * q + j))) 255 i)), some (.int (nI (tlN (okD τ (mO (ru, ou, we, me, ki, ro, ma)) r p (fun j => is (40 * q + j))) 255 i))), some (.int (tlL 0 (okD τ (mO (ru, ou, we, me, ki, ro, ma)) r p (fun j => is (40 * q + j))) 255 i)), some (.int (vv 0 255 i))] [] (cst S ++ (mw (tx, ts, tc, tp, tn) (ru, ou, we, x, ki, ro, ma) Λ C K (it, so, ss, is) ++ tl))) (256) ?_ (fun i hi ih => ?_) (0) (Nat.zero_le _) _ _
                  · intro Λ x
                    refine x_iload dX10_tells_273 rfl ?_
                    refine x_iload dX10_tells_275 rfl ?_
                    refine x_icmp_lt 339 dX10_tells_277 (fun _ => ?_) (fun hx => absurd (vv_lt (by decide)) hx)
                    refine x_aload_n dX10_tells_339 rfl ?_
                    refine x_iload dX10_tells_340 rfl ?_
                    refine x_iload dX10_tells_342 rfl ?_
                    refine x_iload dX10_tells_344 rfl ?_
                    refine ii_X10_109 dX10_tells_346 c_X10_lays_9 mw_o (by decide) (Nat.le_of_ble_eq_true rfl) ?_
                    refine x_iload_n dX10_tells_349 rfl ?_
                    refine x_iconst 3 dX10_tells_350 ?_
                    refine x_icmp_eq 359 dX10_tells_351 (fun hx => absurd hx (by decide)) (fun _ => ?_)
                    refine x_iload_n dX10_tells_354 rfl ?_
                    refine x_iconst 5 dX10_tells_355 ?_
                    refine x_icmp_ne 364 dX10_tells_356 (fun hx => absurd (rfl) hx) (fun _ => ?_)
                    refine x_iload dX10_tells_359 rfl ?_
                    refine x_goto 382 dX10_tells_361 ?_
                    exact Ex.ret (v := some (.int _)) ⟨dX10_tells_382, _, rfl, by first | rfl | decide⟩ ⟨_, congrArg (fun z => some (Value.int z)) (by rw [hA, teM, if_neg (by decide), if_neg (by decide), if_neg (by decide), if_neg (by decide), if_neg (by decide), if_neg (by decide), if_pos rfl]), rfl⟩
                  · intro Λ x
                    have hiN : i ≤ 255 := by omega
                    refine x_iload dX10_tells_273 rfl ?_
                    refine x_iload dX10_tells_275 rfl ?_
                    refine x_icmp_lt 339 dX10_tells_277 (fun hx => absurd hx (vv_nlt (by decide) hiN (by omega))) (fun _ => ?_)
                    refine x_aload_n dX10_tells_280 rfl ?_
                    refine x_iload dX10_tells_281 rfl ?_
                    refine x_iload dX10_tells_283 rfl ?_
                    refine x_iload dX10_tells_285 rfl ?_
                    rw [vv_le hiN, Int32.zero_add]
                    refine ii_X10_109 dX10_tells_287 c_X10_lays_9 mw_o (by decide) (Nat.le_of_ble_eq_true rfl) ?_
                    refine x_aload_n dX10_tells_290 rfl ?_
                    refine x_iload_n dX10_tells_291 rfl ?_
                    refine x_iload_n dX10_tells_292 rfl ?_
                    refine iv_X10_402 dX10_tells_293 (c_X10_firstOther hX hru hp hq) mw_o (by decide) (Nat.le_of_ble_eq_true rfl) (fun v_293 w_293 hw_293 => ?_)
                    obtain ⟨Λ6, rfl, rfl⟩ := hw_293
                    rw [show foF (thF τ (mO (ru, ou, we, (nI (255 - i)), ki, ro, ma)) r p) (fun j => is (40 * q + j)) 8 0 = (okD τ (mO (ru, ou, we, me, ki, ro, ma)) r p (fun j => is (40 * q + j))) (255 - i) from rfl]
                    refine x_iconst (-1) dX10_tells_296 ?_
                    refine x_icmp_ne 333 dX10_tells_297 (fun h_297 => ?_) (fun h_297 => ?_)
                    · refine x_iinc (-1) dX10_tells_333 rfl (by decide) ?_
                      refine x_goto 273 dX10_tells_336 ?_
                      refine Ex.forget (L' := [some (.ref 42), some (.int (nI q)), some (.int (nI p)), some (.int 5), some (.int 9), some (.int (nI p)), some (.int me), some (.int (255)), some (.int 0), some (.int (tlS (okD τ (mO (ru, ou, we, me, ki, ro, ma)) r p (fun j => is (40 * q + j))) 255 (i + 1))), some (.int (nI (tlN (okD τ (mO (ru, ou, we, me, ki, ro, ma)) r p (fun j => is (40 * q + j))) 255 (i + 1)))), some (.int (tlL 0 (okD τ (mO (ru, ou, we, me, ki, ro, ma)) r p (fun j => is (40 * q + j))) 255 (i + 1))), some (.int (vv 0 255 (i + 1)))]) ⟨rfl, rfl, rfl, rfl, rfl, rfl, rfl, rfl, rfl, by rw [tlS, if_neg h_297] <;> rfl, by rw [tlN, if_neg h_297] <;> rfl, by rw [tlL, if_neg h_297] <;> rfl, by rw [← vv_s hiN, vv_le hiN, Int32.zero_add] <;> rfl, trivial⟩ ?_
                      exact ih _ _
                    · refine x_iload dX10_tells_300 rfl ?_
                      refine x_iload dX10_tells_302 rfl ?_
                      refine x_iload dX10_tells_304 rfl ?_
                      refine x_isub dX10_tells_306 ?_
                      rw [Int32.sub_zero]
                      refine x_bipush 20 dX10_tells_307 ?_
                      refine x_icmp_ge 322 dX10_tells_309 (fun h_309 => ?_) (fun h_309 => ?_)
                      · refine x_iconst 0 dX10_tells_322 ?_
                        refine x_ior dX10_tells_323 ?_
                        refine x_istore dX10_tells_324 (by decide) ?_
                        refine x_iincN dX10_tells_326 rfl (by decide) ?_
                        refine x_iload dX10_tells_329 rfl ?_
                        refine x_istore dX10_tells_331 (by decide) ?_
                        refine x_iinc (-1) dX10_tells_333 rfl (by decide) ?_
                        refine x_goto 273 dX10_tells_336 ?_
                        refine Ex.forget (L' := [some (.ref 42), some (.int (nI q)), some (.int (nI p)), some (.int 5), some (.int 9), some (.int (nI p)), some (.int me), some (.int (255)), some (.int 0), some (.int (tlS (okD τ (mO (ru, ou, we, me, ki, ro, ma)) r p (fun j => is (40 * q + j))) 255 (i + 1))), some (.int (nI (tlN (okD τ (mO (ru, ou, we, me, ki, ro, ma)) r p (fun j => is (40 * q + j))) 255 (i + 1)))), some (.int (tlL 0 (okD τ (mO (ru, ou, we, me, ki, ro, ma)) r p (fun j => is (40 * q + j))) 255 (i + 1))), some (.int (vv 0 255 (i + 1)))]) ⟨rfl, rfl, rfl, rfl, rfl, rfl, rfl, rfl, rfl, by rw [tlS, if_pos h_297, if_neg (show ¬ (255 - i) < 20 from fun y => nI_ge y (by decide) h_309)] <;> rfl, by rw [tlN, if_pos h_297] <;> rfl, by rw [tlL, if_pos h_297, Int32.zero_add] <;> rfl, by rw [← vv_s hiN, vv_le hiN, Int32.zero_add] <;> rfl, trivial⟩ ?_
                        exact ih _ _
                      · refine x_iconst 1 dX10_tells_312 ?_
                        refine x_iload dX10_tells_313 rfl ?_
                        refine x_iload dX10_tells_315 rfl ?_
                        refine x_isub dX10_tells_317 ?_
                        rw [Int32.sub_zero]
                        refine x_ishl dX10_tells_318 ?_
                        refine x_goto 323 dX10_tells_319 ?_
                        refine x_ior dX10_tells_323 ?_
                        refine x_istore dX10_tells_324 (by decide) ?_
                        refine x_iincN dX10_tells_326 rfl (by decide) ?_
                        refine x_iload dX10_tells_329 rfl ?_
                        refine x_istore dX10_tells_331 (by decide) ?_
                        refine x_iinc (-1) dX10_tells_333 rfl (by decide) ?_
                        refine x_goto 273 dX10_tells_336 ?_
                        refine Ex.forget (L' := [some (.ref 42), some (.int (nI q)), some (.int (nI p)), some (.int 5), some (.int 9), some (.int (nI p)), some (.int me), some (.int (255)), some (.int 0), some (.int (tlS (okD τ (mO (ru, ou, we, me, ki, ro, ma)) r p (fun j => is (40 * q + j))) 255 (i + 1))), some (.int (nI (tlN (okD τ (mO (ru, ou, we, me, ki, ro, ma)) r p (fun j => is (40 * q + j))) 255 (i + 1)))), some (.int (tlL 0 (okD τ (mO (ru, ou, we, me, ki, ro, ma)) r p (fun j => is (40 * q + j))) 255 (i + 1))), some (.int (vv 0 255 (i + 1)))]) ⟨rfl, rfl, rfl, rfl, rfl, rfl, rfl, rfl, rfl, by rw [tlS, if_pos h_297, if_pos (show (255 - i) < 20 from Nat.not_le.mp (fun y => h_309 (nI_le (a := 20) y (by omega))))] <;> rfl, by rw [tlN, if_pos h_297] <;> rfl, by rw [tlL, if_pos h_297, Int32.zero_add] <;> rfl, by rw [← vv_s hiN, vv_le hiN, Int32.zero_add] <;> rfl, trivial⟩ ?_
                        exact ih _ _
                · skip
                  refine x_iload_n dX10_tells_70 rfl ?_
                  refine x_if_eq 80 dX10_tells_71 (fun hx => absurd hx (by decide)) (fun _ => ?_)
                  refine x_iload_n dX10_tells_74 rfl ?_
                  refine x_bipush 8 dX10_tells_75 ?_
                  refine x_icmp_ne 99 dX10_tells_77 (fun _ => ?_) (fun hx => absurd hx (by decide))
                  refine x_iload_n dX10_tells_99 rfl ?_
                  refine x_iconst 1 dX10_tells_100 ?_
                  refine x_icmp_ne 109 dX10_tells_101 (fun _ => ?_) (fun hx => absurd hx (by decide))
                  refine x_iload_n dX10_tells_109 rfl ?_
                  refine x_iconst 2 dX10_tells_110 ?_
                  refine x_icmp_ne 118 dX10_tells_111 (fun _ => ?_) (fun hx => absurd hx (by decide))
                  refine x_iload_n dX10_tells_118 rfl ?_
                  refine x_iconst 5 dX10_tells_119 ?_
                  refine x_icmp_ge 127 dX10_tells_120 (fun _ => ?_) (fun hx => absurd (by decide) hx)
                  refine x_iload_n dX10_tells_127 rfl ?_
                  refine x_bipush 7 dX10_tells_128 ?_
                  refine x_icmp_ge 138 dX10_tells_130 (fun hx => absurd hx (by decide)) (fun _ => ?_)
                  refine x_bipush 9 dX10_tells_133 ?_
                  refine x_goto 150 dX10_tells_135 ?_
                  refine x_istore dX10_tells_150 (by decide) ?_
                  refine x_iload dX10_tells_152 rfl ?_
                  refine x_iconst 3 dX10_tells_154 ?_
                  refine x_icmp_ne 165 dX10_tells_155 (fun _ => ?_) (fun hx => absurd hx (by decide))
                  refine x_iload_n dX10_tells_165 rfl ?_
                  refine x_istore dX10_tells_166 (by decide) ?_
                  refine x_iload dX10_tells_168 rfl ?_
                  refine x_bipush 9 dX10_tells_170 ?_
                  refine x_icmp_ne 182 dX10_tells_172 (fun hx => absurd (rfl) hx) (fun _ => ?_)
                  refine x_aload_n dX10_tells_175 rfl ?_
                  refine mg_113 dX10_tells_176 ?_
                  refine x_goto 204 dX10_tells_179 ?_
                  refine x_istore dX10_tells_204 (by decide) ?_
                  refine x_iload dX10_tells_206 rfl ?_
                  refine x_bipush 9 dX10_tells_208 ?_
                  refine x_icmp_ne 219 dX10_tells_210 (fun hx => absurd (rfl) hx) (fun _ => ?_)
                  refine x_sipush 255 dX10_tells_213 ?_
                  refine x_goto 251 dX10_tells_216 ?_
                  refine x_istore dX10_tells_251 (by decide) ?_
                  refine x_iload dX10_tells_253 rfl ?_
                  refine ii_X10_97 dX10_tells_255 c_X10_leastOf (by decide) (Nat.le_of_ble_eq_true rfl) ?_
                  rw [show leF 9 = 0 from rfl]
                  refine x_istore dX10_tells_258 (by decide) ?_
                  refine x_iconst 0 dX10_tells_260 ?_
                  refine x_istore dX10_tells_261 (by decide) ?_
                  refine x_iconst 0 dX10_tells_263 ?_
                  refine x_istore dX10_tells_264 (by decide) ?_
                  refine x_iconst (-1) dX10_tells_266 ?_
                  refine x_istore dX10_tells_267 (by decide) ?_
                  refine x_iload dX10_tells_269 rfl ?_
                  refine x_istore dX10_tells_271 (by decide) ?_
                  refine Ex.forget (L' := [some (.ref 42), some (.int (nI q)), some (.int (nI p)), some (.int 6), some (.int 9), some (.int (nI p)), some (.int me), some (.int (255)), some (.int 0), some (.int (tlS (okD τ (mO (ru, ou, we, me, ki, ro, ma)) r p (fun j => is (40 * q + j))) 255 0)), some (.int (nI (tlN (okD τ (mO (ru, ou, we, me, ki, ro, ma)) r p (fun j => is (40 * q + j))) 255 0))), some (.int (tlL 0 (okD τ (mO (ru, ou, we, me, ki, ro, ma)) r p (fun j => is (40 * q + j))) 255 0)), some (.int (vv 0 255 0))]) ⟨rfl, rfl, rfl, rfl, rfl, rfl, rfl, rfl, rfl, rfl, rfl, rfl, rfl, trivial⟩ ?_
                  refine for_up (P := fun i => ∀ (Λ : ML) (x : Int32), Ex X mX10_tells 51 (fun v w' => ∃ Λ' : ML, v = some (.int x0) ∧ w' = cst S ++ (mw (tx, ts, tc, tp, tn) (ru, ou, we, me, ki, ro, ma) Λ' C K (it, so, ss, is) ++ tl)) 0 0 273 [some (.ref 42), some (.int (nI q)), some (.int (nI p)), some (.int 6), some (.int 9), some (.int (nI p)), some (.int me), some (.int (255)), some (.int 0), some (.int (tlS (okD τ (mO (ru, ou, we, me, ki, ro, ma)) r p (fun j => is (40 * q + j))) 255 i)), some (.int (nI (tlN (okD τ (mO (ru, ou, we, me, ki, ro, ma)) r p (fun j => is (40 * q + j))) 255 i))), some (.int (tlL 0 (okD τ (mO (ru, ou, we, me, ki, ro, ma)) r p (fun j => is (40 * q + j))) 255 i)), some (.int (vv 0 255 i))] [] (cst S ++ (mw (tx, ts, tc, tp, tn) (ru, ou, we, x, ki, ro, ma) Λ C K (it, so, ss, is) ++ tl))) (256) ?_ (fun i hi ih => ?_) (0) (Nat.zero_le _) _ _
                  · intro Λ x
                    refine x_iload dX10_tells_273 rfl ?_
                    refine x_iload dX10_tells_275 rfl ?_
                    refine x_icmp_lt 339 dX10_tells_277 (fun _ => ?_) (fun hx => absurd (vv_lt (by decide)) hx)
                    refine x_aload_n dX10_tells_339 rfl ?_
                    refine x_iload dX10_tells_340 rfl ?_
                    refine x_iload dX10_tells_342 rfl ?_
                    refine x_iload dX10_tells_344 rfl ?_
                    refine ii_X10_109 dX10_tells_346 c_X10_lays_9 mw_o (by decide) (Nat.le_of_ble_eq_true rfl) ?_
                    refine x_iload_n dX10_tells_349 rfl ?_
                    refine x_iconst 3 dX10_tells_350 ?_
                    refine x_icmp_eq 359 dX10_tells_351 (fun hx => absurd hx (by decide)) (fun _ => ?_)
                    refine x_iload_n dX10_tells_354 rfl ?_
                    refine x_iconst 5 dX10_tells_355 ?_
                    refine x_icmp_ne 364 dX10_tells_356 (fun _ => ?_) (fun hx => absurd hx (by decide))
                    refine x_iload_n dX10_tells_364 rfl ?_
                    refine x_iconst 4 dX10_tells_365 ?_
                    refine x_icmp_eq 375 dX10_tells_366 (fun hx => absurd hx (by decide)) (fun _ => ?_)
                    refine x_iload_n dX10_tells_369 rfl ?_
                    refine x_bipush 6 dX10_tells_370 ?_
                    refine x_icmp_ne 380 dX10_tells_372 (fun hx => absurd (rfl) hx) (fun _ => ?_)
                    refine x_iload dX10_tells_375 rfl ?_
                    refine x_goto 382 dX10_tells_377 ?_
                    exact Ex.ret (v := some (.int _)) ⟨dX10_tells_382, _, rfl, by first | rfl | decide⟩ ⟨_, congrArg (fun z => some (Value.int z)) (by rw [hA, teM, if_neg (by decide), if_neg (by decide), if_neg (by decide), if_neg (by decide), if_neg (by decide), if_neg (by decide), if_neg (by decide), if_pos rfl]), rfl⟩
                  · intro Λ x
                    have hiN : i ≤ 255 := by omega
                    refine x_iload dX10_tells_273 rfl ?_
                    refine x_iload dX10_tells_275 rfl ?_
                    refine x_icmp_lt 339 dX10_tells_277 (fun hx => absurd hx (vv_nlt (by decide) hiN (by omega))) (fun _ => ?_)
                    refine x_aload_n dX10_tells_280 rfl ?_
                    refine x_iload dX10_tells_281 rfl ?_
                    refine x_iload dX10_tells_283 rfl ?_
                    refine x_iload dX10_tells_285 rfl ?_
                    rw [vv_le hiN, Int32.zero_add]
                    refine ii_X10_109 dX10_tells_287 c_X10_lays_9 mw_o (by decide) (Nat.le_of_ble_eq_true rfl) ?_
                    refine x_aload_n dX10_tells_290 rfl ?_
                    refine x_iload_n dX10_tells_291 rfl ?_
                    refine x_iload_n dX10_tells_292 rfl ?_
                    refine iv_X10_402 dX10_tells_293 (c_X10_firstOther hX hru hp hq) mw_o (by decide) (Nat.le_of_ble_eq_true rfl) (fun v_293 w_293 hw_293 => ?_)
                    obtain ⟨Λ6, rfl, rfl⟩ := hw_293
                    rw [show foF (thF τ (mO (ru, ou, we, (nI (255 - i)), ki, ro, ma)) r p) (fun j => is (40 * q + j)) 8 0 = (okD τ (mO (ru, ou, we, me, ki, ro, ma)) r p (fun j => is (40 * q + j))) (255 - i) from rfl]
                    refine x_iconst (-1) dX10_tells_296 ?_
                    refine x_icmp_ne 333 dX10_tells_297 (fun h_297 => ?_) (fun h_297 => ?_)
                    · refine x_iinc (-1) dX10_tells_333 rfl (by decide) ?_
                      refine x_goto 273 dX10_tells_336 ?_
                      refine Ex.forget (L' := [some (.ref 42), some (.int (nI q)), some (.int (nI p)), some (.int 6), some (.int 9), some (.int (nI p)), some (.int me), some (.int (255)), some (.int 0), some (.int (tlS (okD τ (mO (ru, ou, we, me, ki, ro, ma)) r p (fun j => is (40 * q + j))) 255 (i + 1))), some (.int (nI (tlN (okD τ (mO (ru, ou, we, me, ki, ro, ma)) r p (fun j => is (40 * q + j))) 255 (i + 1)))), some (.int (tlL 0 (okD τ (mO (ru, ou, we, me, ki, ro, ma)) r p (fun j => is (40 * q + j))) 255 (i + 1))), some (.int (vv 0 255 (i + 1)))]) ⟨rfl, rfl, rfl, rfl, rfl, rfl, rfl, rfl, rfl, by rw [tlS, if_neg h_297] <;> rfl, by rw [tlN, if_neg h_297] <;> rfl, by rw [tlL, if_neg h_297] <;> rfl, by rw [← vv_s hiN, vv_le hiN, Int32.zero_add] <;> rfl, trivial⟩ ?_
                      exact ih _ _
                    · refine x_iload dX10_tells_300 rfl ?_
                      refine x_iload dX10_tells_302 rfl ?_
                      refine x_iload dX10_tells_304 rfl ?_
                      refine x_isub dX10_tells_306 ?_
                      rw [Int32.sub_zero]
                      refine x_bipush 20 dX10_tells_307 ?_
                      refine x_icmp_ge 322 dX10_tells_309 (fun h_309 => ?_) (fun h_309 => ?_)
                      · refine x_iconst 0 dX10_tells_322 ?_
                        refine x_ior dX10_tells_323 ?_
                        refine x_istore dX10_tells_324 (by decide) ?_
                        refine x_iincN dX10_tells_326 rfl (by decide) ?_
                        refine x_iload dX10_tells_329 rfl ?_
                        refine x_istore dX10_tells_331 (by decide) ?_
                        refine x_iinc (-1) dX10_tells_333 rfl (by decide) ?_
                        refine x_goto 273 dX10_tells_336 ?_
                        refine Ex.forget (L' := [some (.ref 42), some (.int (nI q)), some (.int (nI p)), some (.int 6), some (.int 9), some (.int (nI p)), some (.int me), some (.int (255)), some (.int 0), some (.int (tlS (okD τ (mO (ru, ou, we, me, ki, ro, ma)) r p (fun j => is (40 * q + j))) 255 (i + 1))), some (.int (nI (tlN (okD τ (mO (ru, ou, we, me, ki, ro, ma)) r p (fun j => is (40 * q + j))) 255 (i + 1)))), some (.int (tlL 0 (okD τ (mO (ru, ou, we, me, ki, ro, ma)) r p (fun j => is (40 * q + j))) 255 (i + 1))), some (.int (vv 0 255 (i + 1)))]) ⟨rfl, rfl, rfl, rfl, rfl, rfl, rfl, rfl, rfl, by rw [tlS, if_pos h_297, if_neg (show ¬ (255 - i) < 20 from fun y => nI_ge y (by decide) h_309)] <;> rfl, by rw [tlN, if_pos h_297] <;> rfl, by rw [tlL, if_pos h_297, Int32.zero_add] <;> rfl, by rw [← vv_s hiN, vv_le hiN, Int32.zero_add] <;> rfl, trivial⟩ ?_
                        exact ih _ _
                      · refine x_iconst 1 dX10_tells_312 ?_
                        refine x_iload dX10_tells_313 rfl ?_
                        refine x_iload dX10_tells_315 rfl ?_
                        refine x_isub dX10_tells_317 ?_
                        rw [Int32.sub_zero]
                        refine x_ishl dX10_tells_318 ?_
                        refine x_goto 323 dX10_tells_319 ?_
                        refine x_ior dX10_tells_323 ?_
                        refine x_istore dX10_tells_324 (by decide) ?_
                        refine x_iincN dX10_tells_326 rfl (by decide) ?_
                        refine x_iload dX10_tells_329 rfl ?_
                        refine x_istore dX10_tells_331 (by decide) ?_
                        refine x_iinc (-1) dX10_tells_333 rfl (by decide) ?_
                        refine x_goto 273 dX10_tells_336 ?_
                        refine Ex.forget (L' := [some (.ref 42), some (.int (nI q)), some (.int (nI p)), some (.int 6), some (.int 9), some (.int (nI p)), some (.int me), some (.int (255)), some (.int 0), some (.int (tlS (okD τ (mO (ru, ou, we, me, ki, ro, ma)) r p (fun j => is (40 * q + j))) 255 (i + 1))), some (.int (nI (tlN (okD τ (mO (ru, ou, we, me, ki, ro, ma)) r p (fun j => is (40 * q + j))) 255 (i + 1)))), some (.int (tlL 0 (okD τ (mO (ru, ou, we, me, ki, ro, ma)) r p (fun j => is (40 * q + j))) 255 (i + 1))), some (.int (vv 0 255 (i + 1)))]) ⟨rfl, rfl, rfl, rfl, rfl, rfl, rfl, rfl, rfl, by rw [tlS, if_pos h_297, if_pos (show (255 - i) < 20 from Nat.not_le.mp (fun y => h_309 (nI_le (a := 20) y (by omega))))] <;> rfl, by rw [tlN, if_pos h_297] <;> rfl, by rw [tlL, if_pos h_297, Int32.zero_add] <;> rfl, by rw [← vv_s hiN, vv_le hiN, Int32.zero_add] <;> rfl, trivial⟩ ?_
                        exact ih _ _
                · skip
                  refine x_iload_n dX10_tells_70 rfl ?_
                  refine x_if_eq 80 dX10_tells_71 (fun hx => absurd hx (by decide)) (fun _ => ?_)
                  refine x_iload_n dX10_tells_74 rfl ?_
                  refine x_bipush 8 dX10_tells_75 ?_
                  refine x_icmp_ne 99 dX10_tells_77 (fun _ => ?_) (fun hx => absurd hx (by decide))
                  refine x_iload_n dX10_tells_99 rfl ?_
                  refine x_iconst 1 dX10_tells_100 ?_
                  refine x_icmp_ne 109 dX10_tells_101 (fun _ => ?_) (fun hx => absurd hx (by decide))
                  refine x_iload_n dX10_tells_109 rfl ?_
                  refine x_iconst 2 dX10_tells_110 ?_
                  refine x_icmp_ne 118 dX10_tells_111 (fun _ => ?_) (fun hx => absurd hx (by decide))
                  refine x_iload_n dX10_tells_118 rfl ?_
                  refine x_iconst 5 dX10_tells_119 ?_
                  refine x_icmp_ge 127 dX10_tells_120 (fun _ => ?_) (fun hx => absurd (by decide) hx)
                  refine x_iload_n dX10_tells_127 rfl ?_
                  refine x_bipush 7 dX10_tells_128 ?_
                  refine x_icmp_ge 138 dX10_tells_130 (fun _ => ?_) (fun hx => absurd (by decide) hx)
                  refine x_iload_n dX10_tells_138 rfl ?_
                  refine x_bipush 7 dX10_tells_139 ?_
                  refine x_icmp_ne 149 dX10_tells_141 (fun hx => absurd (rfl) hx) (fun _ => ?_)
                  refine x_bipush 8 dX10_tells_144 ?_
                  refine x_goto 150 dX10_tells_146 ?_
                  refine x_istore dX10_tells_150 (by decide) ?_
                  refine x_iload dX10_tells_152 rfl ?_
                  refine x_iconst 3 dX10_tells_154 ?_
                  refine x_icmp_ne 165 dX10_tells_155 (fun _ => ?_) (fun hx => absurd hx (by decide))
                  refine x_iload_n dX10_tells_165 rfl ?_
                  refine x_istore dX10_tells_166 (by decide) ?_
                  refine x_iload dX10_tells_168 rfl ?_
                  refine x_bipush 9 dX10_tells_170 ?_
                  refine x_icmp_ne 182 dX10_tells_172 (fun _ => ?_) (fun hx => absurd hx (by decide))
                  refine x_iload dX10_tells_182 rfl ?_
                  refine x_bipush 8 dX10_tells_184 ?_
                  refine x_icmp_ne 196 dX10_tells_186 (fun hx => absurd (rfl) hx) (fun _ => ?_)
                  refine x_aload_n dX10_tells_189 rfl ?_
                  refine mg_116 dX10_tells_190 ?_
                  refine x_goto 204 dX10_tells_193 ?_
                  refine x_istore dX10_tells_204 (by decide) ?_
                  refine x_iload dX10_tells_206 rfl ?_
                  refine x_bipush 9 dX10_tells_208 ?_
                  refine x_icmp_ne 219 dX10_tells_210 (fun _ => ?_) (fun hx => absurd hx (by decide))
                  refine x_iload dX10_tells_219 rfl ?_
                  refine x_bipush 8 dX10_tells_221 ?_
                  refine x_icmp_ne 235 dX10_tells_223 (fun hx => absurd (rfl) hx) (fun _ => ?_)
                  refine x_aload_n dX10_tells_226 rfl ?_
                  refine mg_70 dX10_tells_227 ?_
                  refine x_iconst 1 dX10_tells_230 ?_
                  refine x_isub dX10_tells_231 ?_
                  rw [show tc - 1 = nI (m - 1) from by rw [hm, isub1 hm1]]
                  refine x_goto 251 dX10_tells_232 ?_
                  refine x_istore dX10_tells_251 (by decide) ?_
                  refine x_iload dX10_tells_253 rfl ?_
                  refine ii_X10_97 dX10_tells_255 c_X10_leastOf (by decide) (Nat.le_of_ble_eq_true rfl) ?_
                  rw [show leF 8 = 0 from rfl]
                  refine x_istore dX10_tells_258 (by decide) ?_
                  refine x_iconst 0 dX10_tells_260 ?_
                  refine x_istore dX10_tells_261 (by decide) ?_
                  refine x_iconst 0 dX10_tells_263 ?_
                  refine x_istore dX10_tells_264 (by decide) ?_
                  refine x_iconst (-1) dX10_tells_266 ?_
                  refine x_istore dX10_tells_267 (by decide) ?_
                  refine x_iload dX10_tells_269 rfl ?_
                  refine x_istore dX10_tells_271 (by decide) ?_
                  refine Ex.forget (L' := [some (.ref 42), some (.int (nI q)), some (.int (nI p)), some (.int 7), some (.int 8), some (.int (nI p)), some (.int ru), some (.int (nI (m - 1))), some (.int 0), some (.int (tlS (okT τ (mO (ru, ou, we, me, ki, ro, ma)) p (fun j => is (40 * q + j))) (m - 1) 0)), some (.int (nI (tlN (okT τ (mO (ru, ou, we, me, ki, ro, ma)) p (fun j => is (40 * q + j))) (m - 1) 0))), some (.int (tlL 0 (okT τ (mO (ru, ou, we, me, ki, ro, ma)) p (fun j => is (40 * q + j))) (m - 1) 0)), some (.int (vv 0 (m - 1) 0))]) ⟨rfl, rfl, rfl, rfl, rfl, rfl, rfl, rfl, rfl, rfl, rfl, rfl, congrArg (fun z => some (Value.int z)) ((Int32.zero_add _).symm.trans (vv_le (Nat.zero_le _)).symm), trivial⟩ ?_
                  refine for_up (P := fun i => ∀ (Λ : ML) (x : Int32), Ex X mX10_tells 51 (fun v w' => ∃ Λ' : ML, v = some (.int x0) ∧ w' = cst S ++ (mw (tx, ts, tc, tp, tn) (ru, ou, we, me, ki, ro, ma) Λ' C K (it, so, ss, is) ++ tl)) 0 0 273 [some (.ref 42), some (.int (nI q)), some (.int (nI p)), some (.int 7), some (.int 8), some (.int (nI p)), some (.int ru), some (.int (nI (m - 1))), some (.int 0), some (.int (tlS (okT τ (mO (ru, ou, we, me, ki, ro, ma)) p (fun j => is (40 * q + j))) (m - 1) i)), some (.int (nI (tlN (okT τ (mO (ru, ou, we, me, ki, ro, ma)) p (fun j => is (40 * q + j))) (m - 1) i))), some (.int (tlL 0 (okT τ (mO (ru, ou, we, me, ki, ro, ma)) p (fun j => is (40 * q + j))) (m - 1) i)), some (.int (vv 0 (m - 1) i))] [] (cst S ++ (mw (tx, ts, tc, tp, tn) (x, ou, we, me, ki, ro, ma) Λ C K (it, so, ss, is) ++ tl))) ((m - 1 + 1)) ?_ (fun i hi ih => ?_) (0) (Nat.zero_le _) _ _
                  · intro Λ x
                    refine x_iload dX10_tells_273 rfl ?_
                    refine x_iload dX10_tells_275 rfl ?_
                    refine x_icmp_lt 339 dX10_tells_277 (fun _ => ?_) (fun hx => absurd (vv_lt (by decide)) hx)
                    refine x_aload_n dX10_tells_339 rfl ?_
                    refine x_iload dX10_tells_340 rfl ?_
                    refine x_iload dX10_tells_342 rfl ?_
                    refine x_iload dX10_tells_344 rfl ?_
                    refine ii_X10_109 dX10_tells_346 c_X10_lays_8 mw_o (by decide) (Nat.le_of_ble_eq_true rfl) ?_
                    refine x_iload_n dX10_tells_349 rfl ?_
                    refine x_iconst 3 dX10_tells_350 ?_
                    refine x_icmp_eq 359 dX10_tells_351 (fun hx => absurd hx (by decide)) (fun _ => ?_)
                    refine x_iload_n dX10_tells_354 rfl ?_
                    refine x_iconst 5 dX10_tells_355 ?_
                    refine x_icmp_ne 364 dX10_tells_356 (fun _ => ?_) (fun hx => absurd hx (by decide))
                    refine x_iload_n dX10_tells_364 rfl ?_
                    refine x_iconst 4 dX10_tells_365 ?_
                    refine x_icmp_eq 375 dX10_tells_366 (fun hx => absurd hx (by decide)) (fun _ => ?_)
                    refine x_iload_n dX10_tells_369 rfl ?_
                    refine x_bipush 6 dX10_tells_370 ?_
                    refine x_icmp_ne 380 dX10_tells_372 (fun _ => ?_) (fun hx => absurd hx (by decide))
                    refine x_iload dX10_tells_380 rfl ?_
                    exact Ex.ret (v := some (.int _)) ⟨dX10_tells_382, _, rfl, by first | rfl | decide⟩ ⟨_, congrArg (fun z => some (Value.int z)) (by rw [hA, teM, if_neg (by decide), if_neg (by decide), if_neg (by decide), if_neg (by decide), if_neg (by decide), if_neg (by decide), if_neg (by decide), if_neg (by decide), if_pos rfl]; rw [show m - 1 + 1 = m by omega]), rfl⟩
                  · intro Λ x
                    have hiN : i ≤ (m - 1) := by omega
                    refine x_iload dX10_tells_273 rfl ?_
                    refine x_iload dX10_tells_275 rfl ?_
                    refine x_icmp_lt 339 dX10_tells_277 (fun hx => absurd hx (vv_nlt (by decide) hiN (by omega))) (fun _ => ?_)
                    refine x_aload_n dX10_tells_280 rfl ?_
                    refine x_iload dX10_tells_281 rfl ?_
                    refine x_iload dX10_tells_283 rfl ?_
                    refine x_iload dX10_tells_285 rfl ?_
                    rw [vv_le hiN, Int32.zero_add]
                    refine ii_X10_109 dX10_tells_287 c_X10_lays_8 mw_o (by decide) (Nat.le_of_ble_eq_true rfl) ?_
                    refine x_aload_n dX10_tells_290 rfl ?_
                    refine x_iload_n dX10_tells_291 rfl ?_
                    refine x_iload_n dX10_tells_292 rfl ?_
                    refine iv_X10_402 dX10_tells_293 (c_X10_firstOther (hXa ((m - 1) - i) (by omega)) rfl hp hq) mw_o (by decide) (Nat.le_of_ble_eq_true rfl) (fun v_293 w_293 hw_293 => ?_)
                    obtain ⟨Λ6, rfl, rfl⟩ := hw_293
                    rw [show foF (thF τ (mO ((nI ((m - 1) - i)), ou, we, me, ki, ro, ma)) ((m - 1) - i) p) (fun j => is (40 * q + j)) 8 0 = (okT τ (mO (ru, ou, we, me, ki, ro, ma)) p (fun j => is (40 * q + j))) ((m - 1) - i) from rfl]
                    refine x_iconst (-1) dX10_tells_296 ?_
                    refine x_icmp_ne 333 dX10_tells_297 (fun h_297 => ?_) (fun h_297 => ?_)
                    · refine x_iinc (-1) dX10_tells_333 rfl (by decide) ?_
                      refine x_goto 273 dX10_tells_336 ?_
                      refine Ex.forget (L' := [some (.ref 42), some (.int (nI q)), some (.int (nI p)), some (.int 7), some (.int 8), some (.int (nI p)), some (.int ru), some (.int (nI (m - 1))), some (.int 0), some (.int (tlS (okT τ (mO (ru, ou, we, me, ki, ro, ma)) p (fun j => is (40 * q + j))) (m - 1) (i + 1))), some (.int (nI (tlN (okT τ (mO (ru, ou, we, me, ki, ro, ma)) p (fun j => is (40 * q + j))) (m - 1) (i + 1)))), some (.int (tlL 0 (okT τ (mO (ru, ou, we, me, ki, ro, ma)) p (fun j => is (40 * q + j))) (m - 1) (i + 1))), some (.int (vv 0 (m - 1) (i + 1)))]) ⟨rfl, rfl, rfl, rfl, rfl, rfl, rfl, rfl, rfl, by rw [tlS, if_neg h_297] <;> rfl, by rw [tlN, if_neg h_297] <;> rfl, by rw [tlL, if_neg h_297] <;> rfl, by rw [← vv_s hiN, vv_le hiN, Int32.zero_add] <;> rfl, trivial⟩ ?_
                      exact ih _ _
                    · refine x_iload dX10_tells_300 rfl ?_
                      refine x_iload dX10_tells_302 rfl ?_
                      refine x_iload dX10_tells_304 rfl ?_
                      refine x_isub dX10_tells_306 ?_
                      rw [Int32.sub_zero]
                      refine x_bipush 20 dX10_tells_307 ?_
                      refine x_icmp_ge 322 dX10_tells_309 (fun h_309 => ?_) (fun h_309 => ?_)
                      · refine x_iconst 0 dX10_tells_322 ?_
                        refine x_ior dX10_tells_323 ?_
                        refine x_istore dX10_tells_324 (by decide) ?_
                        refine x_iincN dX10_tells_326 rfl (by decide) ?_
                        refine x_iload dX10_tells_329 rfl ?_
                        refine x_istore dX10_tells_331 (by decide) ?_
                        refine x_iinc (-1) dX10_tells_333 rfl (by decide) ?_
                        refine x_goto 273 dX10_tells_336 ?_
                        refine Ex.forget (L' := [some (.ref 42), some (.int (nI q)), some (.int (nI p)), some (.int 7), some (.int 8), some (.int (nI p)), some (.int ru), some (.int (nI (m - 1))), some (.int 0), some (.int (tlS (okT τ (mO (ru, ou, we, me, ki, ro, ma)) p (fun j => is (40 * q + j))) (m - 1) (i + 1))), some (.int (nI (tlN (okT τ (mO (ru, ou, we, me, ki, ro, ma)) p (fun j => is (40 * q + j))) (m - 1) (i + 1)))), some (.int (tlL 0 (okT τ (mO (ru, ou, we, me, ki, ro, ma)) p (fun j => is (40 * q + j))) (m - 1) (i + 1))), some (.int (vv 0 (m - 1) (i + 1)))]) ⟨rfl, rfl, rfl, rfl, rfl, rfl, rfl, rfl, rfl, by rw [tlS, if_pos h_297, if_neg (show ¬ ((m - 1) - i) < 20 from fun y => nI_ge y (by decide) h_309)] <;> rfl, by rw [tlN, if_pos h_297] <;> rfl, by rw [tlL, if_pos h_297, Int32.zero_add] <;> rfl, by rw [← vv_s hiN, vv_le hiN, Int32.zero_add] <;> rfl, trivial⟩ ?_
                        exact ih _ _
                      · refine x_iconst 1 dX10_tells_312 ?_
                        refine x_iload dX10_tells_313 rfl ?_
                        refine x_iload dX10_tells_315 rfl ?_
                        refine x_isub dX10_tells_317 ?_
                        rw [Int32.sub_zero]
                        refine x_ishl dX10_tells_318 ?_
                        refine x_goto 323 dX10_tells_319 ?_
                        refine x_ior dX10_tells_323 ?_
                        refine x_istore dX10_tells_324 (by decide) ?_
                        refine x_iincN dX10_tells_326 rfl (by decide) ?_
                        refine x_iload dX10_tells_329 rfl ?_
                        refine x_istore dX10_tells_331 (by decide) ?_
                        refine x_iinc (-1) dX10_tells_333 rfl (by decide) ?_
                        refine x_goto 273 dX10_tells_336 ?_
                        refine Ex.forget (L' := [some (.ref 42), some (.int (nI q)), some (.int (nI p)), some (.int 7), some (.int 8), some (.int (nI p)), some (.int ru), some (.int (nI (m - 1))), some (.int 0), some (.int (tlS (okT τ (mO (ru, ou, we, me, ki, ro, ma)) p (fun j => is (40 * q + j))) (m - 1) (i + 1))), some (.int (nI (tlN (okT τ (mO (ru, ou, we, me, ki, ro, ma)) p (fun j => is (40 * q + j))) (m - 1) (i + 1)))), some (.int (tlL 0 (okT τ (mO (ru, ou, we, me, ki, ro, ma)) p (fun j => is (40 * q + j))) (m - 1) (i + 1))), some (.int (vv 0 (m - 1) (i + 1)))]) ⟨rfl, rfl, rfl, rfl, rfl, rfl, rfl, rfl, rfl, by rw [tlS, if_pos h_297, if_pos (show ((m - 1) - i) < 20 from Nat.not_le.mp (fun y => h_309 (nI_le (a := 20) y (by omega))))] <;> rfl, by rw [tlN, if_pos h_297] <;> rfl, by rw [tlL, if_pos h_297, Int32.zero_add] <;> rfl, by rw [← vv_s hiN, vv_le hiN, Int32.zero_add] <;> rfl, trivial⟩ ?_
                        exact ih _ _
                · skip
                  refine x_iload_n dX10_tells_70 rfl ?_
                  refine x_if_eq 80 dX10_tells_71 (fun hx => absurd hx (by decide)) (fun _ => ?_)
                  refine x_iload_n dX10_tells_74 rfl ?_
                  refine x_bipush 8 dX10_tells_75 ?_
                  refine x_icmp_ne 99 dX10_tells_77 (fun hx => absurd (rfl) hx) (fun _ => ?_)
                  refine x_iload_n dX10_tells_80 rfl ?_
                  refine x_if_ne 93 dX10_tells_81 (fun _ => ?_) (fun hx => absurd hx (by decide))
                  refine x_aload_n dX10_tells_93 rfl ?_
                  refine x_iload_n dX10_tells_94 rfl ?_
                  refine iv_X10_412 dX10_tells_95 (c_X10_likeSet hX hru hz hz6 hq) mw_o (by decide) (Nat.le_of_ble_eq_true rfl) (fun v_95 w_95 hw_95 => ?_)
                  obtain ⟨Λ1, rfl, rfl⟩ := hw_95
                  exact Ex.ret (v := some (.int _)) ⟨dX10_tells_98, _, rfl, by first | rfl | decide⟩ ⟨_, congrArg (fun z => some (Value.int z)) (by rw [hA, teM, if_neg (by decide), if_pos rfl]), rfl⟩
              · obtain ⟨g0, g1, g2, g3, g4, g5, g6, g7, g8, gl5, gl7⟩ := ge10 hwh.1
                obtain ⟨h, hh, eh⟩ := sub_hr (c := 10) (a := 10) (by decide) rfl hwh.1 hwh.2
                refine x_iload_n dX10_tells_70 rfl ?_
                refine x_if_eq 80 dX10_tells_71 (fun hx => absurd hx (g0)) (fun _ => ?_)
                refine x_iload_n dX10_tells_74 rfl ?_
                refine x_bipush 8 dX10_tells_75 ?_
                refine x_icmp_ne 99 dX10_tells_77 (fun _ => ?_) (fun hx => absurd hx (g8))
                refine x_iload_n dX10_tells_99 rfl ?_
                refine x_iconst 1 dX10_tells_100 ?_
                refine x_icmp_ne 109 dX10_tells_101 (fun _ => ?_) (fun hx => absurd hx (g1))
                refine x_iload_n dX10_tells_109 rfl ?_
                refine x_iconst 2 dX10_tells_110 ?_
                refine x_icmp_ne 118 dX10_tells_111 (fun _ => ?_) (fun hx => absurd hx (g2))
                refine x_iload_n dX10_tells_118 rfl ?_
                refine x_iconst 5 dX10_tells_119 ?_
                refine x_icmp_ge 127 dX10_tells_120 (fun _ => ?_) (fun hx => absurd (Int32.not_lt.mp gl5) hx)
                refine x_iload_n dX10_tells_127 rfl ?_
                refine x_bipush 7 dX10_tells_128 ?_
                refine x_icmp_ge 138 dX10_tells_130 (fun _ => ?_) (fun hx => absurd (Int32.not_lt.mp gl7) hx)
                refine x_iload_n dX10_tells_138 rfl ?_
                refine x_bipush 7 dX10_tells_139 ?_
                refine x_icmp_ne 149 dX10_tells_141 (fun _ => ?_) (fun hx => absurd hx (g7))
                refine x_iconst 3 dX10_tells_149 ?_
                refine x_istore dX10_tells_150 (by decide) ?_
                refine x_iload dX10_tells_152 rfl ?_
                refine x_iconst 3 dX10_tells_154 ?_
                refine x_icmp_ne 165 dX10_tells_155 (fun hx => absurd (rfl) hx) (fun _ => ?_)
                refine x_iload_n dX10_tells_158 rfl ?_
                refine x_bipush 10 dX10_tells_159 ?_
                refine x_isub dX10_tells_161 ?_
                rw [eh]
                refine x_goto 166 dX10_tells_162 ?_
                refine x_istore dX10_tells_166 (by decide) ?_
                refine x_iload dX10_tells_168 rfl ?_
                refine x_bipush 9 dX10_tells_170 ?_
                refine x_icmp_ne 182 dX10_tells_172 (fun _ => ?_) (fun hx => absurd hx (by decide))
                refine x_iload dX10_tells_182 rfl ?_
                refine x_bipush 8 dX10_tells_184 ?_
                refine x_icmp_ne 196 dX10_tells_186 (fun _ => ?_) (fun hx => absurd hx (by decide))
                refine x_aload_n dX10_tells_196 rfl ?_
                refine x_iload dX10_tells_197 rfl ?_
                refine x_iload dX10_tells_199 rfl ?_
                refine iv_X10_105 dX10_tells_201 (c_X10_told hX hru hz hz6 hnu) mw_o (by decide) (Nat.le_of_ble_eq_true rfl) (fun v_201 w_201 hw_201 => ?_)
                obtain ⟨Λ5, rfl, rfl⟩ := hw_201
                rw [show tdF τ (mO (ru, ou, we, me, ki, ro, ma)) r z (nI h) 3 = (we h) from (td_w hh)]
                refine x_istore dX10_tells_204 (by decide) ?_
                refine x_iload dX10_tells_206 rfl ?_
                refine x_bipush 9 dX10_tells_208 ?_
                refine x_icmp_ne 219 dX10_tells_210 (fun _ => ?_) (fun hx => absurd hx (by decide))
                refine x_iload dX10_tells_219 rfl ?_
                refine x_bipush 8 dX10_tells_221 ?_
                refine x_icmp_ne 235 dX10_tells_223 (fun _ => ?_) (fun hx => absurd hx (by decide))
                refine x_iload dX10_tells_235 rfl ?_
                refine x_bipush 7 dX10_tells_237 ?_
                refine x_icmp_ne 246 dX10_tells_239 (fun _ => ?_) (fun hx => absurd hx (by decide))
                refine x_iload dX10_tells_246 rfl ?_
                refine ii_X10_101 dX10_tells_248 c_X10_mostOf (by decide) (Nat.le_of_ble_eq_true rfl) ?_
                rw [show hiF 3 = 9 from rfl]
                refine x_istore dX10_tells_251 (by decide) ?_
                refine x_iload dX10_tells_253 rfl ?_
                refine ii_X10_97 dX10_tells_255 c_X10_leastOf (by decide) (Nat.le_of_ble_eq_true rfl) ?_
                rw [show leF 3 = (-9) from rfl]
                refine x_istore dX10_tells_258 (by decide) ?_
                refine x_iconst 0 dX10_tells_260 ?_
                refine x_istore dX10_tells_261 (by decide) ?_
                refine x_iconst 0 dX10_tells_263 ?_
                refine x_istore dX10_tells_264 (by decide) ?_
                refine x_iconst (-1) dX10_tells_266 ?_
                refine x_istore dX10_tells_267 (by decide) ?_
                refine x_iload dX10_tells_269 rfl ?_
                refine x_istore dX10_tells_271 (by decide) ?_
                refine Ex.eqW (w' := (cst S ++ (mw (tx, ts, tc, tp, tn) (ru, ou, (upd we h (we h)), me, ki, ro, ma) Λ5 C K (it, so, ss, is) ++ tl))) (by rw [upd_eta]) ?_
                refine Ex.forget (L' := [some (.ref 42), some (.int (nI q)), some (.int (nI p)), some (.int what), some (.int 3), some (.int (nI h)), some (.int (we h)), some (.int (9)), some (.int (-9)), some (.int (tlS (okW τ (mO (ru, ou, we, me, ki, ro, ma)) r p h (fun j => is (40 * q + j))) 18 0)), some (.int (nI (tlN (okW τ (mO (ru, ou, we, me, ki, ro, ma)) r p h (fun j => is (40 * q + j))) 18 0))), some (.int (tlL (-9) (okW τ (mO (ru, ou, we, me, ki, ro, ma)) r p h (fun j => is (40 * q + j))) 18 0)), some (.int (vv (-9) 18 0))]) ⟨rfl, rfl, rfl, rfl, rfl, rfl, rfl, rfl, rfl, rfl, rfl, rfl, rfl, trivial⟩ ?_
                refine for_up (P := fun i => ∀ (Λ : ML) (x : Int32), Ex X mX10_tells 51 (fun v w' => ∃ Λ' : ML, v = some (.int x0) ∧ w' = cst S ++ (mw (tx, ts, tc, tp, tn) (ru, ou, we, me, ki, ro, ma) Λ' C K (it, so, ss, is) ++ tl)) 0 0 273 [some (.ref 42), some (.int (nI q)), some (.int (nI p)), some (.int what), some (.int 3), some (.int (nI h)), some (.int (we h)), some (.int (9)), some (.int (-9)), some (.int (tlS (okW τ (mO (ru, ou, we, me, ki, ro, ma)) r p h (fun j => is (40 * q + j))) 18 i)), some (.int (nI (tlN (okW τ (mO (ru, ou, we, me, ki, ro, ma)) r p h (fun j => is (40 * q + j))) 18 i))), some (.int (tlL (-9) (okW τ (mO (ru, ou, we, me, ki, ro, ma)) r p h (fun j => is (40 * q + j))) 18 i)), some (.int (vv (-9) 18 i))] [] (cst S ++ (mw (tx, ts, tc, tp, tn) (ru, ou, (upd we h x), me, ki, ro, ma) Λ C K (it, so, ss, is) ++ tl))) (19) ?_ (fun i hi ih => ?_) (0) (Nat.zero_le _) _ _
                · intro Λ x
                  refine x_iload dX10_tells_273 rfl ?_
                  refine x_iload dX10_tells_275 rfl ?_
                  refine x_icmp_lt 339 dX10_tells_277 (fun _ => ?_) (fun hx => absurd (vv_lt (by decide)) hx)
                  refine x_aload_n dX10_tells_339 rfl ?_
                  refine x_iload dX10_tells_340 rfl ?_
                  refine x_iload dX10_tells_342 rfl ?_
                  refine x_iload dX10_tells_344 rfl ?_
                  refine ii_X10_109 dX10_tells_346 (c_X10_lays_3 hh) mw_o (by decide) (Nat.le_of_ble_eq_true rfl) ?_
                  refine x_iload_n dX10_tells_349 rfl ?_
                  refine x_iconst 3 dX10_tells_350 ?_
                  refine x_icmp_eq 359 dX10_tells_351 (fun hx => absurd hx (g3)) (fun _ => ?_)
                  refine x_iload_n dX10_tells_354 rfl ?_
                  refine x_iconst 5 dX10_tells_355 ?_
                  refine x_icmp_ne 364 dX10_tells_356 (fun _ => ?_) (fun hx => absurd hx (g5))
                  refine x_iload_n dX10_tells_364 rfl ?_
                  refine x_iconst 4 dX10_tells_365 ?_
                  refine x_icmp_eq 375 dX10_tells_366 (fun hx => absurd hx (g4)) (fun _ => ?_)
                  refine x_iload_n dX10_tells_369 rfl ?_
                  refine x_bipush 6 dX10_tells_370 ?_
                  refine x_icmp_ne 380 dX10_tells_372 (fun _ => ?_) (fun hx => absurd hx (g6))
                  refine x_iload dX10_tells_380 rfl ?_
                  exact Ex.ret (v := some (.int _)) ⟨dX10_tells_382, _, rfl, by first | rfl | decide⟩ ⟨_, congrArg (fun z => some (Value.int z)) (by rw [hA, teM, if_neg g0, if_neg g8, if_neg g1, if_neg g2, if_neg g3, if_neg g4, if_neg g5, if_neg g6, if_neg g7, eh, nI_clamp (show h < 2 ^ 31 by omega)]), by rw [upd_upd, upd_eta]⟩
                · intro Λ x
                  have hiN : i ≤ 18 := by omega
                  refine x_iload dX10_tells_273 rfl ?_
                  refine x_iload dX10_tells_275 rfl ?_
                  refine x_icmp_lt 339 dX10_tells_277 (fun hx => absurd hx (vv_nlt (by decide) hiN (by omega))) (fun _ => ?_)
                  refine x_aload_n dX10_tells_280 rfl ?_
                  refine x_iload dX10_tells_281 rfl ?_
                  refine x_iload dX10_tells_283 rfl ?_
                  refine x_iload dX10_tells_285 rfl ?_
                  rw [vv_le hiN]
                  refine ii_X10_109 dX10_tells_287 (c_X10_lays_3 hh) mw_o (by decide) (Nat.le_of_ble_eq_true rfl) ?_
                  refine Ex.eqW (w' := (cst S ++ (mw (tx, ts, tc, tp, tn) (ru, ou, (upd we h (-9 + nI (18 - i))), me, ki, ro, ma) Λ C K (it, so, ss, is) ++ tl))) (by rw [upd_upd]) ?_
                  refine x_aload_n dX10_tells_290 rfl ?_
                  refine x_iload_n dX10_tells_291 rfl ?_
                  refine x_iload_n dX10_tells_292 rfl ?_
                  refine iv_X10_402 dX10_tells_293 (c_X10_firstOther hX hru hp hq) mw_o (by decide) (Nat.le_of_ble_eq_true rfl) (fun v_293 w_293 hw_293 => ?_)
                  obtain ⟨Λ6, rfl, rfl⟩ := hw_293
                  rw [show foF (thF τ (mO (ru, ou, (upd we h (-9 + nI (18 - i))), me, ki, ro, ma)) r p) (fun j => is (40 * q + j)) 8 0 = (okW τ (mO (ru, ou, we, me, ki, ro, ma)) r p h (fun j => is (40 * q + j))) (18 - i) from rfl]
                  refine x_iconst (-1) dX10_tells_296 ?_
                  refine x_icmp_ne 333 dX10_tells_297 (fun h_297 => ?_) (fun h_297 => ?_)
                  · refine x_iinc (-1) dX10_tells_333 rfl (by decide) ?_
                    refine x_goto 273 dX10_tells_336 ?_
                    refine Ex.forget (L' := [some (.ref 42), some (.int (nI q)), some (.int (nI p)), some (.int what), some (.int 3), some (.int (nI h)), some (.int (we h)), some (.int (9)), some (.int (-9)), some (.int (tlS (okW τ (mO (ru, ou, we, me, ki, ro, ma)) r p h (fun j => is (40 * q + j))) 18 (i + 1))), some (.int (nI (tlN (okW τ (mO (ru, ou, we, me, ki, ro, ma)) r p h (fun j => is (40 * q + j))) 18 (i + 1)))), some (.int (tlL (-9) (okW τ (mO (ru, ou, we, me, ki, ro, ma)) r p h (fun j => is (40 * q + j))) 18 (i + 1))), some (.int (vv (-9) 18 (i + 1)))]) ⟨rfl, rfl, rfl, rfl, rfl, rfl, rfl, rfl, rfl, by rw [tlS, if_neg h_297] <;> rfl, by rw [tlN, if_neg h_297] <;> rfl, by rw [tlL, if_neg h_297] <;> rfl, by rw [← vv_s hiN, vv_le hiN] <;> rfl, trivial⟩ ?_
                    exact ih _ _
                  · refine x_iload dX10_tells_300 rfl ?_
                    refine x_iload dX10_tells_302 rfl ?_
                    refine x_iload dX10_tells_304 rfl ?_
                    refine x_isub dX10_tells_306 ?_
                    rw [lo_sub]
                    refine x_bipush 20 dX10_tells_307 ?_
                    refine x_icmp_ge 322 dX10_tells_309 (fun h_309 => ?_) (fun h_309 => ?_)
                    · refine x_iconst 0 dX10_tells_322 ?_
                      refine x_ior dX10_tells_323 ?_
                      refine x_istore dX10_tells_324 (by decide) ?_
                      refine x_iincN dX10_tells_326 rfl (by decide) ?_
                      refine x_iload dX10_tells_329 rfl ?_
                      refine x_istore dX10_tells_331 (by decide) ?_
                      refine x_iinc (-1) dX10_tells_333 rfl (by decide) ?_
                      refine x_goto 273 dX10_tells_336 ?_
                      refine Ex.forget (L' := [some (.ref 42), some (.int (nI q)), some (.int (nI p)), some (.int what), some (.int 3), some (.int (nI h)), some (.int (we h)), some (.int (9)), some (.int (-9)), some (.int (tlS (okW τ (mO (ru, ou, we, me, ki, ro, ma)) r p h (fun j => is (40 * q + j))) 18 (i + 1))), some (.int (nI (tlN (okW τ (mO (ru, ou, we, me, ki, ro, ma)) r p h (fun j => is (40 * q + j))) 18 (i + 1)))), some (.int (tlL (-9) (okW τ (mO (ru, ou, we, me, ki, ro, ma)) r p h (fun j => is (40 * q + j))) 18 (i + 1))), some (.int (vv (-9) 18 (i + 1)))]) ⟨rfl, rfl, rfl, rfl, rfl, rfl, rfl, rfl, rfl, by rw [tlS, if_pos h_297, if_neg (show ¬ (18 - i) < 20 from fun y => nI_ge y (by decide) h_309)] <;> rfl, by rw [tlN, if_pos h_297] <;> rfl, by rw [tlL, if_pos h_297] <;> rfl, by rw [← vv_s hiN, vv_le hiN] <;> rfl, trivial⟩ ?_
                      exact ih _ _
                    · refine x_iconst 1 dX10_tells_312 ?_
                      refine x_iload dX10_tells_313 rfl ?_
                      refine x_iload dX10_tells_315 rfl ?_
                      refine x_isub dX10_tells_317 ?_
                      rw [lo_sub]
                      refine x_ishl dX10_tells_318 ?_
                      refine x_goto 323 dX10_tells_319 ?_
                      refine x_ior dX10_tells_323 ?_
                      refine x_istore dX10_tells_324 (by decide) ?_
                      refine x_iincN dX10_tells_326 rfl (by decide) ?_
                      refine x_iload dX10_tells_329 rfl ?_
                      refine x_istore dX10_tells_331 (by decide) ?_
                      refine x_iinc (-1) dX10_tells_333 rfl (by decide) ?_
                      refine x_goto 273 dX10_tells_336 ?_
                      refine Ex.forget (L' := [some (.ref 42), some (.int (nI q)), some (.int (nI p)), some (.int what), some (.int 3), some (.int (nI h)), some (.int (we h)), some (.int (9)), some (.int (-9)), some (.int (tlS (okW τ (mO (ru, ou, we, me, ki, ro, ma)) r p h (fun j => is (40 * q + j))) 18 (i + 1))), some (.int (nI (tlN (okW τ (mO (ru, ou, we, me, ki, ro, ma)) r p h (fun j => is (40 * q + j))) 18 (i + 1)))), some (.int (tlL (-9) (okW τ (mO (ru, ou, we, me, ki, ro, ma)) r p h (fun j => is (40 * q + j))) 18 (i + 1))), some (.int (vv (-9) 18 (i + 1)))]) ⟨rfl, rfl, rfl, rfl, rfl, rfl, rfl, rfl, rfl, by rw [tlS, if_pos h_297, if_pos (show (18 - i) < 20 from Nat.not_le.mp (fun y => h_309 (nI_le (a := 20) y (by omega))))] <;> rfl, by rw [tlN, if_pos h_297] <;> rfl, by rw [tlL, if_pos h_297] <;> rfl, by rw [← vv_s hiN, vv_le hiN] <;> rfl, trivial⟩ ?_
                      exact ih _ _
            · refine x_bipush (-2) dX10_tells_67 ?_
              exact Ex.ret (v := some (.int _)) ⟨dX10_tells_69, _, rfl, by first | rfl | decide⟩ ⟨_, congrArg (fun z => some (Value.int z)) (by rw [hx0, teA, if_neg hgd, hclq, if_neg h_50, if_pos h_64]), rfl⟩
          · refine x_bipush (-11) dX10_tells_53 ?_
            exact Ex.ret (v := some (.int _)) ⟨dX10_tells_55, _, rfl, by first | rfl | decide⟩ ⟨_, congrArg (fun z => some (Value.int z)) (by rw [hx0, teA, if_neg hgd, hclq, if_pos h_50]), rfl⟩
        · refine x_bipush (-2) dX10_tells_41 ?_
          exact Ex.ret (v := some (.int _)) ⟨dX10_tells_43, _, rfl, by first | rfl | decide⟩ ⟨_, congrArg (fun z => some (Value.int z)) (by rw [hx0, teA, if_pos (Or.inr (Or.inr ⟨bi0.mp h_24, bi0.mp h_38⟩))]), rfl⟩
