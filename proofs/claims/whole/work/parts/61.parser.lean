/-! the class's parser: its object is role 16, its code role 18 -/
def pX (w : pc_W) (t : Value) (sz to pl nx nu op cz fa : Int32) (co : Nat → Int32) : pc_W := (w.set 16 (.inr (3, [t, .int sz, .int to, .int pl, .int nx, .int nu, .int op, .ref 18, .int cz, .int fa]))).set 18 (.inl (0, (160, .inl co)))
abbrev pS (w : pc_W) (rt n : Nat) (s : PS) : pc_W := pX w (.ref rt) (nI n) (g_to s) (nI (g_pl s)) (nI (g_nx s)) (g_nu s) (nI (g_op s)) (nI (g_cz s)) (g_fa s) (g_co s)
section PARSER
variable {X : Nat × (Nat → Int32)} {d : Nat} {Ret : Option Value → pc_W → Prop} {cb sb : Nat} {pc : Nat} {L : List (Option Value)} {st : List Value} {mn : String} {cc : ByteArray} {nL : Nat} {rk : Option FieldType} {w : pc_W} {t : Value} {sz to pl nx nu op cz fa : Int32} {co : Nat → Int32}
theorem pX_p (hw : 18 < w.length) : (pX w t sz to pl nx nu op cz fa co)[16]? = some (.inr (3, [t, .int sz, .int to, .int pl, .int nx, .int nu, .int op, .ref 18, .int cz, .int fa])) := by
  unfold pX
  rw [List.getElem?_set_ne (by decide), List.getElem?_set_self (by omega)]
theorem pX_c (hw : 18 < w.length) : (pX w t sz to pl nx nu op cz fa co)[18]? = some (.inl (0, (160, .inl co))) := by
  unfold pX
  rw [List.getElem?_set_self (by rw [List.length_set]; omega)]
theorem pX_o {k : Nat} (h1 : k ≠ 16) (h2 : k ≠ 18) : (pX w t sz to pl nx nu op cz fa co)[k]? = w[k]? := by
  unfold pX
  rw [List.getElem?_set_ne (fun q => h2 q.symm), List.getElem?_set_ne (fun q => h1 q.symm)]
theorem pX_len : (pX w t sz to pl nx nu op cz fa co).length = w.length := by
  unfold pX
  rw [List.length_set, List.length_set]
theorem pX_sp {t' : Value} {sz' to' pl' nx' nu' op' cz' fa' : Int32} : (pX w t sz to pl nx nu op cz fa co).set 16 (.inr (3, [t', .int sz', .int to', .int pl', .int nx', .int nu', .int op', .ref 18, .int cz', .int fa'])) = (pX w t' sz' to' pl' nx' nu' op' cz' fa' co) := by
  unfold pX
  rw [List.set_comm _ _ (by decide), List.set_set]
theorem pX_sc {co' : Nat → Int32} : (pX w t sz to pl nx nu op cz fa co).set 18 (.inl (0, (160, .inl co'))) = (pX w t sz to pl nx nu op cz fa co') := by
  unfold pX
  rw [List.set_set]
theorem gP_9 (hw : 18 < w.length) (hd : decode cc pc = .ok (.getfield 9, 3)) (kk : Ex X (RX4, mn, cc, nL, rk) d Ret cb sb (pc + 3) L (t :: st) (pX w t sz to pl nx nu op cz fa co)) : Ex X (RX4, mn, cc, nL, rk) d Ret cb sb pc L (.ref 16 :: st) (pX w t sz to pl nx nu op cz fa co) := gf_X4_9 hd (pX_p hw) rfl kk
theorem gP_15 (hw : 18 < w.length) (hd : decode cc pc = .ok (.getfield 15, 3)) (kk : Ex X (RX4, mn, cc, nL, rk) d Ret cb sb (pc + 3) L (.int sz :: st) (pX w t sz to pl nx nu op cz fa co)) : Ex X (RX4, mn, cc, nL, rk) d Ret cb sb pc L (.ref 16 :: st) (pX w t sz to pl nx nu op cz fa co) := gf_X4_15 hd (pX_p hw) rfl kk
theorem pP_15 {v : Int32} (hw : 18 < w.length) (hd : decode cc pc = .ok (.putfield 15, 3)) (kk : Ex X (RX4, mn, cc, nL, rk) d Ret cb sb (pc + 3) L st (pX w t v to pl nx nu op cz fa co)) : Ex X (RX4, mn, cc, nL, rk) d Ret cb sb pc L (.int v :: .ref 16 :: st) (pX w t sz to pl nx nu op cz fa co) := pf_X4_15 hd (pX_p hw) (Nat.le_of_ble_eq_true rfl) (fun _ _ => ⟨rfl, rfl⟩) (by show Ex _ _ _ _ _ _ _ _ _ ((pX w t sz to pl nx nu op cz fa co).set 16 (.inr (3, [t, .int v, .int to, .int pl, .int nx, .int nu, .int op, .ref 18, .int cz, .int fa]))); rw [pX_sp]; exact kk)
theorem gP_21 (hw : 18 < w.length) (hd : decode cc pc = .ok (.getfield 21, 3)) (kk : Ex X (RX4, mn, cc, nL, rk) d Ret cb sb (pc + 3) L (.int to :: st) (pX w t sz to pl nx nu op cz fa co)) : Ex X (RX4, mn, cc, nL, rk) d Ret cb sb pc L (.ref 16 :: st) (pX w t sz to pl nx nu op cz fa co) := gf_X4_21 hd (pX_p hw) rfl kk
theorem pP_21 {v : Int32} (hw : 18 < w.length) (hd : decode cc pc = .ok (.putfield 21, 3)) (kk : Ex X (RX4, mn, cc, nL, rk) d Ret cb sb (pc + 3) L st (pX w t sz v pl nx nu op cz fa co)) : Ex X (RX4, mn, cc, nL, rk) d Ret cb sb pc L (.int v :: .ref 16 :: st) (pX w t sz to pl nx nu op cz fa co) := pf_X4_21 hd (pX_p hw) (Nat.le_of_ble_eq_true rfl) (fun _ _ => ⟨rfl, rfl⟩) (by show Ex _ _ _ _ _ _ _ _ _ ((pX w t sz to pl nx nu op cz fa co).set 16 (.inr (3, [t, .int sz, .int v, .int pl, .int nx, .int nu, .int op, .ref 18, .int cz, .int fa]))); rw [pX_sp]; exact kk)
theorem gP_24 (hw : 18 < w.length) (hd : decode cc pc = .ok (.getfield 24, 3)) (kk : Ex X (RX4, mn, cc, nL, rk) d Ret cb sb (pc + 3) L (.int pl :: st) (pX w t sz to pl nx nu op cz fa co)) : Ex X (RX4, mn, cc, nL, rk) d Ret cb sb pc L (.ref 16 :: st) (pX w t sz to pl nx nu op cz fa co) := gf_X4_24 hd (pX_p hw) rfl kk
theorem pP_24 {v : Int32} (hw : 18 < w.length) (hd : decode cc pc = .ok (.putfield 24, 3)) (kk : Ex X (RX4, mn, cc, nL, rk) d Ret cb sb (pc + 3) L st (pX w t sz to v nx nu op cz fa co)) : Ex X (RX4, mn, cc, nL, rk) d Ret cb sb pc L (.int v :: .ref 16 :: st) (pX w t sz to pl nx nu op cz fa co) := pf_X4_24 hd (pX_p hw) (Nat.le_of_ble_eq_true rfl) (fun _ _ => ⟨rfl, rfl⟩) (by show Ex _ _ _ _ _ _ _ _ _ ((pX w t sz to pl nx nu op cz fa co).set 16 (.inr (3, [t, .int sz, .int to, .int v, .int nx, .int nu, .int op, .ref 18, .int cz, .int fa]))); rw [pX_sp]; exact kk)
theorem gP_27 (hw : 18 < w.length) (hd : decode cc pc = .ok (.getfield 27, 3)) (kk : Ex X (RX4, mn, cc, nL, rk) d Ret cb sb (pc + 3) L (.int nx :: st) (pX w t sz to pl nx nu op cz fa co)) : Ex X (RX4, mn, cc, nL, rk) d Ret cb sb pc L (.ref 16 :: st) (pX w t sz to pl nx nu op cz fa co) := gf_X4_27 hd (pX_p hw) rfl kk
theorem pP_27 {v : Int32} (hw : 18 < w.length) (hd : decode cc pc = .ok (.putfield 27, 3)) (kk : Ex X (RX4, mn, cc, nL, rk) d Ret cb sb (pc + 3) L st (pX w t sz to pl v nu op cz fa co)) : Ex X (RX4, mn, cc, nL, rk) d Ret cb sb pc L (.int v :: .ref 16 :: st) (pX w t sz to pl nx nu op cz fa co) := pf_X4_27 hd (pX_p hw) (Nat.le_of_ble_eq_true rfl) (fun _ _ => ⟨rfl, rfl⟩) (by show Ex _ _ _ _ _ _ _ _ _ ((pX w t sz to pl nx nu op cz fa co).set 16 (.inr (3, [t, .int sz, .int to, .int pl, .int v, .int nu, .int op, .ref 18, .int cz, .int fa]))); rw [pX_sp]; exact kk)
theorem gP_30 (hw : 18 < w.length) (hd : decode cc pc = .ok (.getfield 30, 3)) (kk : Ex X (RX4, mn, cc, nL, rk) d Ret cb sb (pc + 3) L (.int nu :: st) (pX w t sz to pl nx nu op cz fa co)) : Ex X (RX4, mn, cc, nL, rk) d Ret cb sb pc L (.ref 16 :: st) (pX w t sz to pl nx nu op cz fa co) := gf_X4_30 hd (pX_p hw) rfl kk
theorem pP_30 {v : Int32} (hw : 18 < w.length) (hd : decode cc pc = .ok (.putfield 30, 3)) (kk : Ex X (RX4, mn, cc, nL, rk) d Ret cb sb (pc + 3) L st (pX w t sz to pl nx v op cz fa co)) : Ex X (RX4, mn, cc, nL, rk) d Ret cb sb pc L (.int v :: .ref 16 :: st) (pX w t sz to pl nx nu op cz fa co) := pf_X4_30 hd (pX_p hw) (Nat.le_of_ble_eq_true rfl) (fun _ _ => ⟨rfl, rfl⟩) (by show Ex _ _ _ _ _ _ _ _ _ ((pX w t sz to pl nx nu op cz fa co).set 16 (.inr (3, [t, .int sz, .int to, .int pl, .int nx, .int v, .int op, .ref 18, .int cz, .int fa]))); rw [pX_sp]; exact kk)
theorem gP_33 (hw : 18 < w.length) (hd : decode cc pc = .ok (.getfield 33, 3)) (kk : Ex X (RX4, mn, cc, nL, rk) d Ret cb sb (pc + 3) L (.int op :: st) (pX w t sz to pl nx nu op cz fa co)) : Ex X (RX4, mn, cc, nL, rk) d Ret cb sb pc L (.ref 16 :: st) (pX w t sz to pl nx nu op cz fa co) := gf_X4_33 hd (pX_p hw) rfl kk
theorem pP_33 {v : Int32} (hw : 18 < w.length) (hd : decode cc pc = .ok (.putfield 33, 3)) (kk : Ex X (RX4, mn, cc, nL, rk) d Ret cb sb (pc + 3) L st (pX w t sz to pl nx nu v cz fa co)) : Ex X (RX4, mn, cc, nL, rk) d Ret cb sb pc L (.int v :: .ref 16 :: st) (pX w t sz to pl nx nu op cz fa co) := pf_X4_33 hd (pX_p hw) (Nat.le_of_ble_eq_true rfl) (fun _ _ => ⟨rfl, rfl⟩) (by show Ex _ _ _ _ _ _ _ _ _ ((pX w t sz to pl nx nu op cz fa co).set 16 (.inr (3, [t, .int sz, .int to, .int pl, .int nx, .int nu, .int v, .ref 18, .int cz, .int fa]))); rw [pX_sp]; exact kk)
theorem gP_36 (hw : 18 < w.length) (hd : decode cc pc = .ok (.getfield 36, 3)) (kk : Ex X (RX4, mn, cc, nL, rk) d Ret cb sb (pc + 3) L (.ref 18 :: st) (pX w t sz to pl nx nu op cz fa co)) : Ex X (RX4, mn, cc, nL, rk) d Ret cb sb pc L (.ref 16 :: st) (pX w t sz to pl nx nu op cz fa co) := gf_X4_36 hd (pX_p hw) rfl kk
theorem gP_39 (hw : 18 < w.length) (hd : decode cc pc = .ok (.getfield 39, 3)) (kk : Ex X (RX4, mn, cc, nL, rk) d Ret cb sb (pc + 3) L (.int cz :: st) (pX w t sz to pl nx nu op cz fa co)) : Ex X (RX4, mn, cc, nL, rk) d Ret cb sb pc L (.ref 16 :: st) (pX w t sz to pl nx nu op cz fa co) := gf_X4_39 hd (pX_p hw) rfl kk
theorem pP_39 {v : Int32} (hw : 18 < w.length) (hd : decode cc pc = .ok (.putfield 39, 3)) (kk : Ex X (RX4, mn, cc, nL, rk) d Ret cb sb (pc + 3) L st (pX w t sz to pl nx nu op v fa co)) : Ex X (RX4, mn, cc, nL, rk) d Ret cb sb pc L (.int v :: .ref 16 :: st) (pX w t sz to pl nx nu op cz fa co) := pf_X4_39 hd (pX_p hw) (Nat.le_of_ble_eq_true rfl) (fun _ _ => ⟨rfl, rfl⟩) (by show Ex _ _ _ _ _ _ _ _ _ ((pX w t sz to pl nx nu op cz fa co).set 16 (.inr (3, [t, .int sz, .int to, .int pl, .int nx, .int nu, .int op, .ref 18, .int v, .int fa]))); rw [pX_sp]; exact kk)
theorem gP_42 (hw : 18 < w.length) (hd : decode cc pc = .ok (.getfield 42, 3)) (kk : Ex X (RX4, mn, cc, nL, rk) d Ret cb sb (pc + 3) L (.int fa :: st) (pX w t sz to pl nx nu op cz fa co)) : Ex X (RX4, mn, cc, nL, rk) d Ret cb sb pc L (.ref 16 :: st) (pX w t sz to pl nx nu op cz fa co) := gf_X4_42 hd (pX_p hw) rfl kk
theorem pP_42 {v : Int32} (hw : 18 < w.length) (hd : decode cc pc = .ok (.putfield 42, 3)) (kk : Ex X (RX4, mn, cc, nL, rk) d Ret cb sb (pc + 3) L st (pX w t sz to pl nx nu op cz v co)) : Ex X (RX4, mn, cc, nL, rk) d Ret cb sb pc L (.int v :: .ref 16 :: st) (pX w t sz to pl nx nu op cz fa co) := pf_X4_42 hd (pX_p hw) (Nat.le_of_ble_eq_true rfl) (fun _ _ => ⟨rfl, rfl⟩) (by show Ex _ _ _ _ _ _ _ _ _ ((pX w t sz to pl nx nu op cz fa co).set 16 (.inr (3, [t, .int sz, .int to, .int pl, .int nx, .int nu, .int op, .ref 18, .int cz, .int v]))); rw [pX_sp]; exact kk)
theorem pP_co {i : Nat} {x : Int32} (hw : 18 < w.length) (hd : decode cc pc = .ok (.iastore, 1)) (hi : i < 160) (kk : Ex X (RX4, mn, cc, nL, rk) d Ret cb sb (pc + 1) L st (pX w t sz to pl nx nu op cz fa (upd co i x))) : Ex X (RX4, mn, cc, nL, rk) d Ret cb sb pc L (.int x :: .int (nI i) :: .ref 18 :: st) (pX w t sz to pl nx nu op cz fa co) := x_iastoreN (M := (RX4, mn, cc, nL, rk)) (f := co) hd (pX_c hw) hi (by decide) (by rw [pX_sc]; exact kk)
theorem gP_tp {rt m i : Nat} {tb : Nat → Int32} (hT : w[rt]? = some (.inl (0, (m, .inl tb)))) (h17 : rt ≠ 16) (h18 : rt ≠ 18) (hd : decode cc pc = .ok (.iaload, 1)) (hi : i < m) (hm : m < 2 ^ 30) (kk : Ex X (RX4, mn, cc, nL, rk) d Ret cb sb (pc + 1) L (.int (tb i) :: st) (pX w t sz to pl nx nu op cz fa co)) : Ex X (RX4, mn, cc, nL, rk) d Ret cb sb pc L (.int (nI i) :: .ref rt :: st) (pX w t sz to pl nx nu op cz fa co) := x_ialoadN (M := (RX4, mn, cc, nL, rk)) hd ((pX_o h17 h18).trans hT) hi (by omega) kk
end PARSER
set_option maxRecDepth 100000 in
set_option maxHeartbeats 4000000 in
theorem c_X4_refuse {X : Nat × (Nat → Int32)} {w : pc_W} {rt n : Nat}  {s : PS} (hw : 18 < w.length): Mt X 0 0 0 yX4_refuse cX4_refuse 1 none [.ref 16] (pS w rt n s) (RV (pS w rt n (rfu s))) := by
  refine Mt.of (by decide +kernel) (fun _ _ => Nat.le_of_ble_eq_true rfl) ?_
  show Ex X mX4_refuse _ _ _ _ _ _ _ _
  refine x_aload_n dX4_refuse_0 rfl ?_
  refine gP_42 hw dX4_refuse_1 ?_
  refine x_iconst (-1) dX4_refuse_4 ?_
  refine x_icmp_ne 16 dX4_refuse_5 (fun h_5 => ?_) (fun h_5 => ?_)
  · refine x_aload_n dX4_refuse_16 rfl ?_
    refine x_iconst 2 dX4_refuse_17 ?_
    refine pP_21 hw dX4_refuse_18 ?_
    exact Ex.ret (v := none) ⟨rfl, dX4_refuse_21⟩ ⟨rfl, by show _ = pS w rt n (rfu s); unfold rfu; rw [if_neg h_5]⟩
  · refine x_aload_n dX4_refuse_8 rfl ?_
    refine x_aload_n dX4_refuse_9 rfl ?_
    refine gP_24 hw dX4_refuse_10 ?_
    refine pP_42 hw dX4_refuse_13 ?_
    refine x_aload_n dX4_refuse_16 rfl ?_
    refine x_iconst 2 dX4_refuse_17 ?_
    refine pP_21 hw dX4_refuse_18 ?_
    exact Ex.ret (v := none) ⟨rfl, dX4_refuse_21⟩ ⟨rfl, by show _ = pS w rt n (rfu s); unfold rfu; rw [if_pos h_5]⟩
set_option maxRecDepth 100000 in
set_option maxHeartbeats 4000000 in
theorem c_X4_emit {X : Nat × (Nat → Int32)} {w : pc_W} {rt n : Nat}  {s : PS} {c : Int32} (hw : 18 < w.length) (hc : g_cz s ≤ 160): Mt X 0 0 0 yX4_emit cX4_emit 2 none [.ref 16, .int c] (pS w rt n s) (RV (pS w rt n (emt c s))) := by
  refine Mt.of (by decide +kernel) (fun _ _ => Nat.le_of_ble_eq_true rfl) ?_
  show Ex X mX4_emit _ _ _ _ _ _ _ _
  refine x_aload_n dX4_emit_0 rfl ?_
  refine gP_39 hw dX4_emit_1 ?_
  refine x_aload_n dX4_emit_4 rfl ?_
  refine gP_36 hw dX4_emit_5 ?_
  refine x_alenI (t := 0) 160 dX4_emit_8 (pX_c hw) ?_
  refine x_icmp_ge 32 dX4_emit_9 (fun h_9 => ?_) (fun h_9 => ?_)
  · exact Ex.ret (v := none) ⟨rfl, dX4_emit_32⟩ ⟨rfl, by show _ = pS w rt n (emt c s); unfold emt; rw [if_neg (fun q : g_cz s < 160 => nI_ge (b := 160) q (by decide) h_9)]⟩
  · have hc1 : g_cz s < 160 := Nat.not_le.mp (fun q => h_9 (nI_le (a := 160) q (by omega)))
    refine x_aload_n dX4_emit_12 rfl ?_
    refine gP_36 hw dX4_emit_13 ?_
    refine x_aload_n dX4_emit_16 rfl ?_
    refine gP_39 hw dX4_emit_17 ?_
    refine x_iload_n dX4_emit_20 rfl ?_
    refine pP_co hw dX4_emit_21 hc1 ?_
    refine x_aload_n dX4_emit_22 rfl ?_
    refine x_dup dX4_emit_23 ?_
    refine gP_39 hw dX4_emit_24 ?_
    refine x_iconst 1 dX4_emit_27 ?_
    refine x_iadd dX4_emit_28 ?_
    rw [← nI_succ]
    refine pP_39 hw dX4_emit_29 ?_
    exact Ex.ret (v := none) ⟨rfl, dX4_emit_32⟩ ⟨rfl, by show _ = pS w rt n (emt c s); unfold emt; rw [if_pos hc1]⟩
set_option maxRecDepth 100000 in
set_option maxHeartbeats 4000000 in
theorem c_X4_readNumber {X : Nat × (Nat → Int32)} {w : pc_W} {rt m n j op cz : Nat} {tb : Nat → Int32} {to nu fa : Int32} {co : Nat → Int32} (hw : 18 < w.length) (hT : w[rt]? = some (.inl (0, (m, .inl tb)))) (h17 : rt ≠ 16) (h18 : rt ≠ 18) (hm : m < 2 ^ 30) (hn : n ≤ m) (hj : j ≤ n): Mt X 1 0 0 yX4_readNumber cX4_readNumber 1 none [.ref 16] (pX w (.ref rt) (nI n) to (nI j) (nI j) nu (nI op) (nI cz) fa co) (RV (pS w rt n (adN tb (j, j, to, nu, fa, op, cz, co) j (spn qDt tb (n - j) j)))) := by
  refine Mt.of (by decide +kernel) (fun _ _ => Nat.le_of_ble_eq_true rfl) ?_
  show Ex X mX4_readNumber _ _ _ _ _ _ _ _
  obtain ⟨s', hs'⟩ : ∃ s', s' = adN tb (j, j, to, nu, fa, op, cz, co) j (spn qDt tb (n - j) j) := ⟨_, rfl⟩
  rw [← hs']
  refine x_aload_n dX4_readNumber_0 rfl ?_
  refine x_iconst 0 dX4_readNumber_1 ?_
  refine pP_30 hw dX4_readNumber_2 ?_
  obtain ⟨E, hE⟩ : ∃ E, E = spn qDt tb (n - j) j := ⟨_, rfl⟩
  obtain ⟨V, hV⟩ : ∃ V, V = nuv tb (E - j) j 0 := ⟨_, rfl⟩
  have hEj : j ≤ E := by rw [hE]; exact spn_ge _ _ _ _
  have hEn : E ≤ n := by rw [hE]; exact Nat.le_trans (spn_le _ _ _ _) (by omega)
  have fin : Ex X mX4_readNumber 1 (RV (pS w rt n s')) 0 0 68 [some (.ref 16)] [] (pX w (.ref rt) (nI n) to (nI j) (nI E) V (nI op) (nI cz) fa co) := by
    refine x_aload_n dX4_readNumber_68 rfl ?_
    refine gP_27 hw dX4_readNumber_69 ?_
    refine x_aload_n dX4_readNumber_72 rfl ?_
    refine gP_24 hw dX4_readNumber_73 ?_
    refine x_isub dX4_readNumber_76 ?_
    rw [pk_sub hEj]
    refine x_iconst 4 dX4_readNumber_77 ?_
    refine x_icmp_le 88 dX4_readNumber_78 (fun h_78 => ?_) (fun h_78 => ?_)
    · refine x_aload_n dX4_readNumber_88 rfl ?_
      refine x_iconst 1 dX4_readNumber_89 ?_
      refine pP_21 hw dX4_readNumber_90 ?_
      exact Ex.ret (v := none) ⟨rfl, dX4_readNumber_93⟩ ⟨rfl, by rw [hs', ← hE]; unfold adN; rw [← hV, if_neg (fun q : 4 < E - j => absurd (Int32.not_lt.mpr h_78) (fun z => z (nI_lt (a := 4) q (by omega))))]⟩
    · refine x_aload_n dX4_readNumber_81 rfl ?_
      refine ii_X4_57 dX4_readNumber_82 (c_X4_refuse (s := (j, E, to, V, fa, op, cz, co)) hw) (pX_p hw) (by decide) (Nat.le_of_ble_eq_true rfl) ?_
      refine x_goto 93 dX4_readNumber_85 ?_
      exact Ex.ret (v := none) ⟨rfl, dX4_readNumber_93⟩ ⟨rfl, by rw [hs', ← hE]; unfold adN; rw [← hV, if_pos (show 4 < E - j from Nat.not_le.mp (fun q => h_78 (nI_le (b := 4) q (by omega))))]⟩
  refine for_up (P := fun i => ∀ a : Int32, E = spn qDt tb (n - i) i → V = nuv tb (E - i) i a → Ex X mX4_readNumber 1 (RV (pS w rt n s')) 0 0 5 [some (.ref 16)] [] (pX w (.ref rt) (nI n) to (nI j) (nI i) a (nI op) (nI cz) fa co)) n ?_ (fun i hi ih => ?_) j hj 0 hE hV
  · intro a e1 e2
    have e3 : E = n := by rw [e1, Nat.sub_self]; rfl
    subst e3
    rw [Nat.sub_self] at e2
    have e4 : V = a := e2
    rw [← e4]
    refine x_aload_n dX4_readNumber_5 rfl ?_
    refine gP_27 hw dX4_readNumber_6 ?_
    refine x_aload_n dX4_readNumber_9 rfl ?_
    refine gP_15 hw dX4_readNumber_10 ?_
    refine x_icmp_ge 68 dX4_readNumber_13 (fun _ => fin) (fun z => absurd (nI_le (by omega) (by omega)) z)
  · intro a e1 e2
    refine x_aload_n dX4_readNumber_5 rfl ?_
    refine gP_27 hw dX4_readNumber_6 ?_
    refine x_aload_n dX4_readNumber_9 rfl ?_
    refine gP_15 hw dX4_readNumber_10 ?_
    refine x_icmp_ge 68 dX4_readNumber_13 (fun z => absurd z (fun z => nI_ge hi (by omega) z)) (fun _ => ?_)
    refine x_aload_n dX4_readNumber_16 rfl ?_
    refine gP_9 hw dX4_readNumber_17 ?_
    refine x_aload_n dX4_readNumber_20 rfl ?_
    refine gP_27 hw dX4_readNumber_21 ?_
    refine gP_tp hT h17 h18 dX4_readNumber_24 (by omega) hm ?_
    refine ii_X4_95 dX4_readNumber_25 c_X4_isDigit (by decide) (Nat.le_of_ble_eq_true rfl) ?_
    refine x_if_eq 68 dX4_readNumber_28 (fun z => ?_) (fun z => ?_)
    · have q : ¬ qDt (tb i) = true := fun y => bi0.mp z (of_decide_eq_true y)
      rw [spn_f (fun _ => q)] at e1
      subst e1
      rw [Nat.sub_self] at e2
      have e4 : V = a := e2
      rw [← e4]
      exact fin
    · have q : qDt (tb i) = true := decide_eq_true (bi1.mp z)
      have e3 := e1
      rw [spn_t hi q] at e3
      have hEi : i + 1 ≤ E := by rw [e3]; exact spn_ge _ _ _ _
      refine x_aload_n dX4_readNumber_31 rfl ?_
      refine x_aload_n dX4_readNumber_32 rfl ?_
      refine gP_30 hw dX4_readNumber_33 ?_
      refine x_bipush 10 dX4_readNumber_36 ?_
      refine x_imul dX4_readNumber_38 ?_
      refine x_aload_n dX4_readNumber_39 rfl ?_
      refine gP_9 hw dX4_readNumber_40 ?_
      refine x_aload_n dX4_readNumber_43 rfl ?_
      refine gP_27 hw dX4_readNumber_44 ?_
      refine gP_tp hT h17 h18 dX4_readNumber_47 (by omega) hm ?_
      refine x_iadd dX4_readNumber_48 ?_
      refine x_bipush 48 dX4_readNumber_49 ?_
      refine x_isub dX4_readNumber_51 ?_
      refine pP_30 hw dX4_readNumber_52 ?_
      refine x_aload_n dX4_readNumber_55 rfl ?_
      refine x_dup dX4_readNumber_56 ?_
      refine gP_27 hw dX4_readNumber_57 ?_
      refine x_iconst 1 dX4_readNumber_60 ?_
      refine x_iadd dX4_readNumber_61 ?_
      rw [← nI_succ]
      refine pP_27 hw dX4_readNumber_62 ?_
      refine x_goto 5 dX4_readNumber_65 ?_
      exact ih _ e3 (by rw [e2, show E - i = E - (i + 1) + 1 by omega]; rfl)
def spV (b : Nat → Int32) (j e k : Nat) : Bool := decide (e - j = (strB k).length) && spB b (strB k) j
theorem spB_c {b : Nat → Int32} {k i q : Nat} (hi : i < slen k) : spB b ((strB k).drop i) q = (decide (sby k i = b q) && spB b ((strB k).drop (i + 1)) (q + 1)) := by
  rw [List.drop_eq_getElem_cons hi]
  have e : sby k i = (strB k)[i] := by show (strB k).getD i 0 = _; simp [List.getD, hi]
  rw [e]; rfl
set_option maxRecDepth 100000 in
set_option maxHeartbeats 4000000 in
theorem c_X4_isSpelled {X : Nat × (Nat → Int32)} {w : pc_W} {rt m n j E op cz : Nat} {tb : Nat → Int32} {to nu fa : Int32} {co : Nat → Int32} {k : Nat} (hw : 18 < w.length) (hT : w[rt]? = some (.inl (0, (m, .inl tb)))) (h17 : rt ≠ 16) (h18 : rt ≠ 18) (hm : m < 2 ^ 30) (hn : n ≤ m) (hjE : j ≤ E) (hEn : E ≤ n) (hk : k < 14): Mt X 4 0 0 yX4_isSpelled cX4_isSpelled 3 (some .boolean) [.ref 16, .float (fS k)] (pX w (.ref rt) (nI n) to (nI j) (nI E) nu (nI op) (nI cz) fa co) (RI (bi (spV tb j E k = true)) (pX w (.ref rt) (nI n) to (nI j) (nI E) nu (nI op) (nI cz) fa co)) := by
  refine Mt.of (by decide +kernel) (fun _ _ => Nat.le_of_ble_eq_true rfl) ?_
  show Ex X mX4_isSpelled _ _ _ _ _ _ _ _
  have hl := slen_le k hk
  obtain ⟨R, hR⟩ : ∃ R, R = spV tb j E k := ⟨_, rfl⟩
  rw [← hR]
  refine x_aload_nF dX4_isSpelled_0 rfl ?_
  refine ii_X4_112 dX4_isSpelled_1 hk (c_J0_length_8abf5 hk) (by decide) (Nat.le_of_ble_eq_true rfl) ?_
  refine x_aload_n dX4_isSpelled_4 rfl ?_
  refine gP_27 hw dX4_isSpelled_5 ?_
  refine x_aload_n dX4_isSpelled_8 rfl ?_
  refine gP_24 hw dX4_isSpelled_9 ?_
  refine x_isub dX4_isSpelled_12 ?_
  rw [pk_sub hjE]
  refine x_icmp_eq 18 dX4_isSpelled_13 (fun h0 => ?_) (fun h0 => ?_)
  · have e0 : E - j = slen k := ((nI_eq (by omega) (by omega)).mp h0).symm
    have hR2 : spB tb ((strB k).drop 0) (j + 0) = R := by rw [hR, spV, decide_eq_true e0]; rfl
    refine x_iconst 0 dX4_isSpelled_18 ?_
    refine x_istore_n dX4_isSpelled_19 (by decide) ?_
    refine for_up (P := fun i => spB tb ((strB k).drop i) (j + i) = R → Ex X mX4_isSpelled 4 (RI (bi (R = true)) (pX w (.ref rt) (nI n) to (nI j) (nI E) nu (nI op) (nI cz) fa co)) 0 0 20 [some (.ref 16), some (.float (fS k)), some (.int (nI i))] [] (pX w (.ref rt) (nI n) to (nI j) (nI E) nu (nI op) (nI cz) fa co)) (slen k) ?_ (fun i hi ih => ?_) 0 (Nat.zero_le _) hR2
    · intro e1
      have e2 : R = true := by rw [← e1, List.drop_length]; rfl
      refine x_iload_n dX4_isSpelled_20 rfl ?_
      refine x_aload_nF dX4_isSpelled_21 rfl ?_
      refine ii_X4_112 dX4_isSpelled_22 hk (c_J0_length_8abf5 hk) (by decide) (Nat.le_of_ble_eq_true rfl) ?_
      refine x_icmp_ge 55 dX4_isSpelled_25 (fun _ => ?_) (fun z => absurd (nI_le (by omega) (by omega)) z)
      refine x_iconst 1 dX4_isSpelled_55 ?_
      exact Ex.ret (v := some (.int _)) ⟨dX4_isSpelled_56, _, rfl, by first | rfl | decide⟩ ⟨congrArg (fun z => some (Value.int z)) ((bi_t e2).symm), rfl⟩
    · intro e1
      rw [spB_c hi] at e1
      refine x_iload_n dX4_isSpelled_20 rfl ?_
      refine x_aload_nF dX4_isSpelled_21 rfl ?_
      refine ii_X4_112 dX4_isSpelled_22 hk (c_J0_length_8abf5 hk) (by decide) (Nat.le_of_ble_eq_true rfl) ?_
      refine x_icmp_ge 55 dX4_isSpelled_25 (fun z => absurd z (fun z => nI_ge hi (by omega) z)) (fun _ => ?_)
      refine x_aload_nF dX4_isSpelled_28 rfl ?_
      refine x_iload_n dX4_isSpelled_29 rfl ?_
      refine ii_X4_118 dX4_isSpelled_30 hk (c_J0_charAt_5068e hk hi) (by decide) (Nat.le_of_ble_eq_true rfl) ?_
      refine x_aload_n dX4_isSpelled_33 rfl ?_
      refine gP_9 hw dX4_isSpelled_34 ?_
      refine x_aload_n dX4_isSpelled_37 rfl ?_
      refine gP_24 hw dX4_isSpelled_38 ?_
      refine x_iload_n dX4_isSpelled_41 rfl ?_
      refine x_iadd dX4_isSpelled_42 ?_
      rw [nI_add]
      refine gP_tp hT h17 h18 dX4_isSpelled_43 (show j + i < m by omega) hm ?_
      refine x_icmp_eq 49 dX4_isSpelled_44 (fun z => ?_) (fun z => ?_)
      · rw [decide_eq_true z, Bool.true_and] at e1
        refine x_iincN dX4_isSpelled_49 rfl (by decide) ?_
        refine x_goto 20 dX4_isSpelled_52 ?_
        exact ih e1
      · rw [decide_eq_false z, Bool.false_and] at e1
        refine x_iconst 0 dX4_isSpelled_47 ?_
        exact Ex.ret (v := some (.int _)) ⟨dX4_isSpelled_48, _, rfl, by first | rfl | decide⟩ ⟨congrArg (fun z => some (Value.int z)) ((bi_f (by rw [← e1]; decide)).symm), rfl⟩
  · have e0 : ¬ E - j = (strB k).length := fun q => h0 (congrArg nI q.symm)
    have e2 : R = false := by rw [hR, spV, decide_eq_false e0]; rfl
    refine x_iconst 0 dX4_isSpelled_16 ?_
    exact Ex.ret (v := some (.int _)) ⟨dX4_isSpelled_17, _, rfl, by first | rfl | decide⟩ ⟨congrArg (fun z => some (Value.int z)) ((bi_f (by rw [e2]; decide)).symm), rfl⟩
set_option maxRecDepth 100000 in
set_option maxHeartbeats 4000000 in
theorem c_X4_readWord {X : Nat × (Nat → Int32)} {w : pc_W} {rt m n j op cz : Nat} {tb : Nat → Int32} {to nu fa : Int32} {co : Nat → Int32} (hw : 18 < w.length) (hT : w[rt]? = some (.inl (0, (m, .inl tb)))) (h17 : rt ≠ 16) (h18 : rt ≠ 18) (hm : m < 2 ^ 30) (hn : n ≤ m) (hj : j ≤ n): Mt X 5 0 0 yX4_readWord cX4_readWord 2 none [.ref 16] (pX w (.ref rt) (nI n) to (nI j) (nI j) nu (nI op) (nI cz) fa co) (RV (pS w rt n (adW tb (j, j, to, nu, fa, op, cz, co) j (spn qLt tb (n - j) j) (wtk tb j (spn qLt tb (n - j) j) 12 200)))) := by
  refine Mt.of (by decide +kernel) (fun _ _ => Nat.le_of_ble_eq_true rfl) ?_
  show Ex X mX4_readWord _ _ _ _ _ _ _ _
  obtain ⟨s', hs'⟩ : ∃ s', s' = adW tb (j, j, to, nu, fa, op, cz, co) j (spn qLt tb (n - j) j) (wtk tb j (spn qLt tb (n - j) j) 12 200) := ⟨_, rfl⟩
  rw [← hs']
  obtain ⟨E, hE⟩ : ∃ E, E = spn qLt tb (n - j) j := ⟨_, rfl⟩
  have hEj : j ≤ E := by rw [hE]; exact spn_ge _ _ _ _
  have hEn : E ≤ n := by rw [hE]; exact Nat.le_trans (spn_le _ _ _ _) (by omega)
  rw [← hE] at hs'
  have fin : Ex X mX4_readWord 5 (RV (pS w rt n s')) 0 0 39 [some (.ref 16), none] [] (pX w (.ref rt) (nI n) to (nI j) (nI E) nu (nI op) (nI cz) fa co) := by
    obtain ⟨T, hT2⟩ : ∃ T, wtk tb j E (12 - 0) (200 + 0) = T := ⟨_, rfl⟩
    have hs2 : s' = adW tb (j, j, to, nu, fa, op, cz, co) j E T := by rw [hs', ← hT2]
    refine x_sipush 200 dX4_readWord_39 ?_
    refine x_istore_n dX4_readWord_42 (by decide) ?_
    refine for_up (P := fun k => wtk tb j E (12 - k) (200 + k) = T → Ex X mX4_readWord 5 (RV (pS w rt n s')) 0 0 43 [some (.ref 16), some (.int (nI (200 + k)))] [] (pX w (.ref rt) (nI n) to (nI j) (nI E) nu (nI op) (nI cz) fa co)) 12 ?_ (fun k hk ih => ?_) 0 (by decide) hT2
    · intro e1
      have e2 : T = 2 := e1.symm
      refine x_iload_n dX4_readWord_43 rfl ?_
      refine x_sipush 212 dX4_readWord_44 ?_
      refine x_icmp_ge 73 dX4_readWord_47 (fun _ => ?_) (fun z => absurd (by decide) z)
      refine x_aload_n dX4_readWord_73 rfl ?_
      refine ii_X4_57 dX4_readWord_74 (c_X4_refuse (s := (j, E, to, nu, fa, op, cz, co)) hw) (pX_p hw) (by decide) (Nat.le_of_ble_eq_true rfl) ?_
      exact Ex.ret (v := none) ⟨rfl, dX4_readWord_77⟩ ⟨rfl, by rw [hs2, e2]; rfl⟩
    · intro e1
      obtain ⟨f, hf⟩ : ∃ f, 12 - k = f + 1 := ⟨11 - k, by omega⟩
      rw [hf] at e1
      unfold wtk at e1
      refine x_iload_n dX4_readWord_43 rfl ?_
      refine x_sipush 212 dX4_readWord_44 ?_
      refine x_icmp_ge 73 dX4_readWord_47 (fun z => absurd z (fun z => nI_ge (show 200 + k < 212 by omega) (by omega) z)) (fun _ => ?_)
      refine x_aload_n dX4_readWord_50 rfl ?_
      refine x_iload_n dX4_readWord_51 rfl ?_
      refine iv_X4_104 dX4_readWord_52 (c_X8_spelling hk) (by decide) (Nat.le_of_ble_eq_true rfl) (fun v w' h => ?_)
      obtain ⟨rfl, rfl⟩ := h
      refine ii_X4_108 dX4_readWord_55 (c_X4_isSpelled hw hT h17 h18 hm hn hEj hEn (show k + 1 < 14 by omega)) (pX_p hw) (by decide) (Nat.le_of_ble_eq_true rfl) ?_
      refine x_if_eq 67 dX4_readWord_58 (fun z => ?_) (fun z => ?_)
      · have q : ¬ spW tb j E (200 + k) = true := by have z2 := bi0.mp z; rw [spV] at z2; rw [spW, show 200 + k - 199 = k + 1 by omega]; exact z2
        rw [if_neg q] at e1
        refine x_iincN dX4_readWord_67 rfl (by decide) ?_
        refine x_goto 43 dX4_readWord_70 ?_
        exact ih (by rw [show 12 - (k + 1) = f by omega]; exact e1)
      · have q : spW tb j E (200 + k) = true := by have z2 := bi1.mp z; rw [spV] at z2; rw [spW, show 200 + k - 199 = k + 1 by omega]; exact z2
        rw [if_pos q] at e1
        refine x_aload_n dX4_readWord_61 rfl ?_
        refine x_iload_n dX4_readWord_62 rfl ?_
        refine pP_21 hw dX4_readWord_63 ?_
        exact Ex.ret (v := none) ⟨rfl, dX4_readWord_66⟩ ⟨rfl, by rw [hs2, ← e1]; unfold adW; rw [if_neg (fun y => absurd ((nI_eq (a := 200 + k) (b := 2) (by omega) (by decide)).mp (y.trans (show (2 : Int32) = nI 2 from rfl))) (by omega))]⟩
  refine for_up (P := fun i => E = spn qLt tb (n - i) i → Ex X mX4_readWord 5 (RV (pS w rt n s')) 0 0 0 [some (.ref 16), none] [] (pX w (.ref rt) (nI n) to (nI j) (nI i) nu (nI op) (nI cz) fa co)) n ?_ (fun i hi ih => ?_) j hj hE
  · intro e1
    have e3 : E = n := by rw [e1, Nat.sub_self]; rfl
    subst e3
    refine x_aload_n dX4_readWord_0 rfl ?_
    refine gP_27 hw dX4_readWord_1 ?_
    refine x_aload_n dX4_readWord_4 rfl ?_
    refine gP_15 hw dX4_readWord_5 ?_
    refine x_icmp_ge 39 dX4_readWord_8 (fun _ => fin) (fun z => absurd (nI_le (by omega) (by omega)) z)
  · intro e1
    refine x_aload_n dX4_readWord_0 rfl ?_
    refine gP_27 hw dX4_readWord_1 ?_
    refine x_aload_n dX4_readWord_4 rfl ?_
    refine gP_15 hw dX4_readWord_5 ?_
    refine x_icmp_ge 39 dX4_readWord_8 (fun z => absurd z (fun z => nI_ge hi (by omega) z)) (fun _ => ?_)
    refine x_aload_n dX4_readWord_11 rfl ?_
    refine gP_9 hw dX4_readWord_12 ?_
    refine x_aload_n dX4_readWord_15 rfl ?_
    refine gP_27 hw dX4_readWord_16 ?_
    refine gP_tp hT h17 h18 dX4_readWord_19 (by omega) hm ?_
    refine ii_X4_89 dX4_readWord_20 c_X4_isLetter (by decide) (Nat.le_of_ble_eq_true rfl) ?_
    refine x_if_eq 39 dX4_readWord_23 (fun z => ?_) (fun z => ?_)
    · have q : ¬ qLt (tb i) = true := fun y => bi0.mp z (of_decide_eq_true y)
      rw [spn_f (fun _ => q)] at e1
      subst e1
      exact fin
    · have q : qLt (tb i) = true := decide_eq_true (bi1.mp z)
      rw [spn_t hi q] at e1
      refine x_aload_n dX4_readWord_26 rfl ?_
      refine x_dup dX4_readWord_27 ?_
      refine gP_27 hw dX4_readWord_28 ?_
      refine x_iconst 1 dX4_readWord_31 ?_
      refine x_iadd dX4_readWord_32 ?_
      rw [← nI_succ]
      refine pP_27 hw dX4_readWord_33 ?_
      refine x_goto 0 dX4_readWord_36 ?_
      exact ih e1
theorem adW_st {b : Nat → Int32} {j pl nx J e op cz : Nat} {to nu fa v : Int32} {co : Nat → Int32} : adW b (j, j, to, nu, fa, op, cz, co) J e v = adW b (pl, nx, to, nu, fa, op, cz, co) J e v := rfl
theorem adN_st {b : Nat → Int32} {j pl nx J e op cz : Nat} {to nu fa : Int32} {co : Nat → Int32} : adN b (j, j, to, nu, fa, op, cz, co) J e = adN b (pl, nx, to, nu, fa, op, cz, co) J e := rfl
set_option maxRecDepth 100000 in
set_option maxHeartbeats 4000000 in
theorem c_X4_advance {X : Nat × (Nat → Int32)} {w : pc_W} {rt m n pl nx op cz : Nat} {tb : Nat → Int32} {to nu fa : Int32} {co : Nat → Int32} (hw : 18 < w.length) (hT : w[rt]? = some (.inl (0, (m, .inl tb)))) (h17 : rt ≠ 16) (h18 : rt ≠ 18) (hm : m < 2 ^ 30) (hn : n ≤ m) (hx : nx ≤ n): Mt X 6 0 0 yX4_advance cX4_advance 1 none [.ref 16] (pX w (.ref rt) (nI n) to (nI pl) (nI nx) nu (nI op) (nI cz) fa co) (RV (pS w rt n (adv tb n (pl, nx, to, nu, fa, op, cz, co)))) := by
  refine Mt.of (by decide +kernel) (fun _ _ => Nat.le_of_ble_eq_true rfl) ?_
  show Ex X mX4_advance _ _ _ _ _ _ _ _
  obtain ⟨s', hs'⟩ : ∃ s', s' = adv tb n (pl, nx, to, nu, fa, op, cz, co) := ⟨_, rfl⟩
  rw [← hs']
  obtain ⟨J, hJ⟩ : ∃ J, J = spn qBk tb (n - nx) nx := ⟨_, rfl⟩
  have hs2 : s' = ad1 tb n (pl, nx, to, nu, fa, op, cz, co) J := by rw [hs', hJ]; rfl
  have hJn : J ≤ n := by rw [hJ]; exact Nat.le_trans (spn_le _ _ _ _) (by omega)
  have fin : Ex X mX4_advance 6 (RV (pS w rt n s')) 0 0 52 [some (.ref 16)] [] (pX w (.ref rt) (nI n) to (nI pl) (nI J) nu (nI op) (nI cz) fa co) := by
    refine x_aload_n dX4_advance_52 rfl ?_
    refine x_aload_n dX4_advance_53 rfl ?_
    refine gP_27 hw dX4_advance_54 ?_
    refine pP_24 hw dX4_advance_57 ?_
    refine x_aload_n dX4_advance_60 rfl ?_
    refine gP_24 hw dX4_advance_61 ?_
    refine x_aload_n dX4_advance_64 rfl ?_
    refine gP_15 hw dX4_advance_65 ?_
    refine x_icmp_lt 79 dX4_advance_68 (fun h_68 => ?_) (fun h_68 => ?_)
    · have hJ1 : J < m := Nat.lt_of_lt_of_le (Nat.not_le.mp (fun q => nI_nlt q (by omega) h_68)) hn
      have hJ2 : ¬ n ≤ J := fun q => nI_nlt q (by omega) h_68
      refine x_aload_n dX4_advance_79 rfl ?_
      refine gP_9 hw dX4_advance_80 ?_
      refine x_aload_n dX4_advance_83 rfl ?_
      refine gP_24 hw dX4_advance_84 ?_
      refine gP_tp hT h17 h18 dX4_advance_87 hJ1 hm ?_
      refine ii_X4_89 dX4_advance_88 c_X4_isLetter (by decide) (Nat.le_of_ble_eq_true rfl) ?_
      refine x_if_eq 101 dX4_advance_91 (fun h_91 => ?_) (fun h_91 => ?_)
      · refine x_aload_n dX4_advance_101 rfl ?_
        refine gP_9 hw dX4_advance_102 ?_
        refine x_aload_n dX4_advance_105 rfl ?_
        refine gP_24 hw dX4_advance_106 ?_
        refine gP_tp hT h17 h18 dX4_advance_109 hJ1 hm ?_
        refine ii_X4_95 dX4_advance_110 c_X4_isDigit (by decide) (Nat.le_of_ble_eq_true rfl) ?_
        refine x_if_eq 123 dX4_advance_113 (fun h_113 => ?_) (fun h_113 => ?_)
        · refine x_aload_n dX4_advance_123 rfl ?_
          refine gP_9 hw dX4_advance_124 ?_
          refine x_aload_n dX4_advance_127 rfl ?_
          refine gP_24 hw dX4_advance_128 ?_
          refine gP_tp hT h17 h18 dX4_advance_131 hJ1 hm ?_
          refine ii_X4_101 dX4_advance_132 c_X8_isSign (by decide) (Nat.le_of_ble_eq_true rfl) ?_
          refine x_if_eq 164 dX4_advance_135 (fun h_135 => ?_) (fun h_135 => ?_)
          · refine x_aload_n dX4_advance_164 rfl ?_
            refine ii_X4_57 dX4_advance_165 (c_X4_refuse (s := (J, J, to, nu, fa, op, cz, co)) hw) (pX_p hw) (by decide) (Nat.le_of_ble_eq_true rfl) ?_
            exact Ex.ret (v := none) ⟨rfl, dX4_advance_168⟩ ⟨rfl, by rw [hs2]; unfold ad1; rw [if_neg hJ2, if_neg (fun y : qLt (tb J) = true => bi0.mp h_91 (of_decide_eq_true y)), if_neg (fun y : qDt (tb J) = true => bi0.mp h_113 (of_decide_eq_true y)), if_neg (bi0.mp h_135)] <;> rfl⟩
          · refine x_aload_n dX4_advance_138 rfl ?_
            refine x_aload_n dX4_advance_139 rfl ?_
            refine gP_9 hw dX4_advance_140 ?_
            refine x_aload_n dX4_advance_143 rfl ?_
            refine gP_24 hw dX4_advance_144 ?_
            refine gP_tp hT h17 h18 dX4_advance_147 hJ1 hm ?_
            refine pP_21 hw dX4_advance_148 ?_
            refine x_aload_n dX4_advance_151 rfl ?_
            refine x_dup dX4_advance_152 ?_
            refine gP_27 hw dX4_advance_153 ?_
            refine x_iconst 1 dX4_advance_156 ?_
            refine x_iadd dX4_advance_157 ?_
            rw [← nI_succ]
            refine pP_27 hw dX4_advance_158 ?_
            refine x_goto 168 dX4_advance_161 ?_
            exact Ex.ret (v := none) ⟨rfl, dX4_advance_168⟩ ⟨rfl, by rw [hs2]; unfold ad1; rw [if_neg hJ2, if_neg (fun y : qLt (tb J) = true => bi0.mp h_91 (of_decide_eq_true y)), if_neg (fun y : qDt (tb J) = true => bi0.mp h_113 (of_decide_eq_true y)), if_pos (bi1.mp h_135)] <;> rfl⟩
        · refine x_aload_n dX4_advance_116 rfl ?_
          refine ii_X4_98 dX4_advance_117 (c_X4_readNumber hw hT h17 h18 hm hn hJn) (pX_p hw) (by decide) (Nat.le_of_ble_eq_true rfl) ?_
          refine x_goto 168 dX4_advance_120 ?_
          exact Ex.ret (v := none) ⟨rfl, dX4_advance_168⟩ ⟨rfl, by rw [hs2]; unfold ad1; rw [if_neg hJ2, if_neg (fun y : qLt (tb J) = true => bi0.mp h_91 (of_decide_eq_true y)), if_pos (show qDt (tb J) = true from decide_eq_true (bi1.mp h_113))] <;> exact congrArg (pS w rt n) adN_st⟩
      · refine x_aload_n dX4_advance_94 rfl ?_
        refine ii_X4_92 dX4_advance_95 (c_X4_readWord hw hT h17 h18 hm hn hJn) (pX_p hw) (by decide) (Nat.le_of_ble_eq_true rfl) ?_
        refine x_goto 168 dX4_advance_98 ?_
        exact Ex.ret (v := none) ⟨rfl, dX4_advance_168⟩ ⟨rfl, by rw [hs2]; unfold ad1; rw [if_neg hJ2, if_pos (show qLt (tb J) = true from decide_eq_true (bi1.mp h_91))] <;> exact congrArg (pS w rt n) adW_st⟩
    · refine x_aload_n dX4_advance_71 rfl ?_
      refine x_iconst 0 dX4_advance_72 ?_
      refine pP_21 hw dX4_advance_73 ?_
      refine x_goto 168 dX4_advance_76 ?_
      exact Ex.ret (v := none) ⟨rfl, dX4_advance_168⟩ ⟨rfl, by rw [hs2]; unfold ad1; rw [if_pos (Nat.not_lt.mp (fun q => h_68 (nI_lt q (by omega))))]⟩
  refine for_up (P := fun i => J = spn qBk tb (n - i) i → Ex X mX4_advance 6 (RV (pS w rt n s')) 0 0 0 [some (.ref 16)] [] (pX w (.ref rt) (nI n) to (nI pl) (nI i) nu (nI op) (nI cz) fa co)) n ?_ (fun i hi ih => ?_) nx hx hJ
  · intro e1
    have e3 : J = n := by rw [e1, Nat.sub_self]; rfl
    subst e3
    refine x_aload_n dX4_advance_0 rfl ?_
    refine gP_27 hw dX4_advance_1 ?_
    refine x_aload_n dX4_advance_4 rfl ?_
    refine gP_15 hw dX4_advance_5 ?_
    refine x_icmp_ge 52 dX4_advance_8 (fun _ => fin) (fun z => absurd (nI_le (by omega) (by omega)) z)
  · intro e1
    refine x_aload_n dX4_advance_0 rfl ?_
    refine gP_27 hw dX4_advance_1 ?_
    refine x_aload_n dX4_advance_4 rfl ?_
    refine gP_15 hw dX4_advance_5 ?_
    refine x_icmp_ge 52 dX4_advance_8 (fun z => absurd z (fun z => nI_ge hi (by omega) z)) (fun _ => ?_)
    refine x_aload_n dX4_advance_11 rfl ?_
    refine gP_9 hw dX4_advance_12 ?_
    refine x_aload_n dX4_advance_15 rfl ?_
    refine gP_27 hw dX4_advance_16 ?_
    refine gP_tp hT h17 h18 dX4_advance_19 (by omega) hm ?_
    refine x_bipush 32 dX4_advance_20 ?_
    refine x_icmp_eq 39 dX4_advance_22 (fun z => ?_) (fun z => ?_)
    · have q : qBk (tb i) = true := decide_eq_true (Or.inl z)
      rw [spn_t hi q] at e1
      refine x_aload_n dX4_advance_39 rfl ?_
      refine x_dup dX4_advance_40 ?_
      refine gP_27 hw dX4_advance_41 ?_
      refine x_iconst 1 dX4_advance_44 ?_
      refine x_iadd dX4_advance_45 ?_
      rw [← nI_succ]
      refine pP_27 hw dX4_advance_46 ?_
      refine x_goto 0 dX4_advance_49 ?_
      exact ih e1
    · refine x_aload_n dX4_advance_25 rfl ?_
      refine gP_9 hw dX4_advance_26 ?_
      refine x_aload_n dX4_advance_29 rfl ?_
      refine gP_27 hw dX4_advance_30 ?_
      refine gP_tp hT h17 h18 dX4_advance_33 (by omega) hm ?_
      refine x_bipush 10 dX4_advance_34 ?_
      refine x_icmp_ne 52 dX4_advance_36 (fun z2 => ?_) (fun z2 => ?_)
      · have q : ¬ qBk (tb i) = true := fun y => (of_decide_eq_true y).elim z z2
        rw [spn_f (fun _ => q)] at e1
        subst e1
        exact fin
      · have q : qBk (tb i) = true := decide_eq_true (Or.inr z2)
        rw [spn_t hi q] at e1
        refine x_aload_n dX4_advance_39 rfl ?_
        refine x_dup dX4_advance_40 ?_
        refine gP_27 hw dX4_advance_41 ?_
        refine x_iconst 1 dX4_advance_44 ?_
        refine x_iadd dX4_advance_45 ?_
        rw [← nI_succ]
        refine pP_27 hw dX4_advance_46 ?_
        refine x_goto 0 dX4_advance_49 ?_
        exact ih e1
set_option maxRecDepth 100000 in
set_option maxHeartbeats 4000000 in
theorem c_X4_expect {X : Nat × (Nat → Int32)} {w : pc_W} {rt m n pl nx op cz : Nat} {tb : Nat → Int32} {to nu fa : Int32} {co : Nat → Int32} {x : Int32} (hw : 18 < w.length) (hT : w[rt]? = some (.inl (0, (m, .inl tb)))) (h17 : rt ≠ 16) (h18 : rt ≠ 18) (hm : m < 2 ^ 30) (hn : n ≤ m) (hx : nx ≤ n): Mt X 7 0 0 yX4_expect cX4_expect 2 none [.ref 16, .int x] (pX w (.ref rt) (nI n) to (nI pl) (nI nx) nu (nI op) (nI cz) fa co) (RV (pS w rt n (exc tb n x (pl, nx, to, nu, fa, op, cz, co)))) := by
  refine Mt.of (by decide +kernel) (fun _ _ => Nat.le_of_ble_eq_true rfl) ?_
  show Ex X mX4_expect _ _ _ _ _ _ _ _
  refine x_aload_n dX4_expect_0 rfl ?_
  refine gP_21 hw dX4_expect_1 ?_
  refine x_iload_n dX4_expect_4 rfl ?_
  refine x_icmp_ne 15 dX4_expect_5 (fun h_5 => ?_) (fun h_5 => ?_)
  · refine x_aload_n dX4_expect_15 rfl ?_
    refine ii_X4_57 dX4_expect_16 (c_X4_refuse (s := (pl, nx, to, nu, fa, op, cz, co)) hw) (pX_p hw) (by decide) (Nat.le_of_ble_eq_true rfl) ?_
    exact Ex.ret (v := none) ⟨rfl, dX4_expect_19⟩ ⟨rfl, by show _ = pS w rt n (exc tb n x (pl, nx, to, nu, fa, op, cz, co)); unfold exc; rw [if_neg h_5]⟩
  · refine x_aload_n dX4_expect_8 rfl ?_
    refine ii_X4_47 dX4_expect_9 (c_X4_advance hw hT h17 h18 hm hn hx) (pX_p hw) (by decide) (Nat.le_of_ble_eq_true rfl) ?_
    refine x_goto 19 dX4_expect_12 ?_
    exact Ex.ret (v := none) ⟨rfl, dX4_expect_19⟩ ⟨rfl, by show _ = pS w rt n (exc tb n x (pl, nx, to, nu, fa, op, cz, co)); unfold exc; rw [if_pos h_5]⟩
set_option maxRecDepth 100000 in
set_option maxHeartbeats 4000000 in
theorem c_X4_opens {X : Nat × (Nat → Int32)} {w : pc_W} {rt m n pl nx op cz : Nat} {tb : Nat → Int32} {to nu fa : Int32} {co : Nat → Int32} (hw : 18 < w.length) (hT : w[rt]? = some (.inl (0, (m, .inl tb)))) (h17 : rt ≠ 16) (h18 : rt ≠ 18) (hm : m < 2 ^ 30) (hn : n ≤ m) (hx : nx ≤ n) (ho : op ≤ 5): Mt X 7 0 0 yX4_opens cX4_opens 1 (some .boolean) [.ref 16] (pX w (.ref rt) (nI n) to (nI pl) (nI nx) nu (nI op) (nI cz) fa co) (RI (if 5 ≤ op then 0 else 1) (pS w rt n (if 5 ≤ op then rfu (pl, nx, to, nu, fa, op, cz, co) else adv tb n (inc1 (pl, nx, to, nu, fa, op, cz, co))))) := by
  refine Mt.of (by decide +kernel) (fun _ _ => Nat.le_of_ble_eq_true rfl) ?_
  show Ex X mX4_opens _ _ _ _ _ _ _ _
  refine x_aload_n dX4_opens_0 rfl ?_
  refine gP_33 hw dX4_opens_1 ?_
  refine x_iconst 5 dX4_opens_4 ?_
  refine x_icmp_lt 14 dX4_opens_5 (fun h_5 => ?_) (fun h_5 => ?_)
  · have ho5 : ¬ 5 ≤ op := fun q => nI_nlt (b := 5) q (by omega) h_5
    refine x_aload_n dX4_opens_14 rfl ?_
    refine x_dup dX4_opens_15 ?_
    refine gP_33 hw dX4_opens_16 ?_
    refine x_iconst 1 dX4_opens_19 ?_
    refine x_iadd dX4_opens_20 ?_
    rw [← nI_succ]
    refine pP_33 hw dX4_opens_21 ?_
    refine x_aload_n dX4_opens_24 rfl ?_
    refine ii_X4_47 dX4_opens_25 (c_X4_advance hw hT h17 h18 hm hn hx) (pX_p hw) (by decide) (Nat.le_of_ble_eq_true rfl) ?_
    refine x_iconst 1 dX4_opens_28 ?_
    rw [if_neg ho5, if_neg ho5]
    exact Ex.ret (v := some (.int _)) ⟨dX4_opens_29, _, rfl, by first | rfl | decide⟩ ⟨rfl, rfl⟩
  · have ho5 : 5 ≤ op := Nat.not_lt.mp (fun q => h_5 (nI_lt q (by decide)))
    refine x_aload_n dX4_opens_8 rfl ?_
    refine ii_X4_57 dX4_opens_9 (c_X4_refuse (s := (pl, nx, to, nu, fa, op, cz, co)) hw) (pX_p hw) (by decide) (Nat.le_of_ble_eq_true rfl) ?_
    refine x_iconst 0 dX4_opens_12 ?_
    rw [if_pos ho5, if_pos ho5]
    exact Ex.ret (v := some (.int _)) ⟨dX4_opens_13, _, rfl, by first | rfl | decide⟩ ⟨rfl, rfl⟩
