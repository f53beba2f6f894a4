set_option maxRecDepth 100000 in
set_option maxHeartbeats 4000000 in
theorem c_X10_premium {X : Nat × (Nat → Int32)} {S : CS} {tl : pc_W} {T : MT} {ru : Int32} {ou : (Nat → Int32)} {we : (Nat → Int32)} {me : Int32} {ki : (Nat → Int32)} {ro : (Nat → Int32)} {ma : Int32} {Λ : ML} {C : MC} {K : MK} {H : MH} {τ : TV} {r z : Nat} (hX0 : TXm τ T.1 T.2.1 r) (hru : ru = nI r) (hz : ma = nI z) (hz6 : z ≤ 6) (hnu : ∀ i, i < z → ∃ m, m < 10 ∧ ro (2 * i) = nI m): Mt X 50 0 0 yX10_premium cX10_premium 7 (some .int) [.ref 42] (cst S ++ (mw T (ru, ou, we, me, ki, ro, ma) Λ C K H ++ tl)) (fun v w' => ∃ (Λ' : ML), v = some (.int (pmM τ (ru, ou, we, me, ki, ro, ma) r z (100) 0)) ∧ w' = cst S ++ (mw T (ru, ou, we, me, ki, ro, ma) Λ' C K H ++ tl)) := by
  refine Mt.of (by decide +kernel) (fun _ _ => Nat.le_of_ble_eq_true rfl) ?_
  show Ex X mX10_premium _ _ _ _ _ _ _ _
  refine x_aload_n dX10_premium_0 rfl ?_
  refine mg_23 dX10_premium_1 ?_
  refine x_iconst 0 dX10_premium_4 ?_
  refine maK_46 0 dX10_premium_5 rfl (by decide) ?_
  refine x_istore_n dX10_premium_6 (by decide) ?_
  refine x_aload_n dX10_premium_7 rfl ?_
  refine mg_23 dX10_premium_8 ?_
  refine x_iconst 2 dX10_premium_11 ?_
  refine maK_46 2 dX10_premium_12 rfl (by decide) ?_
  refine x_istore_n dX10_premium_13 (by decide) ?_
  refine x_iconst (-1) dX10_premium_14 ?_
  refine x_istore_n dX10_premium_15 (by decide) ?_
  refine x_iconst 0 dX10_premium_16 ?_
  refine x_istore dX10_premium_17 (by decide) ?_
  obtain ⟨x0, hx0⟩ : ∃ x0, x0 = pmM τ (ru, ou, we, me, ki, ro, ma) r z (100) 0 := ⟨_, rfl⟩
  rw [← hx0]
  have hX : ∀ (v u : Nat) (Λ : ML), v ≤ 100 → u < 100 → nI u = x0 → Ex X mX10_premium 50 (fun v w' => ∃ (Λ' : ML), v = some (.int (x0)) ∧ w' = cst S ++ (mw T (ru, ou, we, me, ki, ro, ma) Λ' C K H ++ tl)) 0 0 19 [some (.ref 42), some (.int (ou 0)), some (.int (ou 2)), some (.int (nI u)), some (.int (nI v)), none, none] [] (cst S ++ (mw T (ru, ou, we, me, ki, ro, ma) Λ C K H ++ tl)) := by
    intro v u Λ hv hu hx
    refine x_iload dX10_premium_19 rfl ?_
    refine x_bipush 99 dX10_premium_21 ?_
    refine x_icmp_gt 114 dX10_premium_23 (fun h_23 => ?_) (fun h_23 => ?_)
    · refine x_iload_n dX10_premium_114 rfl ?_
      exact Ex.ret (v := some (.int _)) ⟨dX10_premium_115, _, rfl, by first | rfl | decide⟩ ⟨_, congrArg (fun z => some (Value.int z)) hx, rfl⟩
    · refine x_iload_n dX10_premium_26 rfl ?_
      refine x_iconst (-1) dX10_premium_27 ?_
      refine x_icmp_ne 114 dX10_premium_28 (fun _ => ?_) (fun hx => absurd hx (nI_nm1 (by omega)))
      refine x_iload_n dX10_premium_114 rfl ?_
      exact Ex.ret (v := some (.int _)) ⟨dX10_premium_115, _, rfl, by first | rfl | decide⟩ ⟨_, congrArg (fun z => some (Value.int z)) hx, rfl⟩
  refine Ex.forget (L' := [some (.ref 42), some (.int (ou 0)), some (.int (ou 2)), some (.int (-1)), some (.int (nI 0)), none, none]) ⟨rfl, rfl, rfl, rfl, rfl, trivial⟩ ?_
  refine for_up (P := fun i => pmM τ (ru, ou, we, me, ki, ro, ma) r z (100 - i) i = x0 → ∀ Λ : ML, Ex X mX10_premium 50 (fun v w' => ∃ (Λ' : ML), v = some (.int (x0)) ∧ w' = cst S ++ (mw T (ru, ou, we, me, ki, ro, ma) Λ' C K H ++ tl)) 0 0 19 [some (.ref 42), some (.int (ou 0)), some (.int (ou 2)), some (.int (-1)), some (.int (nI i)), none, none] [] (cst S ++ (mw T (ru, ou, we, me, ki, ro, ma) Λ C K H ++ tl))) (100) ?_ (fun i hi ih => ?_) (0) (Nat.zero_le _) hx0.symm _
  · intro hx Λ
    refine x_iload dX10_premium_19 rfl ?_
    refine x_bipush 99 dX10_premium_21 ?_
    refine x_icmp_gt 114 dX10_premium_23 (fun _ => ?_) (fun hx => absurd (by decide) hx)
    refine x_iload_n dX10_premium_114 rfl ?_
    exact Ex.ret (v := some (.int _)) ⟨dX10_premium_115, _, rfl, by first | rfl | decide⟩ ⟨_, congrArg (fun z => some (Value.int z)) hx, rfl⟩
  · intro hx Λ
    rw [show 100 - i = (100 - (i + 1)) + 1 by omega, pmM] at hx
    refine x_iload dX10_premium_19 rfl ?_
    refine x_bipush 99 dX10_premium_21 ?_
    refine x_icmp_gt 114 dX10_premium_23 (fun hx => absurd hx (nI_nlt (a := 99) (b := i) (by omega) (by decide))) (fun _ => ?_)
    refine x_iload_n dX10_premium_26 rfl ?_
    refine x_iconst (-1) dX10_premium_27 ?_
    refine x_icmp_ne 114 dX10_premium_28 (fun hx => absurd (rfl) hx) (fun _ => ?_)
    refine x_iconst 1 dX10_premium_31 ?_
    refine x_istore dX10_premium_32 (by decide) ?_
    refine x_iconst 0 dX10_premium_34 ?_
    refine x_istore dX10_premium_35 (by decide) ?_
    refine for_up (P := fun t => ∀ Λ : ML, Ex X mX10_premium 50 (fun v w' => ∃ (Λ' : ML), v = some (.int (x0)) ∧ w' = cst S ++ (mw T (ru, ou, we, me, ki, ro, ma) Λ' C K H ++ tl)) 0 0 37 [some (.ref 42), some (.int (ou 0)), some (.int (ou 2)), some (.int (-1)), some (.int (nI i)), some (.int (okM τ (ru, ou, we, me, ki, ro, ma) r z (nI i * nI z) t)), some (.int (nI t))] [] (cst S ++ (mw T (ru, (opr τ (ru, ou, we, me, ki, ro, ma) r z (nI i * nI z) t), we, me, ki, ro, ma) Λ C K H ++ tl))) 10 ?_ (fun t ht ih2 => ?_) 0 (by decide) _
    · intro Λ
      have eou := ou_back (f := (opr τ (ru, ou, we, me, ki, ro, ma) r z (nI i * nI z) 10)) (g := ou) (fun j h0 h2 => opr_o τ (ru, ou, we, me, ki, ro, ma) r z (nI i * nI z) h0 h2 10)
      refine x_iload dX10_premium_37 rfl ?_
      refine x_bipush 10 dX10_premium_39 ?_
      refine x_icmp_ge 82 dX10_premium_41 (fun _ => ?_) (fun hx => absurd (by decide) hx)
      refine x_iload dX10_premium_82 rfl ?_
      refine x_if_eq 92 dX10_premium_84 (fun h_84 => ?_) (fun h_84 => ?_)
      · refine x_iconst (-1) dX10_premium_92 ?_
        refine x_istore_n dX10_premium_93 (by decide) ?_
        refine x_aload_n dX10_premium_94 rfl ?_
        refine mg_23 dX10_premium_95 ?_
        refine x_iconst 0 dX10_premium_98 ?_
        refine x_iload_n dX10_premium_99 rfl ?_
        refine msK_46 0 dX10_premium_100 rfl (by decide) ?_
        refine x_aload_n dX10_premium_101 rfl ?_
        refine mg_23 dX10_premium_102 ?_
        refine x_iconst 2 dX10_premium_105 ?_
        refine x_iload_n dX10_premium_106 rfl ?_
        refine msK_46 2 dX10_premium_107 rfl (by decide) ?_
        refine x_iincN dX10_premium_108 rfl (by decide) ?_
        refine x_goto 19 dX10_premium_111 ?_
        refine Ex.eqW (w' := (cst S ++ (mw T (ru, ou, we, me, ki, ro, ma) Λ C K H ++ tl))) (by rw [eou]) ?_
        refine Ex.forget (L' := [some (.ref 42), some (.int (ou 0)), some (.int (ou 2)), some (.int (-1)), some (.int (nI (i + 1))), none, none]) ⟨rfl, rfl, rfl, rfl, rfl, trivial⟩ ?_
        exact ih (by rw [← hx, if_pos h_84]) _
      · refine x_iload dX10_premium_87 rfl ?_
        refine x_goto 93 dX10_premium_89 ?_
        refine x_istore_n dX10_premium_93 (by decide) ?_
        refine x_aload_n dX10_premium_94 rfl ?_
        refine mg_23 dX10_premium_95 ?_
        refine x_iconst 0 dX10_premium_98 ?_
        refine x_iload_n dX10_premium_99 rfl ?_
        refine msK_46 0 dX10_premium_100 rfl (by decide) ?_
        refine x_aload_n dX10_premium_101 rfl ?_
        refine mg_23 dX10_premium_102 ?_
        refine x_iconst 2 dX10_premium_105 ?_
        refine x_iload_n dX10_premium_106 rfl ?_
        refine msK_46 2 dX10_premium_107 rfl (by decide) ?_
        refine x_iincN dX10_premium_108 rfl (by decide) ?_
        refine x_goto 19 dX10_premium_111 ?_
        refine Ex.eqW (w' := (cst S ++ (mw T (ru, ou, we, me, ki, ro, ma) Λ C K H ++ tl))) (by rw [eou]) ?_
        refine Ex.forget (L' := [some (.ref 42), some (.int (ou 0)), some (.int (ou 2)), some (.int (nI i)), some (.int (nI (i + 1))), none, none]) ⟨rfl, rfl, rfl, rfl, rfl, trivial⟩ ?_
        exact hX (i + 1) i _ (by omega) hi (by rw [← hx, if_neg h_84])
    · intro Λ
      refine x_iload dX10_premium_37 rfl ?_
      refine x_bipush 10 dX10_premium_39 ?_
      refine x_icmp_ge 82 dX10_premium_41 (fun hx => absurd hx (nI_ge ht (by decide))) (fun _ => ?_)
      refine x_aload_n dX10_premium_44 rfl ?_
      refine x_iload dX10_premium_45 rfl ?_
      refine x_aload_n dX10_premium_47 rfl ?_
      refine mg_73 dX10_premium_48 ?_
      refine x_imul dX10_premium_51 ?_
      rw [show nI i * ma = nI i * nI z from by rw [hz]]
      refine iv_X10_372 dX10_premium_52 (c_X10_passes (ou := (opr τ (ru, ou, we, me, ki, ro, ma) r z (nI i * nI z) t)) hX0 hru hz hz6 hnu) mw_o (by decide) (Nat.le_of_ble_eq_true rfl) (fun v_52 w_52 hw_52 => ?_)
      obtain ⟨Λ1, rfl, rfl⟩ := hw_52
      refine x_iload dX10_premium_55 rfl ?_
      refine x_if_eq 73 dX10_premium_57 (fun h_57 => ?_) (fun h_57 => ?_)
      · refine x_iconst 0 dX10_premium_73 ?_
        refine x_istore dX10_premium_74 (by decide) ?_
        refine x_iincN dX10_premium_76 rfl (by decide) ?_
        refine x_goto 37 dX10_premium_79 ?_
        refine Ex.forget (L' := [some (.ref 42), some (.int (ou 0)), some (.int (ou 2)), some (.int (-1)), some (.int (nI i)), some (.int (okM τ (ru, ou, we, me, ki, ro, ma) r z (nI i * nI z) (t + 1))), some (.int (nI (t + 1)))]) ⟨rfl, rfl, rfl, rfl, rfl, by rw [okM, if_neg (fun q => q.1 h_57)] <;> rfl, rfl, trivial⟩ ?_
        exact ih2 _
      · refine x_aload_n dX10_premium_60 rfl ?_
        refine mg_23 dX10_premium_61 ?_
        refine x_iconst 2 dX10_premium_64 ?_
        refine maK_46 2 dX10_premium_65 rfl (by decide) ?_
        refine x_if_lt 73 dX10_premium_66 (fun h_66 => ?_) (fun h_66 => ?_)
        · refine x_iconst 0 dX10_premium_73 ?_
          refine x_istore dX10_premium_74 (by decide) ?_
          refine x_iincN dX10_premium_76 rfl (by decide) ?_
          refine x_goto 37 dX10_premium_79 ?_
          refine Ex.forget (L' := [some (.ref 42), some (.int (ou 0)), some (.int (ou 2)), some (.int (-1)), some (.int (nI i)), some (.int (okM τ (ru, ou, we, me, ki, ro, ma) r z (nI i * nI z) (t + 1))), some (.int (nI (t + 1)))]) ⟨rfl, rfl, rfl, rfl, rfl, by rw [okM, if_neg (fun q => Int32.not_lt.mpr q.2 h_66)] <;> rfl, rfl, trivial⟩ ?_
          exact ih2 _
        · refine x_iconst 1 dX10_premium_69 ?_
          refine x_goto 74 dX10_premium_70 ?_
          refine x_istore dX10_premium_74 (by decide) ?_
          refine x_iincN dX10_premium_76 rfl (by decide) ?_
          refine x_goto 37 dX10_premium_79 ?_
          refine Ex.forget (L' := [some (.ref 42), some (.int (ou 0)), some (.int (ou 2)), some (.int (-1)), some (.int (nI i)), some (.int (okM τ (ru, ou, we, me, ki, ro, ma) r z (nI i * nI z) (t + 1))), some (.int (nI (t + 1)))]) ⟨rfl, rfl, rfl, rfl, rfl, by rw [okM, if_pos ⟨h_57, Int32.not_lt.mp h_66⟩] <;> rfl, rfl, trivial⟩ ?_
          exact ih2 _
/-- n items moved: what stands from a on comes to b on -/
def mvA (is : Nat → Int32) (a b n : Nat) : Nat → Int32 := fun x => if b ≤ x ∧ x < b + n then is (x - b + a) else is x
def mvU (is : Nat → Int32) (a b n k : Nat) : Nat → Int32 := fun x => if b + (n - k) ≤ x ∧ x < b + n then is (x - b + a) else is x
theorem mvA_0 (is : Nat → Int32) (a b : Nat) : mvA is a b 0 = is := by
  funext x; unfold mvA; rw [if_neg (by omega)]
theorem mvU_0 (is : Nat → Int32) (a b n : Nat) : mvU is a b n 0 = is := by
  funext x; unfold mvU; rw [if_neg (by omega)]
theorem mvU_n (is : Nat → Int32) (a b n : Nat) : mvU is a b n n = mvA is a b n := by
  funext x; unfold mvU mvA; rw [Nat.sub_self, Nat.add_zero]
theorem mvA_s {is : Nat → Int32} {a b k : Nat} (h : ¬ (b ≤ a + k ∧ a + k < b + k)) : upd (mvA is a b k) (b + k) (mvA is a b k (a + k)) = mvA is a b (k + 1) := by
  have e : mvA is a b k (a + k) = is (a + k) := if_neg h
  rw [e]
  funext x
  unfold mvA upd
  by_cases hx : x = b + k
  · rw [if_pos hx, if_pos (by omega), hx, show b + k - b + a = a + k by omega]
  · rw [if_neg hx]
    show (if b ≤ x ∧ x < b + k then is (x - b + a) else is x) = _
    by_cases h2 : b ≤ x ∧ x < b + k
    · rw [if_pos h2, if_pos (by omega)]
    · rw [if_neg h2, if_neg (by omega)]
theorem mvU_s {is : Nat → Int32} {a b n k : Nat} (hk : k < n) (h : a < b) : upd (mvU is a b n k) (b + (n - 1 - k)) (mvU is a b n k (a + (n - 1 - k))) = mvU is a b n (k + 1) := by
  have e : mvU is a b n k (a + (n - 1 - k)) = is (a + (n - 1 - k)) := if_neg (by omega)
  rw [e]
  funext x
  unfold mvU upd
  by_cases hx : x = b + (n - 1 - k)
  · rw [if_pos hx, if_pos (by omega), hx, show b + (n - 1 - k) - b + a = a + (n - 1 - k) by omega]
  · rw [if_neg hx]
    show (if b + (n - k) ≤ x ∧ x < b + n then is (x - b + a) else is x) = _
    by_cases h2 : b + (n - k) ≤ x ∧ x < b + n
    · rw [if_pos h2, if_pos (by omega)]
    · rw [if_neg h2, if_neg (by omega)]
def cyM (H : MH) (s i t j n : Int32) : Int32 := if ¬ (0 ≤ s ∧ s < 4) ∨ ¬ (0 ≤ t ∧ t < 4) then -2 else if H.1 s.toNatClampNeg = 0 ∨ H.1 t.toNatClampNeg = 0 then -11 else if ¬ H.2.1 s.toNatClampNeg = H.2.1 t.toNatClampNeg then -13 else if ¬ (0 ≤ n ∧ 0 ≤ i ∧ 0 ≤ j ∧ i ≤ H.2.2.1 s.toNatClampNeg - n ∧ j ≤ H.2.2.1 t.toNatClampNeg - n) then -12 else n
def cyG (H : MH) (s i t j n : Int32) : Prop := (0 ≤ s ∧ s < 4) ∧ (0 ≤ t ∧ t < 4) ∧ ¬ H.1 s.toNatClampNeg = 0 ∧ ¬ H.1 t.toNatClampNeg = 0 ∧ H.2.1 s.toNatClampNeg = H.2.1 t.toNatClampNeg ∧ (0 ≤ n ∧ 0 ≤ i ∧ 0 ≤ j ∧ i ≤ H.2.2.1 s.toNatClampNeg - n ∧ j ≤ H.2.2.1 t.toNatClampNeg - n)
def cyH (H : MH) (s i t j n : Int32) : MH := (H.1, H.2.1, H.2.2.1, mvA H.2.2.2 (40 * s.toNatClampNeg + i.toNatClampNeg) (40 * t.toNatClampNeg + j.toNatClampNeg) n.toNatClampNeg)
theorem le_sub {i ss n : Int32} {m : Nat} (hs : ss = nI m) (hm : m ≤ 40) (hn : 0 ≤ n) (hi : 0 ≤ i) (h : i ≤ ss - n) : ∃ a b, i = nI a ∧ n = nI b ∧ a + b ≤ m := by
  have hn2 : n.toInt ≤ 2147483647 := by have := Int32.toInt_lt n; omega
  have hn0 : 0 ≤ n.toInt := by rw [Int32.le_iff_toInt_le, tI_0] at hn; exact hn
  have hi0 : 0 ≤ i.toInt := by rw [Int32.le_iff_toInt_le, tI_0] at hi; exact hi
  have e : (ss - n).toInt = (m : Int) - n.toInt := by
    rw [hs, Int32.toInt_sub, nI_toInt (by omega), Int.bmod_eq_of_le (by omega) (by omega)]
  rw [Int32.le_iff_toInt_le, e] at h
  obtain ⟨a, ha, ea⟩ := nat_of (x := i) (n := 41) hi (by rw [Int32.lt_iff_toInt_lt, nI_toInt (by omega)]; omega) (by omega)
  obtain ⟨b, hb, eb⟩ := nat_of (x := n) (n := 41) hn (by rw [Int32.lt_iff_toInt_lt, nI_toInt (by omega)]; omega) (by omega)
  refine ⟨a, b, ea, eb, ?_⟩
  rw [ea, eb, nI_toInt (by omega), nI_toInt (by omega)] at h
  omega
set_option maxRecDepth 100000 in
set_option maxHeartbeats 4000000 in
theorem c_X10_copy {X : Nat × (Nat → Int32)} {S : CS} {tl : pc_W} {T : MT} {U : MU} {Λ : ML} {C : MC} {K : MK} {it : (Nat → Int32)} {so : (Nat → Int32)} {ss : (Nat → Int32)} {is : (Nat → Int32)} {s i t j n : Int32} (hss : ∀ k, k < 4 → ¬ it k = 0 → ∃ m, m ≤ 40 ∧ ss k = nI m): Mt X 2 0 0 yX10_copy cX10_copy 9 (some .int) [.ref 42, .int s, .int i, .int t, .int j, .int n] (cst S ++ (mw T U Λ C K (it, so, ss, is) ++ tl)) (fun v w' => v = some (.int (cyM (it, so, ss, is) s i t j n)) ∧ ((cyG (it, so, ss, is) s i t j n ∧ w' = cst S ++ (mw T U Λ C K (cyH (it, so, ss, is) s i t j n) ++ tl)) ∨ (¬ cyG (it, so, ss, is) s i t j n ∧ w' = cst S ++ (mw T U Λ C K (it, so, ss, is) ++ tl)))) := by
  refine Mt.of (by decide +kernel) (fun _ _ => Nat.le_of_ble_eq_true rfl) ?_
  show Ex X mX10_copy _ _ _ _ _ _ _ _
  refine x_iload_n dX10_copy_0 rfl ?_
  refine ii_X10_405 dX10_copy_1 c_X10_isSheet (by decide) (Nat.le_of_ble_eq_true rfl) ?_
  refine x_if_eq 14 dX10_copy_4 (fun h_4 => ?_) (fun h_4 => ?_)
  · refine x_bipush (-2) dX10_copy_14 ?_
    exact Ex.ret (v := some (.int _)) ⟨dX10_copy_16, _, rfl, by first | rfl | decide⟩ ⟨congrArg (fun z => some (Value.int z)) (by unfold cyM; rw [if_pos (Or.inl (bi0.mp h_4))]), Or.inr ⟨fun q => bi0.mp h_4 q.1, rfl⟩⟩
  · refine x_iload_n dX10_copy_7 rfl ?_
    refine ii_X10_405 dX10_copy_8 c_X10_isSheet (by decide) (Nat.le_of_ble_eq_true rfl) ?_
    refine x_if_ne 17 dX10_copy_11 (fun h_11 => ?_) (fun h_11 => ?_)
    · have hop := bi1.mp h_4
      obtain ⟨p, hp, rfl⟩ := nat_of hop.1 (show s < nI 4 from hop.2) (by omega)
      have hclp : (nI p).toNatClampNeg = p := nI_clamp (by omega)
      have hoq := bi1.mp h_11
      obtain ⟨q, hq, rfl⟩ := nat_of hoq.1 (show t < nI 4 from hoq.2) (by omega)
      have hclq : (nI q).toNatClampNeg = q := nI_clamp (by omega)
      refine x_aload_n dX10_copy_17 rfl ?_
      refine mg_53 dX10_copy_18 ?_
      refine x_iload_n dX10_copy_21 rfl ?_
      refine maN_55 dX10_copy_22 hp ?_
      refine x_if_eq 35 dX10_copy_23 (fun h_23 => ?_) (fun h_23 => ?_)
      · refine x_bipush (-11) dX10_copy_35 ?_
        exact Ex.ret (v := some (.int _)) ⟨dX10_copy_37, _, rfl, by first | rfl | decide⟩ ⟨congrArg (fun z => some (Value.int z)) (by unfold cyM; rw [if_neg (fun q => q.elim (fun y => y hop) (fun y => y hoq)), hclp, hclq, if_pos (Or.inl h_23)]), Or.inr ⟨fun q => by have q := q; unfold cyG at q; rw [hclp, hclq] at q; exact q.2.2.1 h_23, rfl⟩⟩
      · refine x_aload_n dX10_copy_26 rfl ?_
        refine mg_53 dX10_copy_27 ?_
        refine x_iload_n dX10_copy_30 rfl ?_
        refine maN_55 dX10_copy_31 hq ?_
        refine x_if_ne 38 dX10_copy_32 (fun h_32 => ?_) (fun h_32 => ?_)
        · refine x_aload_n dX10_copy_38 rfl ?_
          refine mg_57 dX10_copy_39 ?_
          refine x_iload_n dX10_copy_42 rfl ?_
          refine maN_56 dX10_copy_43 hp ?_
          refine x_aload_n dX10_copy_44 rfl ?_
          refine mg_57 dX10_copy_45 ?_
          refine x_iload_n dX10_copy_48 rfl ?_
          refine maN_56 dX10_copy_49 hq ?_
          refine x_icmp_eq 56 dX10_copy_50 (fun h_50 => ?_) (fun h_50 => ?_)
          · refine x_iload dX10_copy_56 rfl ?_
            refine x_if_lt 97 dX10_copy_58 (fun h_58 => ?_) (fun h_58 => ?_)
            · refine x_bipush (-12) dX10_copy_97 ?_
              exact Ex.ret (v := some (.int _)) ⟨dX10_copy_99, _, rfl, by first | rfl | decide⟩ ⟨congrArg (fun z => some (Value.int z)) (by unfold cyM; rw [if_neg (fun q => q.elim (fun y => y hop) (fun y => y hoq)), hclp, hclq, if_neg (fun q => q.elim h_23 h_32), if_neg (fun q => q h_50), if_pos (fun q => Int32.not_lt.mpr q.1 h_58)]), Or.inr ⟨fun q => by have q := q; unfold cyG at q; rw [hclp, hclq] at q; have q := q.2.2.2.2.2; exact Int32.not_lt.mpr q.1 h_58, rfl⟩⟩
            · refine x_iload_n dX10_copy_61 rfl ?_
              refine x_if_lt 97 dX10_copy_62 (fun h_62 => ?_) (fun h_62 => ?_)
              · refine x_bipush (-12) dX10_copy_97 ?_
                exact Ex.ret (v := some (.int _)) ⟨dX10_copy_99, _, rfl, by first | rfl | decide⟩ ⟨congrArg (fun z => some (Value.int z)) (by unfold cyM; rw [if_neg (fun q => q.elim (fun y => y hop) (fun y => y hoq)), hclp, hclq, if_neg (fun q => q.elim h_23 h_32), if_neg (fun q => q h_50), if_pos (fun q => Int32.not_lt.mpr q.2.1 h_62)]), Or.inr ⟨fun q => by have q := q; unfold cyG at q; rw [hclp, hclq] at q; have q := q.2.2.2.2.2; exact Int32.not_lt.mpr q.2.1 h_62, rfl⟩⟩
              · refine x_iload dX10_copy_65 rfl ?_
                refine x_if_lt 97 dX10_copy_67 (fun h_67 => ?_) (fun h_67 => ?_)
                · refine x_bipush (-12) dX10_copy_97 ?_
                  exact Ex.ret (v := some (.int _)) ⟨dX10_copy_99, _, rfl, by first | rfl | decide⟩ ⟨congrArg (fun z => some (Value.int z)) (by unfold cyM; rw [if_neg (fun q => q.elim (fun y => y hop) (fun y => y hoq)), hclp, hclq, if_neg (fun q => q.elim h_23 h_32), if_neg (fun q => q h_50), if_pos (fun q => Int32.not_lt.mpr q.2.2.1 h_67)]), Or.inr ⟨fun q => by have q := q; unfold cyG at q; rw [hclp, hclq] at q; have q := q.2.2.2.2.2; exact Int32.not_lt.mpr q.2.2.1 h_67, rfl⟩⟩
                · refine x_iload_n dX10_copy_70 rfl ?_
                  refine x_aload_n dX10_copy_71 rfl ?_
                  refine mg_60 dX10_copy_72 ?_
                  refine x_iload_n dX10_copy_75 rfl ?_
                  refine maN_57 dX10_copy_76 hp ?_
                  refine x_iload dX10_copy_77 rfl ?_
                  refine x_isub dX10_copy_79 ?_
                  refine x_icmp_gt 97 dX10_copy_80 (fun h_80 => ?_) (fun h_80 => ?_)
                  · refine x_bipush (-12) dX10_copy_97 ?_
                    exact Ex.ret (v := some (.int _)) ⟨dX10_copy_99, _, rfl, by first | rfl | decide⟩ ⟨congrArg (fun z => some (Value.int z)) (by unfold cyM; rw [if_neg (fun q => q.elim (fun y => y hop) (fun y => y hoq)), hclp, hclq, if_neg (fun q => q.elim h_23 h_32), if_neg (fun q => q h_50), if_pos (fun q => Int32.not_lt.mpr q.2.2.2.1 h_80)]), Or.inr ⟨fun q => by have q := q; unfold cyG at q; rw [hclp, hclq] at q; have q := q.2.2.2.2.2; exact Int32.not_lt.mpr q.2.2.2.1 h_80, rfl⟩⟩
                  · refine x_iload dX10_copy_83 rfl ?_
                    refine x_aload_n dX10_copy_85 rfl ?_
                    refine mg_60 dX10_copy_86 ?_
                    refine x_iload_n dX10_copy_89 rfl ?_
                    refine maN_57 dX10_copy_90 hq ?_
                    refine x_iload dX10_copy_91 rfl ?_
                    refine x_isub dX10_copy_93 ?_
                    refine x_icmp_le 100 dX10_copy_94 (fun h_94 => ?_) (fun h_94 => ?_)
                    · obtain ⟨mp, hmp, emp⟩ := hss p hp h_23
                      obtain ⟨mq, hmq, emq⟩ := hss q hq h_32
                      have hcond : 0 ≤ n ∧ 0 ≤ i ∧ 0 ≤ j ∧ i ≤ ss p - n ∧ j ≤ ss q - n := ⟨Int32.not_lt.mp h_58, Int32.not_lt.mp h_62, Int32.not_lt.mp h_67, Int32.not_lt.mp h_80, h_94⟩
                      have hM : cyM (it, so, ss, is) (nI p) i (nI q) j n = n := by unfold cyM; rw [if_neg (fun q => q.elim (fun y => y hop) (fun y => y hoq)), hclp, hclq, if_neg (fun q => q.elim h_23 h_32), if_neg (fun q => q h_50), if_neg (fun q => q hcond)]
                      have hG : cyG (it, so, ss, is) (nI p) i (nI q) j n := by unfold cyG; rw [hclp, hclq]; exact ⟨hop, hoq, h_23, h_32, h_50, hcond⟩
                      obtain ⟨a, b, ea, eb, hab⟩ := le_sub emp hmp hcond.1 hcond.2.1 hcond.2.2.2.1
                      obtain ⟨a2, b2, ea2, eb2, hab2⟩ := le_sub emq hmq hcond.1 hcond.2.2.1 hcond.2.2.2.2
                      have hb2 : b2 = b := (nI_eq (by omega) (by omega)).mp (eb2.symm.trans eb)
                      subst hb2 ea ea2 eb
                      have hH : cyH (it, so, ss, is) (nI p) (nI a) (nI q) (nI a2) (nI b2) = (it, so, ss, mvA is (40 * p + a) (40 * q + a2) b2) := by unfold cyH; rw [hclp, hclq, nI_clamp (show a < 2 ^ 31 by omega), nI_clamp (show a2 < 2 ^ 31 by omega), nI_clamp (show b2 < 2 ^ 31 by omega)]
                      by_cases hup : nI p = nI q ∧ nI a < nI a2
                      · skip
                        have epq : p = q := (nI_eq (by omega) (by omega)).mp hup.1
                        have elt : a < a2 := (nI_ltI (by omega) (by omega)).mp hup.2
                        refine x_iload_n dX10_copy_100 rfl ?_
                        refine x_iload_n dX10_copy_101 rfl ?_
                        refine x_icmp_ne 115 dX10_copy_102 (fun hx => absurd (hup.1) hx) (fun _ => ?_)
                        refine x_iload_n dX10_copy_105 rfl ?_
                        refine x_iload dX10_copy_106 rfl ?_
                        refine x_icmp_ge 115 dX10_copy_108 (fun hx => absurd hx (Int32.not_le.mpr hup.2)) (fun _ => ?_)
                        refine x_iconst 1 dX10_copy_111 ?_
                        refine x_goto 116 dX10_copy_112 ?_
                        refine x_istore dX10_copy_116 (by decide) ?_
                        refine x_iconst 0 dX10_copy_118 ?_
                        refine x_istore dX10_copy_119 (by decide) ?_
                        refine Ex.eqW (w' := (cst S ++ (mw T U Λ C K (it, so, ss, mvU is (40 * p + a) (40 * q + a2) b2 0) ++ tl))) (by rw [mvU_0]) ?_
                        refine Ex.forget (L' := [some (.ref 42), some (.int (nI p)), some (.int (nI a)), some (.int (nI q)), some (.int (nI a2)), some (.int (nI b2)), some (.int 1), some (.int (nI 0)), none]) ⟨rfl, rfl, rfl, rfl, rfl, rfl, rfl, rfl, trivial⟩ ?_
                        refine for_up (P := fun k => Ex X mX10_copy 2 (fun v w' => v = some (.int (cyM (it, so, ss, is) (nI p) (nI a) (nI q) (nI a2) (nI b2))) ∧ ((cyG (it, so, ss, is) (nI p) (nI a) (nI q) (nI a2) (nI b2) ∧ w' = cst S ++ (mw T U Λ C K (cyH (it, so, ss, is) (nI p) (nI a) (nI q) (nI a2) (nI b2)) ++ tl)) ∨ (¬ cyG (it, so, ss, is) (nI p) (nI a) (nI q) (nI a2) (nI b2) ∧ w' = cst S ++ (mw T U Λ C K (it, so, ss, is) ++ tl)))) 0 0 121 [some (.ref 42), some (.int (nI p)), some (.int (nI a)), some (.int (nI q)), some (.int (nI a2)), some (.int (nI b2)), some (.int 1), some (.int (nI k)), none] [] (cst S ++ (mw T U Λ C K (it, so, ss, mvU is (40 * p + a) (40 * q + a2) b2 k) ++ tl))) (b2) ?_ (fun k hk ih => ?_) (0) (Nat.zero_le _)
                        · refine x_iload dX10_copy_121 rfl ?_
                          refine x_iload dX10_copy_123 rfl ?_
                          refine x_icmp_ge 182 dX10_copy_125 (fun _ => ?_) (fun hx => absurd (Int32.le_refl _) hx)
                          refine x_iload dX10_copy_182 rfl ?_
                          exact Ex.ret (v := some (.int _)) ⟨dX10_copy_184, _, rfl, by first | rfl | decide⟩ ⟨congrArg (fun z => some (Value.int z)) hM.symm, Or.inl ⟨hG, by rw [hH, mvU_n]⟩⟩
                        · refine x_iload dX10_copy_121 rfl ?_
                          refine x_iload dX10_copy_123 rfl ?_
                          refine x_icmp_ge 182 dX10_copy_125 (fun hx => absurd hx (nI_ge hk (by omega))) (fun _ => ?_)
                          refine x_iload dX10_copy_128 rfl ?_
                          refine x_if_eq 143 dX10_copy_130 (fun hx => absurd hx (by decide)) (fun _ => ?_)
                          refine x_iload dX10_copy_133 rfl ?_
                          refine x_iconst 1 dX10_copy_135 ?_
                          refine x_isub dX10_copy_136 ?_
                          refine x_iload dX10_copy_137 rfl ?_
                          refine x_isub dX10_copy_139 ?_
                          refine x_goto 145 dX10_copy_140 ?_
                          rw [show nI b2 - 1 - nI k = nI (b2 - 1 - k) from by rw [isub1 (by omega), pk_sub (by omega)]]
                          refine x_istore dX10_copy_145 (by decide) ?_
                          refine x_aload_n dX10_copy_147 rfl ?_
                          refine mg_63 dX10_copy_148 ?_
                          refine x_bipush 40 dX10_copy_151 ?_
                          refine x_iload_n dX10_copy_153 rfl ?_
                          refine x_imul dX10_copy_154 ?_
                          refine x_iload dX10_copy_155 rfl ?_
                          refine x_iadd dX10_copy_157 ?_
                          refine x_iload dX10_copy_158 rfl ?_
                          refine x_iadd dX10_copy_160 ?_
                          rw [show (40 : Int32) * nI q + nI a2 + nI (b2 - 1 - k) = nI (40 * q + a2 + (b2 - 1 - k)) from by rw [show (40 : Int32) * nI q = nI (40 * q) from pk_mul 40 q, nI_add, nI_add]]
                          refine x_aload_n dX10_copy_161 rfl ?_
                          refine mg_63 dX10_copy_162 ?_
                          refine x_bipush 40 dX10_copy_165 ?_
                          refine x_iload_n dX10_copy_167 rfl ?_
                          refine x_imul dX10_copy_168 ?_
                          refine x_iload_n dX10_copy_169 rfl ?_
                          refine x_iadd dX10_copy_170 ?_
                          refine x_iload dX10_copy_171 rfl ?_
                          refine x_iadd dX10_copy_173 ?_
                          rw [show (40 : Int32) * nI p + nI a + nI (b2 - 1 - k) = nI (40 * p + a + (b2 - 1 - k)) from by rw [show (40 : Int32) * nI p = nI (40 * p) from pk_mul 40 p, nI_add, nI_add]]
                          refine maN_58 dX10_copy_174 (show 40 * p + a + (b2 - 1 - k) < 160 by omega) ?_
                          refine msN_58 dX10_copy_175 (show 40 * q + a2 + (b2 - 1 - k) < 160 by omega) ?_
                          refine x_iincN dX10_copy_176 rfl (by decide) ?_
                          refine x_goto 121 dX10_copy_179 ?_
                          refine Ex.eqW (w' := (cst S ++ (mw T U Λ C K (it, so, ss, mvU is (40 * p + a) (40 * q + a2) b2 (k + 1)) ++ tl))) (by rw [mvU_s hk (by omega)]) ?_
                          refine Ex.forget (L' := [some (.ref 42), some (.int (nI p)), some (.int (nI a)), some (.int (nI q)), some (.int (nI a2)), some (.int (nI b2)), some (.int 1), some (.int (nI (k + 1))), none]) ⟨rfl, rfl, rfl, rfl, rfl, rfl, rfl, rfl, trivial⟩ ?_
                          exact ih
                      · skip
                        have hup2 : ¬ (p = q ∧ a < a2) := fun z => hup ⟨by rw [z.1], nI_lt z.2 (by omega)⟩
                        refine x_iload_n dX10_copy_100 rfl ?_
                        refine x_iload_n dX10_copy_101 rfl ?_
                        refine x_icmp_ne 115 dX10_copy_102 (fun h_102 => ?_) (fun h_102 => ?_)
                        · refine x_iconst 0 dX10_copy_115 ?_
                          refine x_istore dX10_copy_116 (by decide) ?_
                          refine x_iconst 0 dX10_copy_118 ?_
                          refine x_istore dX10_copy_119 (by decide) ?_
                          refine Ex.eqW (w' := (cst S ++ (mw T U Λ C K (it, so, ss, mvA is (40 * p + a) (40 * q + a2) 0) ++ tl))) (by rw [mvA_0]) ?_
                          refine Ex.forget (L' := [some (.ref 42), some (.int (nI p)), some (.int (nI a)), some (.int (nI q)), some (.int (nI a2)), some (.int (nI b2)), some (.int 0), some (.int (nI 0)), none]) ⟨rfl, rfl, rfl, rfl, rfl, rfl, rfl, rfl, trivial⟩ ?_
                          refine for_up (P := fun k => Ex X mX10_copy 2 (fun v w' => v = some (.int (cyM (it, so, ss, is) (nI p) (nI a) (nI q) (nI a2) (nI b2))) ∧ ((cyG (it, so, ss, is) (nI p) (nI a) (nI q) (nI a2) (nI b2) ∧ w' = cst S ++ (mw T U Λ C K (cyH (it, so, ss, is) (nI p) (nI a) (nI q) (nI a2) (nI b2)) ++ tl)) ∨ (¬ cyG (it, so, ss, is) (nI p) (nI a) (nI q) (nI a2) (nI b2) ∧ w' = cst S ++ (mw T U Λ C K (it, so, ss, is) ++ tl)))) 0 0 121 [some (.ref 42), some (.int (nI p)), some (.int (nI a)), some (.int (nI q)), some (.int (nI a2)), some (.int (nI b2)), some (.int 0), some (.int (nI k)), none] [] (cst S ++ (mw T U Λ C K (it, so, ss, mvA is (40 * p + a) (40 * q + a2) k) ++ tl))) (b2) ?_ (fun k hk ih => ?_) (0) (Nat.zero_le _)
                          · refine x_iload dX10_copy_121 rfl ?_
                            refine x_iload dX10_copy_123 rfl ?_
                            refine x_icmp_ge 182 dX10_copy_125 (fun _ => ?_) (fun hx => absurd (Int32.le_refl _) hx)
                            refine x_iload dX10_copy_182 rfl ?_
                            exact Ex.ret (v := some (.int _)) ⟨dX10_copy_184, _, rfl, by first | rfl | decide⟩ ⟨congrArg (fun z => some (Value.int z)) hM.symm, Or.inl ⟨hG, by rw [hH]⟩⟩
                          · refine x_iload dX10_copy_121 rfl ?_
                            refine x_iload dX10_copy_123 rfl ?_
                            refine x_icmp_ge 182 dX10_copy_125 (fun hx => absurd hx (nI_ge hk (by omega))) (fun _ => ?_)
                            refine x_iload dX10_copy_128 rfl ?_
                            refine x_if_eq 143 dX10_copy_130 (fun _ => ?_) (fun hx => absurd (rfl) hx)
                            refine x_iload dX10_copy_143 rfl ?_
                            refine x_istore dX10_copy_145 (by decide) ?_
                            refine x_aload_n dX10_copy_147 rfl ?_
                            refine mg_63 dX10_copy_148 ?_
                            refine x_bipush 40 dX10_copy_151 ?_
                            refine x_iload_n dX10_copy_153 rfl ?_
                            refine x_imul dX10_copy_154 ?_
                            refine x_iload dX10_copy_155 rfl ?_
                            refine x_iadd dX10_copy_157 ?_
                            refine x_iload dX10_copy_158 rfl ?_
                            refine x_iadd dX10_copy_160 ?_
                            rw [show (40 : Int32) * nI q + nI a2 + nI k = nI (40 * q + a2 + k) from by rw [show (40 : Int32) * nI q = nI (40 * q) from pk_mul 40 q, nI_add, nI_add]]
                            refine x_aload_n dX10_copy_161 rfl ?_
                            refine mg_63 dX10_copy_162 ?_
                            refine x_bipush 40 dX10_copy_165 ?_
                            refine x_iload_n dX10_copy_167 rfl ?_
                            refine x_imul dX10_copy_168 ?_
                            refine x_iload_n dX10_copy_169 rfl ?_
                            refine x_iadd dX10_copy_170 ?_
                            refine x_iload dX10_copy_171 rfl ?_
                            refine x_iadd dX10_copy_173 ?_
                            rw [show (40 : Int32) * nI p + nI a + nI k = nI (40 * p + a + k) from by rw [show (40 : Int32) * nI p = nI (40 * p) from pk_mul 40 p, nI_add, nI_add]]
                            refine maN_58 dX10_copy_174 (show 40 * p + a + k < 160 by omega) ?_
                            refine msN_58 dX10_copy_175 (show 40 * q + a2 + k < 160 by omega) ?_
                            refine x_iincN dX10_copy_176 rfl (by decide) ?_
                            refine x_goto 121 dX10_copy_179 ?_
                            refine Ex.eqW (w' := (cst S ++ (mw T U Λ C K (it, so, ss, mvA is (40 * p + a) (40 * q + a2) (k + 1)) ++ tl))) (by rw [mvA_s (by omega)]) ?_
                            refine Ex.forget (L' := [some (.ref 42), some (.int (nI p)), some (.int (nI a)), some (.int (nI q)), some (.int (nI a2)), some (.int (nI b2)), some (.int 0), some (.int (nI (k + 1))), none]) ⟨rfl, rfl, rfl, rfl, rfl, rfl, rfl, rfl, trivial⟩ ?_
                            exact ih
                        · refine x_iload_n dX10_copy_105 rfl ?_
                          refine x_iload dX10_copy_106 rfl ?_
                          refine x_icmp_ge 115 dX10_copy_108 (fun _ => ?_) (fun hx => absurd (Int32.not_lt.mp (fun z => hup ⟨h_102, z⟩)) hx)
                          refine x_iconst 0 dX10_copy_115 ?_
                          refine x_istore dX10_copy_116 (by decide) ?_
                          refine x_iconst 0 dX10_copy_118 ?_
                          refine x_istore dX10_copy_119 (by decide) ?_
                          refine Ex.eqW (w' := (cst S ++ (mw T U Λ C K (it, so, ss, mvA is (40 * p + a) (40 * q + a2) 0) ++ tl))) (by rw [mvA_0]) ?_
                          refine Ex.forget (L' := [some (.ref 42), some (.int (nI p)), some (.int (nI a)), some (.int (nI q)), some (.int (nI a2)), some (.int (nI b2)), some (.int 0), some (.int (nI 0)), none]) ⟨rfl, rfl, rfl, rfl, rfl, rfl, rfl, rfl, trivial⟩ ?_
                          refine for_up (P := fun k => Ex X mX10_copy 2 (fun v w' => v = some (.int (cyM (it, so, ss, is) (nI p) (nI a) (nI q) (nI a2) (nI b2))) ∧ ((cyG (it, so, ss, is) (nI p) (nI a) (nI q) (nI a2) (nI b2) ∧ w' = cst S ++ (mw T U Λ C K (cyH (it, so, ss, is) (nI p) (nI a) (nI q) (nI a2) (nI b2)) ++ tl)) ∨ (¬ cyG (it, so, ss, is) (nI p) (nI a) (nI q) (nI a2) (nI b2) ∧ w' = cst S ++ (mw T U Λ C K (it, so, ss, is) ++ tl)))) 0 0 121 [some (.ref 42), some (.int (nI p)), some (.int (nI a)), some (.int (nI q)), some (.int (nI a2)), some (.int (nI b2)), some (.int 0), some (.int (nI k)), none] [] (cst S ++ (mw T U Λ C K (it, so, ss, mvA is (40 * p + a) (40 * q + a2) k) ++ tl))) (b2) ?_ (fun k hk ih => ?_) (0) (Nat.zero_le _)
                          · refine x_iload dX10_copy_121 rfl ?_
                            refine x_iload dX10_copy_123 rfl ?_
                            refine x_icmp_ge 182 dX10_copy_125 (fun _ => ?_) (fun hx => absurd (Int32.le_refl _) hx)
                            refine x_iload dX10_copy_182 rfl ?_
                            exact Ex.ret (v := some (.int _)) ⟨dX10_copy_184, _, rfl, by first | rfl | decide⟩ ⟨congrArg (fun z => some (Value.int z)) hM.symm, Or.inl ⟨hG, by rw [hH]⟩⟩
                          · refine x_iload dX10_copy_121 rfl ?_
                            refine x_iload dX10_copy_123 rfl ?_
                            refine x_icmp_ge 182 dX10_copy_125 (fun hx => absurd hx (nI_ge hk (by omega))) (fun _ => ?_)
                            refine x_iload dX10_copy_128 rfl ?_
                            refine x_if_eq 143 dX10_copy_130 (fun _ => ?_) (fun hx => absurd (rfl) hx)
                            refine x_iload dX10_copy_143 rfl ?_
                            refine x_istore dX10_copy_145 (by decide) ?_
                            refine x_aload_n dX10_copy_147 rfl ?_
                            refine mg_63 dX10_copy_148 ?_
                            refine x_bipush 40 dX10_copy_151 ?_
                            refine x_iload_n dX10_copy_153 rfl ?_
                            refine x_imul dX10_copy_154 ?_
                            refine x_iload dX10_copy_155 rfl ?_
                            refine x_iadd dX10_copy_157 ?_
                            refine x_iload dX10_copy_158 rfl ?_
                            refine x_iadd dX10_copy_160 ?_
                            rw [show (40 : Int32) * nI q + nI a2 + nI k = nI (40 * q + a2 + k) from by rw [show (40 : Int32) * nI q = nI (40 * q) from pk_mul 40 q, nI_add, nI_add]]
                            refine x_aload_n dX10_copy_161 rfl ?_
                            refine mg_63 dX10_copy_162 ?_
                            refine x_bipush 40 dX10_copy_165 ?_
                            refine x_iload_n dX10_copy_167 rfl ?_
                            refine x_imul dX10_copy_168 ?_
                            refine x_iload_n dX10_copy_169 rfl ?_
                            refine x_iadd dX10_copy_170 ?_
                            refine x_iload dX10_copy_171 rfl ?_
                            refine x_iadd dX10_copy_173 ?_
                            rw [show (40 : Int32) * nI p + nI a + nI k = nI (40 * p + a + k) from by rw [show (40 : Int32) * nI p = nI (40 * p) from pk_mul 40 p, nI_add, nI_add]]
                            refine maN_58 dX10_copy_174 (show 40 * p + a + k < 160 by omega) ?_
                            refine msN_58 dX10_copy_175 (show 40 * q + a2 + k < 160 by omega) ?_
                            refine x_iincN dX10_copy_176 rfl (by decide) ?_
                            refine x_goto 121 dX10_copy_179 ?_
                            refine Ex.eqW (w' := (cst S ++ (mw T U Λ C K (it, so, ss, mvA is (40 * p + a) (40 * q + a2) (k + 1)) ++ tl))) (by rw [mvA_s (by omega)]) ?_
                            refine Ex.forget (L' := [some (.ref 42), some (.int (nI p)), some (.int (nI a)), some (.int (nI q)), some (.int (nI a2)), some (.int (nI b2)), some (.int 0), some (.int (nI (k + 1))), none]) ⟨rfl, rfl, rfl, rfl, rfl, rfl, rfl, rfl, trivial⟩ ?_
                            exact ih
                    · refine x_bipush (-12) dX10_copy_97 ?_
                      exact Ex.ret (v := some (.int _)) ⟨dX10_copy_99, _, rfl, by first | rfl | decide⟩ ⟨congrArg (fun z => some (Value.int z)) (by unfold cyM; rw [if_neg (fun q => q.elim (fun y => y hop) (fun y => y hoq)), hclp, hclq, if_neg (fun q => q.elim h_23 h_32), if_neg (fun q => q h_50), if_pos (fun q => h_94 q.2.2.2.2)]), Or.inr ⟨fun q => by have q := q; unfold cyG at q; rw [hclp, hclq] at q; have q := q.2.2.2.2.2; exact h_94 q.2.2.2.2, rfl⟩⟩
          · refine x_bipush (-13) dX10_copy_53 ?_
            exact Ex.ret (v := some (.int _)) ⟨dX10_copy_55, _, rfl, by first | rfl | decide⟩ ⟨congrArg (fun z => some (Value.int z)) (by unfold cyM; rw [if_neg (fun q => q.elim (fun y => y hop) (fun y => y hoq)), hclp, hclq, if_neg (fun q => q.elim h_23 h_32), if_pos h_50]), Or.inr ⟨fun q => by have q := q; unfold cyG at q; rw [hclp, hclq] at q; exact h_50 q.2.2.2.2.1, rfl⟩⟩
        · refine x_bipush (-11) dX10_copy_35 ?_
          exact Ex.ret (v := some (.int _)) ⟨dX10_copy_37, _, rfl, by first | rfl | decide⟩ ⟨congrArg (fun z => some (Value.int z)) (by unfold cyM; rw [if_neg (fun q => q.elim (fun y => y hop) (fun y => y hoq)), hclp, hclq, if_pos (Or.inr h_32)]), Or.inr ⟨fun q => by have q := q; unfold cyG at q; rw [hclp, hclq] at q; exact q.2.2.2.1 h_32, rfl⟩⟩
    · refine x_bipush (-2) dX10_copy_14 ?_
      exact Ex.ret (v := some (.int _)) ⟨dX10_copy_16, _, rfl, by first | rfl | decide⟩ ⟨congrArg (fun z => some (Value.int z)) (by unfold cyM; rw [if_pos (Or.inr (bi0.mp h_11))]), Or.inr ⟨fun q => bi0.mp h_11 q.2.1, rfl⟩⟩
