theorem wt_TX {τ : TV} {S : CS} {tl : pc_W} {r : Nat} {T : OT} {nm sk : Nat → Int32} {F : Nat → ST} (h : TXr τ S tl r) : TXr τ (wtS S T nm sk F) tl r := by
  unfold TXr TCell at h ⊢
  simp only [wt_mt, wt_te]
  exact h
theorem suF_suF {T : OT} {p : Nat} {what x y : Int32} : suF (suF T p what x) p what y = suF T p what y := by
  unfold suF
  by_cases h1 : what = 1
  · rw [if_pos h1, if_pos h1, if_pos h1]
    show uo_ki (uo_ki T _) (upd (upd (o_ki T) p x) p y) = _
    rw [upd_upd]
  · rw [if_neg h1, if_neg h1, if_neg h1]
    by_cases h2 : what = 2
    · rw [if_pos h2, if_pos h2, if_pos h2]
      show uo_nu (uo_nu T _) (upd (upd (o_nu T) p x) p y) = _
      rw [upd_upd]
    · rw [if_neg h2, if_neg h2, if_neg h2]
      by_cases h7 : what = 7
      · rw [if_pos h7, if_pos h7, if_pos h7]
      · rw [if_neg h7, if_neg h7, if_neg h7]
        show uo_we (uo_we T _) (upd (upd (o_we T) _ _) _ _) = _
        rw [upd_upd]
def btF (g : Nat → Int32) : Nat → Int32
  | 0 => 0
  | i + 1 => if g i = -1 then btF g i ||| ((1 : Int32) <<< (nI i &&& 31)) else btF g i
set_option maxRecDepth 100000 in
theorem c_X9_bitsTold {X : Nat × (Nat → Int32)} {S : CS} {tl : pc_W} {T : OT} {nm sk : Nat → Int32} {f : Nat → ST} {a b : Int32} {c : Nat → Int32} {τ : TV} {p k N : Nat} {what : Int32} {rr : Nat → Nat} {g : Nat → Int32} (hX : ∀ i, i < N → TXr τ S tl (rr i) ∧ o_ru (suF T p what (nI i)) = nI (rr i)) (hg : ∀ i, i < N → g i = foF (thF τ (suF T p what (nI i)) (rr i) p) c 8 0) (hp6 : p < 6) (hk : k < 4) (hN : N ≤ 64) (hw : ¬ what = 1 → ¬ what = 2 → ¬ what = 7 → vp_in (what - 10) 8) : Mt X 6 0 0 yX9_bitsTold cX9_bitsTold 7 (some .int) [.ref 0, .ref (shP k), .int (nI p), .int what, .int (nI N)] (cst (wtS S T nm sk (shU f k (a, b, c))) ++ tl) (fun v w' => ∃ T' nm' sk', v = some (.int (btF g N)) ∧ w' = cst (wtS S T' nm' sk' (shU f k (a, b, c))) ++ tl) := by
  refine Mt.of (by decide +kernel) (fun _ _ => Nat.le_of_ble_eq_true rfl) ?_
  show Ex X mX9_bitsTold _ _ _ _ _ _ _ _
  refine x_iconst 0 dX9_bitsTold_0 ?_
  refine x_istore dX9_bitsTold_1 (by decide) ?_
  refine x_iconst 0 dX9_bitsTold_3 ?_
  refine x_istore dX9_bitsTold_4 (by decide) ?_
  refine Ex.forget (L' := [some (.ref 0), some (.ref (shP k)), some (.int (nI p)), some (.int what), some (.int (nI N)), some (.int (btF g 0)), some (.int (nI 0))]) ⟨rfl, rfl, rfl, rfl, rfl, rfl, rfl, trivial⟩ ?_
  refine for_up (P := fun i => ∀ T1 nm1 sk1, (∀ x, suF T1 p what x = suF T p what x) → Ex X mX9_bitsTold 6 (fun v w' => ∃ T' nm' sk', v = some (.int (btF g N)) ∧ w' = cst (wtS S T' nm' sk' (shU f k (a, b, c))) ++ tl) 0 0 6 [some (.ref 0), some (.ref (shP k)), some (.int (nI p)), some (.int what), some (.int (nI N)), some (.int (btF g i)), some (.int (nI i))] [] (cst (wtS S T1 nm1 sk1 (shU f k (a, b, c))) ++ tl)) N ?_ (fun i hi ih => ?_) 0 (Nat.zero_le _) T nm sk (fun _ => rfl)
  · intro T1 nm1 sk1 hs
    refine x_iload dX9_bitsTold_6 rfl ?_
    refine x_iload dX9_bitsTold_8 rfl ?_
    refine x_icmp_ge 45 dX9_bitsTold_10 (fun _ => ?_) (fun z => absurd (nI_le (Nat.le_refl _) (by omega)) z)
    refine x_iload dX9_bitsTold_45 rfl ?_
    exact Ex.ret (v := some (.int _)) ⟨dX9_bitsTold_47, _, rfl, rfl⟩ ⟨T1, nm1, sk1, rfl, rfl⟩
  · intro T1 nm1 sk1 hs
    refine x_iload dX9_bitsTold_6 rfl ?_
    refine x_iload dX9_bitsTold_8 rfl ?_
    refine x_icmp_ge 45 dX9_bitsTold_10 (fun z => absurd z (nI_ge hi (by omega))) (fun _ => ?_)
    refine x_aload_n dX9_bitsTold_13 rfl ?_
    refine x_iload_n dX9_bitsTold_14 rfl ?_
    refine x_iload_n dX9_bitsTold_15 rfl ?_
    refine x_iload dX9_bitsTold_16 rfl ?_
    refine ii_X9_297 dX9_bitsTold_18 (c_suppose_w hp6 hw) rfl (by decide) (Nat.le_of_ble_eq_true rfl) ?_
    rw [hs (nI i)]
    refine x_aload_n dX9_bitsTold_21 rfl ?_
    refine x_aload_n dX9_bitsTold_22 rfl ?_
    refine x_iload_n dX9_bitsTold_23 rfl ?_
    refine iv_X9_300 dX9_bitsTold_24 (c_isJustSo_w (wt_TX (hX i hi).1) (hX i hi).2 hp6 hk) rfl (by decide) (Nat.le_of_ble_eq_true rfl) (fun v w' h => ?_)
    obtain ⟨nm2, sk2, rfl, rfl⟩ := h
    rw [← hg i hi]
    refine x_if_eq 39 dX9_bitsTold_27 (fun z => ?_) (fun z => ?_)
    · refine x_iincN dX9_bitsTold_39 rfl (by decide) ?_
      refine x_goto 6 dX9_bitsTold_42 ?_
      refine Ex.forget (L' := [some (.ref 0), some (.ref (shP k)), some (.int (nI p)), some (.int what), some (.int (nI N)), some (.int (btF g (i + 1))), some (.int (nI (i + 1)))]) ⟨rfl, rfl, rfl, rfl, rfl, by rw [btF, if_neg (bi0.mp z)] <;> rfl, rfl, trivial⟩ ?_
      exact ih _ _ _ (fun x => suF_suF)
    · refine x_iload dX9_bitsTold_30 rfl ?_
      refine x_iconst 1 dX9_bitsTold_32 ?_
      refine x_iload dX9_bitsTold_33 rfl ?_
      refine x_ishl dX9_bitsTold_35 ?_
      refine x_ior dX9_bitsTold_36 ?_
      refine x_istore dX9_bitsTold_37 (by decide) ?_
      refine x_iincN dX9_bitsTold_39 rfl (by decide) ?_
      refine x_goto 6 dX9_bitsTold_42 ?_
      refine Ex.forget (L' := [some (.ref 0), some (.ref (shP k)), some (.int (nI p)), some (.int what), some (.int (nI N)), some (.int (btF g (i + 1))), some (.int (nI (i + 1)))]) ⟨rfl, rfl, rfl, rfl, rfl, by rw [btF, if_pos (bi1.mp z)] <;> rfl, rfl, trivial⟩ ?_
      exact ih _ _ _ (fun x => suF_suF)
