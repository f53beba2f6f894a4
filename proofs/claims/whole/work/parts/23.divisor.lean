theorem iadd_n1 (n : Nat) : nI (n + 1) + (-1) = nI n := by
  have h := isub1 (n := n + 1) (by omega)
  rw [Nat.add_sub_cancel] at h
  rw [← h, Int32.sub_eq_add_neg]
/-- the greatest that divides both, from n on down -/
def cdF (a b : Int32) : Nat → Int32
  | 0 => 1
  | n + 1 => if n = 0 then 1 else if a - a / nI (n + 1) * nI (n + 1) = 0 ∧ b - b / nI (n + 1) * nI (n + 1) = 0 then nI (n + 1) else cdF a b n
theorem nI_n0 {n : Nat} (h : n < 100) : ¬ nI (n + 1) = 0 := fun q => nI_ge (a := 0) (b := n + 1) (by omega) (by omega) (by rw [q]; decide)
set_option maxRecDepth 100000 in
set_option maxHeartbeats 4000000 in
theorem c_X9_commonDivisor {X : Nat × (Nat → Int32)} {w : pc_W} {a : Int32} {b : Nat} (hb : b ≤ 40): Mt X 0 0 0 yX9_commonDivisor cX9_commonDivisor 3 (some .int) [.int a, .int (nI b)] w (RI (cdF a (nI b) b) w) := by
  refine Mt.of (by decide +kernel) (fun _ _ => Nat.le_of_ble_eq_true rfl) ?_
  show Ex X mX9_commonDivisor _ _ _ _ _ _ _ _
  refine x_iload_n dX9_commonDivisor_0 rfl ?_
  refine x_istore_n dX9_commonDivisor_1 (by decide) ?_
  refine Nat.rec (motive := fun n => n ≤ b → Ex X mX9_commonDivisor 0 (RI (cdF a (nI b) n) w) 0 0 2 [some (.int a), some (.int (nI b)), some (.int (nI n))] [] w) ?_ (fun n ih => ?_) b (Nat.le_refl b)
  · intro _
    refine x_iload_n dX9_commonDivisor_2 rfl ?_
    refine x_iconst 1 dX9_commonDivisor_3 ?_
    refine x_icmp_le 27 dX9_commonDivisor_4 (fun _ => ?_) (fun hx => absurd (by decide) hx)
    refine x_iconst 1 dX9_commonDivisor_27 ?_
    exact Ex.ret (v := some (.int _)) ⟨dX9_commonDivisor_28, _, rfl, rfl⟩ ⟨rfl, rfl⟩
  · intro hn
    refine x_iload_n dX9_commonDivisor_2 rfl ?_
    refine x_iconst 1 dX9_commonDivisor_3 ?_
    refine x_icmp_le 27 dX9_commonDivisor_4 (fun h_4 => ?_) (fun h_4 => ?_)
    · refine x_iconst 1 dX9_commonDivisor_27 ?_
      exact Ex.ret (v := some (.int _)) ⟨dX9_commonDivisor_28, _, rfl, rfl⟩ ⟨congrArg (fun z => some (Value.int z)) (by rw [cdF, if_pos (by rcases Nat.eq_zero_or_pos n with q | q; exact q; exact absurd h_4 (nI_ge (a := 1) (b := n + 1) (by omega) (by omega)))]), rfl⟩
    · have hn0 : ¬ n = 0 := (by intro q; rw [q] at h_4; exact h_4 (by decide))
      refine x_iload_n dX9_commonDivisor_7 rfl ?_
      refine x_iload_n dX9_commonDivisor_8 rfl ?_
      refine x_irem dX9_commonDivisor_9 (nI_n0 (by omega)) ?_
      refine x_if_ne 21 dX9_commonDivisor_10 (fun h_10 => ?_) (fun h_10 => ?_)
      · refine x_iinc (-1) dX9_commonDivisor_21 rfl (by decide) ?_
        rw [iadd_n1]
        refine x_goto 2 dX9_commonDivisor_24 ?_
        rw [show cdF a (nI b) (n + 1) = cdF a (nI b) n from (by rw [cdF, if_neg hn0, if_neg (fun q => h_10 q.1)])]
        exact ih (by omega)
      · refine x_iload_n dX9_commonDivisor_13 rfl ?_
        refine x_iload_n dX9_commonDivisor_14 rfl ?_
        refine x_irem dX9_commonDivisor_15 (nI_n0 (by omega)) ?_
        refine x_if_ne 21 dX9_commonDivisor_16 (fun h_16 => ?_) (fun h_16 => ?_)
        · refine x_iinc (-1) dX9_commonDivisor_21 rfl (by decide) ?_
          rw [iadd_n1]
          refine x_goto 2 dX9_commonDivisor_24 ?_
          rw [show cdF a (nI b) (n + 1) = cdF a (nI b) n from (by rw [cdF, if_neg hn0, if_neg (fun q => h_16 q.2)])]
          exact ih (by omega)
        · refine x_iload_n dX9_commonDivisor_19 rfl ?_
          exact Ex.ret (v := some (.int _)) ⟨dX9_commonDivisor_20, _, rfl, rfl⟩ ⟨congrArg (fun z => some (Value.int z)) (by rw [cdF, if_neg hn0, if_pos ⟨h_10, h_16⟩]), rfl⟩
