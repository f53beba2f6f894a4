set_option maxRecDepth 100000 in
theorem c_X2_init {X : Nat × (Nat → Int32)} {w : pc_W} {r : Nat} (hr : w[r]? = some (.inr (1, [.null, .int 0, .null]))) : Mt X 2 4 174 yX2_init cX2_init 1 none [.ref r] w (RV (w.set r (.inr (1, [(.ref w.length : Value), .int 0, .ref (w.length + 1)])) ++ [.inl (2, (6, .inr (.inr (.inr (.inr (fun _ => none)))))), .inr (0, [.ref (w.length + 2), .ref (w.length + 3)]), .inl (0, (6, .inl (fun _ => 0))), .inl (0, (160, .inl (fun _ => 0)))])) := by
  have hrl : r < w.length := (List.getElem?_eq_some_iff.mp hr).1
  refine Mt.of (by decide +kernel) (fun _ _ => Nat.le_of_ble_eq_true rfl) ?_
  show Ex X mX2_init _ _ _ _ _ _ _ _
  refine x_aload_n dX2_init_0 rfl ?_
  refine x_objInit dX2_init_1 ko_X2_3 kn_obj kc_obj (by decide) (Nat.le_of_ble_eq_true rfl) ?_
  refine Ex.eqW (w' := w.set r (.inr (1, [.null, .int 0, .null]))) (set_id hr).symm ?_
  refine x_aload_n dX2_init_4 rfl ?_
  refine x_bipush 6 dX2_init_5 ?_
  refine Ex.more (cb := 3 + 1) (sb := 168 + 6) (by omega) (by omega) ?_
  refine x_newA (t := 2) (N := 6) dX2_init_7 (fun _ => rfl) (fun _ _ _ _ hG => hG.2.2.2.2.2.2.1) kl_X2_9 (by decide) (by decide) (by decide) ?_
  rw [List.length_set]
  refine pf_X2_11 (fs := [.null, .int 0, .null]) dX2_init_10 ((List.getElem?_append_left (by rw [List.length_set]; exact hrl)).trans (List.getElem?_set_self hrl)) (Nat.le_of_ble_eq_true rfl) (fun _ _ => ⟨rfl, rfl⟩) ?_
  refine Ex.eqW (w' := w.set r (.inr (1, [.ref w.length, .int 0, .null])) ++ [.inl (2, (6, .inr (.inr (.inr (.inr (fun _ => none))))))]) ((List.set_append_left _ _ (by rw [List.length_set]; exact hrl)).trans (congrArg (· ++ _) (List.set_set _))) ?_
  refine x_aload_n dX2_init_13 rfl ?_
  refine x_iconst 0 dX2_init_14 ?_
  refine pf_X2_17 (fs := [.ref w.length, .int 0, .null]) dX2_init_15 ((List.getElem?_append_left (by rw [List.length_set]; exact hrl)).trans (List.getElem?_set_self hrl)) (Nat.le_of_ble_eq_true rfl) (fun _ _ => ⟨rfl, rfl⟩) ?_
  refine Ex.eqW (w' := w.set r (.inr (1, [.ref w.length, .int 0, .null])) ++ [.inl (2, (6, .inr (.inr (.inr (.inr (fun _ => none))))))]) ((List.set_append_left _ _ (by rw [List.length_set]; exact hrl)).trans (congrArg (· ++ _) (List.set_set _))) ?_
  refine x_aload_n dX2_init_18 rfl ?_
  refine Ex.more (cb := 2 + 1) (sb := 166 + 2) (by omega) (by omega) ?_
  refine x_new (ci := 0) (C := RX1) (T := TX1) (N := 2) (ty0 := tyX1) [.null, .null] dX2_init_19 (gw_lays inX1) tyX1_ok rfl kl_X2_21 kz_X1 ki_X1 (by intro j hj; match j, hj with | 0, _ => rfl | 1, _ => rfl) (by intro v hv ad sa; simp only [List.mem_cons, List.not_mem_nil, or_false] at hv; rcases hv with rfl | rfl <;> rfl) (by intro v hv k; simp only [List.mem_cons, List.not_mem_nil, or_false] at hv; rcases hv with rfl | rfl <;> trivial) ?_
  rw [show (w.set r (.inr (1, [.ref w.length, .int 0, .null])) ++ [.inl (2, (6, .inr (.inr (.inr (.inr (fun _ => none))))))] : pc_W).length = w.length + 1 from by rw [List.length_append, List.length_set]; rfl]
  refine Ex.eqW (w' := w.set r (.inr (1, [.ref w.length, .int 0, .null])) ++ [.inl (2, (6, .inr (.inr (.inr (.inr (fun _ => none)))))), .inr (0, [.null, .null])]) (List.append_assoc _ _ _) ?_
  refine x_dup dX2_init_22 ?_
  refine Ex.more (cb := 0 + 2) (sb := 0 + 166) (by omega) (by omega) ?_
  refine ia_X2_23 dX2_init_23 (c_X1_init (by rw [List.getElem?_append_right (by rw [List.length_set]; omega), List.length_set, show w.length + 1 - w.length = 1 by omega]; rfl)) (by decide) (Nat.le_of_ble_eq_true rfl) (fun v w' h _ => ?_)
  obtain ⟨rfl, rfl⟩ := h
  rw [show (w.set r (.inr (1, [.ref w.length, .int 0, .null])) ++ [.inl (2, (6, .inr (.inr (.inr (.inr (fun _ => none)))))), .inr (0, [.null, .null])] : pc_W).length = w.length + 2 from by rw [List.length_append, List.length_set]; rfl]
  refine Ex.eqW (w' := w.set r (.inr (1, [.ref w.length, .int 0, .null])) ++ [.inl (2, (6, .inr (.inr (.inr (.inr (fun _ => none)))))), .inr (0, [.ref (w.length + 2), .ref (w.length + 3)]), .inl (0, (6, .inl (fun _ => 0))), .inl (0, (160, .inl (fun _ => 0)))]) (by rw [List.set_append_right _ _ (by rw [List.length_set]; omega), List.length_set, show w.length + 1 - w.length = 1 by omega, List.append_assoc]; rfl) ?_
  refine pf_X2_24 (fs := [.ref w.length, .int 0, .null]) dX2_init_26 ((List.getElem?_append_left (by rw [List.length_set]; exact hrl)).trans (List.getElem?_set_self hrl)) (Nat.le_of_ble_eq_true rfl) (fun _ _ => ⟨rfl, rfl⟩) ?_
  refine Ex.eqW (w' := w.set r (.inr (1, [.ref w.length, .int 0, .ref (w.length + 1)])) ++ [.inl (2, (6, .inr (.inr (.inr (.inr (fun _ => none)))))), .inr (0, [.ref (w.length + 2), .ref (w.length + 3)]), .inl (0, (6, .inl (fun _ => 0))), .inl (0, (160, .inl (fun _ => 0)))]) ((List.set_append_left _ _ (by rw [List.length_set]; exact hrl)).trans (congrArg (· ++ _) (List.set_set _))) ?_
  exact Ex.ret (v := none) ⟨rfl, dX2_init_29⟩ ⟨rfl, rfl⟩
