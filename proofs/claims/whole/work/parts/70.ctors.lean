theorem set_id {w : pc_W} {r : Nat} {x : pc_E} (h : w[r]? = some x) : w.set r x = w := by
  obtain ⟨hr, e⟩ := List.getElem?_eq_some_iff.mp h
  rw [← e]
  exact List.set_getElem_self hr
set_option maxRecDepth 100000 in
theorem c_X1_init {X : Nat × (Nat → Int32)} {w : pc_W} {r : Nat} (hr : w[r]? = some (.inr (0, [.null, .null]))) : Mt X 1 2 166 yX1_init cX1_init 1 none [.ref r] w (RV (w.set r (.inr (0, [(.ref w.length : Value), .ref (w.length + 1)])) ++ [.inl (0, (6, .inl (fun _ => 0))), .inl (0, (160, .inl (fun _ => 0)))])) := by
  have hrl : r < w.length := (List.getElem?_eq_some_iff.mp hr).1
  refine Mt.of (by decide +kernel) (fun _ _ => Nat.le_of_ble_eq_true rfl) ?_
  show Ex X mX1_init _ _ _ _ _ _ _ _
  refine x_aload_n dX1_init_0 rfl ?_
  refine x_objInit dX1_init_1 ko_X1_3 kn_obj kc_obj (by decide) (Nat.le_of_ble_eq_true rfl) ?_
  refine Ex.eqW (w' := w.set r (.inr (0, [.null, .null]))) (set_id hr).symm ?_
  refine x_aload_n dX1_init_4 rfl ?_
  refine x_bipush 6 dX1_init_5 ?_
  refine Ex.more (cb := 1 + 1) (sb := 160 + 6) (by omega) (by omega) ?_
  refine x_newI (N := 6) dX1_init_7 ka_int (by decide) (by decide) (by decide) ?_
  rw [show (w.set r (.inr (0, [.null, .null])) : pc_W).length = w.length from by rw [List.length_set]]
  refine pf_X1_9 (fs := [.null, .null]) dX1_init_9 ((List.getElem?_append_left (by rw [List.length_set]; exact hrl)).trans (List.getElem?_set_self hrl)) (Nat.le_of_ble_eq_true rfl) (fun _ _ => ⟨rfl, rfl⟩) ?_
  refine Ex.eqW (w' := w.set r (.inr (0, [.ref w.length, .null])) ++ [.inl (0, (6, .inl (fun _ => 0)))]) ((List.set_append_left _ _ (by rw [List.length_set]; exact hrl)).trans (congrArg (· ++ _) (List.set_set _))) ?_
  refine x_aload_n dX1_init_12 rfl ?_
  refine x_sipush 160 dX1_init_13 ?_
  refine Ex.more (cb := 0 + 1) (sb := 0 + 160) (by omega) (by omega) ?_
  refine x_newI (N := 160) dX1_init_16 ka_int (by decide) (by decide) (by decide) ?_
  rw [show (w.set r (.inr (0, [.ref w.length, .null])) ++ [.inl (0, (6, .inl (fun _ => 0)))] : pc_W).length = w.length + 1 from by rw [List.length_append, List.length_set]; rfl]
  refine Ex.eqW (w' := w.set r (.inr (0, [.ref w.length, .null])) ++ [.inl (0, (6, .inl (fun _ => 0))), .inl (0, (160, .inl (fun _ => 0)))]) (List.append_assoc _ _ _) ?_
  refine pf_X1_15 (fs := [.ref w.length, .null]) dX1_init_18 ((List.getElem?_append_left (by rw [List.length_set]; exact hrl)).trans (List.getElem?_set_self hrl)) (Nat.le_of_ble_eq_true rfl) (fun _ _ => ⟨rfl, rfl⟩) ?_
  refine Ex.eqW (w' := w.set r (.inr (0, [.ref w.length, .ref (w.length + 1)])) ++ [.inl (0, (6, .inl (fun _ => 0))), .inl (0, (160, .inl (fun _ => 0)))]) ((List.set_append_left _ _ (by rw [List.length_set]; exact hrl)).trans (congrArg (· ++ _) (List.set_set _))) ?_
  exact Ex.ret (v := none) ⟨rfl, dX1_init_21⟩ ⟨rfl, rfl⟩
set_option maxRecDepth 100000 in
theorem c_X3_init {X : Nat × (Nat → Int32)} {w : pc_W} {r : Nat} (hr : w[r]? = some (.inr (2, [.null, .int 0, .int 0, .int 0, .int 0, .int 0, .int 0, .null, .null, .null]))) : Mt X 1 4 26 yX3_init cX3_init 1 none [.ref r] w (RV (w.set r (.inr (2, [(.ref w.length : Value), .int 0, .int 0, .int 0, .int 100, .int 0, .int 0, .ref (w.length + 1), .ref (w.length + 2), .ref (w.length + 3)])) ++ [.inl (0, (8, .inl (fun _ => 0))), .inl (0, (6, .inl (fun _ => 0))), .inl (0, (6, .inl (fun _ => 0))), .inl (0, (6, .inl (fun _ => 0)))])) := by
  have hrl : r < w.length := (List.getElem?_eq_some_iff.mp hr).1
  refine Mt.of (by decide +kernel) (fun _ _ => Nat.le_of_ble_eq_true rfl) ?_
  show Ex X mX3_init _ _ _ _ _ _ _ _
  refine x_aload_n dX3_init_0 rfl ?_
  refine x_objInit dX3_init_1 ko_X3_3 kn_obj kc_obj (by decide) (Nat.le_of_ble_eq_true rfl) ?_
  refine Ex.eqW (w' := w.set r (.inr (2, [.null, .int 0, .int 0, .int 0, .int 0, .int 0, .int 0, .null, .null, .null]))) (set_id hr).symm ?_
  refine x_aload_n dX3_init_4 rfl ?_
  refine x_bipush 8 dX3_init_5 ?_
  refine Ex.more (cb := 3 + 1) (sb := 18 + 8) (by omega) (by omega) ?_
  refine x_newI (N := 8) dX3_init_7 ka_int (by decide) (by decide) (by decide) ?_
  rw [show (w.set r (.inr (2, [.null, .int 0, .int 0, .int 0, .int 0, .int 0, .int 0, .null, .null, .null])) : pc_W).length = w.length from by rw [List.length_set]]
  refine pf_X3_9 (fs := [.null, .int 0, .int 0, .int 0, .int 0, .int 0, .int 0, .null, .null, .null]) dX3_init_9 ((List.getElem?_append_left (by rw [List.length_set]; exact hrl)).trans (List.getElem?_set_self hrl)) (Nat.le_of_ble_eq_true rfl) (fun _ _ => ⟨rfl, rfl⟩) ?_
  refine Ex.eqW (w' := w.set r (.inr (2, [.ref w.length, .int 0, .int 0, .int 0, .int 0, .int 0, .int 0, .null, .null, .null])) ++ [.inl (0, (8, .inl (fun _ => 0)))]) ((List.set_append_left _ _ (by rw [List.length_set]; exact hrl)).trans (congrArg (· ++ _) (List.set_set _))) ?_
  refine x_aload_n dX3_init_12 rfl ?_
  refine x_iconst 0 dX3_init_13 ?_
  refine pf_X3_15 (fs := [.ref w.length, .int 0, .int 0, .int 0, .int 0, .int 0, .int 0, .null, .null, .null]) dX3_init_14 ((List.getElem?_append_left (by rw [List.length_set]; exact hrl)).trans (List.getElem?_set_self hrl)) (Nat.le_of_ble_eq_true rfl) (fun _ _ => ⟨rfl, rfl⟩) ?_
  refine Ex.eqW (w' := w.set r (.inr (2, [.ref w.length, .int 0, .int 0, .int 0, .int 0, .int 0, .int 0, .null, .null, .null])) ++ [.inl (0, (8, .inl (fun _ => 0)))]) ((List.set_append_left _ _ (by rw [List.length_set]; exact hrl)).trans (congrArg (· ++ _) (List.set_set _))) ?_
  refine x_aload_n dX3_init_17 rfl ?_
  refine x_iconst 0 dX3_init_18 ?_
  refine pf_X3_19 (fs := [.ref w.length, .int 0, .int 0, .int 0, .int 0, .int 0, .int 0, .null, .null, .null]) dX3_init_19 ((List.getElem?_append_left (by rw [List.length_set]; exact hrl)).trans (List.getElem?_set_self hrl)) (Nat.le_of_ble_eq_true rfl) (fun _ _ => ⟨rfl, rfl⟩) ?_
  refine Ex.eqW (w' := w.set r (.inr (2, [.ref w.length, .int 0, .int 0, .int 0, .int 0, .int 0, .int 0, .null, .null, .null])) ++ [.inl (0, (8, .inl (fun _ => 0)))]) ((List.set_append_left _ _ (by rw [List.length_set]; exact hrl)).trans (congrArg (· ++ _) (List.set_set _))) ?_
  refine x_aload_n dX3_init_22 rfl ?_
  refine x_iconst 0 dX3_init_23 ?_
  refine pf_X3_22 (fs := [.ref w.length, .int 0, .int 0, .int 0, .int 0, .int 0, .int 0, .null, .null, .null]) dX3_init_24 ((List.getElem?_append_left (by rw [List.length_set]; exact hrl)).trans (List.getElem?_set_self hrl)) (Nat.le_of_ble_eq_true rfl) (fun _ _ => ⟨rfl, rfl⟩) ?_
  refine Ex.eqW (w' := w.set r (.inr (2, [.ref w.length, .int 0, .int 0, .int 0, .int 0, .int 0, .int 0, .null, .null, .null])) ++ [.inl (0, (8, .inl (fun _ => 0)))]) ((List.set_append_left _ _ (by rw [List.length_set]; exact hrl)).trans (congrArg (· ++ _) (List.set_set _))) ?_
  refine x_aload_n dX3_init_27 rfl ?_
  refine x_bipush 100 dX3_init_28 ?_
  refine pf_X3_25 (fs := [.ref w.length, .int 0, .int 0, .int 0, .int 0, .int 0, .int 0, .null, .null, .null]) dX3_init_30 ((List.getElem?_append_left (by rw [List.length_set]; exact hrl)).trans (List.getElem?_set_self hrl)) (Nat.le_of_ble_eq_true rfl) (fun _ _ => ⟨rfl, rfl⟩) ?_
  refine Ex.eqW (w' := w.set r (.inr (2, [.ref w.length, .int 0, .int 0, .int 0, .int 100, .int 0, .int 0, .null, .null, .null])) ++ [.inl (0, (8, .inl (fun _ => 0)))]) ((List.set_append_left _ _ (by rw [List.length_set]; exact hrl)).trans (congrArg (· ++ _) (List.set_set _))) ?_
  refine x_aload_n dX3_init_33 rfl ?_
  refine x_iconst 0 dX3_init_34 ?_
  refine pf_X3_28 (fs := [.ref w.length, .int 0, .int 0, .int 0, .int 100, .int 0, .int 0, .null, .null, .null]) dX3_init_35 ((List.getElem?_append_left (by rw [List.length_set]; exact hrl)).trans (List.getElem?_set_self hrl)) (Nat.le_of_ble_eq_true rfl) (fun _ _ => ⟨rfl, rfl⟩) ?_
  refine Ex.eqW (w' := w.set r (.inr (2, [.ref w.length, .int 0, .int 0, .int 0, .int 100, .int 0, .int 0, .null, .null, .null])) ++ [.inl (0, (8, .inl (fun _ => 0)))]) ((List.set_append_left _ _ (by rw [List.length_set]; exact hrl)).trans (congrArg (· ++ _) (List.set_set _))) ?_
  refine x_aload_n dX3_init_38 rfl ?_
  refine x_iconst 0 dX3_init_39 ?_
  refine pf_X3_31 (fs := [.ref w.length, .int 0, .int 0, .int 0, .int 100, .int 0, .int 0, .null, .null, .null]) dX3_init_40 ((List.getElem?_append_left (by rw [List.length_set]; exact hrl)).trans (List.getElem?_set_self hrl)) (Nat.le_of_ble_eq_true rfl) (fun _ _ => ⟨rfl, rfl⟩) ?_
  refine Ex.eqW (w' := w.set r (.inr (2, [.ref w.length, .int 0, .int 0, .int 0, .int 100, .int 0, .int 0, .null, .null, .null])) ++ [.inl (0, (8, .inl (fun _ => 0)))]) ((List.set_append_left _ _ (by rw [List.length_set]; exact hrl)).trans (congrArg (· ++ _) (List.set_set _))) ?_
  refine x_aload_n dX3_init_43 rfl ?_
  refine x_bipush 6 dX3_init_44 ?_
  refine Ex.more (cb := 2 + 1) (sb := 12 + 6) (by omega) (by omega) ?_
  refine x_newI (N := 6) dX3_init_46 ka_int (by decide) (by decide) (by decide) ?_
  rw [show (w.set r (.inr (2, [.ref w.length, .int 0, .int 0, .int 0, .int 100, .int 0, .int 0, .null, .null, .null])) ++ [.inl (0, (8, .inl (fun _ => 0)))] : pc_W).length = w.length + 1 from by rw [List.length_append, List.length_set]; rfl]
  refine Ex.eqW (w' := w.set r (.inr (2, [.ref w.length, .int 0, .int 0, .int 0, .int 100, .int 0, .int 0, .null, .null, .null])) ++ [.inl (0, (8, .inl (fun _ => 0))), .inl (0, (6, .inl (fun _ => 0)))]) (List.append_assoc _ _ _) ?_
  refine pf_X3_34 (fs := [.ref w.length, .int 0, .int 0, .int 0, .int 100, .int 0, .int 0, .null, .null, .null]) dX3_init_48 ((List.getElem?_append_left (by rw [List.length_set]; exact hrl)).trans (List.getElem?_set_self hrl)) (Nat.le_of_ble_eq_true rfl) (fun _ _ => ⟨rfl, rfl⟩) ?_
  refine Ex.eqW (w' := w.set r (.inr (2, [.ref w.length, .int 0, .int 0, .int 0, .int 100, .int 0, .int 0, .ref (w.length + 1), .null, .null])) ++ [.inl (0, (8, .inl (fun _ => 0))), .inl (0, (6, .inl (fun _ => 0)))]) ((List.set_append_left _ _ (by rw [List.length_set]; exact hrl)).trans (congrArg (· ++ _) (List.set_set _))) ?_
  refine x_aload_n dX3_init_51 rfl ?_
  refine x_bipush 6 dX3_init_52 ?_
  refine Ex.more (cb := 1 + 1) (sb := 6 + 6) (by omega) (by omega) ?_
  refine x_newI (N := 6) dX3_init_54 ka_int (by decide) (by decide) (by decide) ?_
  rw [show (w.set r (.inr (2, [.ref w.length, .int 0, .int 0, .int 0, .int 100, .int 0, .int 0, .ref (w.length + 1), .null, .null])) ++ [.inl (0, (8, .inl (fun _ => 0))), .inl (0, (6, .inl (fun _ => 0)))] : pc_W).length = w.length + 2 from by rw [List.length_append, List.length_set]; rfl]
  refine Ex.eqW (w' := w.set r (.inr (2, [.ref w.length, .int 0, .int 0, .int 0, .int 100, .int 0, .int 0, .ref (w.length + 1), .null, .null])) ++ [.inl (0, (8, .inl (fun _ => 0))), .inl (0, (6, .inl (fun _ => 0))), .inl (0, (6, .inl (fun _ => 0)))]) (List.append_assoc _ _ _) ?_
  refine pf_X3_37 (fs := [.ref w.length, .int 0, .int 0, .int 0, .int 100, .int 0, .int 0, .ref (w.length + 1), .null, .null]) dX3_init_56 ((List.getElem?_append_left (by rw [List.length_set]; exact hrl)).trans (List.getElem?_set_self hrl)) (Nat.le_of_ble_eq_true rfl) (fun _ _ => ⟨rfl, rfl⟩) ?_
  refine Ex.eqW (w' := w.set r (.inr (2, [.ref w.length, .int 0, .int 0, .int 0, .int 100, .int 0, .int 0, .ref (w.length + 1), .ref (w.length + 2), .null])) ++ [.inl (0, (8, .inl (fun _ => 0))), .inl (0, (6, .inl (fun _ => 0))), .inl (0, (6, .inl (fun _ => 0)))]) ((List.set_append_left _ _ (by rw [List.length_set]; exact hrl)).trans (congrArg (· ++ _) (List.set_set _))) ?_
  refine x_aload_n dX3_init_59 rfl ?_
  refine x_bipush 6 dX3_init_60 ?_
  refine Ex.more (cb := 0 + 1) (sb := 0 + 6) (by omega) (by omega) ?_
  refine x_newI (N := 6) dX3_init_62 ka_int (by decide) (by decide) (by decide) ?_
  rw [show (w.set r (.inr (2, [.ref w.length, .int 0, .int 0, .int 0, .int 100, .int 0, .int 0, .ref (w.length + 1), .ref (w.length + 2), .null])) ++ [.inl (0, (8, .inl (fun _ => 0))), .inl (0, (6, .inl (fun _ => 0))), .inl (0, (6, .inl (fun _ => 0)))] : pc_W).length = w.length + 3 from by rw [List.length_append, List.length_set]; rfl]
  refine Ex.eqW (w' := w.set r (.inr (2, [.ref w.length, .int 0, .int 0, .int 0, .int 100, .int 0, .int 0, .ref (w.length + 1), .ref (w.length + 2), .null])) ++ [.inl (0, (8, .inl (fun _ => 0))), .inl (0, (6, .inl (fun _ => 0))), .inl (0, (6, .inl (fun _ => 0))), .inl (0, (6, .inl (fun _ => 0)))]) (List.append_assoc _ _ _) ?_
  refine pf_X3_40 (fs := [.ref w.length, .int 0, .int 0, .int 0, .int 100, .int 0, .int 0, .ref (w.length + 1), .ref (w.length + 2), .null]) dX3_init_64 ((List.getElem?_append_left (by rw [List.length_set]; exact hrl)).trans (List.getElem?_set_self hrl)) (Nat.le_of_ble_eq_true rfl) (fun _ _ => ⟨rfl, rfl⟩) ?_
  refine Ex.eqW (w' := w.set r (.inr (2, [.ref w.length, .int 0, .int 0, .int 0, .int 100, .int 0, .int 0, .ref (w.length + 1), .ref (w.length + 2), .ref (w.length + 3)])) ++ [.inl (0, (8, .inl (fun _ => 0))), .inl (0, (6, .inl (fun _ => 0))), .inl (0, (6, .inl (fun _ => 0))), .inl (0, (6, .inl (fun _ => 0)))]) ((List.set_append_left _ _ (by rw [List.length_set]; exact hrl)).trans (congrArg (· ++ _) (List.set_set _))) ?_
  exact Ex.ret (v := none) ⟨rfl, dX3_init_67⟩ ⟨rfl, rfl⟩
set_option maxRecDepth 100000 in
theorem c_X4_init {X : Nat × (Nat → Int32)} {w : pc_W} {r : Nat} (hr : w[r]? = some (.inr (3, [.null, .int 0, .int 0, .int 0, .int 0, .int 0, .int 0, .null, .int 0, .int 0]))) : Mt X 1 2 320 yX4_init cX4_init 1 none [.ref r] w (RV (w.set r (.inr (3, [(.ref w.length : Value), .int 0, .int 0, .int 0, .int 0, .int 0, .int 0, .ref (w.length + 1), .int 0, .int (-1)])) ++ [.inl (0, (160, .inl (fun _ => 0))), .inl (0, (160, .inl (fun _ => 0)))])) := by
  have hrl : r < w.length := (List.getElem?_eq_some_iff.mp hr).1
  refine Mt.of (by decide +kernel) (fun _ _ => Nat.le_of_ble_eq_true rfl) ?_
  show Ex X mX4_init _ _ _ _ _ _ _ _
  refine x_aload_n dX4_init_0 rfl ?_
  refine x_objInit dX4_init_1 ko_X4_3 kn_obj kc_obj (by decide) (Nat.le_of_ble_eq_true rfl) ?_
  refine Ex.eqW (w' := w.set r (.inr (3, [.null, .int 0, .int 0, .int 0, .int 0, .int 0, .int 0, .null, .int 0, .int 0]))) (set_id hr).symm ?_
  refine x_aload_n dX4_init_4 rfl ?_
  refine x_sipush 160 dX4_init_5 ?_
  refine Ex.more (cb := 1 + 1) (sb := 160 + 160) (by omega) (by omega) ?_
  refine x_newI (N := 160) dX4_init_8 ka_int (by decide) (by decide) (by decide) ?_
  rw [show (w.set r (.inr (3, [.null, .int 0, .int 0, .int 0, .int 0, .int 0, .int 0, .null, .int 0, .int 0])) : pc_W).length = w.length from by rw [List.length_set]]
  refine pf_X4_9 (fs := [.null, .int 0, .int 0, .int 0, .int 0, .int 0, .int 0, .null, .int 0, .int 0]) dX4_init_10 ((List.getElem?_append_left (by rw [List.length_set]; exact hrl)).trans (List.getElem?_set_self hrl)) (Nat.le_of_ble_eq_true rfl) (fun _ _ => ⟨rfl, rfl⟩) ?_
  refine Ex.eqW (w' := w.set r (.inr (3, [.ref w.length, .int 0, .int 0, .int 0, .int 0, .int 0, .int 0, .null, .int 0, .int 0])) ++ [.inl (0, (160, .inl (fun _ => 0)))]) ((List.set_append_left _ _ (by rw [List.length_set]; exact hrl)).trans (congrArg (· ++ _) (List.set_set _))) ?_
  refine x_aload_n dX4_init_13 rfl ?_
  refine x_iconst 0 dX4_init_14 ?_
  refine pf_X4_15 (fs := [.ref w.length, .int 0, .int 0, .int 0, .int 0, .int 0, .int 0, .null, .int 0, .int 0]) dX4_init_15 ((List.getElem?_append_left (by rw [List.length_set]; exact hrl)).trans (List.getElem?_set_self hrl)) (Nat.le_of_ble_eq_true rfl) (fun _ _ => ⟨rfl, rfl⟩) ?_
  refine Ex.eqW (w' := w.set r (.inr (3, [.ref w.length, .int 0, .int 0, .int 0, .int 0, .int 0, .int 0, .null, .int 0, .int 0])) ++ [.inl (0, (160, .inl (fun _ => 0)))]) ((List.set_append_left _ _ (by rw [List.length_set]; exact hrl)).trans (congrArg (· ++ _) (List.set_set _))) ?_
  refine x_aload_n dX4_init_18 rfl ?_
  refine x_iconst 0 dX4_init_19 ?_
  refine pf_X4_21 (fs := [.ref w.length, .int 0, .int 0, .int 0, .int 0, .int 0, .int 0, .null, .int 0, .int 0]) dX4_init_20 ((List.getElem?_append_left (by rw [List.length_set]; exact hrl)).trans (List.getElem?_set_self hrl)) (Nat.le_of_ble_eq_true rfl) (fun _ _ => ⟨rfl, rfl⟩) ?_
  refine Ex.eqW (w' := w.set r (.inr (3, [.ref w.length, .int 0, .int 0, .int 0, .int 0, .int 0, .int 0, .null, .int 0, .int 0])) ++ [.inl (0, (160, .inl (fun _ => 0)))]) ((List.set_append_left _ _ (by rw [List.length_set]; exact hrl)).trans (congrArg (· ++ _) (List.set_set _))) ?_
  refine x_aload_n dX4_init_23 rfl ?_
  refine x_iconst 0 dX4_init_24 ?_
  refine pf_X4_24 (fs := [.ref w.length, .int 0, .int 0, .int 0, .int 0, .int 0, .int 0, .null, .int 0, .int 0]) dX4_init_25 ((List.getElem?_append_left (by rw [List.length_set]; exact hrl)).trans (List.getElem?_set_self hrl)) (Nat.le_of_ble_eq_true rfl) (fun _ _ => ⟨rfl, rfl⟩) ?_
  refine Ex.eqW (w' := w.set r (.inr (3, [.ref w.length, .int 0, .int 0, .int 0, .int 0, .int 0, .int 0, .null, .int 0, .int 0])) ++ [.inl (0, (160, .inl (fun _ => 0)))]) ((List.set_append_left _ _ (by rw [List.length_set]; exact hrl)).trans (congrArg (· ++ _) (List.set_set _))) ?_
  refine x_aload_n dX4_init_28 rfl ?_
  refine x_iconst 0 dX4_init_29 ?_
  refine pf_X4_27 (fs := [.ref w.length, .int 0, .int 0, .int 0, .int 0, .int 0, .int 0, .null, .int 0, .int 0]) dX4_init_30 ((List.getElem?_append_left (by rw [List.length_set]; exact hrl)).trans (List.getElem?_set_self hrl)) (Nat.le_of_ble_eq_true rfl) (fun _ _ => ⟨rfl, rfl⟩) ?_
  refine Ex.eqW (w' := w.set r (.inr (3, [.ref w.length, .int 0, .int 0, .int 0, .int 0, .int 0, .int 0, .null, .int 0, .int 0])) ++ [.inl (0, (160, .inl (fun _ => 0)))]) ((List.set_append_left _ _ (by rw [List.length_set]; exact hrl)).trans (congrArg (· ++ _) (List.set_set _))) ?_
  refine x_aload_n dX4_init_33 rfl ?_
  refine x_iconst 0 dX4_init_34 ?_
  refine pf_X4_30 (fs := [.ref w.length, .int 0, .int 0, .int 0, .int 0, .int 0, .int 0, .null, .int 0, .int 0]) dX4_init_35 ((List.getElem?_append_left (by rw [List.length_set]; exact hrl)).trans (List.getElem?_set_self hrl)) (Nat.le_of_ble_eq_true rfl) (fun _ _ => ⟨rfl, rfl⟩) ?_
  refine Ex.eqW (w' := w.set r (.inr (3, [.ref w.length, .int 0, .int 0, .int 0, .int 0, .int 0, .int 0, .null, .int 0, .int 0])) ++ [.inl (0, (160, .inl (fun _ => 0)))]) ((List.set_append_left _ _ (by rw [List.length_set]; exact hrl)).trans (congrArg (· ++ _) (List.set_set _))) ?_
  refine x_aload_n dX4_init_38 rfl ?_
  refine x_iconst 0 dX4_init_39 ?_
  refine pf_X4_33 (fs := [.ref w.length, .int 0, .int 0, .int 0, .int 0, .int 0, .int 0, .null, .int 0, .int 0]) dX4_init_40 ((List.getElem?_append_left (by rw [List.length_set]; exact hrl)).trans (List.getElem?_set_self hrl)) (Nat.le_of_ble_eq_true rfl) (fun _ _ => ⟨rfl, rfl⟩) ?_
  refine Ex.eqW (w' := w.set r (.inr (3, [.ref w.length, .int 0, .int 0, .int 0, .int 0, .int 0, .int 0, .null, .int 0, .int 0])) ++ [.inl (0, (160, .inl (fun _ => 0)))]) ((List.set_append_left _ _ (by rw [List.length_set]; exact hrl)).trans (congrArg (· ++ _) (List.set_set _))) ?_
  refine x_aload_n dX4_init_43 rfl ?_
  refine x_sipush 160 dX4_init_44 ?_
  refine Ex.more (cb := 0 + 1) (sb := 0 + 160) (by omega) (by omega) ?_
  refine x_newI (N := 160) dX4_init_47 ka_int (by decide) (by decide) (by decide) ?_
  rw [show (w.set r (.inr (3, [.ref w.length, .int 0, .int 0, .int 0, .int 0, .int 0, .int 0, .null, .int 0, .int 0])) ++ [.inl (0, (160, .inl (fun _ => 0)))] : pc_W).length = w.length + 1 from by rw [List.length_append, List.length_set]; rfl]
  refine Ex.eqW (w' := w.set r (.inr (3, [.ref w.length, .int 0, .int 0, .int 0, .int 0, .int 0, .int 0, .null, .int 0, .int 0])) ++ [.inl (0, (160, .inl (fun _ => 0))), .inl (0, (160, .inl (fun _ => 0)))]) (List.append_assoc _ _ _) ?_
  refine pf_X4_36 (fs := [.ref w.length, .int 0, .int 0, .int 0, .int 0, .int 0, .int 0, .null, .int 0, .int 0]) dX4_init_49 ((List.getElem?_append_left (by rw [List.length_set]; exact hrl)).trans (List.getElem?_set_self hrl)) (Nat.le_of_ble_eq_true rfl) (fun _ _ => ⟨rfl, rfl⟩) ?_
  refine Ex.eqW (w' := w.set r (.inr (3, [.ref w.length, .int 0, .int 0, .int 0, .int 0, .int 0, .int 0, .ref (w.length + 1), .int 0, .int 0])) ++ [.inl (0, (160, .inl (fun _ => 0))), .inl (0, (160, .inl (fun _ => 0)))]) ((List.set_append_left _ _ (by rw [List.length_set]; exact hrl)).trans (congrArg (· ++ _) (List.set_set _))) ?_
  refine x_aload_n dX4_init_52 rfl ?_
  refine x_iconst 0 dX4_init_53 ?_
  refine pf_X4_39 (fs := [.ref w.length, .int 0, .int 0, .int 0, .int 0, .int 0, .int 0, .ref (w.length + 1), .int 0, .int 0]) dX4_init_54 ((List.getElem?_append_left (by rw [List.length_set]; exact hrl)).trans (List.getElem?_set_self hrl)) (Nat.le_of_ble_eq_true rfl) (fun _ _ => ⟨rfl, rfl⟩) ?_
  refine Ex.eqW (w' := w.set r (.inr (3, [.ref w.length, .int 0, .int 0, .int 0, .int 0, .int 0, .int 0, .ref (w.length + 1), .int 0, .int 0])) ++ [.inl (0, (160, .inl (fun _ => 0))), .inl (0, (160, .inl (fun _ => 0)))]) ((List.set_append_left _ _ (by rw [List.length_set]; exact hrl)).trans (congrArg (· ++ _) (List.set_set _))) ?_
  refine x_aload_n dX4_init_57 rfl ?_
  refine x_iconst (-1) dX4_init_58 ?_
  refine pf_X4_42 (fs := [.ref w.length, .int 0, .int 0, .int 0, .int 0, .int 0, .int 0, .ref (w.length + 1), .int 0, .int 0]) dX4_init_59 ((List.getElem?_append_left (by rw [List.length_set]; exact hrl)).trans (List.getElem?_set_self hrl)) (Nat.le_of_ble_eq_true rfl) (fun _ _ => ⟨rfl, rfl⟩) ?_
  refine Ex.eqW (w' := w.set r (.inr (3, [.ref w.length, .int 0, .int 0, .int 0, .int 0, .int 0, .int 0, .ref (w.length + 1), .int 0, .int (-1)])) ++ [.inl (0, (160, .inl (fun _ => 0))), .inl (0, (160, .inl (fun _ => 0)))]) ((List.set_append_left _ _ (by rw [List.length_set]; exact hrl)).trans (congrArg (· ++ _) (List.set_set _))) ?_
  exact Ex.ret (v := none) ⟨rfl, dX4_init_62⟩ ⟨rfl, rfl⟩
set_option maxRecDepth 100000 in
theorem c_X5_init {X : Nat × (Nat → Int32)} {w : pc_W} {r : Nat} (hr : w[r]? = some (.inr (4, [.null, .null, .null, .null]))) : Mt X 1 4 776 yX5_init cX5_init 1 none [.ref r] w (RV (w.set r (.inr (4, [(.ref w.length : Value), .ref (w.length + 1), .ref (w.length + 2), .ref (w.length + 3)])) ++ [.inl (0, (256, .inl (fun _ => 0))), .inl (0, (256, .inl (fun _ => 0))), .inl (0, (256, .inl (fun _ => 0))), .inl (0, (8, .inl (fun _ => 0)))])) := by
  have hrl : r < w.length := (List.getElem?_eq_some_iff.mp hr).1
  refine Mt.of (by decide +kernel) (fun _ _ => Nat.le_of_ble_eq_true rfl) ?_
  show Ex X mX5_init _ _ _ _ _ _ _ _
  refine x_aload_n dX5_init_0 rfl ?_
  refine x_objInit dX5_init_1 ko_X5_3 kn_obj kc_obj (by decide) (Nat.le_of_ble_eq_true rfl) ?_
  refine Ex.eqW (w' := w.set r (.inr (4, [.null, .null, .null, .null]))) (set_id hr).symm ?_
  refine x_aload_n dX5_init_4 rfl ?_
  refine x_sipush 256 dX5_init_5 ?_
  refine Ex.more (cb := 3 + 1) (sb := 520 + 256) (by omega) (by omega) ?_
  refine x_newI (N := 256) dX5_init_8 ka_int (by decide) (by decide) (by decide) ?_
  rw [show (w.set r (.inr (4, [.null, .null, .null, .null])) : pc_W).length = w.length from by rw [List.length_set]]
  refine pf_X5_9 (fs := [.null, .null, .null, .null]) dX5_init_10 ((List.getElem?_append_left (by rw [List.length_set]; exact hrl)).trans (List.getElem?_set_self hrl)) (Nat.le_of_ble_eq_true rfl) (fun _ _ => ⟨rfl, rfl⟩) ?_
  refine Ex.eqW (w' := w.set r (.inr (4, [.ref w.length, .null, .null, .null])) ++ [.inl (0, (256, .inl (fun _ => 0)))]) ((List.set_append_left _ _ (by rw [List.length_set]; exact hrl)).trans (congrArg (· ++ _) (List.set_set _))) ?_
  refine x_aload_n dX5_init_13 rfl ?_
  refine x_sipush 256 dX5_init_14 ?_
  refine Ex.more (cb := 2 + 1) (sb := 264 + 256) (by omega) (by omega) ?_
  refine x_newI (N := 256) dX5_init_17 ka_int (by decide) (by decide) (by decide) ?_
  rw [show (w.set r (.inr (4, [.ref w.length, .null, .null, .null])) ++ [.inl (0, (256, .inl (fun _ => 0)))] : pc_W).length = w.length + 1 from by rw [List.length_append, List.length_set]; rfl]
  refine Ex.eqW (w' := w.set r (.inr (4, [.ref w.length, .null, .null, .null])) ++ [.inl (0, (256, .inl (fun _ => 0))), .inl (0, (256, .inl (fun _ => 0)))]) (List.append_assoc _ _ _) ?_
  refine pf_X5_15 (fs := [.ref w.length, .null, .null, .null]) dX5_init_19 ((List.getElem?_append_left (by rw [List.length_set]; exact hrl)).trans (List.getElem?_set_self hrl)) (Nat.le_of_ble_eq_true rfl) (fun _ _ => ⟨rfl, rfl⟩) ?_
  refine Ex.eqW (w' := w.set r (.inr (4, [.ref w.length, .ref (w.length + 1), .null, .null])) ++ [.inl (0, (256, .inl (fun _ => 0))), .inl (0, (256, .inl (fun _ => 0)))]) ((List.set_append_left _ _ (by rw [List.length_set]; exact hrl)).trans (congrArg (· ++ _) (List.set_set _))) ?_
  refine x_aload_n dX5_init_22 rfl ?_
  refine x_sipush 256 dX5_init_23 ?_
  refine Ex.more (cb := 1 + 1) (sb := 8 + 256) (by omega) (by omega) ?_
  refine x_newI (N := 256) dX5_init_26 ka_int (by decide) (by decide) (by decide) ?_
  rw [show (w.set r (.inr (4, [.ref w.length, .ref (w.length + 1), .null, .null])) ++ [.inl (0, (256, .inl (fun _ => 0))), .inl (0, (256, .inl (fun _ => 0)))] : pc_W).length = w.length + 2 from by rw [List.length_append, List.length_set]; rfl]
  refine Ex.eqW (w' := w.set r (.inr (4, [.ref w.length, .ref (w.length + 1), .null, .null])) ++ [.inl (0, (256, .inl (fun _ => 0))), .inl (0, (256, .inl (fun _ => 0))), .inl (0, (256, .inl (fun _ => 0)))]) (List.append_assoc _ _ _) ?_
  refine pf_X5_18 (fs := [.ref w.length, .ref (w.length + 1), .null, .null]) dX5_init_28 ((List.getElem?_append_left (by rw [List.length_set]; exact hrl)).trans (List.getElem?_set_self hrl)) (Nat.le_of_ble_eq_true rfl) (fun _ _ => ⟨rfl, rfl⟩) ?_
  refine Ex.eqW (w' := w.set r (.inr (4, [.ref w.length, .ref (w.length + 1), .ref (w.length + 2), .null])) ++ [.inl (0, (256, .inl (fun _ => 0))), .inl (0, (256, .inl (fun _ => 0))), .inl (0, (256, .inl (fun _ => 0)))]) ((List.set_append_left _ _ (by rw [List.length_set]; exact hrl)).trans (congrArg (· ++ _) (List.set_set _))) ?_
  refine x_aload_n dX5_init_31 rfl ?_
  refine x_bipush 8 dX5_init_32 ?_
  refine Ex.more (cb := 0 + 1) (sb := 0 + 8) (by omega) (by omega) ?_
  refine x_newI (N := 8) dX5_init_34 ka_int (by decide) (by decide) (by decide) ?_
  rw [show (w.set r (.inr (4, [.ref w.length, .ref (w.length + 1), .ref (w.length + 2), .null])) ++ [.inl (0, (256, .inl (fun _ => 0))), .inl (0, (256, .inl (fun _ => 0))), .inl (0, (256, .inl (fun _ => 0)))] : pc_W).length = w.length + 3 from by rw [List.length_append, List.length_set]; rfl]
  refine Ex.eqW (w' := w.set r (.inr (4, [.ref w.length, .ref (w.length + 1), .ref (w.length + 2), .null])) ++ [.inl (0, (256, .inl (fun _ => 0))), .inl (0, (256, .inl (fun _ => 0))), .inl (0, (256, .inl (fun _ => 0))), .inl (0, (8, .inl (fun _ => 0)))]) (List.append_assoc _ _ _) ?_
  refine pf_X5_21 (fs := [.ref w.length, .ref (w.length + 1), .ref (w.length + 2), .null]) dX5_init_36 ((List.getElem?_append_left (by rw [List.length_set]; exact hrl)).trans (List.getElem?_set_self hrl)) (Nat.le_of_ble_eq_true rfl) (fun _ _ => ⟨rfl, rfl⟩) ?_
  refine Ex.eqW (w' := w.set r (.inr (4, [.ref w.length, .ref (w.length + 1), .ref (w.length + 2), .ref (w.length + 3)])) ++ [.inl (0, (256, .inl (fun _ => 0))), .inl (0, (256, .inl (fun _ => 0))), .inl (0, (256, .inl (fun _ => 0))), .inl (0, (8, .inl (fun _ => 0)))]) ((List.set_append_left _ _ (by rw [List.length_set]; exact hrl)).trans (congrArg (· ++ _) (List.set_set _))) ?_
  exact Ex.ret (v := none) ⟨rfl, dX5_init_39⟩ ⟨rfl, rfl⟩
set_option maxRecDepth 100000 in
theorem c_X6_init {X : Nat × (Nat → Int32)} {w : pc_W} {r : Nat} (hr : w[r]? = some (.inr (5, [.int 0, .int 0, .null]))) : Mt X 1 1 40 yX6_init cX6_init 1 none [.ref r] w (RV (w.set r (.inr (5, [(.int (-1) : Value), .int 0, .ref w.length])) ++ [.inl (0, (40, .inl (fun _ => 0)))])) := by
  have hrl : r < w.length := (List.getElem?_eq_some_iff.mp hr).1
  refine Mt.of (by decide +kernel) (fun _ _ => Nat.le_of_ble_eq_true rfl) ?_
  show Ex X mX6_init _ _ _ _ _ _ _ _
  refine x_aload_n dX6_init_0 rfl ?_
  refine x_objInit dX6_init_1 ko_X6_3 kn_obj kc_obj (by decide) (Nat.le_of_ble_eq_true rfl) ?_
  refine Ex.eqW (w' := w.set r (.inr (5, [.int 0, .int 0, .null]))) (set_id hr).symm ?_
  refine x_aload_n dX6_init_4 rfl ?_
  refine x_iconst (-1) dX6_init_5 ?_
  refine pf_X6_11 (fs := [.int 0, .int 0, .null]) dX6_init_6 (List.getElem?_set_self hrl) (Nat.le_of_ble_eq_true rfl) (fun _ _ => ⟨rfl, rfl⟩) ?_
  refine Ex.eqW (w' := w.set r (.inr (5, [.int (-1), .int 0, .null]))) (List.set_set _) ?_
  refine x_aload_n dX6_init_9 rfl ?_
  refine x_iconst 0 dX6_init_10 ?_
  refine pf_X6_15 (fs := [.int (-1), .int 0, .null]) dX6_init_11 (List.getElem?_set_self hrl) (Nat.le_of_ble_eq_true rfl) (fun _ _ => ⟨rfl, rfl⟩) ?_
  refine Ex.eqW (w' := w.set r (.inr (5, [.int (-1), .int 0, .null]))) (List.set_set _) ?_
  refine x_aload_n dX6_init_14 rfl ?_
  refine x_bipush 40 dX6_init_15 ?_
  refine Ex.more (cb := 0 + 1) (sb := 0 + 40) (by omega) (by omega) ?_
  refine x_newI (N := 40) dX6_init_17 ka_int (by decide) (by decide) (by decide) ?_
  rw [show (w.set r (.inr (5, [.int (-1), .int 0, .null])) : pc_W).length = w.length from by rw [List.length_set]]
  refine pf_X6_18 (fs := [.int (-1), .int 0, .null]) dX6_init_19 ((List.getElem?_append_left (by rw [List.length_set]; exact hrl)).trans (List.getElem?_set_self hrl)) (Nat.le_of_ble_eq_true rfl) (fun _ _ => ⟨rfl, rfl⟩) ?_
  refine Ex.eqW (w' := w.set r (.inr (5, [.int (-1), .int 0, .ref w.length])) ++ [.inl (0, (40, .inl (fun _ => 0)))]) ((List.set_append_left _ _ (by rw [List.length_set]; exact hrl)).trans (congrArg (· ++ _) (List.set_set _))) ?_
  exact Ex.ret (v := none) ⟨rfl, dX6_init_22⟩ ⟨rfl, rfl⟩
