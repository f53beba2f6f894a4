theorem set_id {w : pc_W} {r : Nat} {x : pc_E} (h : w[r]? = some x) : w.set r x = w := by
  obtain ⟨hr, e⟩ := List.getElem?_eq_some_iff.mp h
  rw [← e]
  exact List.set_getElem_self hr
set_option maxRecDepth 100000 in
theorem c_X4_init {X : Nat × (Nat → Int32)} {w : pc_W} {r : Nat} (hr : w[r]? = some (.inr (3, [.null, .int 0, .int 0, .int 0, .int 0, .int 0, .int 0, .null, .int 0, .int 0]))) : Mt X 1 1 160 yX4_init cX4_init 1 none [.ref r] w (RV (w.set r (.inr (3, [(.null : Value), .int 0, .int 0, .int 0, .int 0, .int 0, .int 0, .ref w.length, .int 0, .int (-1)])) ++ [.inl (0, (160, .inl (fun _ => 0)))])) := by
  have hrl : r < w.length := (List.getElem?_eq_some_iff.mp hr).1
  refine Mt.of (by decide +kernel) (fun _ _ => Nat.le_of_ble_eq_true rfl) ?_
  show Ex X mX4_init _ _ _ _ _ _ _ _
  refine Ex.more (cb := 0 + 1) (sb := 0 + 160) (by omega) (by omega) ?_
  refine x_aload_n dX4_init_0 rfl ?_
  refine x_objInit dX4_init_1 ko_X4_3 kn_obj kc_obj (by decide) (Nat.le_of_ble_eq_true rfl) ?_
  refine Ex.eqW (w' := w.set r (.inr (3, [.null, .int 0, .int 0, .int 0, .int 0, .int 0, .int 0, .null, .int 0, .int 0]))) (set_id hr).symm ?_
  refine x_aload_n dX4_init_4 rfl ?_
  refine x_aconst_null dX4_init_5 ?_
  refine pf_X4_9 (fs := [.null, .int 0, .int 0, .int 0, .int 0, .int 0, .int 0, .null, .int 0, .int 0]) dX4_init_6 (List.getElem?_set_self hrl) (Nat.le_of_ble_eq_true rfl) (fun _ _ => ⟨rfl, rfl⟩) ?_
  refine Ex.eqW (w' := w.set r (.inr (3, [.null, .int 0, .int 0, .int 0, .int 0, .int 0, .int 0, .null, .int 0, .int 0]))) (List.set_set _) ?_
  refine x_aload_n dX4_init_9 rfl ?_
  refine x_iconst 0 dX4_init_10 ?_
  refine pf_X4_15 (fs := [.null, .int 0, .int 0, .int 0, .int 0, .int 0, .int 0, .null, .int 0, .int 0]) dX4_init_11 (List.getElem?_set_self hrl) (Nat.le_of_ble_eq_true rfl) (fun _ _ => ⟨rfl, rfl⟩) ?_
  refine Ex.eqW (w' := w.set r (.inr (3, [.null, .int 0, .int 0, .int 0, .int 0, .int 0, .int 0, .null, .int 0, .int 0]))) (List.set_set _) ?_
  refine x_aload_n dX4_init_14 rfl ?_
  refine x_iconst 0 dX4_init_15 ?_
  refine pf_X4_21 (fs := [.null, .int 0, .int 0, .int 0, .int 0, .int 0, .int 0, .null, .int 0, .int 0]) dX4_init_16 (List.getElem?_set_self hrl) (Nat.le_of_ble_eq_true rfl) (fun _ _ => ⟨rfl, rfl⟩) ?_
  refine Ex.eqW (w' := w.set r (.inr (3, [.null, .int 0, .int 0, .int 0, .int 0, .int 0, .int 0, .null, .int 0, .int 0]))) (List.set_set _) ?_
  refine x_aload_n dX4_init_19 rfl ?_
  refine x_iconst 0 dX4_init_20 ?_
  refine pf_X4_24 (fs := [.null, .int 0, .int 0, .int 0, .int 0, .int 0, .int 0, .null, .int 0, .int 0]) dX4_init_21 (List.getElem?_set_self hrl) (Nat.le_of_ble_eq_true rfl) (fun _ _ => ⟨rfl, rfl⟩) ?_
  refine Ex.eqW (w' := w.set r (.inr (3, [.null, .int 0, .int 0, .int 0, .int 0, .int 0, .int 0, .null, .int 0, .int 0]))) (List.set_set _) ?_
  refine x_aload_n dX4_init_24 rfl ?_
  refine x_iconst 0 dX4_init_25 ?_
  refine pf_X4_27 (fs := [.null, .int 0, .int 0, .int 0, .int 0, .int 0, .int 0, .null, .int 0, .int 0]) dX4_init_26 (List.getElem?_set_self hrl) (Nat.le_of_ble_eq_true rfl) (fun _ _ => ⟨rfl, rfl⟩) ?_
  refine Ex.eqW (w' := w.set r (.inr (3, [.null, .int 0, .int 0, .int 0, .int 0, .int 0, .int 0, .null, .int 0, .int 0]))) (List.set_set _) ?_
  refine x_aload_n dX4_init_29 rfl ?_
  refine x_iconst 0 dX4_init_30 ?_
  refine pf_X4_30 (fs := [.null, .int 0, .int 0, .int 0, .int 0, .int 0, .int 0, .null, .int 0, .int 0]) dX4_init_31 (List.getElem?_set_self hrl) (Nat.le_of_ble_eq_true rfl) (fun _ _ => ⟨rfl, rfl⟩) ?_
  refine Ex.eqW (w' := w.set r (.inr (3, [.null, .int 0, .int 0, .int 0, .int 0, .int 0, .int 0, .null, .int 0, .int 0]))) (List.set_set _) ?_
  refine x_aload_n dX4_init_34 rfl ?_
  refine x_iconst 0 dX4_init_35 ?_
  refine pf_X4_33 (fs := [.null, .int 0, .int 0, .int 0, .int 0, .int 0, .int 0, .null, .int 0, .int 0]) dX4_init_36 (List.getElem?_set_self hrl) (Nat.le_of_ble_eq_true rfl) (fun _ _ => ⟨rfl, rfl⟩) ?_
  refine Ex.eqW (w' := w.set r (.inr (3, [.null, .int 0, .int 0, .int 0, .int 0, .int 0, .int 0, .null, .int 0, .int 0]))) (List.set_set _) ?_
  refine x_aload_n dX4_init_39 rfl ?_
  refine x_sipush 160 dX4_init_40 ?_
  refine x_newI (N := 160) dX4_init_43 ka_int (by decide) (by decide) (by decide) ?_
  rw [List.length_set]
  refine pf_X4_36 (fs := [.null, .int 0, .int 0, .int 0, .int 0, .int 0, .int 0, .null, .int 0, .int 0]) dX4_init_45 ((List.getElem?_append_left (by rw [List.length_set]; exact hrl)).trans (List.getElem?_set_self hrl)) (Nat.le_of_ble_eq_true rfl) (fun _ _ => ⟨rfl, rfl⟩) ?_
  refine Ex.eqW (w' := w.set r (.inr (3, [.null, .int 0, .int 0, .int 0, .int 0, .int 0, .int 0, .ref w.length, .int 0, .int 0])) ++ [.inl (0, (160, .inl (fun _ => 0)))]) ((List.set_append_left _ _ (by rw [List.length_set]; exact hrl)).trans (congrArg (· ++ _) (List.set_set _))) ?_
  refine x_aload_n dX4_init_48 rfl ?_
  refine x_iconst 0 dX4_init_49 ?_
  refine pf_X4_39 (fs := [.null, .int 0, .int 0, .int 0, .int 0, .int 0, .int 0, .ref w.length, .int 0, .int 0]) dX4_init_50 ((List.getElem?_append_left (by rw [List.length_set]; exact hrl)).trans (List.getElem?_set_self hrl)) (Nat.le_of_ble_eq_true rfl) (fun _ _ => ⟨rfl, rfl⟩) ?_
  refine Ex.eqW (w' := w.set r (.inr (3, [.null, .int 0, .int 0, .int 0, .int 0, .int 0, .int 0, .ref w.length, .int 0, .int 0])) ++ [.inl (0, (160, .inl (fun _ => 0)))]) ((List.set_append_left _ _ (by rw [List.length_set]; exact hrl)).trans (congrArg (· ++ _) (List.set_set _))) ?_
  refine x_aload_n dX4_init_53 rfl ?_
  refine x_iconst (-1) dX4_init_54 ?_
  refine pf_X4_42 (fs := [.null, .int 0, .int 0, .int 0, .int 0, .int 0, .int 0, .ref w.length, .int 0, .int 0]) dX4_init_55 ((List.getElem?_append_left (by rw [List.length_set]; exact hrl)).trans (List.getElem?_set_self hrl)) (Nat.le_of_ble_eq_true rfl) (fun _ _ => ⟨rfl, rfl⟩) ?_
  refine Ex.eqW (w' := w.set r (.inr (3, [.null, .int 0, .int 0, .int 0, .int 0, .int 0, .int 0, .ref w.length, .int 0, .int (-1)])) ++ [.inl (0, (160, .inl (fun _ => 0)))]) ((List.set_append_left _ _ (by rw [List.length_set]; exact hrl)).trans (congrArg (· ++ _) (List.set_set _))) ?_
  exact Ex.ret (v := none) ⟨rfl, dX4_init_58⟩ ⟨rfl, rfl⟩
