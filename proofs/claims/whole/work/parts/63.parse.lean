theorem Ex.more {X : Nat × (Nat → Int32)} {M : MI} {d : Nat} {Ret : Option Value → pc_W → Prop} {cb sb cb' sb' pc : Nat} {L : List (Option Value)} {st : List Value} {w : pc_W} (h1 : cb ≤ cb') (h2 : sb ≤ sb') (k : Ex X M d Ret cb sb pc L st w) : Ex X M d Ret cb' sb' pc L st w := by
  intro p l e R s m args below meth c Q A D ty sa adV ad0 n0 cm sm hC ad H locs cells slots ls hS hl hL hs q1 q2
  exact k p l e R s m args below meth c Q A D ty sa adV ad0 n0 cm sm hC ad H locs cells slots ls hS hl hL hs (by omega) (by omega)
theorem set_last {w : pc_W} {z v : pc_E} {k : Nat} (hk : k = w.length) : (w ++ [z]).set k v = w ++ [v] := by
  subst hk
  rw [List.set_append_right _ _ (Nat.le_refl _), Nat.sub_self]
  rfl
set_option maxRecDepth 100000 in
theorem c_X7_init {X : Nat × (Nat → Int32)} {w : pc_W} {r re cz : Nat} {co : Nat → Int32} (hr : w[r]? = some (.inr (6, [.null, .null]))) (hc : w[18]? = some (.inl (0, (160, .inl co)))) (h18 : r ≠ 18) (hz : cz ≤ 160) : Mt X 1 1 cz yX7_init cX7_init 4 none [.ref r, .ref 18, .int (nI cz), .ref re] w (RV (w.set r (.inr (6, [.ref w.length, .ref re])) ++ [.inl (0, (cz, .inl (va_cpy co (fun _ => 0) 0 0 cz)))])) := by
  have hrl : r < w.length := (List.getElem?_eq_some_iff.mp hr).1
  have hcl : 18 < w.length := (List.getElem?_eq_some_iff.mp hc).1
  have ecz : (nI cz).toNatClampNeg = cz := nI_clamp (by omega)
  refine Mt.of (by decide +kernel) (fun _ _ => Nat.le_of_ble_eq_true rfl) ?_
  show Ex X mX7_init _ _ _ _ _ _ _ _
  refine Ex.more (cb := 0 + 1) (sb := 0 + cz) (by omega) (by omega) ?_
  refine x_aload_n dX7_init_0 rfl ?_
  refine x_objInit dX7_init_1 ko_X7_1 kn_obj kc_obj (by decide) (Nat.le_of_ble_eq_true rfl) ?_
  refine x_aload_n dX7_init_4 rfl ?_
  refine x_iload_n dX7_init_5 rfl ?_
  refine x_newI dX7_init_6 ka_int (nI_pos (by omega)) ecz (by omega) ?_
  refine pf_X7_7 dX7_init_8 ((List.getElem?_append_left hrl).trans hr) (Nat.le_of_ble_eq_true rfl) (fun _ _ => ⟨rfl, rfl⟩) ?_
  refine Ex.eqW (w' := w.set r (.inr (6, [.ref w.length, .null])) ++ [.inl (0, (cz, .inl (fun _ => 0)))]) (List.set_append_left _ _ hrl) ?_
  have hl1 : w.length = (w.set r (.inr (6, [.ref w.length, .null]))).length := List.length_set.symm
  refine x_aload_n dX7_init_11 rfl ?_
  refine x_iconst 0 dX7_init_12 ?_
  refine x_aload_n dX7_init_13 rfl ?_
  refine gf_X7_7 dX7_init_14 (fs := [.ref w.length, .null]) (v := .ref w.length) (by rw [List.getElem?_append_left (by rw [List.length_set]; exact hrl), List.getElem?_set_self hrl]) rfl ?_
  refine x_iconst 0 dX7_init_17 ?_
  refine x_iload_n dX7_init_18 rfl ?_
  refine x_arraycopy (n0 := 160) (n1 := cz) (f := co) (g := fun _ => 0) dX7_init_19 ky_X7_13 kna_acopy kt_acopy ki_System (by rw [List.getElem?_append_left (by rw [List.length_set]; exact hcl), List.getElem?_set_ne h18]; exact hc) (by rw [List.getElem?_append_right (by rw [List.length_set]; exact Nat.le_refl _), List.length_set, Nat.sub_self]; rfl) (by decide) (by decide) (nI_pos (by omega)) (by rw [ecz]; show 0 + cz ≤ 160; omega) (by rw [ecz]; show 0 + cz ≤ cz; omega) (by decide) (Nat.le_of_ble_eq_true rfl) ?_
  rw [ecz]
  refine Ex.eqW (w' := w.set r (.inr (6, [.ref w.length, .null])) ++ [.inl (0, (cz, .inl (va_cpy co (fun _ => 0) 0 0 cz)))]) (set_last hl1) ?_
  refine x_aload_n dX7_init_22 rfl ?_
  refine x_aload_n dX7_init_23 rfl ?_
  refine pf_X7_19 dX7_init_24 (fs := [.ref w.length, .null]) (by rw [List.getElem?_append_left (by rw [List.length_set]; exact hrl), List.getElem?_set_self hrl]) (Nat.le_of_ble_eq_true rfl) (fun _ _ => ⟨rfl, rfl⟩) ?_
  refine Ex.eqW (w' := w.set r (.inr (6, [.ref w.length, .ref re])) ++ [.inl (0, (cz, .inl (va_cpy co (fun _ => 0) 0 0 cz)))]) (by rw [List.set_append_left _ _ (by rw [List.length_set]; exact hrl), List.set_set]; rfl) ?_
  exact Ex.ret (v := none) ⟨rfl, dX7_init_27⟩ ⟨rfl, rfl⟩
