def l72 : List Int32 := [116, 104, 105, 110, 107, 115, 32, 119, 101, 97, 116, 104, 101, 114, 32, 43, 32, 109, 101, 110, 100, 101, 100, 32, 42, 32, 57, 32, 59, 32, 109, 101, 110, 100, 115, 32, 49, 48, 32, 45, 32, 119, 101, 97, 116, 104, 101, 114, 32, 59, 32, 99, 108, 97, 105, 109, 115, 32, 50, 48, 32, 43, 32, 121, 101, 97, 114, 115, 32, 59, 32, 32]
def m72 (i : Nat) : Int32 := l72.getD i 0
theorem cs_len {S : CS} {l : pc_W} {n : Nat} (h : l.length = n) : (cst S ++ l).length = 42 + n := by rw [List.length_append, h]; rfl
theorem cs_set {S : CS} {o x : pc_E} {l : pc_W} : (cst S ++ (o :: l)).set 42 x = cst S ++ (x :: l) := by
  rw [List.set_append_right _ _ (by rw [cst_len]; exact Nat.le_refl _), cst_len]; rfl
theorem cs_get {S : CS} {o : pc_E} {l : pc_W} : (cst S ++ (o :: l))[42]? = some o := by
  rw [List.getElem?_append_right (by rw [cst_len]; exact Nat.le_refl _), cst_len]; rfl
section CT
variable {X : Nat × (Nat → Int32)} {M : MI} {d cb sb pc k N : Nat} {Ret : Option Value → pc_W → Prop} {L : List (Option Value)} {st : List Value} {w W : pc_W} {n : Int32}
theorem x_newIL (hl : w.length = k) (hW : w ++ [.inl (0, (N, .inl (fun _ => 0)))] = W) (hd : decode M.2.2.1 pc = .ok (.newarray .int, 2)) (hn : ¬ n < 0) (hN : n.toNatClampNeg = N) (hb2 : N * 4 ≤ 536870912) (kk : Ex X M d Ret cb sb (pc + 2) L (.ref k :: st) W) : Ex X M d Ret (cb + 1) (sb + N) pc L (.int n :: st) w := by
  subst hl hW; exact x_newI hd ka_int hn hN hb2 kk
theorem x_newZL (hl : w.length = k) (hW : w ++ [.inl (1, (N, .inl (fun _ => 0)))] = W) (hd : decode M.2.2.1 pc = .ok (.newarray .boolean, 2)) (hn : ¬ n < 0) (hN : n.toNatClampNeg = N) (hb2 : N * 1 ≤ 536870912) (kk : Ex X M d Ret cb sb (pc + 2) L (.ref k :: st) W) : Ex X M d Ret (cb + 1) (sb + N) pc L (.int n :: st) w := by
  subst hl hW; exact x_newZ hd ka_bool hn hN hb2 kk
end CT
abbrev z0 : Nat → Int32 := fun _ => 0
abbrev ML0 : ML := (z0, 0, 0, 0, 0, 0, 0, 0, 0, 0)
set_option maxRecDepth 100000 in
set_option maxHeartbeats 4000000 in
theorem c_X10_init {X : Nat × (Nat → Int32)} {S : CS} : Mt X 1 16 1366 yX10_init cX10_init 1 none [.ref 42] (cst S ++ [.inr (8, [.int 0, .null, .null, .int 0, .int 0, .null, .int 0, .null, .null, .int 0, .null, .null, .int 0, .int 0, .int 0, .int 0, .int 0, .int 0, .int 0, .int 0, .int 0, .int 0, .int 0, .int 0, .long 0, .int 0, .int 0, .int 0, .null, .null, .null, .null, .null, .int 0, .int 0, .int 0, .null, .null, .null, .null])]) (fun v w' => v = none ∧ ∃ tx : Nat → Int32, (∀ i, i < 72 → tx i = m72 i) ∧ w' = cst S ++ (mw (tx, upd z0 0 72, 1, z0, 0) (0, upd z0 2 100, z0, 0, z0, z0, 0) ML0 (z0, z0) (z0, z0, z0, 0, -1, 0) (z0, z0, z0, z0) ++ [])) := by
  refine Mt.of (by decide +kernel) (fun _ _ => Nat.le_of_ble_eq_true rfl) ?_
  show Ex X mX10_init _ _ _ _ _ _ _ _
  refine x_aload_n dX10_init_0 rfl ?_
  refine x_objInit dX10_init_1 ko_X10_7 kn_obj kc_obj (by decide) (Nat.le_of_ble_eq_true rfl) ?_
  refine x_aload_n dX10_init_4 rfl ?_
  refine x_sipush 960 dX10_init_5 ?_
  refine Ex.more (cb := 15 + 1) (sb := 406 + 960) (by omega) (by omega) ?_
  refine x_newIL (k := 43) (N := 960) (W := cst S ++ [.inr (8, [.int 0, .null, .null, .int 0, .int 0, .null, .int 0, .null, .null, .int 0, .null, .null, .int 0, .int 0, .int 0, .int 0, .int 0, .int 0, .int 0, .int 0, .int 0, .int 0, .int 0, .int 0, .long 0, .int 0, .int 0, .int 0, .null, .null, .null, .null, .null, .int 0, .int 0, .int 0, .null, .null, .null, .null]), .inl (0, (960, .inl (fun _ => 0)))]) (cs_len (n := 1) rfl) (List.append_assoc _ _ _) dX10_init_8 (by decide) (by decide) (by decide) ?_
  refine pf_X10_13 (fs := [.int 0, .null, .null, .int 0, .int 0, .null, .int 0, .null, .null, .int 0, .null, .null, .int 0, .int 0, .int 0, .int 0, .int 0, .int 0, .int 0, .int 0, .int 0, .int 0, .int 0, .int 0, .long 0, .int 0, .int 0, .int 0, .null, .null, .null, .null, .null, .int 0, .int 0, .int 0, .null, .null, .null, .null]) dX10_init_10 cs_get (Nat.le_of_ble_eq_true rfl) (fun _ _ => ⟨rfl, rfl⟩) ?_
  refine Ex.eqW (w' := cst S ++ [.inr (8, [.int 0, .ref 43, .null, .int 0, .int 0, .null, .int 0, .null, .null, .int 0, .null, .null, .int 0, .int 0, .int 0, .int 0, .int 0, .int 0, .int 0, .int 0, .int 0, .int 0, .int 0, .int 0, .long 0, .int 0, .int 0, .int 0, .null, .null, .null, .null, .null, .int 0, .int 0, .int 0, .null, .null, .null, .null]), .inl (0, (960, .inl (fun _ => 0)))]) cs_set ?_
  refine x_aload_n dX10_init_13 rfl ?_
  refine x_bipush 6 dX10_init_14 ?_
  refine Ex.more (cb := 14 + 1) (sb := 400 + 6) (by omega) (by omega) ?_
  refine x_newIL (k := 44) (N := 6) (W := cst S ++ [.inr (8, [.int 0, .ref 43, .null, .int 0, .int 0, .null, .int 0, .null, .null, .int 0, .null, .null, .int 0, .int 0, .int 0, .int 0, .int 0, .int 0, .int 0, .int 0, .int 0, .int 0, .int 0, .int 0, .long 0, .int 0, .int 0, .int 0, .null, .null, .null, .null, .null, .int 0, .int 0, .int 0, .null, .null, .null, .null]), .inl (0, (960, .inl (fun _ => 0))), .inl (0, (6, .inl (fun _ => 0)))]) (cs_len (n := 2) rfl) (List.append_assoc _ _ _) dX10_init_16 (by decide) (by decide) (by decide) ?_
  refine pf_X10_17 (fs := [.int 0, .ref 43, .null, .int 0, .int 0, .null, .int 0, .null, .null, .int 0, .null, .null, .int 0, .int 0, .int 0, .int 0, .int 0, .int 0, .int 0, .int 0, .int 0, .int 0, .int 0, .int 0, .long 0, .int 0, .int 0, .int 0, .null, .null, .null, .null, .null, .int 0, .int 0, .int 0, .null, .null, .null, .null]) dX10_init_18 cs_get (Nat.le_of_ble_eq_true rfl) (fun _ _ => ⟨rfl, rfl⟩) ?_
  refine Ex.eqW (w' := cst S ++ [.inr (8, [.int 0, .ref 43, .ref 44, .int 0, .int 0, .null, .int 0, .null, .null, .int 0, .null, .null, .int 0, .int 0, .int 0, .int 0, .int 0, .int 0, .int 0, .int 0, .int 0, .int 0, .int 0, .int 0, .long 0, .int 0, .int 0, .int 0, .null, .null, .null, .null, .null, .int 0, .int 0, .int 0, .null, .null, .null, .null]), .inl (0, (960, .inl (fun _ => 0))), .inl (0, (6, .inl (fun _ => 0)))]) cs_set ?_
  refine x_aload_n dX10_init_21 rfl ?_
  refine x_sipush 160 dX10_init_22 ?_
  refine Ex.more (cb := 13 + 1) (sb := 240 + 160) (by omega) (by omega) ?_
  refine x_newIL (k := 45) (N := 160) (W := cst S ++ [.inr (8, [.int 0, .ref 43, .ref 44, .int 0, .int 0, .null, .int 0, .null, .null, .int 0, .null, .null, .int 0, .int 0, .int 0, .int 0, .int 0, .int 0, .int 0, .int 0, .int 0, .int 0, .int 0, .int 0, .long 0, .int 0, .int 0, .int 0, .null, .null, .null, .null, .null, .int 0, .int 0, .int 0, .null, .null, .null, .null]), .inl (0, (960, .inl (fun _ => 0))), .inl (0, (6, .inl (fun _ => 0))), .inl (0, (160, .inl (fun _ => 0)))]) (cs_len (n := 3) rfl) (List.append_assoc _ _ _) dX10_init_25 (by decide) (by decide) (by decide) ?_
  refine pf_X10_20 (fs := [.int 0, .ref 43, .ref 44, .int 0, .int 0, .null, .int 0, .null, .null, .int 0, .null, .null, .int 0, .int 0, .int 0, .int 0, .int 0, .int 0, .int 0, .int 0, .int 0, .int 0, .int 0, .int 0, .long 0, .int 0, .int 0, .int 0, .null, .null, .null, .null, .null, .int 0, .int 0, .int 0, .null, .null, .null, .null]) dX10_init_27 cs_get (Nat.le_of_ble_eq_true rfl) (fun _ _ => ⟨rfl, rfl⟩) ?_
  refine Ex.eqW (w' := cst S ++ [.inr (8, [.int 0, .ref 43, .ref 44, .int 0, .int 0, .ref 45, .int 0, .null, .null, .int 0, .null, .null, .int 0, .int 0, .int 0, .int 0, .int 0, .int 0, .int 0, .int 0, .int 0, .int 0, .int 0, .int 0, .long 0, .int 0, .int 0, .int 0, .null, .null, .null, .null, .null, .int 0, .int 0, .int 0, .null, .null, .null, .null]), .inl (0, (960, .inl (fun _ => 0))), .inl (0, (6, .inl (fun _ => 0))), .inl (0, (160, .inl (fun _ => 0)))]) cs_set ?_
  refine x_aload_n dX10_init_30 rfl ?_
  refine x_iconst 3 dX10_init_31 ?_
  refine Ex.more (cb := 12 + 1) (sb := 237 + 3) (by omega) (by omega) ?_
  refine x_newIL (k := 46) (N := 3) (W := cst S ++ [.inr (8, [.int 0, .ref 43, .ref 44, .int 0, .int 0, .ref 45, .int 0, .null, .null, .int 0, .null, .null, .int 0, .int 0, .int 0, .int 0, .int 0, .int 0, .int 0, .int 0, .int 0, .int 0, .int 0, .int 0, .long 0, .int 0, .int 0, .int 0, .null, .null, .null, .null, .null, .int 0, .int 0, .int 0, .null, .null, .null, .null]), .inl (0, (960, .inl (fun _ => 0))), .inl (0, (6, .inl (fun _ => 0))), .inl (0, (160, .inl (fun _ => 0))), .inl (0, (3, .inl (fun _ => 0)))]) (cs_len (n := 4) rfl) (List.append_assoc _ _ _) dX10_init_32 (by decide) (by decide) (by decide) ?_
  refine pf_X10_23 (fs := [.int 0, .ref 43, .ref 44, .int 0, .int 0, .ref 45, .int 0, .null, .null, .int 0, .null, .null, .int 0, .int 0, .int 0, .int 0, .int 0, .int 0, .int 0, .int 0, .int 0, .int 0, .int 0, .int 0, .long 0, .int 0, .int 0, .int 0, .null, .null, .null, .null, .null, .int 0, .int 0, .int 0, .null, .null, .null, .null]) dX10_init_34 cs_get (Nat.le_of_ble_eq_true rfl) (fun _ _ => ⟨rfl, rfl⟩) ?_
  refine Ex.eqW (w' := cst S ++ [.inr (8, [.int 0, .ref 43, .ref 44, .int 0, .int 0, .ref 45, .int 0, .ref 46, .null, .int 0, .null, .null, .int 0, .int 0, .int 0, .int 0, .int 0, .int 0, .int 0, .int 0, .int 0, .int 0, .int 0, .int 0, .long 0, .int 0, .int 0, .int 0, .null, .null, .null, .null, .null, .int 0, .int 0, .int 0, .null, .null, .null, .null]), .inl (0, (960, .inl (fun _ => 0))), .inl (0, (6, .inl (fun _ => 0))), .inl (0, (160, .inl (fun _ => 0))), .inl (0, (3, .inl (fun _ => 0)))]) cs_set ?_
  refine x_aload_n dX10_init_37 rfl ?_
  refine x_bipush 8 dX10_init_38 ?_
  refine Ex.more (cb := 11 + 1) (sb := 229 + 8) (by omega) (by omega) ?_
  refine x_newIL (k := 47) (N := 8) (W := cst S ++ [.inr (8, [.int 0, .ref 43, .ref 44, .int 0, .int 0, .ref 45, .int 0, .ref 46, .null, .int 0, .null, .null, .int 0, .int 0, .int 0, .int 0, .int 0, .int 0, .int 0, .int 0, .int 0, .int 0, .int 0, .int 0, .long 0, .int 0, .int 0, .int 0, .null, .null, .null, .null, .null, .int 0, .int 0, .int 0, .null, .null, .null, .null]), .inl (0, (960, .inl (fun _ => 0))), .inl (0, (6, .inl (fun _ => 0))), .inl (0, (160, .inl (fun _ => 0))), .inl (0, (3, .inl (fun _ => 0))), .inl (0, (8, .inl (fun _ => 0)))]) (cs_len (n := 5) rfl) (List.append_assoc _ _ _) dX10_init_40 (by decide) (by decide) (by decide) ?_
  refine pf_X10_26 (fs := [.int 0, .ref 43, .ref 44, .int 0, .int 0, .ref 45, .int 0, .ref 46, .null, .int 0, .null, .null, .int 0, .int 0, .int 0, .int 0, .int 0, .int 0, .int 0, .int 0, .int 0, .int 0, .int 0, .int 0, .long 0, .int 0, .int 0, .int 0, .null, .null, .null, .null, .null, .int 0, .int 0, .int 0, .null, .null, .null, .null]) dX10_init_42 cs_get (Nat.le_of_ble_eq_true rfl) (fun _ _ => ⟨rfl, rfl⟩) ?_
  refine Ex.eqW (w' := cst S ++ [.inr (8, [.int 0, .ref 43, .ref 44, .int 0, .int 0, .ref 45, .int 0, .ref 46, .ref 47, .int 0, .null, .null, .int 0, .int 0, .int 0, .int 0, .int 0, .int 0, .int 0, .int 0, .int 0, .int 0, .int 0, .int 0, .long 0, .int 0, .int 0, .int 0, .null, .null, .null, .null, .null, .int 0, .int 0, .int 0, .null, .null, .null, .null]), .inl (0, (960, .inl (fun _ => 0))), .inl (0, (6, .inl (fun _ => 0))), .inl (0, (160, .inl (fun _ => 0))), .inl (0, (3, .inl (fun _ => 0))), .inl (0, (8, .inl (fun _ => 0)))]) cs_set ?_
  refine x_aload_n dX10_init_45 rfl ?_
  refine x_bipush 6 dX10_init_46 ?_
  refine Ex.more (cb := 10 + 1) (sb := 223 + 6) (by omega) (by omega) ?_
  refine x_newIL (k := 48) (N := 6) (W := cst S ++ [.inr (8, [.int 0, .ref 43, .ref 44, .int 0, .int 0, .ref 45, .int 0, .ref 46, .ref 47, .int 0, .null, .null, .int 0, .int 0, .int 0, .int 0, .int 0, .int 0, .int 0, .int 0, .int 0, .int 0, .int 0, .int 0, .long 0, .int 0, .int 0, .int 0, .null, .null, .null, .null, .null, .int 0, .int 0, .int 0, .null, .null, .null, .null]), .inl (0, (960, .inl (fun _ => 0))), .inl (0, (6, .inl (fun _ => 0))), .inl (0, (160, .inl (fun _ => 0))), .inl (0, (3, .inl (fun _ => 0))), .inl (0, (8, .inl (fun _ => 0))), .inl (0, (6, .inl (fun _ => 0)))]) (cs_len (n := 6) rfl) (List.append_assoc _ _ _) dX10_init_48 (by decide) (by decide) (by decide) ?_
  refine pf_X10_29 (fs := [.int 0, .ref 43, .ref 44, .int 0, .int 0, .ref 45, .int 0, .ref 46, .ref 47, .int 0, .null, .null, .int 0, .int 0, .int 0, .int 0, .int 0, .int 0, .int 0, .int 0, .int 0, .int 0, .int 0, .int 0, .long 0, .int 0, .int 0, .int 0, .null, .null, .null, .null, .null, .int 0, .int 0, .int 0, .null, .null, .null, .null]) dX10_init_50 cs_get (Nat.le_of_ble_eq_true rfl) (fun _ _ => ⟨rfl, rfl⟩) ?_
  refine Ex.eqW (w' := cst S ++ [.inr (8, [.int 0, .ref 43, .ref 44, .int 0, .int 0, .ref 45, .int 0, .ref 46, .ref 47, .int 0, .ref 48, .null, .int 0, .int 0, .int 0, .int 0, .int 0, .int 0, .int 0, .int 0, .int 0, .int 0, .int 0, .int 0, .long 0, .int 0, .int 0, .int 0, .null, .null, .null, .null, .null, .int 0, .int 0, .int 0, .null, .null, .null, .null]), .inl (0, (960, .inl (fun _ => 0))), .inl (0, (6, .inl (fun _ => 0))), .inl (0, (160, .inl (fun _ => 0))), .inl (0, (3, .inl (fun _ => 0))), .inl (0, (8, .inl (fun _ => 0))), .inl (0, (6, .inl (fun _ => 0)))]) cs_set ?_
  refine x_aload_n dX10_init_53 rfl ?_
  refine x_bipush 12 dX10_init_54 ?_
  refine Ex.more (cb := 9 + 1) (sb := 211 + 12) (by omega) (by omega) ?_
  refine x_newIL (k := 49) (N := 12) (W := cst S ++ [.inr (8, [.int 0, .ref 43, .ref 44, .int 0, .int 0, .ref 45, .int 0, .ref 46, .ref 47, .int 0, .ref 48, .null, .int 0, .int 0, .int 0, .int 0, .int 0, .int 0, .int 0, .int 0, .int 0, .int 0, .int 0, .int 0, .long 0, .int 0, .int 0, .int 0, .null, .null, .null, .null, .null, .int 0, .int 0, .int 0, .null, .null, .null, .null]), .inl (0, (960, .inl (fun _ => 0))), .inl (0, (6, .inl (fun _ => 0))), .inl (0, (160, .inl (fun _ => 0))), .inl (0, (3, .inl (fun _ => 0))), .inl (0, (8, .inl (fun _ => 0))), .inl (0, (6, .inl (fun _ => 0))), .inl (0, (12, .inl (fun _ => 0)))]) (cs_len (n := 7) rfl) (List.append_assoc _ _ _) dX10_init_56 (by decide) (by decide) (by decide) ?_
  refine pf_X10_32 (fs := [.int 0, .ref 43, .ref 44, .int 0, .int 0, .ref 45, .int 0, .ref 46, .ref 47, .int 0, .ref 48, .null, .int 0, .int 0, .int 0, .int 0, .int 0, .int 0, .int 0, .int 0, .int 0, .int 0, .int 0, .int 0, .long 0, .int 0, .int 0, .int 0, .null, .null, .null, .null, .null, .int 0, .int 0, .int 0, .null, .null, .null, .null]) dX10_init_58 cs_get (Nat.le_of_ble_eq_true rfl) (fun _ _ => ⟨rfl, rfl⟩) ?_
  refine Ex.eqW (w' := cst S ++ [.inr (8, [.int 0, .ref 43, .ref 44, .int 0, .int 0, .ref 45, .int 0, .ref 46, .ref 47, .int 0, .ref 48, .ref 49, .int 0, .int 0, .int 0, .int 0, .int 0, .int 0, .int 0, .int 0, .int 0, .int 0, .int 0, .int 0, .long 0, .int 0, .int 0, .int 0, .null, .null, .null, .null, .null, .int 0, .int 0, .int 0, .null, .null, .null, .null]), .inl (0, (960, .inl (fun _ => 0))), .inl (0, (6, .inl (fun _ => 0))), .inl (0, (160, .inl (fun _ => 0))), .inl (0, (3, .inl (fun _ => 0))), .inl (0, (8, .inl (fun _ => 0))), .inl (0, (6, .inl (fun _ => 0))), .inl (0, (12, .inl (fun _ => 0)))]) cs_set ?_
  refine x_aload_n dX10_init_61 rfl ?_
  refine x_bipush 8 dX10_init_62 ?_
  refine Ex.more (cb := 8 + 1) (sb := 203 + 8) (by omega) (by omega) ?_
  refine x_newIL (k := 50) (N := 8) (W := cst S ++ [.inr (8, [.int 0, .ref 43, .ref 44, .int 0, .int 0, .ref 45, .int 0, .ref 46, .ref 47, .int 0, .ref 48, .ref 49, .int 0, .int 0, .int 0, .int 0, .int 0, .int 0, .int 0, .int 0, .int 0, .int 0, .int 0, .int 0, .long 0, .int 0, .int 0, .int 0, .null, .null, .null, .null, .null, .int 0, .int 0, .int 0, .null, .null, .null, .null]), .inl (0, (960, .inl (fun _ => 0))), .inl (0, (6, .inl (fun _ => 0))), .inl (0, (160, .inl (fun _ => 0))), .inl (0, (3, .inl (fun _ => 0))), .inl (0, (8, .inl (fun _ => 0))), .inl (0, (6, .inl (fun _ => 0))), .inl (0, (12, .inl (fun _ => 0))), .inl (0, (8, .inl (fun _ => 0)))]) (cs_len (n := 8) rfl) (List.append_assoc _ _ _) dX10_init_64 (by decide) (by decide) (by decide) ?_
  refine pf_X10_35 (fs := [.int 0, .ref 43, .ref 44, .int 0, .int 0, .ref 45, .int 0, .ref 46, .ref 47, .int 0, .ref 48, .ref 49, .int 0, .int 0, .int 0, .int 0, .int 0, .int 0, .int 0, .int 0, .int 0, .int 0, .int 0, .int 0, .long 0, .int 0, .int 0, .int 0, .null, .null, .null, .null, .null, .int 0, .int 0, .int 0, .null, .null, .null, .null]) dX10_init_66 cs_get (Nat.le_of_ble_eq_true rfl) (fun _ _ => ⟨rfl, rfl⟩) ?_
  refine Ex.eqW (w' := cst S ++ [.inr (8, [.int 0, .ref 43, .ref 44, .int 0, .int 0, .ref 45, .int 0, .ref 46, .ref 47, .int 0, .ref 48, .ref 49, .int 0, .int 0, .int 0, .int 0, .int 0, .int 0, .int 0, .int 0, .int 0, .int 0, .int 0, .int 0, .long 0, .int 0, .int 0, .int 0, .ref 50, .null, .null, .null, .null, .int 0, .int 0, .int 0, .null, .null, .null, .null]), .inl (0, (960, .inl (fun _ => 0))), .inl (0, (6, .inl (fun _ => 0))), .inl (0, (160, .inl (fun _ => 0))), .inl (0, (3, .inl (fun _ => 0))), .inl (0, (8, .inl (fun _ => 0))), .inl (0, (6, .inl (fun _ => 0))), .inl (0, (12, .inl (fun _ => 0))), .inl (0, (8, .inl (fun _ => 0)))]) cs_set ?_
  refine x_aload_n dX10_init_69 rfl ?_
  refine x_bipush 8 dX10_init_70 ?_
  refine Ex.more (cb := 7 + 1) (sb := 195 + 8) (by omega) (by omega) ?_
  refine x_newIL (k := 51) (N := 8) (W := cst S ++ [.inr (8, [.int 0, .ref 43, .ref 44, .int 0, .int 0, .ref 45, .int 0, .ref 46, .ref 47, .int 0, .ref 48, .ref 49, .int 0, .int 0, .int 0, .int 0, .int 0, .int 0, .int 0, .int 0, .int 0, .int 0, .int 0, .int 0, .long 0, .int 0, .int 0, .int 0, .ref 50, .null, .null, .null, .null, .int 0, .int 0, .int 0, .null, .null, .null, .null]), .inl (0, (960, .inl (fun _ => 0))), .inl (0, (6, .inl (fun _ => 0))), .inl (0, (160, .inl (fun _ => 0))), .inl (0, (3, .inl (fun _ => 0))), .inl (0, (8, .inl (fun _ => 0))), .inl (0, (6, .inl (fun _ => 0))), .inl (0, (12, .inl (fun _ => 0))), .inl (0, (8, .inl (fun _ => 0))), .inl (0, (8, .inl (fun _ => 0)))]) (cs_len (n := 9) rfl) (List.append_assoc _ _ _) dX10_init_72 (by decide) (by decide) (by decide) ?_
  refine pf_X10_38 (fs := [.int 0, .ref 43, .ref 44, .int 0, .int 0, .ref 45, .int 0, .ref 46, .ref 47, .int 0, .ref 48, .ref 49, .int 0, .int 0, .int 0, .int 0, .int 0, .int 0, .int 0, .int 0, .int 0, .int 0, .int 0, .int 0, .long 0, .int 0, .int 0, .int 0, .ref 50, .null, .null, .null, .null, .int 0, .int 0, .int 0, .null, .null, .null, .null]) dX10_init_74 cs_get (Nat.le_of_ble_eq_true rfl) (fun _ _ => ⟨rfl, rfl⟩) ?_
  refine Ex.eqW (w' := cst S ++ [.inr (8, [.int 0, .ref 43, .ref 44, .int 0, .int 0, .ref 45, .int 0, .ref 46, .ref 47, .int 0, .ref 48, .ref 49, .int 0, .int 0, .int 0, .int 0, .int 0, .int 0, .int 0, .int 0, .int 0, .int 0, .int 0, .int 0, .long 0, .int 0, .int 0, .int 0, .ref 50, .ref 51, .null, .null, .null, .int 0, .int 0, .int 0, .null, .null, .null, .null]), .inl (0, (960, .inl (fun _ => 0))), .inl (0, (6, .inl (fun _ => 0))), .inl (0, (160, .inl (fun _ => 0))), .inl (0, (3, .inl (fun _ => 0))), .inl (0, (8, .inl (fun _ => 0))), .inl (0, (6, .inl (fun _ => 0))), .inl (0, (12, .inl (fun _ => 0))), .inl (0, (8, .inl (fun _ => 0))), .inl (0, (8, .inl (fun _ => 0)))]) cs_set ?_
  refine x_aload_n dX10_init_77 rfl ?_
  refine x_iconst 3 dX10_init_78 ?_
  refine Ex.more (cb := 6 + 1) (sb := 192 + 3) (by omega) (by omega) ?_
  refine x_newIL (k := 52) (N := 3) (W := cst S ++ [.inr (8, [.int 0, .ref 43, .ref 44, .int 0, .int 0, .ref 45, .int 0, .ref 46, .ref 47, .int 0, .ref 48, .ref 49, .int 0, .int 0, .int 0, .int 0, .int 0, .int 0, .int 0, .int 0, .int 0, .int 0, .int 0, .int 0, .long 0, .int 0, .int 0, .int 0, .ref 50, .ref 51, .null, .null, .null, .int 0, .int 0, .int 0, .null, .null, .null, .null]), .inl (0, (960, .inl (fun _ => 0))), .inl (0, (6, .inl (fun _ => 0))), .inl (0, (160, .inl (fun _ => 0))), .inl (0, (3, .inl (fun _ => 0))), .inl (0, (8, .inl (fun _ => 0))), .inl (0, (6, .inl (fun _ => 0))), .inl (0, (12, .inl (fun _ => 0))), .inl (0, (8, .inl (fun _ => 0))), .inl (0, (8, .inl (fun _ => 0))), .inl (0, (3, .inl (fun _ => 0)))]) (cs_len (n := 10) rfl) (List.append_assoc _ _ _) dX10_init_79 (by decide) (by decide) (by decide) ?_
  refine pf_X10_41 (fs := [.int 0, .ref 43, .ref 44, .int 0, .int 0, .ref 45, .int 0, .ref 46, .ref 47, .int 0, .ref 48, .ref 49, .int 0, .int 0, .int 0, .int 0, .int 0, .int 0, .int 0, .int 0, .int 0, .int 0, .int 0, .int 0, .long 0, .int 0, .int 0, .int 0, .ref 50, .ref 51, .null, .null, .null, .int 0, .int 0, .int 0, .null, .null, .null, .null]) dX10_init_81 cs_get (Nat.le_of_ble_eq_true rfl) (fun _ _ => ⟨rfl, rfl⟩) ?_
  refine Ex.eqW (w' := cst S ++ [.inr (8, [.int 0, .ref 43, .ref 44, .int 0, .int 0, .ref 45, .int 0, .ref 46, .ref 47, .int 0, .ref 48, .ref 49, .int 0, .int 0, .int 0, .int 0, .int 0, .int 0, .int 0, .int 0, .int 0, .int 0, .int 0, .int 0, .long 0, .int 0, .int 0, .int 0, .ref 50, .ref 51, .ref 52, .null, .null, .int 0, .int 0, .int 0, .null, .null, .null, .null]), .inl (0, (960, .inl (fun _ => 0))), .inl (0, (6, .inl (fun _ => 0))), .inl (0, (160, .inl (fun _ => 0))), .inl (0, (3, .inl (fun _ => 0))), .inl (0, (8, .inl (fun _ => 0))), .inl (0, (6, .inl (fun _ => 0))), .inl (0, (12, .inl (fun _ => 0))), .inl (0, (8, .inl (fun _ => 0))), .inl (0, (8, .inl (fun _ => 0))), .inl (0, (3, .inl (fun _ => 0)))]) cs_set ?_
  refine x_aload_n dX10_init_84 rfl ?_
  refine x_bipush 8 dX10_init_85 ?_
  refine Ex.more (cb := 5 + 1) (sb := 184 + 8) (by omega) (by omega) ?_
  refine x_newIL (k := 53) (N := 8) (W := cst S ++ [.inr (8, [.int 0, .ref 43, .ref 44, .int 0, .int 0, .ref 45, .int 0, .ref 46, .ref 47, .int 0, .ref 48, .ref 49, .int 0, .int 0, .int 0, .int 0, .int 0, .int 0, .int 0, .int 0, .int 0, .int 0, .int 0, .int 0, .long 0, .int 0, .int 0, .int 0, .ref 50, .ref 51, .ref 52, .null, .null, .int 0, .int 0, .int 0, .null, .null, .null, .null]), .inl (0, (960, .inl (fun _ => 0))), .inl (0, (6, .inl (fun _ => 0))), .inl (0, (160, .inl (fun _ => 0))), .inl (0, (3, .inl (fun _ => 0))), .inl (0, (8, .inl (fun _ => 0))), .inl (0, (6, .inl (fun _ => 0))), .inl (0, (12, .inl (fun _ => 0))), .inl (0, (8, .inl (fun _ => 0))), .inl (0, (8, .inl (fun _ => 0))), .inl (0, (3, .inl (fun _ => 0))), .inl (0, (8, .inl (fun _ => 0)))]) (cs_len (n := 11) rfl) (List.append_assoc _ _ _) dX10_init_87 (by decide) (by decide) (by decide) ?_
  refine pf_X10_44 (fs := [.int 0, .ref 43, .ref 44, .int 0, .int 0, .ref 45, .int 0, .ref 46, .ref 47, .int 0, .ref 48, .ref 49, .int 0, .int 0, .int 0, .int 0, .int 0, .int 0, .int 0, .int 0, .int 0, .int 0, .int 0, .int 0, .long 0, .int 0, .int 0, .int 0, .ref 50, .ref 51, .ref 52, .null, .null, .int 0, .int 0, .int 0, .null, .null, .null, .null]) dX10_init_89 cs_get (Nat.le_of_ble_eq_true rfl) (fun _ _ => ⟨rfl, rfl⟩) ?_
  refine Ex.eqW (w' := cst S ++ [.inr (8, [.int 0, .ref 43, .ref 44, .int 0, .int 0, .ref 45, .int 0, .ref 46, .ref 47, .int 0, .ref 48, .ref 49, .int 0, .int 0, .int 0, .int 0, .int 0, .int 0, .int 0, .int 0, .int 0, .int 0, .int 0, .int 0, .long 0, .int 0, .int 0, .int 0, .ref 50, .ref 51, .ref 52, .ref 53, .null, .int 0, .int 0, .int 0, .null, .null, .null, .null]), .inl (0, (960, .inl (fun _ => 0))), .inl (0, (6, .inl (fun _ => 0))), .inl (0, (160, .inl (fun _ => 0))), .inl (0, (3, .inl (fun _ => 0))), .inl (0, (8, .inl (fun _ => 0))), .inl (0, (6, .inl (fun _ => 0))), .inl (0, (12, .inl (fun _ => 0))), .inl (0, (8, .inl (fun _ => 0))), .inl (0, (8, .inl (fun _ => 0))), .inl (0, (3, .inl (fun _ => 0))), .inl (0, (8, .inl (fun _ => 0)))]) cs_set ?_
  refine x_aload_n dX10_init_92 rfl ?_
  refine x_bipush 12 dX10_init_93 ?_
  refine Ex.more (cb := 4 + 1) (sb := 172 + 12) (by omega) (by omega) ?_
  refine x_newIL (k := 54) (N := 12) (W := cst S ++ [.inr (8, [.int 0, .ref 43, .ref 44, .int 0, .int 0, .ref 45, .int 0, .ref 46, .ref 47, .int 0, .ref 48, .ref 49, .int 0, .int 0, .int 0, .int 0, .int 0, .int 0, .int 0, .int 0, .int 0, .int 0, .int 0, .int 0, .long 0, .int 0, .int 0, .int 0, .ref 50, .ref 51, .ref 52, .ref 53, .null, .int 0, .int 0, .int 0, .null, .null, .null, .null]), .inl (0, (960, .inl (fun _ => 0))), .inl (0, (6, .inl (fun _ => 0))), .inl (0, (160, .inl (fun _ => 0))), .inl (0, (3, .inl (fun _ => 0))), .inl (0, (8, .inl (fun _ => 0))), .inl (0, (6, .inl (fun _ => 0))), .inl (0, (12, .inl (fun _ => 0))), .inl (0, (8, .inl (fun _ => 0))), .inl (0, (8, .inl (fun _ => 0))), .inl (0, (3, .inl (fun _ => 0))), .inl (0, (8, .inl (fun _ => 0))), .inl (0, (12, .inl (fun _ => 0)))]) (cs_len (n := 12) rfl) (List.append_assoc _ _ _) dX10_init_95 (by decide) (by decide) (by decide) ?_
  refine pf_X10_47 (fs := [.int 0, .ref 43, .ref 44, .int 0, .int 0, .ref 45, .int 0, .ref 46, .ref 47, .int 0, .ref 48, .ref 49, .int 0, .int 0, .int 0, .int 0, .int 0, .int 0, .int 0, .int 0, .int 0, .int 0, .int 0, .int 0, .long 0, .int 0, .int 0, .int 0, .ref 50, .ref 51, .ref 52, .ref 53, .null, .int 0, .int 0, .int 0, .null, .null, .null, .null]) dX10_init_97 cs_get (Nat.le_of_ble_eq_true rfl) (fun _ _ => ⟨rfl, rfl⟩) ?_
  refine Ex.eqW (w' := cst S ++ [.inr (8, [.int 0, .ref 43, .ref 44, .int 0, .int 0, .ref 45, .int 0, .ref 46, .ref 47, .int 0, .ref 48, .ref 49, .int 0, .int 0, .int 0, .int 0, .int 0, .int 0, .int 0, .int 0, .int 0, .int 0, .int 0, .int 0, .long 0, .int 0, .int 0, .int 0, .ref 50, .ref 51, .ref 52, .ref 53, .ref 54, .int 0, .int 0, .int 0, .null, .null, .null, .null]), .inl (0, (960, .inl (fun _ => 0))), .inl (0, (6, .inl (fun _ => 0))), .inl (0, (160, .inl (fun _ => 0))), .inl (0, (3, .inl (fun _ => 0))), .inl (0, (8, .inl (fun _ => 0))), .inl (0, (6, .inl (fun _ => 0))), .inl (0, (12, .inl (fun _ => 0))), .inl (0, (8, .inl (fun _ => 0))), .inl (0, (8, .inl (fun _ => 0))), .inl (0, (3, .inl (fun _ => 0))), .inl (0, (8, .inl (fun _ => 0))), .inl (0, (12, .inl (fun _ => 0)))]) cs_set ?_
  refine x_aload_n dX10_init_100 rfl ?_
  refine x_iconst (-1) dX10_init_101 ?_
  refine pf_X10_50 (fs := [.int 0, .ref 43, .ref 44, .int 0, .int 0, .ref 45, .int 0, .ref 46, .ref 47, .int 0, .ref 48, .ref 49, .int 0, .int 0, .int 0, .int 0, .int 0, .int 0, .int 0, .int 0, .int 0, .int 0, .int 0, .int 0, .long 0, .int 0, .int 0, .int 0, .ref 50, .ref 51, .ref 52, .ref 53, .ref 54, .int 0, .int 0, .int 0, .null, .null, .null, .null]) dX10_init_102 cs_get (Nat.le_of_ble_eq_true rfl) (fun _ _ => ⟨rfl, rfl⟩) ?_
  refine Ex.eqW (w' := cst S ++ [.inr (8, [.int 0, .ref 43, .ref 44, .int 0, .int 0, .ref 45, .int 0, .ref 46, .ref 47, .int 0, .ref 48, .ref 49, .int 0, .int 0, .int 0, .int 0, .int 0, .int 0, .int 0, .int 0, .int 0, .int 0, .int 0, .int 0, .long 0, .int 0, .int 0, .int 0, .ref 50, .ref 51, .ref 52, .ref 53, .ref 54, .int 0, .int (-1), .int 0, .null, .null, .null, .null]), .inl (0, (960, .inl (fun _ => 0))), .inl (0, (6, .inl (fun _ => 0))), .inl (0, (160, .inl (fun _ => 0))), .inl (0, (3, .inl (fun _ => 0))), .inl (0, (8, .inl (fun _ => 0))), .inl (0, (6, .inl (fun _ => 0))), .inl (0, (12, .inl (fun _ => 0))), .inl (0, (8, .inl (fun _ => 0))), .inl (0, (8, .inl (fun _ => 0))), .inl (0, (3, .inl (fun _ => 0))), .inl (0, (8, .inl (fun _ => 0))), .inl (0, (12, .inl (fun _ => 0)))]) cs_set ?_
  refine x_aload_n dX10_init_105 rfl ?_
  refine x_iconst 4 dX10_init_106 ?_
  refine Ex.more (cb := 3 + 1) (sb := 168 + 4) (by omega) (by omega) ?_
  refine x_newZL (k := 55) (N := 4) (W := cst S ++ [.inr (8, [.int 0, .ref 43, .ref 44, .int 0, .int 0, .ref 45, .int 0, .ref 46, .ref 47, .int 0, .ref 48, .ref 49, .int 0, .int 0, .int 0, .int 0, .int 0, .int 0, .int 0, .int 0, .int 0, .int 0, .int 0, .int 0, .long 0, .int 0, .int 0, .int 0, .ref 50, .ref 51, .ref 52, .ref 53, .ref 54, .int 0, .int (-1), .int 0, .null, .null, .null, .null]), .inl (0, (960, .inl (fun _ => 0))), .inl (0, (6, .inl (fun _ => 0))), .inl (0, (160, .inl (fun _ => 0))), .inl (0, (3, .inl (fun _ => 0))), .inl (0, (8, .inl (fun _ => 0))), .inl (0, (6, .inl (fun _ => 0))), .inl (0, (12, .inl (fun _ => 0))), .inl (0, (8, .inl (fun _ => 0))), .inl (0, (8, .inl (fun _ => 0))), .inl (0, (3, .inl (fun _ => 0))), .inl (0, (8, .inl (fun _ => 0))), .inl (0, (12, .inl (fun _ => 0))), .inl (1, (4, .inl (fun _ => 0)))]) (cs_len (n := 13) rfl) (List.append_assoc _ _ _) dX10_init_107 (by decide) (by decide) (by decide) ?_
  refine pf_X10_53 (fs := [.int 0, .ref 43, .ref 44, .int 0, .int 0, .ref 45, .int 0, .ref 46, .ref 47, .int 0, .ref 48, .ref 49, .int 0, .int 0, .int 0, .int 0, .int 0, .int 0, .int 0, .int 0, .int 0, .int 0, .int 0, .int 0, .long 0, .int 0, .int 0, .int 0, .ref 50, .ref 51, .ref 52, .ref 53, .ref 54, .int 0, .int (-1), .int 0, .null, .null, .null, .null]) dX10_init_109 cs_get (Nat.le_of_ble_eq_true rfl) (fun _ _ => ⟨rfl, rfl⟩) ?_
  refine Ex.eqW (w' := cst S ++ [.inr (8, [.int 0, .ref 43, .ref 44, .int 0, .int 0, .ref 45, .int 0, .ref 46, .ref 47, .int 0, .ref 48, .ref 49, .int 0, .int 0, .int 0, .int 0, .int 0, .int 0, .int 0, .int 0, .int 0, .int 0, .int 0, .int 0, .long 0, .int 0, .int 0, .int 0, .ref 50, .ref 51, .ref 52, .ref 53, .ref 54, .int 0, .int (-1), .int 0, .ref 55, .null, .null, .null]), .inl (0, (960, .inl (fun _ => 0))), .inl (0, (6, .inl (fun _ => 0))), .inl (0, (160, .inl (fun _ => 0))), .inl (0, (3, .inl (fun _ => 0))), .inl (0, (8, .inl (fun _ => 0))), .inl (0, (6, .inl (fun _ => 0))), .inl (0, (12, .inl (fun _ => 0))), .inl (0, (8, .inl (fun _ => 0))), .inl (0, (8, .inl (fun _ => 0))), .inl (0, (3, .inl (fun _ => 0))), .inl (0, (8, .inl (fun _ => 0))), .inl (0, (12, .inl (fun _ => 0))), .inl (1, (4, .inl (fun _ => 0)))]) cs_set ?_
  refine x_aload_n dX10_init_112 rfl ?_
  refine x_iconst 4 dX10_init_113 ?_
  refine Ex.more (cb := 2 + 1) (sb := 164 + 4) (by omega) (by omega) ?_
  refine x_newIL (k := 56) (N := 4) (W := cst S ++ [.inr (8, [.int 0, .ref 43, .ref 44, .int 0, .int 0, .ref 45, .int 0, .ref 46, .ref 47, .int 0, .ref 48, .ref 49, .int 0, .int 0, .int 0, .int 0, .int 0, .int 0, .int 0, .int 0, .int 0, .int 0, .int 0, .int 0, .long 0, .int 0, .int 0, .int 0, .ref 50, .ref 51, .ref 52, .ref 53, .ref 54, .int 0, .int (-1), .int 0, .ref 55, .null, .null, .null]), .inl (0, (960, .inl (fun _ => 0))), .inl (0, (6, .inl (fun _ => 0))), .inl (0, (160, .inl (fun _ => 0))), .inl (0, (3, .inl (fun _ => 0))), .inl (0, (8, .inl (fun _ => 0))), .inl (0, (6, .inl (fun _ => 0))), .inl (0, (12, .inl (fun _ => 0))), .inl (0, (8, .inl (fun _ => 0))), .inl (0, (8, .inl (fun _ => 0))), .inl (0, (3, .inl (fun _ => 0))), .inl (0, (8, .inl (fun _ => 0))), .inl (0, (12, .inl (fun _ => 0))), .inl (1, (4, .inl (fun _ => 0))), .inl (0, (4, .inl (fun _ => 0)))]) (cs_len (n := 14) rfl) (List.append_assoc _ _ _) dX10_init_114 (by decide) (by decide) (by decide) ?_
  refine pf_X10_57 (fs := [.int 0, .ref 43, .ref 44, .int 0, .int 0, .ref 45, .int 0, .ref 46, .ref 47, .int 0, .ref 48, .ref 49, .int 0, .int 0, .int 0, .int 0, .int 0, .int 0, .int 0, .int 0, .int 0, .int 0, .int 0, .int 0, .long 0, .int 0, .int 0, .int 0, .ref 50, .ref 51, .ref 52, .ref 53, .ref 54, .int 0, .int (-1), .int 0, .ref 55, .null, .null, .null]) dX10_init_116 cs_get (Nat.le_of_ble_eq_true rfl) (fun _ _ => ⟨rfl, rfl⟩) ?_
  refine Ex.eqW (w' := cst S ++ [.inr (8, [.int 0, .ref 43, .ref 44, .int 0, .int 0, .ref 45, .int 0, .ref 46, .ref 47, .int 0, .ref 48, .ref 49, .int 0, .int 0, .int 0, .int 0, .int 0, .int 0, .int 0, .int 0, .int 0, .int 0, .int 0, .int 0, .long 0, .int 0, .int 0, .int 0, .ref 50, .ref 51, .ref 52, .ref 53, .ref 54, .int 0, .int (-1), .int 0, .ref 55, .ref 56, .null, .null]), .inl (0, (960, .inl (fun _ => 0))), .inl (0, (6, .inl (fun _ => 0))), .inl (0, (160, .inl (fun _ => 0))), .inl (0, (3, .inl (fun _ => 0))), .inl (0, (8, .inl (fun _ => 0))), .inl (0, (6, .inl (fun _ => 0))), .inl (0, (12, .inl (fun _ => 0))), .inl (0, (8, .inl (fun _ => 0))), .inl (0, (8, .inl (fun _ => 0))), .inl (0, (3, .inl (fun _ => 0))), .inl (0, (8, .inl (fun _ => 0))), .inl (0, (12, .inl (fun _ => 0))), .inl (1, (4, .inl (fun _ => 0))), .inl (0, (4, .inl (fun _ => 0)))]) cs_set ?_
  refine x_aload_n dX10_init_119 rfl ?_
  refine x_iconst 4 dX10_init_120 ?_
  refine Ex.more (cb := 1 + 1) (sb := 160 + 4) (by omega) (by omega) ?_
  refine x_newIL (k := 57) (N := 4) (W := cst S ++ [.inr (8, [.int 0, .ref 43, .ref 44, .int 0, .int 0, .ref 45, .int 0, .ref 46, .ref 47, .int 0, .ref 48, .ref 49, .int 0, .int 0, .int 0, .int 0, .int 0, .int 0, .int 0, .int 0, .int 0, .int 0, .int 0, .int 0, .long 0, .int 0, .int 0, .int 0, .ref 50, .ref 51, .ref 52, .ref 53, .ref 54, .int 0, .int (-1), .int 0, .ref 55, .ref 56, .null, .null]), .inl (0, (960, .inl (fun _ => 0))), .inl (0, (6, .inl (fun _ => 0))), .inl (0, (160, .inl (fun _ => 0))), .inl (0, (3, .inl (fun _ => 0))), .inl (0, (8, .inl (fun _ => 0))), .inl (0, (6, .inl (fun _ => 0))), .inl (0, (12, .inl (fun _ => 0))), .inl (0, (8, .inl (fun _ => 0))), .inl (0, (8, .inl (fun _ => 0))), .inl (0, (3, .inl (fun _ => 0))), .inl (0, (8, .inl (fun _ => 0))), .inl (0, (12, .inl (fun _ => 0))), .inl (1, (4, .inl (fun _ => 0))), .inl (0, (4, .inl (fun _ => 0))), .inl (0, (4, .inl (fun _ => 0)))]) (cs_len (n := 15) rfl) (List.append_assoc _ _ _) dX10_init_121 (by decide) (by decide) (by decide) ?_
  refine pf_X10_60 (fs := [.int 0, .ref 43, .ref 44, .int 0, .int 0, .ref 45, .int 0, .ref 46, .ref 47, .int 0, .ref 48, .ref 49, .int 0, .int 0, .int 0, .int 0, .int 0, .int 0, .int 0, .int 0, .int 0, .int 0, .int 0, .int 0, .long 0, .int 0, .int 0, .int 0, .ref 50, .ref 51, .ref 52, .ref 53, .ref 54, .int 0, .int (-1), .int 0, .ref 55, .ref 56, .null, .null]) dX10_init_123 cs_get (Nat.le_of_ble_eq_true rfl) (fun _ _ => ⟨rfl, rfl⟩) ?_
  refine Ex.eqW (w' := cst S ++ [.inr (8, [.int 0, .ref 43, .ref 44, .int 0, .int 0, .ref 45, .int 0, .ref 46, .ref 47, .int 0, .ref 48, .ref 49, .int 0, .int 0, .int 0, .int 0, .int 0, .int 0, .int 0, .int 0, .int 0, .int 0, .int 0, .int 0, .long 0, .int 0, .int 0, .int 0, .ref 50, .ref 51, .ref 52, .ref 53, .ref 54, .int 0, .int (-1), .int 0, .ref 55, .ref 56, .ref 57, .null]), .inl (0, (960, .inl (fun _ => 0))), .inl (0, (6, .inl (fun _ => 0))), .inl (0, (160, .inl (fun _ => 0))), .inl (0, (3, .inl (fun _ => 0))), .inl (0, (8, .inl (fun _ => 0))), .inl (0, (6, .inl (fun _ => 0))), .inl (0, (12, .inl (fun _ => 0))), .inl (0, (8, .inl (fun _ => 0))), .inl (0, (8, .inl (fun _ => 0))), .inl (0, (3, .inl (fun _ => 0))), .inl (0, (8, .inl (fun _ => 0))), .inl (0, (12, .inl (fun _ => 0))), .inl (1, (4, .inl (fun _ => 0))), .inl (0, (4, .inl (fun _ => 0))), .inl (0, (4, .inl (fun _ => 0)))]) cs_set ?_
  refine x_aload_n dX10_init_126 rfl ?_
  refine x_sipush 160 dX10_init_127 ?_
  refine Ex.more (cb := 0 + 1) (sb := 0 + 160) (by omega) (by omega) ?_
  refine x_newIL (k := 58) (N := 160) (W := cst S ++ [.inr (8, [.int 0, .ref 43, .ref 44, .int 0, .int 0, .ref 45, .int 0, .ref 46, .ref 47, .int 0, .ref 48, .ref 49, .int 0, .int 0, .int 0, .int 0, .int 0, .int 0, .int 0, .int 0, .int 0, .int 0, .int 0, .int 0, .long 0, .int 0, .int 0, .int 0, .ref 50, .ref 51, .ref 52, .ref 53, .ref 54, .int 0, .int (-1), .int 0, .ref 55, .ref 56, .ref 57, .null]), .inl (0, (960, .inl (fun _ => 0))), .inl (0, (6, .inl (fun _ => 0))), .inl (0, (160, .inl (fun _ => 0))), .inl (0, (3, .inl (fun _ => 0))), .inl (0, (8, .inl (fun _ => 0))), .inl (0, (6, .inl (fun _ => 0))), .inl (0, (12, .inl (fun _ => 0))), .inl (0, (8, .inl (fun _ => 0))), .inl (0, (8, .inl (fun _ => 0))), .inl (0, (3, .inl (fun _ => 0))), .inl (0, (8, .inl (fun _ => 0))), .inl (0, (12, .inl (fun _ => 0))), .inl (1, (4, .inl (fun _ => 0))), .inl (0, (4, .inl (fun _ => 0))), .inl (0, (4, .inl (fun _ => 0))), .inl (0, (160, .inl (fun _ => 0)))]) (cs_len (n := 16) rfl) (List.append_assoc _ _ _) dX10_init_130 (by decide) (by decide) (by decide) ?_
  refine pf_X10_63 (fs := [.int 0, .ref 43, .ref 44, .int 0, .int 0, .ref 45, .int 0, .ref 46, .ref 47, .int 0, .ref 48, .ref 49, .int 0, .int 0, .int 0, .int 0, .int 0, .int 0, .int 0, .int 0, .int 0, .int 0, .int 0, .int 0, .long 0, .int 0, .int 0, .int 0, .ref 50, .ref 51, .ref 52, .ref 53, .ref 54, .int 0, .int (-1), .int 0, .ref 55, .ref 56, .ref 57, .null]) dX10_init_132 cs_get (Nat.le_of_ble_eq_true rfl) (fun _ _ => ⟨rfl, rfl⟩) ?_
  refine Ex.eqW (w' := cst S ++ [.inr (8, [.int 0, .ref 43, .ref 44, .int 0, .int 0, .ref 45, .int 0, .ref 46, .ref 47, .int 0, .ref 48, .ref 49, .int 0, .int 0, .int 0, .int 0, .int 0, .int 0, .int 0, .int 0, .int 0, .int 0, .int 0, .int 0, .long 0, .int 0, .int 0, .int 0, .ref 50, .ref 51, .ref 52, .ref 53, .ref 54, .int 0, .int (-1), .int 0, .ref 55, .ref 56, .ref 57, .ref 58]), .inl (0, (960, .inl (fun _ => 0))), .inl (0, (6, .inl (fun _ => 0))), .inl (0, (160, .inl (fun _ => 0))), .inl (0, (3, .inl (fun _ => 0))), .inl (0, (8, .inl (fun _ => 0))), .inl (0, (6, .inl (fun _ => 0))), .inl (0, (12, .inl (fun _ => 0))), .inl (0, (8, .inl (fun _ => 0))), .inl (0, (8, .inl (fun _ => 0))), .inl (0, (3, .inl (fun _ => 0))), .inl (0, (8, .inl (fun _ => 0))), .inl (0, (12, .inl (fun _ => 0))), .inl (1, (4, .inl (fun _ => 0))), .inl (0, (4, .inl (fun _ => 0))), .inl (0, (4, .inl (fun _ => 0))), .inl (0, (160, .inl (fun _ => 0)))]) cs_set ?_
  refine Ex.eqW (w' := cst S ++ (mw (z0, z0, 0, z0, 0) (0, z0, z0, 0, z0, z0, 0) ML0 (z0, z0) (z0, z0, z0, 0, -1, 0) (z0, z0, z0, z0) ++ [])) rfl ?_
  refine x_aload_n dX10_init_135 rfl ?_
  refine mg_23 dX10_init_136 ?_
  refine x_iconst 2 dX10_init_139 ?_
  refine x_bipush 100 dX10_init_140 ?_
  refine msK_46 2 dX10_init_142 rfl (by decide) ?_
  refine x_aload_n dX10_init_143 rfl ?_
  refine x_iconst 0 dX10_init_144 ?_
  refine x_bipush 116 dX10_init_145 ?_
  refine x_bipush 104 dX10_init_147 ?_
  refine x_bipush 105 dX10_init_149 ?_
  refine x_bipush 110 dX10_init_151 ?_
  refine x_bipush 107 dX10_init_153 ?_
  refine x_bipush 115 dX10_init_155 ?_
  refine x_bipush 32 dX10_init_157 ?_
  refine x_bipush 119 dX10_init_159 ?_
  refine ii_X10_66 dX10_init_161 (c_X10_spell (a := 0) (by decide)) mw_o (by decide) (Nat.le_of_ble_eq_true rfl) ?_
  refine x_aload_n dX10_init_164 rfl ?_
  refine x_bipush 8 dX10_init_165 ?_
  refine x_bipush 101 dX10_init_167 ?_
  refine x_bipush 97 dX10_init_169 ?_
  refine x_bipush 116 dX10_init_171 ?_
  refine x_bipush 104 dX10_init_173 ?_
  refine x_bipush 101 dX10_init_175 ?_
  refine x_bipush 114 dX10_init_177 ?_
  refine x_bipush 32 dX10_init_179 ?_
  refine x_bipush 43 dX10_init_181 ?_
  refine ii_X10_66 dX10_init_183 (c_X10_spell (a := 8) (by decide)) mw_o (by decide) (Nat.le_of_ble_eq_true rfl) ?_
  refine x_aload_n dX10_init_186 rfl ?_
  refine x_bipush 16 dX10_init_187 ?_
  refine x_bipush 32 dX10_init_189 ?_
  refine x_bipush 109 dX10_init_191 ?_
  refine x_bipush 101 dX10_init_193 ?_
  refine x_bipush 110 dX10_init_195 ?_
  refine x_bipush 100 dX10_init_197 ?_
  refine x_bipush 101 dX10_init_199 ?_
  refine x_bipush 100 dX10_init_201 ?_
  refine x_bipush 32 dX10_init_203 ?_
  refine ii_X10_66 dX10_init_205 (c_X10_spell (a := 16) (by decide)) mw_o (by decide) (Nat.le_of_ble_eq_true rfl) ?_
  refine x_aload_n dX10_init_208 rfl ?_
  refine x_bipush 24 dX10_init_209 ?_
  refine x_bipush 42 dX10_init_211 ?_
  refine x_bipush 32 dX10_init_213 ?_
  refine x_bipush 57 dX10_init_215 ?_
  refine x_bipush 32 dX10_init_217 ?_
  refine x_bipush 59 dX10_init_219 ?_
  refine x_bipush 32 dX10_init_221 ?_
  refine x_bipush 109 dX10_init_223 ?_
  refine x_bipush 101 dX10_init_225 ?_
  refine ii_X10_66 dX10_init_227 (c_X10_spell (a := 24) (by decide)) mw_o (by decide) (Nat.le_of_ble_eq_true rfl) ?_
  refine x_aload_n dX10_init_230 rfl ?_
  refine x_bipush 32 dX10_init_231 ?_
  refine x_bipush 110 dX10_init_233 ?_
  refine x_bipush 100 dX10_init_235 ?_
  refine x_bipush 115 dX10_init_237 ?_
  refine x_bipush 32 dX10_init_239 ?_
  refine x_bipush 49 dX10_init_241 ?_
  refine x_bipush 48 dX10_init_243 ?_
  refine x_bipush 32 dX10_init_245 ?_
  refine x_bipush 45 dX10_init_247 ?_
  refine ii_X10_66 dX10_init_249 (c_X10_spell (a := 32) (by decide)) mw_o (by decide) (Nat.le_of_ble_eq_true rfl) ?_
  refine x_aload_n dX10_init_252 rfl ?_
  refine x_bipush 40 dX10_init_253 ?_
  refine x_bipush 32 dX10_init_255 ?_
  refine x_bipush 119 dX10_init_257 ?_
  refine x_bipush 101 dX10_init_259 ?_
  refine x_bipush 97 dX10_init_261 ?_
  refine x_bipush 116 dX10_init_263 ?_
  refine x_bipush 104 dX10_init_265 ?_
  refine x_bipush 101 dX10_init_267 ?_
  refine x_bipush 114 dX10_init_269 ?_
  refine ii_X10_66 dX10_init_271 (c_X10_spell (a := 40) (by decide)) mw_o (by decide) (Nat.le_of_ble_eq_true rfl) ?_
  refine x_aload_n dX10_init_274 rfl ?_
  refine x_bipush 48 dX10_init_275 ?_
  refine x_bipush 32 dX10_init_277 ?_
  refine x_bipush 59 dX10_init_279 ?_
  refine x_bipush 32 dX10_init_281 ?_
  refine x_bipush 99 dX10_init_283 ?_
  refine x_bipush 108 dX10_init_285 ?_
  refine x_bipush 97 dX10_init_287 ?_
  refine x_bipush 105 dX10_init_289 ?_
  refine x_bipush 109 dX10_init_291 ?_
  refine ii_X10_66 dX10_init_293 (c_X10_spell (a := 48) (by decide)) mw_o (by decide) (Nat.le_of_ble_eq_true rfl) ?_
  refine x_aload_n dX10_init_296 rfl ?_
  refine x_bipush 56 dX10_init_297 ?_
  refine x_bipush 115 dX10_init_299 ?_
  refine x_bipush 32 dX10_init_301 ?_
  refine x_bipush 50 dX10_init_303 ?_
  refine x_bipush 48 dX10_init_305 ?_
  refine x_bipush 32 dX10_init_307 ?_
  refine x_bipush 43 dX10_init_309 ?_
  refine x_bipush 32 dX10_init_311 ?_
  refine x_bipush 121 dX10_init_313 ?_
  refine ii_X10_66 dX10_init_315 (c_X10_spell (a := 56) (by decide)) mw_o (by decide) (Nat.le_of_ble_eq_true rfl) ?_
  refine x_aload_n dX10_init_318 rfl ?_
  refine x_bipush 64 dX10_init_319 ?_
  refine x_bipush 101 dX10_init_321 ?_
  refine x_bipush 97 dX10_init_323 ?_
  refine x_bipush 114 dX10_init_325 ?_
  refine x_bipush 115 dX10_init_327 ?_
  refine x_bipush 32 dX10_init_329 ?_
  refine x_bipush 59 dX10_init_331 ?_
  refine x_bipush 32 dX10_init_333 ?_
  refine x_bipush 32 dX10_init_335 ?_
  refine ii_X10_66 dX10_init_337 (c_X10_spell (a := 64) (by decide)) mw_o (by decide) (Nat.le_of_ble_eq_true rfl) ?_
  refine x_aload_n dX10_init_340 rfl ?_
  refine mg_17 dX10_init_341 ?_
  refine x_iconst 0 dX10_init_344 ?_
  refine x_bipush 72 dX10_init_345 ?_
  refine msK_44 0 dX10_init_347 rfl (by decide) ?_
  refine x_aload_n dX10_init_348 rfl ?_
  refine x_iconst 1 dX10_init_349 ?_
  refine mp_70 dX10_init_350 ?_
  exact Ex.ret (v := none) ⟨rfl, dX10_init_353⟩ ⟨rfl, _, by decide +kernel, rfl⟩
