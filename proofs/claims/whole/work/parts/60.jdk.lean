theorem kf_J0_9 : Cond.fieldLink RJ0 9 "java/lang/String" "value" "[B" ∈ gw_tbl := gw_at 1433 (by decide +kernel) rfl
theorem kf_J0_15 : Cond.fieldLink RJ0 15 "java/lang/String" "coder" "B" ∈ gw_tbl := gw_at 1434 (by decide +kernel) rfl
theorem kf_J0_38 : Cond.fieldLink RJ0 38 "java/lang/String" "COMPACT_STRINGS" "Z" ∈ gw_tbl := gw_at 308 (by decide +kernel) rfl
theorem kf_J0_1053 : Cond.fieldLink RJ0 1053 "jdk/internal/util/Preconditions" "SIOOBE_FORMATTER" "Ljava/util/function/BiFunction;" ∈ gw_tbl := gw_at 324 (by decide +kernel) rfl
/-- string k; its bytes -/
abbrev fS (k : Nat) : UInt32 := UInt32.ofNat k
abbrev fB (k : Nat) : UInt32 := UInt32.ofNat (300 + k)
abbrev slen (k : Nat) : Nat := (strB k).length
abbrev sby (k j : Nat) : Int32 := (strB k).getD j 0
theorem fS_n {k : Nat} (h : k < 14) : (fS k).toNat = k := by
  show (UInt32.ofNat k).toNat = k
  rw [UInt32.toNat_ofNat']
  exact Nat.mod_eq_of_lt (by omega)
theorem fB_n {k : Nat} (h : k < 14) : (fB k).toNat = 300 + k := by
  show (UInt32.ofNat (300 + k)).toNat = 300 + k
  rw [UInt32.toNat_ofNat']
  exact Nat.mod_eq_of_lt (by omega)
theorem str_len : ∀ k, k < 14 → strLens.getD k 0 = slen k := by decide +kernel
theorem str_byt : ∀ k, k < 14 → strByts.getD k [] = strB k := by decide +kernel
theorem slen_le : ∀ k, k < 14 → slen k ≤ 70 := by decide +kernel
theorem sby_ok : ∀ k, k < 14 → ∀ c ∈ strB k, 0 ≤ c ∧ c < 128 := by decide +kernel
theorem sby_b {k j : Nat} (hk : k < 14) : 0 ≤ sby k j ∧ sby k j < 128 := by
  by_cases h : j < (strB k).length
  · have e : sby k j = (strB k)[j] := by simp [List.getD, h]
    rw [e]
    exact sby_ok k hk _ (List.getElem_mem h)
  · have e : sby k j = 0 := by simp [List.getD, Nat.not_lt.mp h]
    rw [e]; decide
theorem sby_c {x : Int32} (h : 0 ≤ x ∧ x < 128) : ((x &&& 255).toUInt32 % 65536).toInt32 = x ∧ narrow .char (.int x) = .int x := by
  obtain ⟨n, hn, rfl⟩ := nat_of (n := 128) h.1 h.2 (by omega)
  have hq : ∀ n, n < 128 → ((nI n &&& 255).toUInt32 % 65536).toInt32 = nI n ∧ narrow .char (.int (nI n)) = .int (nI n) := by decide +kernel
  exact hq n hn
theorem shr_0 (x : Int32) : x >>> ((0 : Int32) &&& 31) = x := by
  rw [show (0 : Int32) &&& 31 = 0 from by decide]
  exact Int32.shiftRight_zero
section JSTR
variable {X : Nat × (Nat → Int32)} {M : MI} {d : Nat} {Ret : Option Value → pc_W → Prop} {cb sb : Nat} {pc : Nat} {L : List (Option Value)} {st : List Value} {w : pc_W}
theorem x_sval {idx k : Nat} (hk : k < 14) (hd : decode M.2.2.1 pc = .ok (.getfield idx, 3)) (hlk : Cond.fieldLink M.1 idx "java/lang/String" "value" "[B" ∈ gw_tbl) (kk : Ex X M d Ret cb sb (pc + 3) L (.float (fB k) :: st) w) : Ex X M d Ret cb sb pc L (.float (fS k) :: st) w :=
  Ex.read kk (fun _ h => scS_tail h) (fun _ _ => trivial) (fun p l e R s m args below meth c Q A D ty H locs cells slots ls ad sa adV hx hb hown hts hK hG hP hS h => by
    have e1 := (hG.2.2.2.1.2 k hk).2
    have e2 := (hG.2.2.2.1.1.1 k hk).2.2.1
    have q1 : pv ad sa (.float (fB k)) = .ref (adV k) := by show Value.ref (sa (fB k).toNat) = _; rw [fB_n hk, e1]
    have q2 : pv ad sa (.float (fS k)) = .ref (sa k) := by show Value.ref (sa (fS k).toNat) = _; rw [fS_n hk]
    rw [q1] at h
    show W _ _ _ _ _ _ _ _ _ _ _ _ _ _ _ (F0 m pc ls (pv ad sa (.float (fS k)) :: st.map (pv ad sa)))
    rw [q2]
    exact vk_getf hx hb e2 hS hown (hts _ hlk) (fun _ h9 => h9) hd h)
theorem x_scod {idx k : Nat} (hk : k < 14) (hd : decode M.2.2.1 pc = .ok (.getfield idx, 3)) (hlk : Cond.fieldLink M.1 idx "java/lang/String" "coder" "B" ∈ gw_tbl) (kk : Ex X M d Ret cb sb (pc + 3) L (.int 0 :: st) w) : Ex X M d Ret cb sb pc L (.float (fS k) :: st) w :=
  Ex.read kk (fun _ h => scS_tail h) (fun _ _ => trivial) (fun p l e R s m args below meth c Q A D ty H locs cells slots ls ad sa adV hx hb hown hts hK hG hP hS h => by
    have e2 := (hG.2.2.2.1.1.1 k hk).2.1
    have q2 : pv ad sa (.float (fS k)) = .ref (sa k) := by show Value.ref (sa (fS k).toNat) = _; rw [fS_n hk]
    show W _ _ _ _ _ _ _ _ _ _ _ _ _ _ _ (F0 m pc ls (pv ad sa (.float (fS k)) :: st.map (pv ad sa)))
    rw [q2]
    exact vk_getf hx hb e2 hS hown (hts _ hlk) (fun _ h9 => h9) hd h)
theorem x_compact {idx : Nat} (hd : decode M.2.2.1 pc = .ok (.getstatic idx, 3)) (hlk : Cond.fieldLink M.1 idx "java/lang/String" "COMPACT_STRINGS" "Z" ∈ gw_tbl) (kk : Ex X M d Ret cb sb (pc + 3) L (.int 1 :: st) w) : Ex X M d Ret cb sb pc L st w :=
  Ex.read kk (fun _ h => h) (fun _ _ => trivial) (fun p l e R s m args below meth c Q A D ty H locs cells slots ls ad sa adV hx hb hown hts hK hG hP hS h => va_gets hx hb hG.2.2.2.2.1 hS hown (hts _ hlk) (fun _ h9 => h9) hd h)
theorem x_siobe {idx : Nat} (hd : decode M.2.2.1 pc = .ok (.getstatic idx, 3)) (hlk : Cond.fieldLink M.1 idx "jdk/internal/util/Preconditions" "SIOOBE_FORMATTER" "Ljava/util/function/BiFunction;" ∈ gw_tbl) (k1 : Ex X M d Ret cb sb (pc + 3) L (.null :: st) w) (k2 : Ex X M d Ret cb sb (pc + 3) L (.float 400 :: st) w) : Ex X M d Ret cb sb pc L st w := by
  intro p l e R s m args below meth c Q A D ty sa adV ad0 n0 cm sm hC ad H locs cells slots ls hS hl hL hs h1 h2
  have hC' := hC
  obtain ⟨hx, hb, hml, hown, hts, hK, hG, hA, hmn, hfr, hlo, hcr, hsr, -⟩ := hC'
  rcases hG.2.2.2.2.2.1 with z | z
  · exact va_gets hx hb z hS.2.2.2.2.2 hown (hts _ hlk) (fun _ h9 => h9) hd (k1 p l e R s m args below meth c Q A D ty sa adV ad0 n0 cm sm hC ad H locs cells slots ls hS hl hL (scS_cons trivial hs) h1 h2)
  · exact va_gets hx hb z hS.2.2.2.2.2 hown (hts _ hlk) (fun _ h9 => h9) hd (k2 p l e R s m args below meth c Q A D ty sa adV ad0 n0 cm sm hC ad H locs cells slots ls hS hl hL (scS_cons trivial hs) h1 h2)
theorem x_sblen {k : Nat} (hk : k < 14) (hd : decode M.2.2.1 pc = .ok (.arraylength, 1)) (kk : Ex X M d Ret cb sb (pc + 1) L (.int (nI (slen k)) :: st) w) : Ex X M d Ret cb sb pc L (.float (fB k) :: st) w :=
  Ex.read kk (fun _ h => scS_tail h) (fun _ _ => trivial) (fun p l e R s m args below meth c Q A D ty H locs cells slots ls ad sa adV hx hb hown hts hK hG hP hS h => by
    have e1 := (hG.2.2.2.1.2 k hk).2
    have e2 := (hG.2.2.2.1.1.1 k hk).2.2.2
    rw [str_len k hk] at e2
    have q1 : pv ad sa (.float (fB k)) = .ref (adV k) := by show Value.ref (sa (fB k).toNat) = _; rw [fB_n hk, e1]
    show W _ _ _ _ _ _ _ _ _ _ _ _ _ _ _ (F0 m pc ls (pv ad sa (.float (fB k)) :: st.map (pv ad sa)))
    rw [q1]
    exact va_tlen hx hb e2 hS rfl hd h)
theorem x_sbld {k i : Nat} (hk : k < 14) (hi : i < slen k) (hd : decode M.2.2.1 pc = .ok (.baload, 1)) (kk : Ex X M d Ret cb sb (pc + 1) L (.int (sby k i) :: st) w) : Ex X M d Ret cb sb pc L (.int (nI i) :: .float (fB k) :: st) w :=
  Ex.read kk (fun _ h => scS_tail (scS_tail h)) (fun _ _ => trivial) (fun p l e R s m args below meth c Q A D ty H locs cells slots ls ad sa adV hx hb hown hts hK hG hP hS h => by
    have e1 := (hG.2.2.2.1.2 k hk).2
    have e2 := (hG.2.2.2.1.1.1 k hk).2.2.2
    rw [str_len k hk, str_byt k hk] at e2
    have hl := slen_le k hk
    have q1 : pv ad sa (.float (fB k)) = .ref (adV k) := by show Value.ref (sa (fB k).toNat) = _; rw [fB_n hk, e1]
    show W _ _ _ _ _ _ _ _ _ _ _ _ _ _ _ (F0 m pc ls (pv ad sa (.int (nI i)) :: pv ad sa (.float (fB k)) :: st.map (pv ad sa)))
    rw [q1]
    exact va_tb hx hb e2 hS (vp_in_nI hi (by omega)) (by show Value.int (sby k (nI i).toNatClampNeg) = _; rw [nI_clamp (by omega)]; rfl) hd h)
theorem x_ldcS {idx k : Nat} (hk : k < 14) (hd : decode M.2.2.1 pc = .ok (.ldc idx, 2)) (ho : strOwn k = M.1) (hi : strIdx k = idx) (kk : Ex X M d Ret cb sb (pc + 2) L (.float (fS k) :: st) w) : Ex X M d Ret cb sb pc L st w :=
  Ex.read kk (fun _ h => h) (fun _ _ => trivial) (fun p l e R s m args below meth c Q A D ty H locs cells slots ls ad sa adV hx hb hown hts hK hG hP hS h => by
    have e1 := (hG.2.2.2.1.2 k hk).1
    rw [ho, hi] at e1
    have q2 : pv ad sa (.float (fS k)) = .ref (sa k) := by show Value.ref (sa (fS k).toNat) = _; rw [fS_n hk]
    rw [q2] at h
    exact va_ldcS hx hb hown e1 hd h)
/-- a call of a string's own method -/
theorem Ex.callVS {idx d' cm' sm' n k : Nat} {y : MethodName} {bytes : ByteArray} {maxL : Nat} {ret : Option FieldType} {As : List Value} {Ret' : Option Value → pc_W → Prop} (hk : k < 14) (hd : decode M.2.2.1 pc = .ok (.invokevirtual idx, 3)) (hMt : Mt X d' cm' sm' y bytes maxL ret (.float (fS k) :: As) w Ret')
    (hc : Cond.code y bytes maxL ret ∈ gw_tbl) (hlk : Cond.methodLink M.1 idx y ∈ gw_tbl) (hin : Cond.instanceMethod y ∈ gw_tbl) (hse : Cond.selects y.cls y y ∈ gw_tbl) (hini : Cond.initialized y.cls ∈ gw_tbl) (hy : y.cls ≠ "java/lang/invoke/MethodHandle" ∧ y.cls ≠ "java/lang/invoke/VarHandle" ∧ (parseMethodDescriptor y.desc).map (fun d => d.parameters.length) = some n) (hn : As.length = n)
    (hqc : "java/lang/String" = y.cls) (hroom : d' + 1 ≤ d ∧ maxL ≤ 45) (hcat : (st.map Value.category).sum ≤ 8)
    (kk : ∀ (v : Option Value) (w' : pc_W), Ret' v w' → w.length ≤ w'.length → Ex X M d Ret cb sb (pc + 3) L (v.toList ++ st) w') : Ex X M d Ret (cb + cm') (sb + sm') pc L (As.reverse ++ .float (fS k) :: st) w := by
  refine Ex.callG (as := .float (fS k) :: As) (st' := st) hMt (fun n h => ⟨fun v hv => ?_, fun v hv => h v (List.mem_append_right _ (List.mem_cons_of_mem _ hv))⟩) ?_ kk
  · rcases List.mem_cons.mp hv with rfl | hv
    · exact h _ (List.mem_append_right _ List.mem_cons_self)
    · exact h _ (List.mem_append_left _ (List.mem_reverse.mpr hv))
  · intro p l e R s m args below meth c A D ty H locs cells slots ls ad sa adV hfix hlz hK hG hP hS hfr hlo h1 h2 hMet hpre
    have hts := hfix.2.2.2.2
    have q2 : pv ad sa (.float (fS k)) = .ref (sa k) := by show Value.ref (sa (fS k).toNat) = _; rw [fS_n hk]
    rw [List.map_cons, q2] at hpre
    rw [List.map_cons, q2]
    refine va_runV (As := As.map (pv ad sa)) (n := n) (C := "java/lang/String") (nL := M.2.2.2.1) hfix hMet ⟨callB_of n hts (tbl_in hc) rfl rfl rfl (hts _ hini) (hts _ hlk) hy ⟨by show d' + 1 ≤ _; omega, by show 8 + (maxL + 11) + 64 * d' ≤ _; omega⟩, hts _ hin, by rw [hqc]; exact hts _ hse⟩ ⟨hpre.1, vk_recv hG.2.2.2.1.1 hk hS, hpre.2⟩ rfl (by rw [List.length_map]; exact hn) hlz ?_ ?_ hd ⟨h1, h2⟩
    · show (As.reverse ++ .float (fS k) :: st).map (pv ad sa) = (As.map (pv ad sa)).reverse ++ .ref (sa k) :: st.map (pv ad sa)
      rw [List.map_append, List.map_reverse, List.map_cons, q2]
    · refine lv_room ?_
      rw [List.map_map]
      have e : ((fun v : Value => v.category) ∘ pv ad sa) = Value.category := funext fun v => pv_cat ad sa v
      rw [e]; exact hcat
end JSTR
section JCALL
variable {X : Nat × (Nat → Int32)} {d : Nat} {Ret : Option Value → pc_W → Prop} {cb sb : Nat} {pc : Nat} {L : List (Option Value)} {st : List Value} {w : pc_W} {mn : String} {cc : ByteArray} {nL : Nat} {rk : Option FieldType}
theorem ii_J0_335 {d' k : Nat} {r0 : Int32} {W : pc_W} (hd : decode cc pc = .ok (.invokevirtual 335, 3)) (hk : k < 14) (hMt : Mt X d' 0 0 yJ0_coder_7d493 cJ0_coder_7d493 1 (some .byte) [.float (fS k)] w (RI r0 W)) (hd' : d' + 1 ≤ d) (hcat : (st.map Value.category).sum ≤ 8) (kk : Ex X (RJ0, mn, cc, nL, rk) d Ret cb sb (pc + 3) L (.int r0 :: st) W) : Ex X (RJ0, mn, cc, nL, rk) d Ret cb sb pc L (.float (fS k) :: st) w := Ex.callVS (M := (RJ0, mn, cc, nL, rk)) (As := []) (n := 0) (cm' := 0) (sm' := 0) hk hd hMt kc_J0_coder_7d493 km_J0_335 kn_J0_coder_7d493 ks_J0_coder_7d493 ki_J0 (by decide +kernel) rfl rfl ⟨hd', by decide⟩ hcat (fun v w' h _ => by obtain ⟨rfl, rfl⟩ := h; exact kk)
theorem ii_J0_492 {d' k : Nat} {r0 : Int32} {W : pc_W} (hd : decode cc pc = .ok (.invokevirtual 492, 3)) (hk : k < 14) (hMt : Mt X d' 0 0 yJ0_isLatin1_aae02 cJ0_isLatin1_aae02 1 (some .boolean) [.float (fS k)] w (RI r0 W)) (hd' : d' + 1 ≤ d) (hcat : (st.map Value.category).sum ≤ 8) (kk : Ex X (RJ0, mn, cc, nL, rk) d Ret cb sb (pc + 3) L (.int r0 :: st) W) : Ex X (RJ0, mn, cc, nL, rk) d Ret cb sb pc L (.float (fS k) :: st) w := Ex.callVS (M := (RJ0, mn, cc, nL, rk)) (As := []) (n := 0) (cm' := 0) (sm' := 0) hk hd hMt kc_J0_isLatin1_aae02 km_J0_492 kn_J0_isLatin1_aae02 ks_J0_isLatin1_aae02 ki_J0 (by decide +kernel) rfl rfl ⟨hd', by decide⟩ hcat (fun v w' h _ => by obtain ⟨rfl, rfl⟩ := h; exact kk)
theorem ii_X9_60 {d' k : Nat} {r0 : Int32} {W : pc_W} (hd : decode cc pc = .ok (.invokevirtual 60, 3)) (hk : k < 14) (hMt : Mt X d' 0 0 yJ0_length_8abf5 cJ0_length_8abf5 1 (some .int) [.float (fS k)] w (RI r0 W)) (hd' : d' + 1 ≤ d) (hcat : (st.map Value.category).sum ≤ 8) (kk : Ex X (RX9, mn, cc, nL, rk) d Ret cb sb (pc + 3) L (.int r0 :: st) W) : Ex X (RX9, mn, cc, nL, rk) d Ret cb sb pc L (.float (fS k) :: st) w := Ex.callVS (M := (RX9, mn, cc, nL, rk)) (As := []) (n := 0) (cm' := 0) (sm' := 0) hk hd hMt kc_J0_length_8abf5 km_X9_60 kn_J0_length_8abf5 ks_J0_length_8abf5 ki_J0 (by decide +kernel) rfl rfl ⟨hd', by decide⟩ hcat (fun v w' h _ => by obtain ⟨rfl, rfl⟩ := h; exact kk)
theorem ii_X4_112 {d' k : Nat} {r0 : Int32} {W : pc_W} (hd : decode cc pc = .ok (.invokevirtual 112, 3)) (hk : k < 14) (hMt : Mt X d' 0 0 yJ0_length_8abf5 cJ0_length_8abf5 1 (some .int) [.float (fS k)] w (RI r0 W)) (hd' : d' + 1 ≤ d) (hcat : (st.map Value.category).sum ≤ 8) (kk : Ex X (RX4, mn, cc, nL, rk) d Ret cb sb (pc + 3) L (.int r0 :: st) W) : Ex X (RX4, mn, cc, nL, rk) d Ret cb sb pc L (.float (fS k) :: st) w := Ex.callVS (M := (RX4, mn, cc, nL, rk)) (As := []) (n := 0) (cm' := 0) (sm' := 0) hk hd hMt kc_J0_length_8abf5 km_X4_112 kn_J0_length_8abf5 ks_J0_length_8abf5 ki_J0 (by decide +kernel) rfl rfl ⟨hd', by decide⟩ hcat (fun v w' h _ => by obtain ⟨rfl, rfl⟩ := h; exact kk)
theorem ii_X9_66 {d' k : Nat} {a1 : Value} {r0 : Int32} {W : pc_W} (hd : decode cc pc = .ok (.invokevirtual 66, 3)) (hk : k < 14) (hMt : Mt X d' 0 0 yJ0_charAt_5068e cJ0_charAt_5068e 2 (some .char) [.float (fS k), a1] w (RI r0 W)) (hd' : d' + 1 ≤ d) (hcat : (st.map Value.category).sum ≤ 8) (kk : Ex X (RX9, mn, cc, nL, rk) d Ret cb sb (pc + 3) L (.int r0 :: st) W) : Ex X (RX9, mn, cc, nL, rk) d Ret cb sb pc L (a1 :: .float (fS k) :: st) w := Ex.callVS (M := (RX9, mn, cc, nL, rk)) (As := [a1]) (n := 1) (cm' := 0) (sm' := 0) hk hd hMt kc_J0_charAt_5068e km_X9_66 kn_J0_charAt_5068e ks_J0_charAt_5068e ki_J0 (by decide +kernel) rfl rfl ⟨hd', by decide⟩ hcat (fun v w' h _ => by obtain ⟨rfl, rfl⟩ := h; exact kk)
theorem ii_X4_118 {d' k : Nat} {a1 : Value} {r0 : Int32} {W : pc_W} (hd : decode cc pc = .ok (.invokevirtual 118, 3)) (hk : k < 14) (hMt : Mt X d' 0 0 yJ0_charAt_5068e cJ0_charAt_5068e 2 (some .char) [.float (fS k), a1] w (RI r0 W)) (hd' : d' + 1 ≤ d) (hcat : (st.map Value.category).sum ≤ 8) (kk : Ex X (RX4, mn, cc, nL, rk) d Ret cb sb (pc + 3) L (.int r0 :: st) W) : Ex X (RX4, mn, cc, nL, rk) d Ret cb sb pc L (a1 :: .float (fS k) :: st) w := Ex.callVS (M := (RX4, mn, cc, nL, rk)) (As := [a1]) (n := 1) (cm' := 0) (sm' := 0) hk hd hMt kc_J0_charAt_5068e km_X4_118 kn_J0_charAt_5068e ks_J0_charAt_5068e ki_J0 (by decide +kernel) rfl rfl ⟨hd', by decide⟩ hcat (fun v w' h _ => by obtain ⟨rfl, rfl⟩ := h; exact kk)
end JCALL
set_option maxRecDepth 100000 in
theorem c_J0_coder_7d493 {X : Nat × (Nat → Int32)} {w : pc_W} {k : Nat} (hk : k < 14) : Mt X 0 0 0 yJ0_coder_7d493 cJ0_coder_7d493 1 (some .byte) [.float (fS k)] w (RI 0 w) := by
  refine Mt.of (by decide +kernel) (fun _ _ => Nat.le_of_ble_eq_true rfl) ?_
  show Ex X mJ0_coder_7d493 _ _ _ _ _ _ _ _
  refine x_compact dJ0_coder_7d493_0 kf_J0_38 ?_
  refine x_if_eq 13 dJ0_coder_7d493_3 (fun hx => absurd hx (by decide)) (fun _ => ?_)
  refine x_aload_nF dJ0_coder_7d493_6 rfl ?_
  refine x_scod hk dJ0_coder_7d493_7 kf_J0_15 ?_
  refine x_goto 14 dJ0_coder_7d493_10 ?_
  exact Ex.ret (v := some (.int _)) ⟨dJ0_coder_7d493_14, _, rfl, by first | rfl | decide⟩ ⟨congrArg (fun z => some (Value.int z)) (rfl), rfl⟩
set_option maxRecDepth 100000 in
theorem c_J0_length_8abf5 {X : Nat × (Nat → Int32)} {w : pc_W} {k : Nat} (hk : k < 14) : Mt X 1 0 0 yJ0_length_8abf5 cJ0_length_8abf5 1 (some .int) [.float (fS k)] w (RI (nI (slen k)) w) := by
  refine Mt.of (by decide +kernel) (fun _ _ => Nat.le_of_ble_eq_true rfl) ?_
  show Ex X mJ0_length_8abf5 _ _ _ _ _ _ _ _
  refine x_aload_nF dJ0_length_8abf5_0 rfl ?_
  refine x_sval hk dJ0_length_8abf5_1 kf_J0_9 ?_
  refine x_sblen hk dJ0_length_8abf5_4 ?_
  refine x_aload_nF dJ0_length_8abf5_5 rfl ?_
  refine ii_J0_335 dJ0_length_8abf5_6 hk (c_J0_coder_7d493 hk) (by decide) (Nat.le_of_ble_eq_true rfl) ?_
  refine x_ishr dJ0_length_8abf5_9 ?_
  exact Ex.ret (v := some (.int _)) ⟨dJ0_length_8abf5_10, _, rfl, by first | rfl | decide⟩ ⟨congrArg (fun z => some (Value.int z)) (shr_0 _), rfl⟩
set_option maxRecDepth 100000 in
theorem c_J0_isLatin1_aae02 {X : Nat × (Nat → Int32)} {w : pc_W} {k : Nat} (hk : k < 14) : Mt X 0 0 0 yJ0_isLatin1_aae02 cJ0_isLatin1_aae02 1 (some .boolean) [.float (fS k)] w (RI 1 w) := by
  refine Mt.of (by decide +kernel) (fun _ _ => Nat.le_of_ble_eq_true rfl) ?_
  show Ex X mJ0_isLatin1_aae02 _ _ _ _ _ _ _ _
  refine x_compact dJ0_isLatin1_aae02_0 kf_J0_38 ?_
  refine x_if_eq 17 dJ0_isLatin1_aae02_3 (fun hx => absurd hx (by decide)) (fun _ => ?_)
  refine x_aload_nF dJ0_isLatin1_aae02_6 rfl ?_
  refine x_scod hk dJ0_isLatin1_aae02_7 kf_J0_15 ?_
  refine x_if_ne 17 dJ0_isLatin1_aae02_10 (fun hx => absurd rfl hx) (fun _ => ?_)
  refine x_iconst 1 dJ0_isLatin1_aae02_13 ?_
  refine x_goto 18 dJ0_isLatin1_aae02_14 ?_
  exact Ex.ret (v := some (.int _)) ⟨dJ0_isLatin1_aae02_18, _, rfl, by first | rfl | decide⟩ ⟨congrArg (fun z => some (Value.int z)) (rfl), rfl⟩
set_option maxRecDepth 100000 in
theorem c_J3_ciN {X : Nat × (Nat → Int32)} {w : pc_W} {i n : Nat} (hi : i < n) (hn : n < 2 ^ 31) : Mt X 0 0 0 yJ3_checkIndex_8e157 cJ3_checkIndex_8e157 3 (some .int) [.int (nI i), .int (nI n), .null] w (RI (nI i) w) := by
  refine Mt.of (by decide +kernel) (fun _ _ => Nat.le_of_ble_eq_true rfl) ?_
  show Ex X mJ3_checkIndex_8e157 _ _ _ _ _ _ _ _
  refine x_iload_n dJ3_checkIndex_8e157_0 rfl ?_
  refine x_if_lt 9 dJ3_checkIndex_8e157_1 (fun hx => absurd hx (nI_pos (by omega))) (fun _ => ?_)
  refine x_iload_n dJ3_checkIndex_8e157_4 rfl ?_
  refine x_iload_n dJ3_checkIndex_8e157_5 rfl ?_
  refine x_icmp_lt 16 dJ3_checkIndex_8e157_6 (fun _ => ?_) (fun hx => absurd (nI_lt hi hn) hx)
  refine x_iload_n dJ3_checkIndex_8e157_16 rfl ?_
  exact Ex.ret (v := some (.int _)) ⟨dJ3_checkIndex_8e157_17, _, rfl, by first | rfl | decide⟩ ⟨congrArg (fun z => some (Value.int z)) (rfl), rfl⟩
set_option maxRecDepth 100000 in
theorem c_J3_ciF {X : Nat × (Nat → Int32)} {w : pc_W} {i n : Nat} (hi : i < n) (hn : n < 2 ^ 31) : Mt X 0 0 0 yJ3_checkIndex_8e157 cJ3_checkIndex_8e157 3 (some .int) [.int (nI i), .int (nI n), .float 400] w (RI (nI i) w) := by
  refine Mt.of (by decide +kernel) (fun _ _ => Nat.le_of_ble_eq_true rfl) ?_
  show Ex X mJ3_checkIndex_8e157 _ _ _ _ _ _ _ _
  refine x_iload_n dJ3_checkIndex_8e157_0 rfl ?_
  refine x_if_lt 9 dJ3_checkIndex_8e157_1 (fun hx => absurd hx (nI_pos (by omega))) (fun _ => ?_)
  refine x_iload_n dJ3_checkIndex_8e157_4 rfl ?_
  refine x_iload_n dJ3_checkIndex_8e157_5 rfl ?_
  refine x_icmp_lt 16 dJ3_checkIndex_8e157_6 (fun _ => ?_) (fun hx => absurd (nI_lt hi hn) hx)
  refine x_iload_n dJ3_checkIndex_8e157_16 rfl ?_
  exact Ex.ret (v := some (.int _)) ⟨dJ3_checkIndex_8e157_17, _, rfl, by first | rfl | decide⟩ ⟨congrArg (fun z => some (Value.int z)) (rfl), rfl⟩
set_option maxRecDepth 100000 in
theorem c_J0_checkIndex_df160 {X : Nat × (Nat → Int32)} {w : pc_W} {i n : Nat} (hi : i < n) (hn : n < 2 ^ 31) : Mt X 1 0 0 yJ0_checkIndex_df160 cJ0_checkIndex_df160 2 none [.int (nI i), .int (nI n)] w (RV w) := by
  refine Mt.of (by decide +kernel) (fun _ _ => Nat.le_of_ble_eq_true rfl) ?_
  show Ex X mJ0_checkIndex_df160 _ _ _ _ _ _ _ _
  refine x_iload_n dJ0_checkIndex_df160_0 rfl ?_
  refine x_iload_n dJ0_checkIndex_df160_1 rfl ?_
  refine x_siobe dJ0_checkIndex_df160_2 kf_J0_1053 ?_ ?_
  · skip
    refine ii_J0_1059 dJ0_checkIndex_df160_5 (c_J3_ciN hi hn) (by decide) (Nat.le_of_ble_eq_true rfl) ?_
    refine x_pop dJ0_checkIndex_df160_8 ?_
    exact Ex.ret (v := none) ⟨rfl, dJ0_checkIndex_df160_9⟩ ⟨rfl, rfl⟩
  · skip
    refine ii_J0_1059 dJ0_checkIndex_df160_5 (c_J3_ciF hi hn) (by decide) (Nat.le_of_ble_eq_true rfl) ?_
    refine x_pop dJ0_checkIndex_df160_8 ?_
    exact Ex.ret (v := none) ⟨rfl, dJ0_checkIndex_df160_9⟩ ⟨rfl, rfl⟩
set_option maxRecDepth 100000 in
theorem c_J1_charAt_3b067 {X : Nat × (Nat → Int32)} {w : pc_W} {k i : Nat} (hk : k < 14) (hi : i < slen k) : Mt X 2 0 0 yJ1_charAt_3b067 cJ1_charAt_3b067 2 (some .char) [.float (fB k), .int (nI i)] w (RI (sby k i) w) := by
  refine Mt.of (by decide +kernel) (fun _ _ => Nat.le_of_ble_eq_true rfl) ?_
  show Ex X mJ1_charAt_3b067 _ _ _ _ _ _ _ _
  have hl := slen_le k hk
  have hb := sby_c (sby_b (k := k) (j := i) hk)
  refine x_iload_n dJ1_charAt_3b067_0 rfl ?_
  refine x_aload_nF dJ1_charAt_3b067_1 rfl ?_
  refine x_sblen hk dJ1_charAt_3b067_2 ?_
  refine ii_J1_9 dJ1_charAt_3b067_3 (c_J0_checkIndex_df160 hi (by omega)) (by decide) (Nat.le_of_ble_eq_true rfl) ?_
  refine x_aload_nF dJ1_charAt_3b067_6 rfl ?_
  refine x_iload_n dJ1_charAt_3b067_7 rfl ?_
  refine x_sbld hk hi dJ1_charAt_3b067_8 ?_
  refine x_sipush 255 dJ1_charAt_3b067_9 ?_
  refine x_iand dJ1_charAt_3b067_12 ?_
  refine x_i2c dJ1_charAt_3b067_13 ?_
  rw [hb.1]
  exact Ex.ret (v := some (.int _)) ⟨dJ1_charAt_3b067_14, _, rfl, hb.2⟩ ⟨congrArg (fun z => some (Value.int z)) (rfl), rfl⟩
set_option maxRecDepth 100000 in
theorem c_J0_charAt_5068e {X : Nat × (Nat → Int32)} {w : pc_W} {k i : Nat} (hk : k < 14) (hi : i < slen k) : Mt X 3 0 0 yJ0_charAt_5068e cJ0_charAt_5068e 2 (some .char) [.float (fS k), .int (nI i)] w (RI (sby k i) w) := by
  refine Mt.of (by decide +kernel) (fun _ _ => Nat.le_of_ble_eq_true rfl) ?_
  show Ex X mJ0_charAt_5068e _ _ _ _ _ _ _ _
  have hb := sby_c (sby_b (k := k) (j := i) hk)
  refine x_aload_nF dJ0_charAt_5068e_0 rfl ?_
  refine ii_J0_492 dJ0_charAt_5068e_1 hk (c_J0_isLatin1_aae02 hk) (by decide) (Nat.le_of_ble_eq_true rfl) ?_
  refine x_if_eq 16 dJ0_charAt_5068e_4 (fun hx => absurd hx (by decide)) (fun _ => ?_)
  refine x_aload_nF dJ0_charAt_5068e_7 rfl ?_
  refine x_sval hk dJ0_charAt_5068e_8 kf_J0_9 ?_
  refine x_iload_n dJ0_charAt_5068e_11 rfl ?_
  refine ii_J0_495 dJ0_charAt_5068e_12 (c_J1_charAt_3b067 hk hi) (by decide) (Nat.le_of_ble_eq_true rfl) ?_
  exact Ex.ret (v := some (.int _)) ⟨dJ0_charAt_5068e_15, _, rfl, hb.2⟩ ⟨congrArg (fun z => some (Value.int z)) (rfl), rfl⟩
abbrev ush (x k : Int32) : Int32 := (x.toUInt32 >>> (k.toUInt32 &&& Int32.toUInt32 31)).toInt32
def pcF (x : Int32) : Int32 :=
  let a := x - (ush x 1 &&& 1431655765)
  let b := (a &&& 858993459) + (ush a 2 &&& 858993459)
  let c := (b + ush b 4) &&& 252645135
  let e := c + ush c 8
  let f := e + ush e 16
  f &&& 63
set_option maxRecDepth 100000 in
theorem c_J6_bitCount_0f7a4 {X : Nat × (Nat → Int32)} {w : pc_W} {x : Int32}  : Mt X 0 0 0 yJ6_bitCount_0f7a4 cJ6_bitCount_0f7a4 1 (some .int) [.int x] w (RI (pcF x) w) := by
  refine Mt.of (by decide +kernel) (fun _ _ => Nat.le_of_ble_eq_true rfl) ?_
  show Ex X mJ6_bitCount_0f7a4 _ _ _ _ _ _ _ _
  refine x_iload_n dJ6_bitCount_0f7a4_0 rfl ?_
  refine x_iload_n dJ6_bitCount_0f7a4_1 rfl ?_
  refine x_iconst 1 dJ6_bitCount_0f7a4_2 ?_
  refine x_iushr dJ6_bitCount_0f7a4_3 ?_
  refine x_ldc_w dJ6_bitCount_0f7a4_4 kk_J6_265 ?_
  refine x_iand dJ6_bitCount_0f7a4_7 ?_
  refine x_isub dJ6_bitCount_0f7a4_8 ?_
  refine x_istore_n dJ6_bitCount_0f7a4_9 (by decide) ?_
  refine x_iload_n dJ6_bitCount_0f7a4_10 rfl ?_
  refine x_ldc_w dJ6_bitCount_0f7a4_11 kk_J6_266 ?_
  refine x_iand dJ6_bitCount_0f7a4_14 ?_
  refine x_iload_n dJ6_bitCount_0f7a4_15 rfl ?_
  refine x_iconst 2 dJ6_bitCount_0f7a4_16 ?_
  refine x_iushr dJ6_bitCount_0f7a4_17 ?_
  refine x_ldc_w dJ6_bitCount_0f7a4_18 kk_J6_266 ?_
  refine x_iand dJ6_bitCount_0f7a4_21 ?_
  refine x_iadd dJ6_bitCount_0f7a4_22 ?_
  refine x_istore_n dJ6_bitCount_0f7a4_23 (by decide) ?_
  refine x_iload_n dJ6_bitCount_0f7a4_24 rfl ?_
  refine x_iload_n dJ6_bitCount_0f7a4_25 rfl ?_
  refine x_iconst 4 dJ6_bitCount_0f7a4_26 ?_
  refine x_iushr dJ6_bitCount_0f7a4_27 ?_
  refine x_iadd dJ6_bitCount_0f7a4_28 ?_
  refine x_ldc_w dJ6_bitCount_0f7a4_29 kk_J6_267 ?_
  refine x_iand dJ6_bitCount_0f7a4_32 ?_
  refine x_istore_n dJ6_bitCount_0f7a4_33 (by decide) ?_
  refine x_iload_n dJ6_bitCount_0f7a4_34 rfl ?_
  refine x_iload_n dJ6_bitCount_0f7a4_35 rfl ?_
  refine x_bipush 8 dJ6_bitCount_0f7a4_36 ?_
  refine x_iushr dJ6_bitCount_0f7a4_38 ?_
  refine x_iadd dJ6_bitCount_0f7a4_39 ?_
  refine x_istore_n dJ6_bitCount_0f7a4_40 (by decide) ?_
  refine x_iload_n dJ6_bitCount_0f7a4_41 rfl ?_
  refine x_iload_n dJ6_bitCount_0f7a4_42 rfl ?_
  refine x_bipush 16 dJ6_bitCount_0f7a4_43 ?_
  refine x_iushr dJ6_bitCount_0f7a4_45 ?_
  refine x_iadd dJ6_bitCount_0f7a4_46 ?_
  refine x_istore_n dJ6_bitCount_0f7a4_47 (by decide) ?_
  refine x_iload_n dJ6_bitCount_0f7a4_48 rfl ?_
  refine x_bipush 63 dJ6_bitCount_0f7a4_49 ?_
  refine x_iand dJ6_bitCount_0f7a4_51 ?_
  exact Ex.ret (v := some (.int _)) ⟨dJ6_bitCount_0f7a4_52, _, rfl, by first | rfl | decide⟩ ⟨congrArg (fun z => some (Value.int z)) (rfl), rfl⟩
set_option maxRecDepth 100000 in
theorem c_X8_isSign {X : Nat × (Nat → Int32)} {w : pc_W} {c : Int32}  : Mt X 0 0 0 yX8_isSign cX8_isSign 1 (some .boolean) [.int c] w (RI (bi (qSn c = true)) w) := by
  refine Mt.of (by decide +kernel) (fun _ _ => Nat.le_of_ble_eq_true rfl) ?_
  show Ex X mX8_isSign _ _ _ _ _ _ _ _
  refine x_iload_n dX8_isSign_0 rfl ?_
  refine x_swC 40 (fun h40 => ?_) (fun h40 => ?_)
  · subst h40
    refine x_tswIn 104 dX8_isSign_1 (by decide) (by decide) rfl ?_
    refine x_iconst 1 dX8_isSign_104 ?_
    exact Ex.ret (v := some (.int _)) ⟨dX8_isSign_105, _, rfl, by first | rfl | decide⟩ ⟨congrArg (fun z => some (Value.int z)) (by decide), rfl⟩
  refine x_swC 41 (fun h41 => ?_) (fun h41 => ?_)
  · subst h41
    refine x_tswIn 104 dX8_isSign_1 (by decide) (by decide) rfl ?_
    refine x_iconst 1 dX8_isSign_104 ?_
    exact Ex.ret (v := some (.int _)) ⟨dX8_isSign_105, _, rfl, by first | rfl | decide⟩ ⟨congrArg (fun z => some (Value.int z)) (by decide), rfl⟩
  refine x_swC 42 (fun h42 => ?_) (fun h42 => ?_)
  · subst h42
    refine x_tswIn 104 dX8_isSign_1 (by decide) (by decide) rfl ?_
    refine x_iconst 1 dX8_isSign_104 ?_
    exact Ex.ret (v := some (.int _)) ⟨dX8_isSign_105, _, rfl, by first | rfl | decide⟩ ⟨congrArg (fun z => some (Value.int z)) (by decide), rfl⟩
  refine x_swC 43 (fun h43 => ?_) (fun h43 => ?_)
  · subst h43
    refine x_tswIn 104 dX8_isSign_1 (by decide) (by decide) rfl ?_
    refine x_iconst 1 dX8_isSign_104 ?_
    exact Ex.ret (v := some (.int _)) ⟨dX8_isSign_105, _, rfl, by first | rfl | decide⟩ ⟨congrArg (fun z => some (Value.int z)) (by decide), rfl⟩
  refine x_swC 44 (fun h44 => ?_) (fun h44 => ?_)
  · subst h44
    refine x_tswIn 106 dX8_isSign_1 (by decide) (by decide) rfl ?_
    refine x_iconst 0 dX8_isSign_106 ?_
    exact Ex.ret (v := some (.int _)) ⟨dX8_isSign_107, _, rfl, by first | rfl | decide⟩ ⟨congrArg (fun z => some (Value.int z)) (by decide), rfl⟩
  refine x_swC 45 (fun h45 => ?_) (fun h45 => ?_)
  · subst h45
    refine x_tswIn 104 dX8_isSign_1 (by decide) (by decide) rfl ?_
    refine x_iconst 1 dX8_isSign_104 ?_
    exact Ex.ret (v := some (.int _)) ⟨dX8_isSign_105, _, rfl, by first | rfl | decide⟩ ⟨congrArg (fun z => some (Value.int z)) (by decide), rfl⟩
  refine x_swC 46 (fun h46 => ?_) (fun h46 => ?_)
  · subst h46
    refine x_tswIn 106 dX8_isSign_1 (by decide) (by decide) rfl ?_
    refine x_iconst 0 dX8_isSign_106 ?_
    exact Ex.ret (v := some (.int _)) ⟨dX8_isSign_107, _, rfl, by first | rfl | decide⟩ ⟨congrArg (fun z => some (Value.int z)) (by decide), rfl⟩
  refine x_swC 47 (fun h47 => ?_) (fun h47 => ?_)
  · subst h47
    refine x_tswIn 106 dX8_isSign_1 (by decide) (by decide) rfl ?_
    refine x_iconst 0 dX8_isSign_106 ?_
    exact Ex.ret (v := some (.int _)) ⟨dX8_isSign_107, _, rfl, by first | rfl | decide⟩ ⟨congrArg (fun z => some (Value.int z)) (by decide), rfl⟩
  refine x_swC 48 (fun h48 => ?_) (fun h48 => ?_)
  · subst h48
    refine x_tswIn 106 dX8_isSign_1 (by decide) (by decide) rfl ?_
    refine x_iconst 0 dX8_isSign_106 ?_
    exact Ex.ret (v := some (.int _)) ⟨dX8_isSign_107, _, rfl, by first | rfl | decide⟩ ⟨congrArg (fun z => some (Value.int z)) (by decide), rfl⟩
  refine x_swC 49 (fun h49 => ?_) (fun h49 => ?_)
  · subst h49
    refine x_tswIn 106 dX8_isSign_1 (by decide) (by decide) rfl ?_
    refine x_iconst 0 dX8_isSign_106 ?_
    exact Ex.ret (v := some (.int _)) ⟨dX8_isSign_107, _, rfl, by first | rfl | decide⟩ ⟨congrArg (fun z => some (Value.int z)) (by decide), rfl⟩
  refine x_swC 50 (fun h50 => ?_) (fun h50 => ?_)
  · subst h50
    refine x_tswIn 106 dX8_isSign_1 (by decide) (by decide) rfl ?_
    refine x_iconst 0 dX8_isSign_106 ?_
    exact Ex.ret (v := some (.int _)) ⟨dX8_isSign_107, _, rfl, by first | rfl | decide⟩ ⟨congrArg (fun z => some (Value.int z)) (by decide), rfl⟩
  refine x_swC 51 (fun h51 => ?_) (fun h51 => ?_)
  · subst h51
    refine x_tswIn 106 dX8_isSign_1 (by decide) (by decide) rfl ?_
    refine x_iconst 0 dX8_isSign_106 ?_
    exact Ex.ret (v := some (.int _)) ⟨dX8_isSign_107, _, rfl, by first | rfl | decide⟩ ⟨congrArg (fun z => some (Value.int z)) (by decide), rfl⟩
  refine x_swC 52 (fun h52 => ?_) (fun h52 => ?_)
  · subst h52
    refine x_tswIn 106 dX8_isSign_1 (by decide) (by decide) rfl ?_
    refine x_iconst 0 dX8_isSign_106 ?_
    exact Ex.ret (v := some (.int _)) ⟨dX8_isSign_107, _, rfl, by first | rfl | decide⟩ ⟨congrArg (fun z => some (Value.int z)) (by decide), rfl⟩
  refine x_swC 53 (fun h53 => ?_) (fun h53 => ?_)
  · subst h53
    refine x_tswIn 106 dX8_isSign_1 (by decide) (by decide) rfl ?_
    refine x_iconst 0 dX8_isSign_106 ?_
    exact Ex.ret (v := some (.int _)) ⟨dX8_isSign_107, _, rfl, by first | rfl | decide⟩ ⟨congrArg (fun z => some (Value.int z)) (by decide), rfl⟩
  refine x_swC 54 (fun h54 => ?_) (fun h54 => ?_)
  · subst h54
    refine x_tswIn 106 dX8_isSign_1 (by decide) (by decide) rfl ?_
    refine x_iconst 0 dX8_isSign_106 ?_
    exact Ex.ret (v := some (.int _)) ⟨dX8_isSign_107, _, rfl, by first | rfl | decide⟩ ⟨congrArg (fun z => some (Value.int z)) (by decide), rfl⟩
  refine x_swC 55 (fun h55 => ?_) (fun h55 => ?_)
  · subst h55
    refine x_tswIn 106 dX8_isSign_1 (by decide) (by decide) rfl ?_
    refine x_iconst 0 dX8_isSign_106 ?_
    exact Ex.ret (v := some (.int _)) ⟨dX8_isSign_107, _, rfl, by first | rfl | decide⟩ ⟨congrArg (fun z => some (Value.int z)) (by decide), rfl⟩
  refine x_swC 56 (fun h56 => ?_) (fun h56 => ?_)
  · subst h56
    refine x_tswIn 106 dX8_isSign_1 (by decide) (by decide) rfl ?_
    refine x_iconst 0 dX8_isSign_106 ?_
    exact Ex.ret (v := some (.int _)) ⟨dX8_isSign_107, _, rfl, by first | rfl | decide⟩ ⟨congrArg (fun z => some (Value.int z)) (by decide), rfl⟩
  refine x_swC 57 (fun h57 => ?_) (fun h57 => ?_)
  · subst h57
    refine x_tswIn 106 dX8_isSign_1 (by decide) (by decide) rfl ?_
    refine x_iconst 0 dX8_isSign_106 ?_
    exact Ex.ret (v := some (.int _)) ⟨dX8_isSign_107, _, rfl, by first | rfl | decide⟩ ⟨congrArg (fun z => some (Value.int z)) (by decide), rfl⟩
  refine x_swC 58 (fun h58 => ?_) (fun h58 => ?_)
  · subst h58
    refine x_tswIn 106 dX8_isSign_1 (by decide) (by decide) rfl ?_
    refine x_iconst 0 dX8_isSign_106 ?_
    exact Ex.ret (v := some (.int _)) ⟨dX8_isSign_107, _, rfl, by first | rfl | decide⟩ ⟨congrArg (fun z => some (Value.int z)) (by decide), rfl⟩
  refine x_swC 59 (fun h59 => ?_) (fun h59 => ?_)
  · subst h59
    refine x_tswIn 104 dX8_isSign_1 (by decide) (by decide) rfl ?_
    refine x_iconst 1 dX8_isSign_104 ?_
    exact Ex.ret (v := some (.int _)) ⟨dX8_isSign_105, _, rfl, by first | rfl | decide⟩ ⟨congrArg (fun z => some (Value.int z)) (by decide), rfl⟩
  refine x_swC 60 (fun h60 => ?_) (fun h60 => ?_)
  · subst h60
    refine x_tswIn 104 dX8_isSign_1 (by decide) (by decide) rfl ?_
    refine x_iconst 1 dX8_isSign_104 ?_
    exact Ex.ret (v := some (.int _)) ⟨dX8_isSign_105, _, rfl, by first | rfl | decide⟩ ⟨congrArg (fun z => some (Value.int z)) (by decide), rfl⟩
  refine x_swC 61 (fun h61 => ?_) (fun h61 => ?_)
  · subst h61
    refine x_tswIn 104 dX8_isSign_1 (by decide) (by decide) rfl ?_
    refine x_iconst 1 dX8_isSign_104 ?_
    exact Ex.ret (v := some (.int _)) ⟨dX8_isSign_105, _, rfl, by first | rfl | decide⟩ ⟨congrArg (fun z => some (Value.int z)) (by decide), rfl⟩
  refine x_tswOut 106 dX8_isSign_1 (by have e40 := lv_neT (a := 40) h40 (by decide); have e41 := lv_neT (a := 41) h41 (by decide); have e42 := lv_neT (a := 42) h42 (by decide); have e43 := lv_neT (a := 43) h43 (by decide); have e44 := lv_neT (a := 44) h44 (by decide); have e45 := lv_neT (a := 45) h45 (by decide); have e46 := lv_neT (a := 46) h46 (by decide); have e47 := lv_neT (a := 47) h47 (by decide); have e48 := lv_neT (a := 48) h48 (by decide); have e49 := lv_neT (a := 49) h49 (by decide); have e50 := lv_neT (a := 50) h50 (by decide); have e51 := lv_neT (a := 51) h51 (by decide); have e52 := lv_neT (a := 52) h52 (by decide); have e53 := lv_neT (a := 53) h53 (by decide); have e54 := lv_neT (a := 54) h54 (by decide); have e55 := lv_neT (a := 55) h55 (by decide); have e56 := lv_neT (a := 56) h56 (by decide); have e57 := lv_neT (a := 57) h57 (by decide); have e58 := lv_neT (a := 58) h58 (by decide); have e59 := lv_neT (a := 59) h59 (by decide); have e60 := lv_neT (a := 60) h60 (by decide); have e61 := lv_neT (a := 61) h61 (by decide); omega) ?_
  refine x_iconst 0 dX8_isSign_106 ?_
  exact Ex.ret (v := some (.int _)) ⟨dX8_isSign_107, _, rfl, by first | rfl | decide⟩ ⟨congrArg (fun z => some (Value.int z)) (by rw [bi_f]; unfold qSn; simp [h40, h41, h42, h43, h45, h59, h60, h61]), rfl⟩
set_option maxRecDepth 100000 in
theorem c_X8_spelling {X : Nat × (Nat → Int32)} {w : pc_W} {k : Nat} (hk : k < 12) : Mt X 0 0 0 yX8_spelling cX8_spelling 1 (some (.object "java/lang/String")) [.int (nI (200 + k))] w (fun v w' => v = some (.float (fS (k + 1))) ∧ w' = w) := by
  refine Mt.of (by decide +kernel) (fun _ _ => Nat.le_of_ble_eq_true rfl) ?_
  show Ex X mX8_spelling _ _ _ _ _ _ _ _
  refine x_iload_n dX8_spelling_0 rfl ?_
  refine x_swC 200 (fun h200 => ?_) (fun h200 => ?_)
  · obtain rfl : k = 0 := by have := (nI_eq (a := 200 + k) (b := 200) (by omega) (by omega)).mp (h200.trans (show (200 : Int32) = nI 200 from rfl)); omega
    refine x_tswIn 64 dX8_spelling_1 (by decide) (by decide) rfl ?_
    refine x_ldcS (k := 1) (by decide) dX8_spelling_64 rfl rfl ?_
    exact Ex.ret (v := some (.float _)) ⟨dX8_spelling_66, _, rfl, Or.inl ⟨_, rfl⟩⟩ ⟨rfl, rfl⟩
  refine x_swC 201 (fun h201 => ?_) (fun h201 => ?_)
  · obtain rfl : k = 1 := by have := (nI_eq (a := 200 + k) (b := 201) (by omega) (by omega)).mp (h201.trans (show (201 : Int32) = nI 201 from rfl)); omega
    refine x_tswIn 67 dX8_spelling_1 (by decide) (by decide) rfl ?_
    refine x_ldcS (k := 2) (by decide) dX8_spelling_67 rfl rfl ?_
    exact Ex.ret (v := some (.float _)) ⟨dX8_spelling_69, _, rfl, Or.inl ⟨_, rfl⟩⟩ ⟨rfl, rfl⟩
  refine x_swC 202 (fun h202 => ?_) (fun h202 => ?_)
  · obtain rfl : k = 2 := by have := (nI_eq (a := 200 + k) (b := 202) (by omega) (by omega)).mp (h202.trans (show (202 : Int32) = nI 202 from rfl)); omega
    refine x_tswIn 70 dX8_spelling_1 (by decide) (by decide) rfl ?_
    refine x_ldcS (k := 3) (by decide) dX8_spelling_70 rfl rfl ?_
    exact Ex.ret (v := some (.float _)) ⟨dX8_spelling_72, _, rfl, Or.inl ⟨_, rfl⟩⟩ ⟨rfl, rfl⟩
  refine x_swC 203 (fun h203 => ?_) (fun h203 => ?_)
  · obtain rfl : k = 3 := by have := (nI_eq (a := 200 + k) (b := 203) (by omega) (by omega)).mp (h203.trans (show (203 : Int32) = nI 203 from rfl)); omega
    refine x_tswIn 73 dX8_spelling_1 (by decide) (by decide) rfl ?_
    refine x_ldcS (k := 4) (by decide) dX8_spelling_73 rfl rfl ?_
    exact Ex.ret (v := some (.float _)) ⟨dX8_spelling_75, _, rfl, Or.inl ⟨_, rfl⟩⟩ ⟨rfl, rfl⟩
  refine x_swC 204 (fun h204 => ?_) (fun h204 => ?_)
  · obtain rfl : k = 4 := by have := (nI_eq (a := 200 + k) (b := 204) (by omega) (by omega)).mp (h204.trans (show (204 : Int32) = nI 204 from rfl)); omega
    refine x_tswIn 76 dX8_spelling_1 (by decide) (by decide) rfl ?_
    refine x_ldcS (k := 5) (by decide) dX8_spelling_76 rfl rfl ?_
    exact Ex.ret (v := some (.float _)) ⟨dX8_spelling_78, _, rfl, Or.inl ⟨_, rfl⟩⟩ ⟨rfl, rfl⟩
  refine x_swC 205 (fun h205 => ?_) (fun h205 => ?_)
  · obtain rfl : k = 5 := by have := (nI_eq (a := 200 + k) (b := 205) (by omega) (by omega)).mp (h205.trans (show (205 : Int32) = nI 205 from rfl)); omega
    refine x_tswIn 79 dX8_spelling_1 (by decide) (by decide) rfl ?_
    refine x_ldcS (k := 6) (by decide) dX8_spelling_79 rfl rfl ?_
    exact Ex.ret (v := some (.float _)) ⟨dX8_spelling_81, _, rfl, Or.inl ⟨_, rfl⟩⟩ ⟨rfl, rfl⟩
  refine x_swC 206 (fun h206 => ?_) (fun h206 => ?_)
  · obtain rfl : k = 6 := by have := (nI_eq (a := 200 + k) (b := 206) (by omega) (by omega)).mp (h206.trans (show (206 : Int32) = nI 206 from rfl)); omega
    refine x_tswIn 82 dX8_spelling_1 (by decide) (by decide) rfl ?_
    refine x_ldcS (k := 7) (by decide) dX8_spelling_82 rfl rfl ?_
    exact Ex.ret (v := some (.float _)) ⟨dX8_spelling_84, _, rfl, Or.inl ⟨_, rfl⟩⟩ ⟨rfl, rfl⟩
  refine x_swC 207 (fun h207 => ?_) (fun h207 => ?_)
  · obtain rfl : k = 7 := by have := (nI_eq (a := 200 + k) (b := 207) (by omega) (by omega)).mp (h207.trans (show (207 : Int32) = nI 207 from rfl)); omega
    refine x_tswIn 85 dX8_spelling_1 (by decide) (by decide) rfl ?_
    refine x_ldcS (k := 8) (by decide) dX8_spelling_85 rfl rfl ?_
    exact Ex.ret (v := some (.float _)) ⟨dX8_spelling_87, _, rfl, Or.inl ⟨_, rfl⟩⟩ ⟨rfl, rfl⟩
  refine x_swC 208 (fun h208 => ?_) (fun h208 => ?_)
  · obtain rfl : k = 8 := by have := (nI_eq (a := 200 + k) (b := 208) (by omega) (by omega)).mp (h208.trans (show (208 : Int32) = nI 208 from rfl)); omega
    refine x_tswIn 88 dX8_spelling_1 (by decide) (by decide) rfl ?_
    refine x_ldcS (k := 9) (by decide) dX8_spelling_88 rfl rfl ?_
    exact Ex.ret (v := some (.float _)) ⟨dX8_spelling_90, _, rfl, Or.inl ⟨_, rfl⟩⟩ ⟨rfl, rfl⟩
  refine x_swC 209 (fun h209 => ?_) (fun h209 => ?_)
  · obtain rfl : k = 9 := by have := (nI_eq (a := 200 + k) (b := 209) (by omega) (by omega)).mp (h209.trans (show (209 : Int32) = nI 209 from rfl)); omega
    refine x_tswIn 91 dX8_spelling_1 (by decide) (by decide) rfl ?_
    refine x_ldcS (k := 10) (by decide) dX8_spelling_91 rfl rfl ?_
    exact Ex.ret (v := some (.float _)) ⟨dX8_spelling_93, _, rfl, Or.inl ⟨_, rfl⟩⟩ ⟨rfl, rfl⟩
  refine x_swC 210 (fun h210 => ?_) (fun h210 => ?_)
  · obtain rfl : k = 10 := by have := (nI_eq (a := 200 + k) (b := 210) (by omega) (by omega)).mp (h210.trans (show (210 : Int32) = nI 210 from rfl)); omega
    refine x_tswIn 94 dX8_spelling_1 (by decide) (by decide) rfl ?_
    refine x_ldcS (k := 11) (by decide) dX8_spelling_94 rfl rfl ?_
    exact Ex.ret (v := some (.float _)) ⟨dX8_spelling_96, _, rfl, Or.inl ⟨_, rfl⟩⟩ ⟨rfl, rfl⟩
  refine x_swC 211 (fun h211 => ?_) (fun h211 => ?_)
  · obtain rfl : k = 11 := by have := (nI_eq (a := 200 + k) (b := 211) (by omega) (by omega)).mp (h211.trans (show (211 : Int32) = nI 211 from rfl)); omega
    refine x_tswIn 97 dX8_spelling_1 (by decide) (by decide) rfl ?_
    refine x_ldcS (k := 12) (by decide) dX8_spelling_97 rfl rfl ?_
    exact Ex.ret (v := some (.float _)) ⟨dX8_spelling_99, _, rfl, Or.inl ⟨_, rfl⟩⟩ ⟨rfl, rfl⟩
  exfalso
  have hq : k = 0 ∨ k = 1 ∨ k = 2 ∨ k = 3 ∨ k = 4 ∨ k = 5 ∨ k = 6 ∨ k = 7 ∨ k = 8 ∨ k = 9 ∨ k = 10 ∨ k = 11 := by omega
  rcases hq with rfl | rfl | rfl | rfl | rfl | rfl | rfl | rfl | rfl | rfl | rfl | rfl
  · exact h200 rfl
  · exact h201 rfl
  · exact h202 rfl
  · exact h203 rfl
  · exact h204 rfl
  · exact h205 rfl
  · exact h206 rfl
  · exact h207 rfl
  · exact h208 rfl
  · exact h209 rfl
  · exact h210 rfl
  · exact h211 rfl
