/-! the start, as the Statement gives it -/
def nwL : List Cond := flatC (Jvm.Cond.and given_1 narrow_1)
def posS : List Nat := [56, 130, 142, 152, 164, 178, 193, 207, 224, 241, 260, 276, 294, 313]
theorem nw_at {s : State} {b : Nat} (h : (Jvm.Cond.and given_1 narrow_1).before #[Value.ref b] s = true) (i : Nat) {w : Cond} (hw : nwL[i]? = some w) : w.before #[Value.ref b] s = true := flat_of_before _ h w (List.mem_of_getElem? hw)
theorem nw_eq {tm : Term} {n : Int32} {args : Array Value} {s : State} (h : (Cond.eq tm (.int n)).before args s = true) : tm.eval args s none [] s = some (.int n) := by
  obtain ⟨y, h1, h2⟩ := Cond.eq_one (o := none) (idx := []) (show (Cond.eq tm (.int n)).holds args s none s [] = true from h)
  have e : some (Value.int n) = some y := h2
  rw [h1, ← e]
abbrev sT (i : Nat) : Term := Term.string (strOwn i) (strIdx i)
abbrev sV (i : Nat) : Term := Term.field (sT i) "java/lang/String" "value" "[B"
theorem nw_ex : ∀ i, i < 14 → nwL[posS.getD i 0]? = some (Cond.exactly (sT i) "java/lang/String") := by decide +kernel
theorem nw_co : ∀ i, i < 14 → nwL[posS.getD i 0 + 1]? = some (Cond.eq (.field (sT i) "java/lang/String" "coder" "B") (.int 0)) := by decide +kernel
theorem nw_ar : ∀ i, i < 14 → nwL[posS.getD i 0 + 2]? = some (Cond.arrayOf (sV i) .byte) := by decide +kernel
theorem nw_le : ∀ i, i < 14 → nwL[posS.getD i 0 + 3]? = some (Cond.eq (.length (sV i)) (.int (Int32.ofNat (strLens.getD i 0)))) := by decide +kernel
theorem nw_el : ∀ i, i < 14 → ∀ j, j < strLens.getD i 0 → nwL[posS.getD i 0 + 4 + j]? = some (Cond.eq (.elem (sV i) (.int (Int32.ofNat j))) (.int ((strByts.getD i []).getD j 0))) := by decide +kernel
theorem nw_ne : ∀ j, j < 14 → ∀ i, i < j → nwL[posS.getD j 0 + 4 + strLens.getD j 0 + i]? = some (Cond.not (Cond.eq (sT i) (sT j))) := by decide +kernel
abbrev tL : Term := Term.static "RememberedAsSunny" "LOWEST" "[I"
abbrev tH : Term := Term.static "RememberedAsSunny" "HIGHEST" "[I"
abbrev tA : Term := Term.static "RememberedAsSunny$Kinds" "ABOVE" "[I"
theorem nw_tL : nwL[10]? = some (Cond.arrayOf tL .int) ∧ nwL[11]? = some (Cond.eq (.length tL) (.int (Int32.ofNat 7))) ∧ ∀ j, j < 7 → nwL[12 + j]? = some (Cond.eq (.elem tL (.int (Int32.ofNat j))) (.int (tabLow j))) := by decide +kernel
theorem nw_tH : nwL[20]? = some (Cond.arrayOf tH .int) ∧ nwL[21]? = some (Cond.eq (.length tH) (.int (Int32.ofNat 7))) ∧ ∀ j, j < 7 → nwL[22 + j]? = some (Cond.eq (.elem tH (.int (Int32.ofNat j))) (.int (tabHigh j))) := by decide +kernel
theorem nw_tA : nwL[30]? = some (Cond.arrayOf tA .int) ∧ nwL[31]? = some (Cond.eq (.length tA) (.int (Int32.ofNat 6))) ∧ ∀ j, j < 6 → nwL[32 + j]? = some (Cond.eq (.elem tA (.int (Int32.ofNat j))) (.int (tabAbove j))) := by decide +kernel
theorem nw_cs : nwL[4]? = some (Cond.eq (.static "java/lang/String" "COMPACT_STRINGS" "Z") (.int 1)) ∧ nwL[5]? = some (Cond.isRef (.static "jdk/internal/util/Preconditions" "SIOOBE_FORMATTER" "Ljava/util/function/BiFunction;")) := by decide +kernel
theorem lt_st : Cond.laysStatic "java/lang/String" "COMPACT_STRINGS" "Z" ∈ lw_tbl ∧ Cond.laysStatic "jdk/internal/util/Preconditions" "SIOOBE_FORMATTER" "Ljava/util/function/BiFunction;" ∈ lw_tbl ∧ Cond.laysStatic "RememberedAsSunny" "LOWEST" "[I" ∈ lw_tbl ∧ Cond.laysStatic "RememberedAsSunny" "HIGHEST" "[I" ∈ lw_tbl ∧ Cond.laysStatic "RememberedAsSunny$Kinds" "ABOVE" "[I" ∈ lw_tbl := ⟨List.mem_of_getElem? (i := 309) (by decide +kernel), List.mem_of_getElem? (i := 325) (by decide +kernel), List.mem_of_getElem? (i := 517) (by decide +kernel), List.mem_of_getElem? (i := 519) (by decide +kernel), List.mem_of_getElem? (i := 863) (by decide +kernel)⟩
theorem lt_in : Cond.initialized "java/lang/String" ∈ lw_tbl ∧ Cond.initialized "jdk/internal/util/Preconditions" ∈ lw_tbl := ⟨List.mem_of_getElem? (i := 110) (by decide +kernel), List.mem_of_getElem? (i := 112) (by decide +kernel)⟩
theorem lt_ao : Cond.arrayOver (.object "RememberedAsSunny$Text") ∈ lw_tbl ∧ Cond.arrayOver (.object "RememberedAsSunny$Sheet") ∈ lw_tbl := ⟨List.mem_of_getElem? (i := 231) (by decide +kernel), List.mem_of_getElem? (i := 280) (by decide +kernel)⟩
theorem lt_sr : ∀ i, i < 14 → lw_tbl[if i = 0 then 299 else 377 + i]? = some (Cond.stringRef (strOwn i) (strIdx i) (strTx i)) := by decide +kernel
theorem lt_nw : ∀ w ∈ nestW, w ∈ lw_tbl := by decide +kernel
theorem gw_lw {w : Cond} (h : w ∈ gw_tbl) : w ∈ lw_tbl := (List.mem_filter.mp h).1
section START
variable {s : State} {b L : Nat} {xs : Nat → Int32}
theorem st_tab {tm : Term} {k N : Nat} {f : Nat → Int32} (hgv : (Jvm.Cond.and given_1 narrow_1).before #[Value.ref b] s = true) (hN : N < 2 ^ 31) (h : nwL[k]? = some (Cond.arrayOf tm .int) ∧ nwL[k + 1]? = some (Cond.eq (.length tm) (.int (Int32.ofNat N))) ∧ ∀ j, j < N → nwL[k + 2 + j]? = some (Cond.eq (.elem tm (.int (Int32.ofNat j))) (.int (f j)))) : ∃ t : Nat, tm.eval #[Value.ref b] s none [] s = some (.ref t) ∧ va_T .int t N (fun j => .int (f j)) (fun q => s.heap.size ≤ q) s s.heap :=
  va_Tof hN (nw_at hgv _ h.1) (nw_eq (nw_at hgv _ h.2.1)) (fun j hj => nw_eq (nw_at hgv _ (h.2.2 j hj))) (fun a ha => Nat.not_le.mpr ha)
theorem st_Gb (hts : ∀ w ∈ lw_tbl, w.before #[Value.ref b] s = true) (hgv : (Jvm.Cond.and given_1 narrow_1).before #[Value.ref b] s = true) (hX : va_X b L xs s s.heap) (hbl : b < s.heap.size) (hL : L ≤ 3072) : ∃ (sa adV : Nat → Nat), sa 200 = b ∧ Gb (L, xs) sa adV (fun q => s.heap.size ≤ q) s s.heap := by
  have hA : ∀ a : Nat, a < s.heap.size → ¬ (fun q : Nat => s.heap.size ≤ q) a := fun a ha => Nat.not_le.mpr ha
  obtain ⟨aL, eL, tL1⟩ := st_tab (k := 10) (N := 7) hgv (by decide) nw_tL
  obtain ⟨aH, eH, tH1⟩ := st_tab (k := 20) (N := 7) hgv (by decide) nw_tH
  obtain ⟨aA, eA, tA1⟩ := st_tab (k := 30) (N := 6) hgv (by decide) nw_tA
  obtain ⟨adK, adV, hS, hE⟩ := vk_Sof (args := #[Value.ref b]) (s := s) (N := 14) (tm := sT) (len := strLens) (byt := strByts) (A := fun q : Nat => s.heap.size ≤ q) (by decide +kernel) (fun i hi => nw_at hgv _ (nw_ex i hi)) (fun i hi => nw_at hgv _ (nw_co i hi)) (fun i hi => nw_at hgv _ (nw_ar i hi)) (fun i hi => nw_at hgv _ (nw_le i hi)) (fun i hi j hj => nw_at hgv _ (nw_el i hi j hj)) (fun i j hi hj hne => by
    rcases Nat.lt_or_ge i j with h | h
    · exact Or.inl (nw_at hgv _ (nw_ne j hj i h))
    · exact Or.inr (nw_at hgv _ (nw_ne i hi j (by omega)))) hA
  have hF : ∃ t : Nat, va_Z "jdk/internal/util/Preconditions" "SIOOBE_FORMATTER" "Ljava/util/function/BiFunction;" .null (fun q => s.heap.size ≤ q) s s.heap ∨ va_Z "jdk/internal/util/Preconditions" "SIOOBE_FORMATTER" "Ljava/util/function/BiFunction;" (.ref t) (fun q => s.heap.size ≤ q) s s.heap := by
    obtain ⟨v, hv, hr⟩ := Cond.isRef_spec (o := none) (idx := []) (show (Cond.isRef (.static "jdk/internal/util/Preconditions" "SIOOBE_FORMATTER" "Ljava/util/function/BiFunction;")).holds #[Value.ref b] s none s [] = true from nw_at hgv 5 nw_cs.2)
    have hz := fun v hv => va_Zof (v := v) (hts _ lt_st.2.1) (hts _ lt_in.2) hv hA
    cases v with
    | null => exact ⟨0, Or.inl (hz _ hv)⟩
    | ref t => exact ⟨t, Or.inr (hz _ hv)⟩
    | _ => exact absurd hr (by simp [Value.isRef])
  obtain ⟨aF, hF⟩ := hF
  obtain ⟨sa, hsa⟩ : ∃ sa : Nat → Nat, sa = fun k => if k < 14 then adK k else if k = 100 then aL else if k = 101 then aH else if k = 102 then aA else if k = 200 then b else if k = 400 then aF else adV (k - 300) := ⟨_, rfl⟩
  have s0 : ∀ i, i < 14 → sa i = adK i := fun i hi => by rw [hsa]; exact if_pos hi
  have s1 : sa 100 = aL := by rw [hsa]; rfl
  have s2 : sa 101 = aH := by rw [hsa]; rfl
  have s3 : sa 102 = aA := by rw [hsa]; rfl
  have s4 : sa 200 = b := by rw [hsa]; rfl
  have s5 : sa 400 = aF := by rw [hsa]; rfl
  have s6 : ∀ k, k < 14 → adV k = sa (300 + k) := fun k hk => by
    rw [hsa]
    show adV k = if 300 + k < 14 then adK (300 + k) else if 300 + k = 100 then aL else if 300 + k = 101 then aH else if 300 + k = 102 then aA else if 300 + k = 200 then b else if 300 + k = 400 then aF else adV (300 + k - 300)
    rw [if_neg (by omega), if_neg (by omega), if_neg (by omega), if_neg (by omega), if_neg (by omega), if_neg (by omega), show 300 + k - 300 = k by omega]
  clear hsa
  refine ⟨sa, adV, s4, fun w hw => va_Nw.of (nestW_on w hw) (hts w (lt_nw w hw)), ⟨?_, ?_, ?_⟩, ?_, ⟨⟨fun i hi => ?_, fun i j hi hj => ?_⟩, fun k hk => ⟨?_, s6 k hk⟩⟩, va_Zof (hts _ lt_st.1) (hts _ lt_in.1) (nw_eq (nw_at hgv 4 nw_cs.1)) hA, by rw [s5]; exact hF, va_AO.of (hts _ lt_ao.1), va_AO.of (hts _ lt_ao.2)⟩
  · rw [s1]; exact va_Zof (hts _ lt_st.2.2.1) (hts _ (gw_lw ki_X9)) eL hA
  · rw [s2]; exact va_Zof (hts _ lt_st.2.2.2.1) (hts _ (gw_lw ki_X9)) eH hA
  · rw [s3]; exact va_Zof (hts _ lt_st.2.2.2.2) (hts _ (gw_lw ki_X0)) eA hA
  · rintro k (rfl | rfl | rfl | rfl)
    · rw [s1]; exact tL1
    · rw [s2]; exact tH1
    · rw [s3]; exact tA1
    · rw [s4]
      obtain ⟨scr, h1, h2, h3, h4, h5⟩ := hX
      exact ⟨scr, h1, h2, h3, by rw [h4]; exact Nat.le_refl _, by rw [h4]; rfl, h5, Nat.not_le.mpr hbl⟩
  · rw [s0 i hi]; exact hS.1 i hi
  · rw [s0 i hi, s0 j hj]; exact hS.2 i j hi hj
  · rw [s0 k hk]; exact vk_R.of (hts _ (List.mem_of_getElem? (lt_sr k hk))) (hE k hk)

theorem st_K (hts : ∀ w ∈ lw_tbl, w.before #[Value.ref b] s = true) : ∃ (D : va_G) (ty : Nat → ClassId), va_K D vwCl (tys4 ty) s := by
  obtain ⟨c0, i0, k0⟩ := u_known (C := RX1) (T := TX1) (N := 2) (n := 2) hts inX1 (hts _ (gw_lw kz_X1))
  obtain ⟨c1, i1, k1⟩ := u_known (C := RX2) (T := TX2) (N := 3) (n := 3) hts inX2 (hts _ (gw_lw kz_X2))
  obtain ⟨c2, i2, k2⟩ := u_known (C := RX3) (T := TX3) (N := 10) (n := 10) hts inX3 (hts _ (gw_lw kz_X3))
  obtain ⟨c3, i3, k3⟩ := u_known (C := RX4) (T := TX4) (N := 10) (n := 10) hts inX4 (hts _ (gw_lw kz_X4))
  obtain ⟨c4, i4, k4⟩ := u_known (C := RX5) (T := TX5) (N := 4) (n := 4) hts inX5 (hts _ (gw_lw kz_X5))
  obtain ⟨c5, i5, k5⟩ := u_known (C := RX6) (T := TX6) (N := 3) (n := 3) hts inX6 (hts _ (gw_lw kz_X6))
  obtain ⟨c6, i6, k6⟩ := u_known (C := RX7) (T := TX7) (N := 2) (n := 2) hts inX7 (hts _ (gw_lw kz_X7))
  obtain ⟨c7, i7, k7⟩ := u_known (C := RX9) (T := TX9) (N := 9) (n := 9) hts inX9 (hts _ (gw_lw kz_X9))
  obtain ⟨c8, i8, k8⟩ := u_known (C := RX10) (T := TX10) (N := 40) (n := 40) hts inX10 (hts _ (gw_lw kz_X10))
  obtain ⟨d0, kd0, m0, a1, a2, a3⟩ := Cond.arrayClass_spec (o := none) (idx := []) (show (Cond.arrayClass .int).holds #[Value.ref b] s none s [] = true from hts _ (gw_lw ka_int))
  obtain ⟨d1, kd1, m1, b1, b2, b3⟩ := Cond.arrayClass_spec (o := none) (idx := []) (show (Cond.arrayClass .boolean).holds #[Value.ref b] s none s [] = true from hts _ (gw_lw ka_bool))
  obtain ⟨m2, d2, kd2, e1, -, e2, e3, e4⟩ := Cond.arrayOver_spec (o := none) (idx := []) (show (Cond.arrayOver (.object "RememberedAsSunny$Text")).holds #[Value.ref b] s none s [] = true from hts _ lt_ao.1)
  obtain ⟨m3, d3, kd3, f1, -, f2, f3, f4⟩ := Cond.arrayOver_spec (o := none) (idx := []) (show (Cond.arrayOver (.object "RememberedAsSunny$Sheet")).holds #[Value.ref b] s none s [] = true from hts _ lt_ao.2)
  refine ⟨(fun k => match k with | 0 => c0 | 1 => c1 | 2 => c2 | 3 => c3 | 4 => c4 | 5 => c5 | 6 => c6 | 7 => c7 | _ => c8, fun k => match k with | 0 => i0 | 1 => i1 | 2 => i2 | 3 => i3 | 4 => i4 | 5 => i5 | 6 => i6 | 7 => i7 | _ => i8), (fun k => match k with | 0 => d0 | 1 => d1 | 2 => d2 | _ => d3), fun k q hq => ?_, fun k q hq => ?_⟩
  · match k, hq with
    | 0, hq => cases hq; exact k0
    | 1, hq => cases hq; exact k1
    | 2, hq => cases hq; exact k2
    | 3, hq => cases hq; exact k3
    | 4, hq => cases hq; exact k4
    | 5, hq => cases hq; exact k5
    | 6, hq => cases hq; exact k6
    | 7, hq => cases hq; exact k7
    | 8, hq => cases hq; exact k8
    | k + 9, hq => simp [vwCl] at hq
  · match k, hq with
    | 0, hq => cases hq; exact ⟨fun n z => ⟨(fun k h => by cases h), kd0, a2, m0, a3⟩, a1⟩
    | 1, hq => cases hq; exact ⟨fun n z => ⟨(fun k h => by cases h), kd1, b2, m1, b3⟩, b1⟩
    | 2, hq => cases hq; exact ⟨fun n z => ⟨(fun k h => by cases h), kd2, e2, m2, e3⟩, kd2, m2, e2, e3, e1, e4⟩
    | 3, hq => cases hq; exact ⟨fun n z => ⟨(fun k h => by cases h), kd3, f2, m3, f3⟩, kd3, m3, f2, f3, f1, f4⟩
    | k + 4, hq => simp [tys4] at hq
end START
