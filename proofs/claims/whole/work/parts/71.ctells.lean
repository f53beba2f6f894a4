theorem shU_eta (f : Nat → ST) (k : Nat) : shU f k ((f k).1, (f k).2.1, (f k).2.2) = f := by
  funext j
  unfold shU
  split
  · rename_i h; rw [h]
  · rfl
theorem c_first_w {X : Nat × (Nat → Int32)} {S : CS} {tl : pc_W} {T : OT} {nm sk : Nat → Int32} {f : Nat → ST} {a b : Int32} {c : Nat → Int32} {τ : TV} {r p k : Nat} (hX : TXr τ (wtS S T nm sk (shU f k (a, b, c))) tl r) (hrt : o_ru T = nI r) (hp6 : p < 6) (hk : k < 4) : Mt X 4 0 0 yX9_firstOtherwise cX9_firstOtherwise 4 (some .int) [.ref 0, .ref (shP k), .int (nI p)] (cst (wtS S T nm sk (shU f k (a, b, c))) ++ tl) (fun v w' => ∃ nm' sk', v = some (.int (foF (thF τ T r p) c 8 0)) ∧ w' = cst (wtS S T nm' sk' (shU f k (a, b, c))) ++ tl) := by
  have e := c_X9_firstOtherwise (X := X) (f := f) (a := a) (b := b) (c := c) (p := p) hX (by rw [wt_tho]; exact hrt) hp6 hk
  rw [wt_sh0, wt_tho] at e
  refine Mt.weaken e (fun v w h => ?_)
  obtain ⟨nm', sk', h1, h2⟩ := h
  exact ⟨nm', sk', h1, by rw [h2, wt_sh]⟩
abbrev gtS (τ : TV) (T : OT) (r p : Nat) (c : Nat → Int32) (what : Int32) (i : Nat) : Int32 := foF (thF τ (suF T p what (nI i)) r p) c 8 0
abbrev gtT (τ : TV) (T : OT) (p : Nat) (c : Nat → Int32) (what : Int32) (i : Nat) : Int32 := foF (thF τ (suF T p what (nI i)) i p) c 8 0
abbrev gtY (τ : TV) (T : OT) (r p : Nat) (c : Nat → Int32) (i : Nat) : Int32 := foF (thF τ (uo_ye T (nI i)) r p) c 8 0
abbrev gtP (τ : TV) (T : OT) (r : Nat) (c : Nat → Int32) (i : Nat) : Int32 := foF (thF τ T r i) c 8 0
/-- of an hour: is it just so, with those mended -/
abbrev gtH (τ : TV) (T : OT) (r p : Nat) (c : Nat → Int32) (m : Int32) (i : Nat) : Int32 := if c i = thF τ (uo_me T m) r p i then -1 else 0
abbrev gtD (A B : Int32) (i : Nat) : Int32 := if (255 &&& (A ^^^ -1)) &&& (nI i ^^^ -1) = 0 ∧ nI i &&& (B ^^^ -1) = 0 then -1 else 0
theorem m1_iff {q : Prop} [Decidable q] : ((if q then (-1 : Int32) else 0) = -1) ↔ q := by
  by_cases h : q
  · rw [if_pos h]; exact ⟨fun _ => h, fun _ => rfl⟩
  · rw [if_neg h]; exact ⟨fun e => absurd e (by decide), fun e => absurd e h⟩
def tcF (τ : TV) (T : OT) (r z m p : Nat) (c : Nat → Int32) (what : Int32) : Int32 := if what = 0 then foF (thF τ T r p) c 8 0 else if what = 1 then btF (gtS τ T r p c what) 6 else if what = 2 then btF (gtS τ T r p c what) 10 else if what = 3 then nI (tlN (gtY τ T r p c) 99 100) else if what = 4 then tlL 0 (gtY τ T r p c) 99 100 else if what = 5 then nI (tlN (gtD (btF (gtH τ T r p c 0) 8) (btF (gtH τ T r p c 255) 8)) 255 256) else if what = 6 then tlL 0 (gtD (btF (gtH τ T r p c 0) 8) (btF (gtH τ T r p c 255) 8)) 255 256 else if what = 7 then btF (gtT τ T p c what) m else if what = 8 then btF (gtP τ T r c) z else btF (gtS τ T r p c what) 19
def tcA (τ : TV) (S : CS) (T : OT) (r z m : Nat) (s one what : Int32) : Int32 := if teB z s one what then -2 else if (s_sh S s.toNatClampNeg).1 = -1 then -11 else if ¬ (s_sh S s.toNatClampNeg).2.1 = 8 then -2 else tcF τ T r z m one.toNatClampNeg (s_sh S s.toNatClampNeg).2.2 what
theorem b10 {x : Int32} : (0 ≤ x - 10 ∧ x - 10 < 8) ↔ (10 ≤ x ∧ x ≤ 17) := hr_iff (c := 10) (by decide) rfl
theorem teB_n {z : Nat} {s one what : Int32} (hs : 0 ≤ s ∧ s < 4) (ho : 0 ≤ one ∧ one < nI z) (hw : (0 ≤ what ∧ what ≤ 8) ∨ (0 ≤ what - 10 ∧ what - 10 < 8)) : ¬ teB z s one what := by
  rintro (q | q | q)
  · exact q hs
  · exact q ho
  · rcases hw with h | h
    · exact q.1 h
    · exact q.2 (b10.mp h)
set_option maxRecDepth 100000 in
set_option maxHeartbeats 4000000 in
theorem c_X9_tells {X : Nat × (Nat → Int32)} {S : CS} {tl : pc_W} {τ : TV} {T : OT} {r z m : Nat} {s one what : Int32} (hX : ∀ i, i < m → TXr τ S tl i) (hrm : r < m) (hm6 : m ≤ 6) (hm : s_mz S = nI m) (hT : o_bec (s_tho S) (s_now S) = T) (hr : o_ru (s_now S) = nI r) (hz : o_sz (s_now S) = nI z) (hz6 : z ≤ 6): Mt X 8 0 0 yX9_tells cX9_tells 5 (some .int) [.ref 0, .int s, .int one, .int what] (cst S ++ tl) (fun v w' => ∃ T' nm' sk', v = some (.int (tcA τ S T r z m s one what)) ∧ w' = cst (wtS S T' nm' sk' (s_sh S)) ++ tl) := by
  refine Mt.of (by decide +kernel) (fun _ _ => Nat.le_of_ble_eq_true rfl) ?_
  show Ex X mX9_tells _ _ _ _ _ _ _ _
  have hXr : TXr τ S tl r := hX r hrm
  refine x_iload_n dX9_tells_0 rfl ?_
  refine ii_X9_247 dX9_tells_1 c_X9_isSheet (by decide) (Nat.le_of_ble_eq_true rfl) ?_
  refine x_if_eq 38 dX9_tells_4 (fun h_4 => ?_) (fun h_4 => ?_)
  · refine x_bipush (-2) dX9_tells_38 ?_
    exact Ex.ret (v := some (.int _)) ⟨dX9_tells_40, _, rfl, by first | rfl | decide⟩ ⟨s_tho S, s_nm S, s_sk S, congrArg (fun z => some (Value.int z)) (by rw [tcA, if_pos (show teB z s one what from Or.inl (bi0.mp h_4))]), rfl⟩
  · refine x_aload_n dX9_tells_7 rfl ?_
    refine gf_X9_10 dX9_tells_8 rfl rfl ?_
    refine x_iload_n dX9_tells_11 rfl ?_
    refine ii_X9_107 dX9_tells_12 c_X3_has rfl (by decide) (Nat.le_of_ble_eq_true rfl) ?_
    refine x_if_eq 38 dX9_tells_15 (fun h_15 => ?_) (fun h_15 => ?_)
    · refine x_bipush (-2) dX9_tells_38 ?_
      exact Ex.ret (v := some (.int _)) ⟨dX9_tells_40, _, rfl, by first | rfl | decide⟩ ⟨s_tho S, s_nm S, s_sk S, congrArg (fun z => some (Value.int z)) (by rw [tcA, if_pos (show teB z s one what from Or.inr (Or.inl (fun y : onC z one => bi0.mp h_15 ⟨y.1, by rw [hz]; exact y.2⟩)))]), rfl⟩
    · refine x_iload_n dX9_tells_18 rfl ?_
      refine x_bipush 10 dX9_tells_19 ?_
      refine x_isub dX9_tells_21 ?_
      refine ii_X9_99 dX9_tells_22 c_X9_isHour (by decide) (Nat.le_of_ble_eq_true rfl) ?_
      refine x_if_ne 41 dX9_tells_25 (fun h_25 => ?_) (fun h_25 => ?_)
      · have hs := bi1.mp h_4
        obtain ⟨k, hk, rfl⟩ := nat_of hs.1 (show s < nI 4 from hs.2) (by omega)
        have ho := bi1.mp h_15
        rw [hz] at ho
        obtain ⟨p, hpz, rfl⟩ := nat_of ho.1 ho.2 (by omega)
        have hp : p < 6 := by omega
        have cp : (nI p).toNatClampNeg = p := nI_clamp (by omega)
        have ck : (nI k).toNatClampNeg = k := nI_clamp (by omega)
        have hw8 : (0 ≤ what ∧ what ≤ 8) ∨ (0 ≤ what - 10 ∧ what - 10 < 8) := Or.inr (bi1.mp h_25)
        have hB : ¬ teB z (nI k) (nI p) what := teB_n hs ho hw8
        refine x_aload_n dX9_tells_41 rfl ?_
        refine gf_X9_53 dX9_tells_42 rfl rfl ?_
        refine x_iload_n dX9_tells_45 rfl ?_
        refine x_aaloadN dX9_tells_46 (fun _ => rfl) rfl hk (by decide) (shR_at hk) ?_
        refine x_astore dX9_tells_47 (by decide) ?_
        refine Ex.eqW (sw_eta S tl hk) ?_
        refine x_aload dX9_tells_49 rfl ?_
        refine ii_X9_250 dX9_tells_51 (c_X6_isMissing hk) (sw_obj hk) (by decide) (Nat.le_of_ble_eq_true rfl) ?_
        refine x_if_eq 60 dX9_tells_54 (fun h_54 => ?_) (fun h_54 => ?_)
        · refine x_aload dX9_tells_60 rfl ?_
          refine gf_X9_254 dX9_tells_62 (sw_obj hk) rfl ?_
          refine x_bipush 8 dX9_tells_65 ?_
          refine x_icmp_eq 73 dX9_tells_67 (fun h_67 => ?_) (fun h_67 => ?_)
          · refine x_aload_n dX9_tells_73 rfl ?_
            refine gf_X9_19 dX9_tells_74 rfl rfl ?_
            refine x_aload_n dX9_tells_77 rfl ?_
            refine gf_X9_10 dX9_tells_78 rfl rfl ?_
            refine ii_X9_184 dX9_tells_81 c_X3_become_tn rfl (by decide) (Nat.le_of_ble_eq_true rfl) ?_
            refine Ex.eqW (w' := (cst (wtS S T (s_nm S) (s_sk S) (shU (s_sh S) k ((s_sh S k).1, (s_sh S k).2.1, (s_sh S k).2.2))) ++ tl)) (by rw [← hT]; rfl) ?_
            have hrT : o_ru T = nI r := by rw [← hT]; exact hr
            have hzT : o_sz T = nI z := by rw [← hT]; exact hz
            refine x_iload_n dX9_tells_84 rfl ?_
            refine x_swC 0 (fun s_85_0 => ?_) (fun s_85_0 => ?_)
            · refine x_tswIn 136 dX9_tells_85 (by decide) (by decide) rfl ?_
              refine x_aload_n dX9_tells_136 rfl ?_
              refine x_aload dX9_tells_137 rfl ?_
              refine x_iload_n dX9_tells_139 rfl ?_
              refine iv_X9_255 dX9_tells_140 (c_first_w (wt_TX hXr) hrT hp hk) rfl (by decide) (Nat.le_of_ble_eq_true rfl) (fun v_140 w_140 hw_140 => ?_)
              obtain ⟨nm2, sk2, rfl, rfl⟩ := hw_140
              exact Ex.ret (v := some (.int _)) ⟨dX9_tells_143, _, rfl, by first | rfl | decide⟩ ⟨T, nm2, sk2, congrArg (fun z => some (Value.int z)) ((by rw [tcA, if_neg hB, ck, if_neg (bi0.mp h_54), if_neg (fun q => q h_67), cp, tcF, if_pos s_85_0])), by rw [shU_eta]⟩
            refine x_swC 1 (fun s_85_1 => ?_) (fun s_85_1 => ?_)
            · refine x_tswIn 144 dX9_tells_85 (by decide) (by decide) rfl ?_
              refine x_aload_n dX9_tells_144 rfl ?_
              refine x_aload dX9_tells_145 rfl ?_
              refine x_iload_n dX9_tells_147 rfl ?_
              refine x_iload_n dX9_tells_148 rfl ?_
              refine x_bipush 6 dX9_tells_149 ?_
              refine iv_X9_259 dX9_tells_151 (c_X9_bitsTold (N := 6) (rr := fun _ => r) (g := gtS τ T r p (s_sh S k).2.2 what) (fun i _ => ⟨hXr, by unfold suF; rw [if_pos s_85_1]; exact hrT⟩) (fun _ _ => rfl) hp hk (by omega) (fun q => absurd s_85_1 q)) rfl (by decide) (Nat.le_of_ble_eq_true rfl) (fun v_151 w_151 hw_151 => ?_)
              obtain ⟨T2, nm2, sk2, rfl, rfl⟩ := hw_151
              exact Ex.ret (v := some (.int _)) ⟨dX9_tells_154, _, rfl, by first | rfl | decide⟩ ⟨T2, nm2, sk2, congrArg (fun z => some (Value.int z)) ((by rw [tcA, if_neg hB, ck, if_neg (bi0.mp h_54), if_neg (fun q => q h_67), cp, tcF, if_neg s_85_0, if_pos s_85_1])), by rw [shU_eta]⟩
            refine x_swC 2 (fun s_85_2 => ?_) (fun s_85_2 => ?_)
            · refine x_tswIn 155 dX9_tells_85 (by decide) (by decide) rfl ?_
              refine x_aload_n dX9_tells_155 rfl ?_
              refine x_aload dX9_tells_156 rfl ?_
              refine x_iload_n dX9_tells_158 rfl ?_
              refine x_iload_n dX9_tells_159 rfl ?_
              refine x_bipush 10 dX9_tells_160 ?_
              refine iv_X9_259 dX9_tells_162 (c_X9_bitsTold (N := 10) (rr := fun _ => r) (g := gtS τ T r p (s_sh S k).2.2 what) (fun i _ => ⟨hXr, by unfold suF; rw [if_neg (by rw [s_85_2]; decide), if_pos s_85_2]; exact hrT⟩) (fun _ _ => rfl) hp hk (by omega) (fun _ q => absurd s_85_2 q)) rfl (by decide) (Nat.le_of_ble_eq_true rfl) (fun v_162 w_162 hw_162 => ?_)
              obtain ⟨T2, nm2, sk2, rfl, rfl⟩ := hw_162
              exact Ex.ret (v := some (.int _)) ⟨dX9_tells_165, _, rfl, by first | rfl | decide⟩ ⟨T2, nm2, sk2, congrArg (fun z => some (Value.int z)) ((by rw [tcA, if_neg hB, ck, if_neg (bi0.mp h_54), if_neg (fun q => q h_67), cp, tcF, if_neg s_85_0, if_neg s_85_1, if_pos s_85_2])), by rw [shU_eta]⟩
            refine x_swC 3 (fun s_85_3 => ?_) (fun s_85_3 => ?_)
            · refine x_tswIn 166 dX9_tells_85 (by decide) (by decide) rfl ?_
              refine x_aload_n dX9_tells_166 rfl ?_
              refine x_aload dX9_tells_167 rfl ?_
              refine x_iload_n dX9_tells_169 rfl ?_
              refine x_iconst 1 dX9_tells_170 ?_
              refine iv_X9_263 dX9_tells_171 (c_X9_yearsTold (g := gtY τ T r p (s_sh S k).2.2) hXr hrT (fun _ _ => rfl) hp hk) rfl (by decide) (Nat.le_of_ble_eq_true rfl) (fun v_171 w_171 hw_171 => ?_)
              obtain ⟨T2, nm2, sk2, rfl, rfl⟩ := hw_171
              exact Ex.ret (v := some (.int _)) ⟨dX9_tells_174, _, rfl, by first | rfl | decide⟩ ⟨T2, nm2, sk2, congrArg (fun z => some (Value.int z)) ((if_neg (by decide)).trans (by rw [tcA, if_neg hB, ck, if_neg (bi0.mp h_54), if_neg (fun q => q h_67), cp, tcF, if_neg s_85_0, if_neg s_85_1, if_neg s_85_2, if_pos s_85_3])), by rw [shU_eta]⟩
            refine x_swC 4 (fun s_85_4 => ?_) (fun s_85_4 => ?_)
            · refine x_tswIn 175 dX9_tells_85 (by decide) (by decide) rfl ?_
              refine x_aload_n dX9_tells_175 rfl ?_
              refine x_aload dX9_tells_176 rfl ?_
              refine x_iload_n dX9_tells_178 rfl ?_
              refine x_iconst 0 dX9_tells_179 ?_
              refine iv_X9_263 dX9_tells_180 (c_X9_yearsTold (g := gtY τ T r p (s_sh S k).2.2) hXr hrT (fun _ _ => rfl) hp hk) rfl (by decide) (Nat.le_of_ble_eq_true rfl) (fun v_180 w_180 hw_180 => ?_)
              obtain ⟨T2, nm2, sk2, rfl, rfl⟩ := hw_180
              exact Ex.ret (v := some (.int _)) ⟨dX9_tells_183, _, rfl, by first | rfl | decide⟩ ⟨T2, nm2, sk2, congrArg (fun z => some (Value.int z)) ((if_pos rfl).trans (by rw [tcA, if_neg hB, ck, if_neg (bi0.mp h_54), if_neg (fun q => q h_67), cp, tcF, if_neg s_85_0, if_neg s_85_1, if_neg s_85_2, if_neg s_85_3, if_pos s_85_4])), by rw [shU_eta]⟩
            refine x_swC 5 (fun s_85_5 => ?_) (fun s_85_5 => ?_)
            · refine x_tswIn 184 dX9_tells_85 (by decide) (by decide) rfl ?_
              refine x_aload_n dX9_tells_184 rfl ?_
              refine x_aload dX9_tells_185 rfl ?_
              refine x_iload_n dX9_tells_187 rfl ?_
              refine x_iconst 1 dX9_tells_188 ?_
              refine iv_X9_267 dX9_tells_189 (c_X9_mendedTold (g := gtD (btF (gtH τ T r p (s_sh S k).2.2 0) 8) (btF (gtH τ T r p (s_sh S k).2.2 255) 8)) (g0 := gtH τ T r p (s_sh S k).2.2 0) (g1 := gtH τ T r p (s_sh S k).2.2 255) hXr hrT (fun _ _ => m1_iff) (fun _ _ => m1_iff) rfl rfl (fun _ _ => m1_iff) hp hk) rfl (by decide) (Nat.le_of_ble_eq_true rfl) (fun v_189 w_189 hw_189 => ?_)
              obtain ⟨T2, nm2, sk2, rfl, rfl⟩ := hw_189
              exact Ex.ret (v := some (.int _)) ⟨dX9_tells_192, _, rfl, by first | rfl | decide⟩ ⟨T2, nm2, sk2, congrArg (fun z => some (Value.int z)) ((if_neg (by decide)).trans (by rw [tcA, if_neg hB, ck, if_neg (bi0.mp h_54), if_neg (fun q => q h_67), cp, tcF, if_neg s_85_0, if_neg s_85_1, if_neg s_85_2, if_neg s_85_3, if_neg s_85_4, if_pos s_85_5])), by rw [shU_eta]⟩
            refine x_swC 6 (fun s_85_6 => ?_) (fun s_85_6 => ?_)
            · refine x_tswIn 193 dX9_tells_85 (by decide) (by decide) rfl ?_
              refine x_aload_n dX9_tells_193 rfl ?_
              refine x_aload dX9_tells_194 rfl ?_
              refine x_iload_n dX9_tells_196 rfl ?_
              refine x_iconst 0 dX9_tells_197 ?_
              refine iv_X9_267 dX9_tells_198 (c_X9_mendedTold (g := gtD (btF (gtH τ T r p (s_sh S k).2.2 0) 8) (btF (gtH τ T r p (s_sh S k).2.2 255) 8)) (g0 := gtH τ T r p (s_sh S k).2.2 0) (g1 := gtH τ T r p (s_sh S k).2.2 255) hXr hrT (fun _ _ => m1_iff) (fun _ _ => m1_iff) rfl rfl (fun _ _ => m1_iff) hp hk) rfl (by decide) (Nat.le_of_ble_eq_true rfl) (fun v_198 w_198 hw_198 => ?_)
              obtain ⟨T2, nm2, sk2, rfl, rfl⟩ := hw_198
              exact Ex.ret (v := some (.int _)) ⟨dX9_tells_201, _, rfl, by first | rfl | decide⟩ ⟨T2, nm2, sk2, congrArg (fun z => some (Value.int z)) ((if_pos rfl).trans (by rw [tcA, if_neg hB, ck, if_neg (bi0.mp h_54), if_neg (fun q => q h_67), cp, tcF, if_neg s_85_0, if_neg s_85_1, if_neg s_85_2, if_neg s_85_3, if_neg s_85_4, if_neg s_85_5, if_pos s_85_6])), by rw [shU_eta]⟩
            refine x_swC 7 (fun s_85_7 => ?_) (fun s_85_7 => ?_)
            · refine x_tswIn 202 dX9_tells_85 (by decide) (by decide) rfl ?_
              refine x_aload_n dX9_tells_202 rfl ?_
              refine x_aload dX9_tells_203 rfl ?_
              refine x_iload_n dX9_tells_205 rfl ?_
              refine x_iload_n dX9_tells_206 rfl ?_
              refine x_aload_n dX9_tells_207 rfl ?_
              refine gf_X9_36 dX9_tells_208 rfl rfl ?_
              refine gf_X9_158 dX9_tells_211 rfl rfl ?_
              rw [show s_mz (wtS S T (s_nm S) (s_sk S) (shU (s_sh S) k ((s_sh S k).1, (s_sh S k).2.1, (s_sh S k).2.2))) = nI m from hm]
              refine iv_X9_259 dX9_tells_214 (c_X9_bitsTold (N := m) (rr := fun i => i) (g := gtT τ T p (s_sh S k).2.2 what) (fun i hi => ⟨hX i hi, by unfold suF; rw [if_neg (by rw [s_85_7]; decide), if_neg (by rw [s_85_7]; decide), if_pos s_85_7]⟩) (fun _ _ => rfl) hp hk (by omega) (fun _ _ q => absurd s_85_7 q)) rfl (by decide) (Nat.le_of_ble_eq_true rfl) (fun v_214 w_214 hw_214 => ?_)
              obtain ⟨T2, nm2, sk2, rfl, rfl⟩ := hw_214
              exact Ex.ret (v := some (.int _)) ⟨dX9_tells_217, _, rfl, by first | rfl | decide⟩ ⟨T2, nm2, sk2, congrArg (fun z => some (Value.int z)) ((by rw [tcA, if_neg hB, ck, if_neg (bi0.mp h_54), if_neg (fun q => q h_67), cp, tcF, if_neg s_85_0, if_neg s_85_1, if_neg s_85_2, if_neg s_85_3, if_neg s_85_4, if_neg s_85_5, if_neg s_85_6, if_pos s_85_7])), by rw [shU_eta]⟩
            refine x_swC 8 (fun s_85_8 => ?_) (fun s_85_8 => ?_)
            · refine x_tswIn 218 dX9_tells_85 (by decide) (by decide) rfl ?_
              refine x_aload_n dX9_tells_218 rfl ?_
              refine x_aload dX9_tells_219 rfl ?_
              refine iv_X9_270 dX9_tells_221 (c_X9_peopleTold (z := z) (g := gtP τ T r (s_sh S k).2.2) hXr hrT hzT hz6 (fun _ _ => rfl) hk) rfl (by decide) (Nat.le_of_ble_eq_true rfl) (fun v_221 w_221 hw_221 => ?_)
              obtain ⟨nm2, sk2, rfl, rfl⟩ := hw_221
              exact Ex.ret (v := some (.int _)) ⟨dX9_tells_224, _, rfl, by first | rfl | decide⟩ ⟨T, nm2, sk2, congrArg (fun z => some (Value.int z)) ((by rw [tcA, if_neg hB, ck, if_neg (bi0.mp h_54), if_neg (fun q => q h_67), cp, tcF, if_neg s_85_0, if_neg s_85_1, if_neg s_85_2, if_neg s_85_3, if_neg s_85_4, if_neg s_85_5, if_neg s_85_6, if_neg s_85_7, if_pos s_85_8])), by rw [shU_eta]⟩
            refine x_tswOut 225 dX9_tells_85 (by have e0 := lv_neT (a := 0) s_85_0 (by decide); have e1 := lv_neT (a := 1) s_85_1 (by decide); have e2 := lv_neT (a := 2) s_85_2 (by decide); have e3 := lv_neT (a := 3) s_85_3 (by decide); have e4 := lv_neT (a := 4) s_85_4 (by decide); have e5 := lv_neT (a := 5) s_85_5 (by decide); have e6 := lv_neT (a := 6) s_85_6 (by decide); have e7 := lv_neT (a := 7) s_85_7 (by decide); have e8 := lv_neT (a := 8) s_85_8 (by decide); omega) ?_
            have hv10 : vp_in (what - 10) 8 := by
              rcases hw8 with q | q
              · rcases le8 q with e | e | e | e | e | e | e | e | e <;> contradiction
              · obtain ⟨j, hj, ej⟩ := nat_of q.1 (show what - 10 < nI 8 from q.2) (by omega)
                rw [ej]; exact vin hj (by decide)
            refine x_aload_n dX9_tells_225 rfl ?_
            refine x_aload dX9_tells_226 rfl ?_
            refine x_iload_n dX9_tells_228 rfl ?_
            refine x_iload_n dX9_tells_229 rfl ?_
            refine x_bipush 19 dX9_tells_230 ?_
            refine iv_X9_259 dX9_tells_232 (c_X9_bitsTold (N := 19) (rr := fun _ => r) (g := gtS τ T r p (s_sh S k).2.2 what) (fun i _ => ⟨hXr, by unfold suF; rw [if_neg s_85_1, if_neg s_85_2, if_neg s_85_7]; exact hrT⟩) (fun _ _ => rfl) hp hk (by omega) (fun _ _ _ => hv10)) rfl (by decide) (Nat.le_of_ble_eq_true rfl) (fun v_232 w_232 hw_232 => ?_)
            obtain ⟨T2, nm2, sk2, rfl, rfl⟩ := hw_232
            exact Ex.ret (v := some (.int _)) ⟨dX9_tells_235, _, rfl, by first | rfl | decide⟩ ⟨T2, nm2, sk2, congrArg (fun z => some (Value.int z)) ((by rw [tcA, if_neg hB, ck, if_neg (bi0.mp h_54), if_neg (fun q => q h_67), cp, tcF, if_neg s_85_0, if_neg s_85_1, if_neg s_85_2, if_neg s_85_3, if_neg s_85_4, if_neg s_85_5, if_neg s_85_6, if_neg s_85_7, if_neg s_85_8])), by rw [shU_eta]⟩
          · refine x_bipush (-2) dX9_tells_70 ?_
            exact Ex.ret (v := some (.int _)) ⟨dX9_tells_72, _, rfl, by first | rfl | decide⟩ ⟨s_tho S, s_nm S, s_sk S, congrArg (fun z => some (Value.int z)) (by rw [tcA, if_neg hB, ck, if_neg (bi0.mp h_54), if_pos h_67]), by rw [shU_eta]; rfl⟩
        · refine x_bipush (-11) dX9_tells_57 ?_
          exact Ex.ret (v := some (.int _)) ⟨dX9_tells_59, _, rfl, by first | rfl | decide⟩ ⟨s_tho S, s_nm S, s_sk S, congrArg (fun z => some (Value.int z)) (by rw [tcA, if_neg hB, ck, if_pos (bi1.mp h_54)]), by rw [shU_eta]; rfl⟩
      · refine x_iload_n dX9_tells_28 rfl ?_
        refine x_if_lt 38 dX9_tells_29 (fun h_29 => ?_) (fun h_29 => ?_)
        · refine x_bipush (-2) dX9_tells_38 ?_
          exact Ex.ret (v := some (.int _)) ⟨dX9_tells_40, _, rfl, by first | rfl | decide⟩ ⟨s_tho S, s_nm S, s_sk S, congrArg (fun z => some (Value.int z)) (by rw [tcA, if_pos (show teB z s one what from Or.inr (Or.inr ⟨fun y => absurd y.1 (Int32.not_le.mpr h_29), fun y => bi0.mp h_25 (b10.mpr y)⟩))]), rfl⟩
        · refine x_iload_n dX9_tells_32 rfl ?_
          refine x_bipush 8 dX9_tells_33 ?_
          refine x_icmp_le 41 dX9_tells_35 (fun h_35 => ?_) (fun h_35 => ?_)
          · have hs := bi1.mp h_4
            obtain ⟨k, hk, rfl⟩ := nat_of hs.1 (show s < nI 4 from hs.2) (by omega)
            have ho := bi1.mp h_15
            rw [hz] at ho
            obtain ⟨p, hpz, rfl⟩ := nat_of ho.1 ho.2 (by omega)
            have hp : p < 6 := by omega
            have cp : (nI p).toNatClampNeg = p := nI_clamp (by omega)
            have ck : (nI k).toNatClampNeg = k := nI_clamp (by omega)
            have hw8 : (0 ≤ what ∧ what ≤ 8) ∨ (0 ≤ what - 10 ∧ what - 10 < 8) := Or.inl ⟨Int32.not_lt.mp h_29, h_35⟩
            have hB : ¬ teB z (nI k) (nI p) what := teB_n hs ho hw8
            refine x_aload_n dX9_tells_41 rfl ?_
            refine gf_X9_53 dX9_tells_42 rfl rfl ?_
            refine x_iload_n dX9_tells_45 rfl ?_
            refine x_aaloadN dX9_tells_46 (fun _ => rfl) rfl hk (by decide) (shR_at hk) ?_
            refine x_astore dX9_tells_47 (by decide) ?_
            refine Ex.eqW (sw_eta S tl hk) ?_
            refine x_aload dX9_tells_49 rfl ?_
            refine ii_X9_250 dX9_tells_51 (c_X6_isMissing hk) (sw_obj hk) (by decide) (Nat.le_of_ble_eq_true rfl) ?_
            refine x_if_eq 60 dX9_tells_54 (fun h_54 => ?_) (fun h_54 => ?_)
            · refine x_aload dX9_tells_60 rfl ?_
              refine gf_X9_254 dX9_tells_62 (sw_obj hk) rfl ?_
              refine x_bipush 8 dX9_tells_65 ?_
              refine x_icmp_eq 73 dX9_tells_67 (fun h_67 => ?_) (fun h_67 => ?_)
              · refine x_aload_n dX9_tells_73 rfl ?_
                refine gf_X9_19 dX9_tells_74 rfl rfl ?_
                refine x_aload_n dX9_tells_77 rfl ?_
                refine gf_X9_10 dX9_tells_78 rfl rfl ?_
                refine ii_X9_184 dX9_tells_81 c_X3_become_tn rfl (by decide) (Nat.le_of_ble_eq_true rfl) ?_
                refine Ex.eqW (w' := (cst (wtS S T (s_nm S) (s_sk S) (shU (s_sh S) k ((s_sh S k).1, (s_sh S k).2.1, (s_sh S k).2.2))) ++ tl)) (by rw [← hT]; rfl) ?_
                have hrT : o_ru T = nI r := by rw [← hT]; exact hr
                have hzT : o_sz T = nI z := by rw [← hT]; exact hz
                refine x_iload_n dX9_tells_84 rfl ?_
                refine x_swC 0 (fun s_85_0 => ?_) (fun s_85_0 => ?_)
                · refine x_tswIn 136 dX9_tells_85 (by decide) (by decide) rfl ?_
                  refine x_aload_n dX9_tells_136 rfl ?_
                  refine x_aload dX9_tells_137 rfl ?_
                  refine x_iload_n dX9_tells_139 rfl ?_
                  refine iv_X9_255 dX9_tells_140 (c_first_w (wt_TX hXr) hrT hp hk) rfl (by decide) (Nat.le_of_ble_eq_true rfl) (fun v_140 w_140 hw_140 => ?_)
                  obtain ⟨nm2, sk2, rfl, rfl⟩ := hw_140
                  exact Ex.ret (v := some (.int _)) ⟨dX9_tells_143, _, rfl, by first | rfl | decide⟩ ⟨T, nm2, sk2, congrArg (fun z => some (Value.int z)) ((by rw [tcA, if_neg hB, ck, if_neg (bi0.mp h_54), if_neg (fun q => q h_67), cp, tcF, if_pos s_85_0])), by rw [shU_eta]⟩
                refine x_swC 1 (fun s_85_1 => ?_) (fun s_85_1 => ?_)
                · refine x_tswIn 144 dX9_tells_85 (by decide) (by decide) rfl ?_
                  refine x_aload_n dX9_tells_144 rfl ?_
                  refine x_aload dX9_tells_145 rfl ?_
                  refine x_iload_n dX9_tells_147 rfl ?_
                  refine x_iload_n dX9_tells_148 rfl ?_
                  refine x_bipush 6 dX9_tells_149 ?_
                  refine iv_X9_259 dX9_tells_151 (c_X9_bitsTold (N := 6) (rr := fun _ => r) (g := gtS τ T r p (s_sh S k).2.2 what) (fun i _ => ⟨hXr, by unfold suF; rw [if_pos s_85_1]; exact hrT⟩) (fun _ _ => rfl) hp hk (by omega) (fun q => absurd s_85_1 q)) rfl (by decide) (Nat.le_of_ble_eq_true rfl) (fun v_151 w_151 hw_151 => ?_)
                  obtain ⟨T2, nm2, sk2, rfl, rfl⟩ := hw_151
                  exact Ex.ret (v := some (.int _)) ⟨dX9_tells_154, _, rfl, by first | rfl | decide⟩ ⟨T2, nm2, sk2, congrArg (fun z => some (Value.int z)) ((by rw [tcA, if_neg hB, ck, if_neg (bi0.mp h_54), if_neg (fun q => q h_67), cp, tcF, if_neg s_85_0, if_pos s_85_1])), by rw [shU_eta]⟩
                refine x_swC 2 (fun s_85_2 => ?_) (fun s_85_2 => ?_)
                · refine x_tswIn 155 dX9_tells_85 (by decide) (by decide) rfl ?_
                  refine x_aload_n dX9_tells_155 rfl ?_
                  refine x_aload dX9_tells_156 rfl ?_
                  refine x_iload_n dX9_tells_158 rfl ?_
                  refine x_iload_n dX9_tells_159 rfl ?_
                  refine x_bipush 10 dX9_tells_160 ?_
                  refine iv_X9_259 dX9_tells_162 (c_X9_bitsTold (N := 10) (rr := fun _ => r) (g := gtS τ T r p (s_sh S k).2.2 what) (fun i _ => ⟨hXr, by unfold suF; rw [if_neg (by rw [s_85_2]; decide), if_pos s_85_2]; exact hrT⟩) (fun _ _ => rfl) hp hk (by omega) (fun _ q => absurd s_85_2 q)) rfl (by decide) (Nat.le_of_ble_eq_true rfl) (fun v_162 w_162 hw_162 => ?_)
                  obtain ⟨T2, nm2, sk2, rfl, rfl⟩ := hw_162
                  exact Ex.ret (v := some (.int _)) ⟨dX9_tells_165, _, rfl, by first | rfl | decide⟩ ⟨T2, nm2, sk2, congrArg (fun z => some (Value.int z)) ((by rw [tcA, if_neg hB, ck, if_neg (bi0.mp h_54), if_neg (fun q => q h_67), cp, tcF, if_neg s_85_0, if_neg s_85_1, if_pos s_85_2])), by rw [shU_eta]⟩
                refine x_swC 3 (fun s_85_3 => ?_) (fun s_85_3 => ?_)
                · refine x_tswIn 166 dX9_tells_85 (by decide) (by decide) rfl ?_
                  refine x_aload_n dX9_tells_166 rfl ?_
                  refine x_aload dX9_tells_167 rfl ?_
                  refine x_iload_n dX9_tells_169 rfl ?_
                  refine x_iconst 1 dX9_tells_170 ?_
                  refine iv_X9_263 dX9_tells_171 (c_X9_yearsTold (g := gtY τ T r p (s_sh S k).2.2) hXr hrT (fun _ _ => rfl) hp hk) rfl (by decide) (Nat.le_of_ble_eq_true rfl) (fun v_171 w_171 hw_171 => ?_)
                  obtain ⟨T2, nm2, sk2, rfl, rfl⟩ := hw_171
                  exact Ex.ret (v := some (.int _)) ⟨dX9_tells_174, _, rfl, by first | rfl | decide⟩ ⟨T2, nm2, sk2, congrArg (fun z => some (Value.int z)) ((if_neg (by decide)).trans (by rw [tcA, if_neg hB, ck, if_neg (bi0.mp h_54), if_neg (fun q => q h_67), cp, tcF, if_neg s_85_0, if_neg s_85_1, if_neg s_85_2, if_pos s_85_3])), by rw [shU_eta]⟩
                refine x_swC 4 (fun s_85_4 => ?_) (fun s_85_4 => ?_)
                · refine x_tswIn 175 dX9_tells_85 (by decide) (by decide) rfl ?_
                  refine x_aload_n dX9_tells_175 rfl ?_
                  refine x_aload dX9_tells_176 rfl ?_
                  refine x_iload_n dX9_tells_178 rfl ?_
                  refine x_iconst 0 dX9_tells_179 ?_
                  refine iv_X9_263 dX9_tells_180 (c_X9_yearsTold (g := gtY τ T r p (s_sh S k).2.2) hXr hrT (fun _ _ => rfl) hp hk) rfl (by decide) (Nat.le_of_ble_eq_true rfl) (fun v_180 w_180 hw_180 => ?_)
                  obtain ⟨T2, nm2, sk2, rfl, rfl⟩ := hw_180
                  exact Ex.ret (v := some (.int _)) ⟨dX9_tells_183, _, rfl, by first | rfl | decide⟩ ⟨T2, nm2, sk2, congrArg (fun z => some (Value.int z)) ((if_pos rfl).trans (by rw [tcA, if_neg hB, ck, if_neg (bi0.mp h_54), if_neg (fun q => q h_67), cp, tcF, if_neg s_85_0, if_neg s_85_1, if_neg s_85_2, if_neg s_85_3, if_pos s_85_4])), by rw [shU_eta]⟩
                refine x_swC 5 (fun s_85_5 => ?_) (fun s_85_5 => ?_)
                · refine x_tswIn 184 dX9_tells_85 (by decide) (by decide) rfl ?_
                  refine x_aload_n dX9_tells_184 rfl ?_
                  refine x_aload dX9_tells_185 rfl ?_
                  refine x_iload_n dX9_tells_187 rfl ?_
                  refine x_iconst 1 dX9_tells_188 ?_
                  refine iv_X9_267 dX9_tells_189 (c_X9_mendedTold (g := gtD (btF (gtH τ T r p (s_sh S k).2.2 0) 8) (btF (gtH τ T r p (s_sh S k).2.2 255) 8)) (g0 := gtH τ T r p (s_sh S k).2.2 0) (g1 := gtH τ T r p (s_sh S k).2.2 255) hXr hrT (fun _ _ => m1_iff) (fun _ _ => m1_iff) rfl rfl (fun _ _ => m1_iff) hp hk) rfl (by decide) (Nat.le_of_ble_eq_true rfl) (fun v_189 w_189 hw_189 => ?_)
                  obtain ⟨T2, nm2, sk2, rfl, rfl⟩ := hw_189
                  exact Ex.ret (v := some (.int _)) ⟨dX9_tells_192, _, rfl, by first | rfl | decide⟩ ⟨T2, nm2, sk2, congrArg (fun z => some (Value.int z)) ((if_neg (by decide)).trans (by rw [tcA, if_neg hB, ck, if_neg (bi0.mp h_54), if_neg (fun q => q h_67), cp, tcF, if_neg s_85_0, if_neg s_85_1, if_neg s_85_2, if_neg s_85_3, if_neg s_85_4, if_pos s_85_5])), by rw [shU_eta]⟩
                refine x_swC 6 (fun s_85_6 => ?_) (fun s_85_6 => ?_)
                · refine x_tswIn 193 dX9_tells_85 (by decide) (by decide) rfl ?_
                  refine x_aload_n dX9_tells_193 rfl ?_
                  refine x_aload dX9_tells_194 rfl ?_
                  refine x_iload_n dX9_tells_196 rfl ?_
                  refine x_iconst 0 dX9_tells_197 ?_
                  refine iv_X9_267 dX9_tells_198 (c_X9_mendedTold (g := gtD (btF (gtH τ T r p (s_sh S k).2.2 0) 8) (btF (gtH τ T r p (s_sh S k).2.2 255) 8)) (g0 := gtH τ T r p (s_sh S k).2.2 0) (g1 := gtH τ T r p (s_sh S k).2.2 255) hXr hrT (fun _ _ => m1_iff) (fun _ _ => m1_iff) rfl rfl (fun _ _ => m1_iff) hp hk) rfl (by decide) (Nat.le_of_ble_eq_true rfl) (fun v_198 w_198 hw_198 => ?_)
                  obtain ⟨T2, nm2, sk2, rfl, rfl⟩ := hw_198
                  exact Ex.ret (v := some (.int _)) ⟨dX9_tells_201, _, rfl, by first | rfl | decide⟩ ⟨T2, nm2, sk2, congrArg (fun z => some (Value.int z)) ((if_pos rfl).trans (by rw [tcA, if_neg hB, ck, if_neg (bi0.mp h_54), if_neg (fun q => q h_67), cp, tcF, if_neg s_85_0, if_neg s_85_1, if_neg s_85_2, if_neg s_85_3, if_neg s_85_4, if_neg s_85_5, if_pos s_85_6])), by rw [shU_eta]⟩
                refine x_swC 7 (fun s_85_7 => ?_) (fun s_85_7 => ?_)
                · refine x_tswIn 202 dX9_tells_85 (by decide) (by decide) rfl ?_
                  refine x_aload_n dX9_tells_202 rfl ?_
                  refine x_aload dX9_tells_203 rfl ?_
                  refine x_iload_n dX9_tells_205 rfl ?_
                  refine x_iload_n dX9_tells_206 rfl ?_
                  refine x_aload_n dX9_tells_207 rfl ?_
                  refine gf_X9_36 dX9_tells_208 rfl rfl ?_
                  refine gf_X9_158 dX9_tells_211 rfl rfl ?_
                  rw [show s_mz (wtS S T (s_nm S) (s_sk S) (shU (s_sh S) k ((s_sh S k).1, (s_sh S k).2.1, (s_sh S k).2.2))) = nI m from hm]
                  refine iv_X9_259 dX9_tells_214 (c_X9_bitsTold (N := m) (rr := fun i => i) (g := gtT τ T p (s_sh S k).2.2 what) (fun i hi => ⟨hX i hi, by unfold suF; rw [if_neg (by rw [s_85_7]; decide), if_neg (by rw [s_85_7]; decide), if_pos s_85_7]⟩) (fun _ _ => rfl) hp hk (by omega) (fun _ _ q => absurd s_85_7 q)) rfl (by decide) (Nat.le_of_ble_eq_true rfl) (fun v_214 w_214 hw_214 => ?_)
                  obtain ⟨T2, nm2, sk2, rfl, rfl⟩ := hw_214
                  exact Ex.ret (v := some (.int _)) ⟨dX9_tells_217, _, rfl, by first | rfl | decide⟩ ⟨T2, nm2, sk2, congrArg (fun z => some (Value.int z)) ((by rw [tcA, if_neg hB, ck, if_neg (bi0.mp h_54), if_neg (fun q => q h_67), cp, tcF, if_neg s_85_0, if_neg s_85_1, if_neg s_85_2, if_neg s_85_3, if_neg s_85_4, if_neg s_85_5, if_neg s_85_6, if_pos s_85_7])), by rw [shU_eta]⟩
                refine x_swC 8 (fun s_85_8 => ?_) (fun s_85_8 => ?_)
                · refine x_tswIn 218 dX9_tells_85 (by decide) (by decide) rfl ?_
                  refine x_aload_n dX9_tells_218 rfl ?_
                  refine x_aload dX9_tells_219 rfl ?_
                  refine iv_X9_270 dX9_tells_221 (c_X9_peopleTold (z := z) (g := gtP τ T r (s_sh S k).2.2) hXr hrT hzT hz6 (fun _ _ => rfl) hk) rfl (by decide) (Nat.le_of_ble_eq_true rfl) (fun v_221 w_221 hw_221 => ?_)
                  obtain ⟨nm2, sk2, rfl, rfl⟩ := hw_221
                  exact Ex.ret (v := some (.int _)) ⟨dX9_tells_224, _, rfl, by first | rfl | decide⟩ ⟨T, nm2, sk2, congrArg (fun z => some (Value.int z)) ((by rw [tcA, if_neg hB, ck, if_neg (bi0.mp h_54), if_neg (fun q => q h_67), cp, tcF, if_neg s_85_0, if_neg s_85_1, if_neg s_85_2, if_neg s_85_3, if_neg s_85_4, if_neg s_85_5, if_neg s_85_6, if_neg s_85_7, if_pos s_85_8])), by rw [shU_eta]⟩
                refine x_tswOut 225 dX9_tells_85 (by have e0 := lv_neT (a := 0) s_85_0 (by decide); have e1 := lv_neT (a := 1) s_85_1 (by decide); have e2 := lv_neT (a := 2) s_85_2 (by decide); have e3 := lv_neT (a := 3) s_85_3 (by decide); have e4 := lv_neT (a := 4) s_85_4 (by decide); have e5 := lv_neT (a := 5) s_85_5 (by decide); have e6 := lv_neT (a := 6) s_85_6 (by decide); have e7 := lv_neT (a := 7) s_85_7 (by decide); have e8 := lv_neT (a := 8) s_85_8 (by decide); omega) ?_
                have hv10 : vp_in (what - 10) 8 := by
                  rcases hw8 with q | q
                  · rcases le8 q with e | e | e | e | e | e | e | e | e <;> contradiction
                  · obtain ⟨j, hj, ej⟩ := nat_of q.1 (show what - 10 < nI 8 from q.2) (by omega)
                    rw [ej]; exact vin hj (by decide)
                refine x_aload_n dX9_tells_225 rfl ?_
                refine x_aload dX9_tells_226 rfl ?_
                refine x_iload_n dX9_tells_228 rfl ?_
                refine x_iload_n dX9_tells_229 rfl ?_
                refine x_bipush 19 dX9_tells_230 ?_
                refine iv_X9_259 dX9_tells_232 (c_X9_bitsTold (N := 19) (rr := fun _ => r) (g := gtS τ T r p (s_sh S k).2.2 what) (fun i _ => ⟨hXr, by unfold suF; rw [if_neg s_85_1, if_neg s_85_2, if_neg s_85_7]; exact hrT⟩) (fun _ _ => rfl) hp hk (by omega) (fun _ _ _ => hv10)) rfl (by decide) (Nat.le_of_ble_eq_true rfl) (fun v_232 w_232 hw_232 => ?_)
                obtain ⟨T2, nm2, sk2, rfl, rfl⟩ := hw_232
                exact Ex.ret (v := some (.int _)) ⟨dX9_tells_235, _, rfl, by first | rfl | decide⟩ ⟨T2, nm2, sk2, congrArg (fun z => some (Value.int z)) ((by rw [tcA, if_neg hB, ck, if_neg (bi0.mp h_54), if_neg (fun q => q h_67), cp, tcF, if_neg s_85_0, if_neg s_85_1, if_neg s_85_2, if_neg s_85_3, if_neg s_85_4, if_neg s_85_5, if_neg s_85_6, if_neg s_85_7, if_neg s_85_8])), by rw [shU_eta]⟩
              · refine x_bipush (-2) dX9_tells_70 ?_
                exact Ex.ret (v := some (.int _)) ⟨dX9_tells_72, _, rfl, by first | rfl | decide⟩ ⟨s_tho S, s_nm S, s_sk S, congrArg (fun z => some (Value.int z)) (by rw [tcA, if_neg hB, ck, if_neg (bi0.mp h_54), if_pos h_67]), by rw [shU_eta]; rfl⟩
            · refine x_bipush (-11) dX9_tells_57 ?_
              exact Ex.ret (v := some (.int _)) ⟨dX9_tells_59, _, rfl, by first | rfl | decide⟩ ⟨s_tho S, s_nm S, s_sk S, congrArg (fun z => some (Value.int z)) (by rw [tcA, if_neg hB, ck, if_pos (bi1.mp h_54)]), by rw [shU_eta]; rfl⟩
          · refine x_bipush (-2) dX9_tells_38 ?_
            exact Ex.ret (v := some (.int _)) ⟨dX9_tells_40, _, rfl, by first | rfl | decide⟩ ⟨s_tho S, s_nm S, s_sk S, congrArg (fun z => some (Value.int z)) (by rw [tcA, if_pos (show teB z s one what from Or.inr (Or.inr ⟨fun y => h_35 y.2, fun y => bi0.mp h_25 (b10.mpr y)⟩))]), rfl⟩
