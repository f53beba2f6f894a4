theorem qLt_iff {c : Int32} : qLt c = true ↔ 97 ≤ c ∧ c ≤ 122 := by unfold qLt; exact decide_eq_true_iff
theorem qDt_iff {c : Int32} : qDt c = true ↔ 48 ≤ c ∧ c ≤ 57 := by unfold qDt; exact decide_eq_true_iff
theorem qBk_iff {c : Int32} : qBk c = true ↔ c = 32 ∨ c = 10 := by unfold qBk; exact decide_eq_true_iff
theorem qSn_iff {c : Int32} : qSn c = true ↔ (c = 40 ∨ c = 41 ∨ c = 59 ∨ c = 43 ∨ c = 45 ∨ c = 42 ∨ c = 60 ∨ c = 61) := by unfold qSn; exact decide_eq_true_iff
theorem sp_n {q : Int32 → Bool} {b : Nat → Int32} {n h : Nat} (hh : h ≤ n) : spn q b (n - h) h ≤ n := by have := spn_le q b (n - h) h; omega
theorem sp_no {q : Int32 → Bool} {b : Nat → Int32} {n h : Nat} (hh : h ≤ n) (hl : spn q b (n - h) h < n) : ¬ q (b (spn q b (n - h) h)) = true := by rw [spn_end q b (n - h) h (by omega)]; decide
theorem btA_lt {b : Nat → Int32} {n i : Nat} (h : i < n) : btA b n i = b i := if_pos h
theorem btA_ge {b : Nat → Int32} {n i : Nat} (h : n ≤ i) : btA b n i = -1 := if_neg (by omega)
theorem nuv_snoc (b : Nat → Int32) : ∀ (k j : Nat) (a : Int32), nuv b (k + 1) j a = nuv b k j a * 10 + b (j + k) - 48
  | 0, j, a => rfl
  | k + 1, j, a => by
    show nuv b (k + 1) (j + 1) (a * 10 + b j - 48) = nuv b k (j + 1) (a * 10 + b j - 48) * 10 + b (j + (k + 1)) - 48
    rw [nuv_snoc b k (j + 1), show j + 1 + k = j + (k + 1) by omega]
/-- what the reference's next() lays, from the blanks' end on -/
def NX (b : Nat → Int32) (n j h' : Nat) (to' : Int32) (t' : Nat) (tw' : Int64) : Prop :=
  (n ≤ j ∧ to' = 0 ∧ t' = n ∧ h' = j) ∨ (j < n ∧ t' = j ∧ (
    (qLt (b j) = true ∧ to' = 1 ∧ h' = spn qLt b (n - j) j) ∨
    (¬ qLt (b j) = true ∧ qDt (b j) = true ∧ h' = spn qDt b (n - j) j ∧ to' = (if 4 < h' - j then 4 else 2) ∧ (h' - j ≤ 4 → tw'.toInt32 = nuv b (h' - j) j 0)) ∨
    (¬ qLt (b j) = true ∧ ¬ qDt (b j) = true ∧ qSn (b j) = true ∧ to' = 3 ∧ tw' = (b j).toInt64 ∧ h' = j + 1) ∨
    (¬ qLt (b j) = true ∧ ¬ qDt (b j) = true ∧ ¬ qSn (b j) = true ∧ to' = 4 ∧ h' = j)))
theorem tw_step {tw : Int64} {x a : Int32} (h : tw.toInt32 = a) : (10 * tw + x.toInt64 - 48).toInt32 = a * 10 + x - 48 := by
  rw [Int64.toInt32_sub, Int64.toInt32_add, Int64.toInt32_mul, Int32.toInt32_toInt64, h, Int32.mul_comm]
  rfl
set_option maxRecDepth 100000 in
set_option maxHeartbeats 4000000 in
theorem c_X10_next {X : Nat × (Nat → Int32)} {S : CS} {tl : pc_W} {tx : (Nat → Int32)} {ts : (Nat → Int32)} {tc : Int32} {tp : (Nat → Int32)} {tn : Int32} {U : MU} {o : (Nat → Int32)} {to : Int32} {tw : Int64} {op : Int32} {ba : Int32} {fa : Int32} {C : MC} {K : MK} {H : MH} {ta : Int32} {r n h : Nat} {b : Nat → Int32} (hr : r < 6) (hn : n ≤ 160) (hb : ∀ i, i < n → tx (160 * r + i) = b i) (hhn : h ≤ n) (hbp : ∀ i, i < n → 0 ≤ b i): Mt X 2 0 0 yX10_next cX10_next 3 none [.ref 42] (cst S ++ (mw (tx, ts, tc, tp, tn) U (o, nI (160 * r), nI n, nI h, to, ta, tw, op, ba, fa) C K H ++ tl)) (fun v w' => ∃ (h' : Nat) (to' : Int32) (t' : Nat) (tw' : Int64), v = none ∧ w' = cst S ++ (mw (tx, ts, tc, tp, tn) U (o, nI (160 * r), nI n, nI h', to', nI t', tw', op, ba, fa) C K H ++ tl) ∧ NX b n (spn qBk b (n - h) h) h' to' t' tw') := by
  refine Mt.of (by decide +kernel) (fun _ _ => Nat.le_of_ble_eq_true rfl) ?_
  show Ex X mX10_next _ _ _ _ _ _ _ _
  obtain ⟨j, hj⟩ : ∃ j, j = spn qBk b (n - h) h := ⟨_, rfl⟩
  have hjh : h ≤ j := hj ▸ spn_ge _ _ _ _
  have hjn0 : j ≤ n := hj ▸ sp_n hhn
  refine for_up (P := fun i => h ≤ i → Ex X mX10_next 2 (fun v w' => ∃ (h' : Nat) (to' : Int32) (t' : Nat) (tw' : Int64), v = none ∧ w' = cst S ++ (mw (tx, ts, tc, tp, tn) U (o, nI (160 * r), nI n, nI h', to', nI t', tw', op, ba, fa) C K H ++ tl) ∧ NX b n (spn qBk b (n - h) h) h' to' t' tw') 0 0 0 [some (.ref 42), none, none] [] (cst S ++ (mw (tx, ts, tc, tp, tn) U (o, nI (160 * r), nI n, nI i, to, ta, tw, op, ba, fa) C K H ++ tl))) (j) ?_ (fun i hi ih => ?_) (h) (hjh) (Nat.le_refl _)
  · intro _
    have hno : ¬ btA b n j = 32 ∧ ¬ btA b n j = 10 := by
      by_cases q : j < n
      · rw [btA_lt q]; have := sp_no (q := qBk) (b := b) hhn (by rw [← hj]; exact q); rw [← hj, qBk_iff] at this; exact ⟨fun z => this (Or.inl z), fun z => this (Or.inr z)⟩
      · rw [btA_ge (by omega)]; decide
    refine x_aload_n dX10_next_0 rfl ?_
    refine x_aload_n dX10_next_1 rfl ?_
    refine mg_162 dX10_next_2 ?_
    refine ii_X10_165 dX10_next_5 (c_X10_byteAt hr hn hb (by omega)) mw_o (by decide) (Nat.le_of_ble_eq_true rfl) ?_
    refine x_bipush 32 dX10_next_8 ?_
    refine x_icmp_eq 26 dX10_next_10 (fun hx => absurd hx hno.1) (fun _ => ?_)
    refine x_aload_n dX10_next_13 rfl ?_
    refine x_aload_n dX10_next_14 rfl ?_
    refine mg_162 dX10_next_15 ?_
    refine ii_X10_165 dX10_next_18 (c_X10_byteAt hr hn hb (by omega)) mw_o (by decide) (Nat.le_of_ble_eq_true rfl) ?_
    refine x_bipush 10 dX10_next_21 ?_
    refine x_icmp_ne 39 dX10_next_23 (fun _ => ?_) (fun hx => absurd hx hno.2)
    refine x_aload_n dX10_next_39 rfl ?_
    refine x_aload_n dX10_next_40 rfl ?_
    refine mg_162 dX10_next_41 ?_
    refine mp_168 dX10_next_44 ?_
    refine x_aload_n dX10_next_47 rfl ?_
    refine x_aload_n dX10_next_48 rfl ?_
    refine mg_162 dX10_next_49 ?_
    refine ii_X10_165 dX10_next_52 (c_X10_byteAt hr hn hb (by omega)) mw_o (by decide) (Nat.le_of_ble_eq_true rfl) ?_
    refine x_istore_n dX10_next_55 (by decide) ?_
    refine x_aload_n dX10_next_56 rfl ?_
    refine x_iconst 4 dX10_next_57 ?_
    refine mp_171 dX10_next_58 ?_
    refine x_iload_n dX10_next_61 rfl ?_
    refine x_if_ge 81 dX10_next_62 (fun h_62 => ?_) (fun h_62 => ?_)
    · have hjn : j < n := Nat.not_le.mp (fun q => absurd h_62 (by rw [btA_ge q]; decide))
      rw [btA_lt hjn] at *
      refine x_iload_n dX10_next_81 rfl ?_
      refine x_i2l dX10_next_82 ?_
      refine x_ldc2_w dX10_next_83 kk_X10_174 ?_
      refine x_ldc2_w dX10_next_86 kk_X10_176 ?_
      refine ii_X10_76 dX10_next_89 (c_X10_inC (a := 97) (b := 122) (by first | rfl | decide) (by first | rfl | decide)) (by decide) (Nat.le_of_ble_eq_true rfl) ?_
      refine x_if_eq 134 dX10_next_92 (fun h_92 => ?_) (fun h_92 => ?_)
      · refine x_iload_n dX10_next_134 rfl ?_
        refine x_i2l dX10_next_135 ?_
        refine x_ldc2_w dX10_next_136 kk_X10_178 ?_
        refine x_ldc2_w dX10_next_139 kk_X10_180 ?_
        refine ii_X10_76 dX10_next_142 (c_X10_inC (a := 48) (b := 57) (by first | rfl | decide) (by first | rfl | decide)) (by decide) (Nat.le_of_ble_eq_true rfl) ?_
        refine x_if_eq 252 dX10_next_145 (fun h_145 => ?_) (fun h_145 => ?_)
        · refine x_iload_n dX10_next_252 rfl ?_
          refine x_bipush 40 dX10_next_253 ?_
          refine x_icmp_eq 300 dX10_next_255 (fun h_255 => ?_) (fun h_255 => ?_)
          · refine x_aload_n dX10_next_300 rfl ?_
            refine x_iconst 3 dX10_next_301 ?_
            refine mp_171 dX10_next_302 ?_
            refine x_aload_n dX10_next_305 rfl ?_
            refine x_iload_n dX10_next_306 rfl ?_
            refine x_i2l dX10_next_307 ?_
            refine mp_182 dX10_next_308 ?_
            refine x_aload_n dX10_next_311 rfl ?_
            refine x_dup dX10_next_312 ?_
            refine mg_162 dX10_next_313 ?_
            refine x_iconst 1 dX10_next_316 ?_
            refine x_iadd dX10_next_317 ?_
            rw [nI_1]
            refine mp_162 dX10_next_318 ?_
            exact Ex.ret (v := none) ⟨rfl, dX10_next_321⟩ ⟨_, _, j, _, rfl, rfl, by rw [← hj]; exact Or.inr ⟨hjn, rfl, Or.inr (Or.inr (Or.inl ⟨(fun q => bi0.mp h_92 (qLt_iff.mp q)), (fun q => bi0.mp h_145 (qDt_iff.mp q)), qSn_iff.mpr (Or.inl h_255), rfl, rfl, rfl⟩))⟩⟩
          · refine x_iload_n dX10_next_258 rfl ?_
            refine x_bipush 41 dX10_next_259 ?_
            refine x_icmp_eq 300 dX10_next_261 (fun h_261 => ?_) (fun h_261 => ?_)
            · refine x_aload_n dX10_next_300 rfl ?_
              refine x_iconst 3 dX10_next_301 ?_
              refine mp_171 dX10_next_302 ?_
              refine x_aload_n dX10_next_305 rfl ?_
              refine x_iload_n dX10_next_306 rfl ?_
              refine x_i2l dX10_next_307 ?_
              refine mp_182 dX10_next_308 ?_
              refine x_aload_n dX10_next_311 rfl ?_
              refine x_dup dX10_next_312 ?_
              refine mg_162 dX10_next_313 ?_
              refine x_iconst 1 dX10_next_316 ?_
              refine x_iadd dX10_next_317 ?_
              rw [nI_1]
              refine mp_162 dX10_next_318 ?_
              exact Ex.ret (v := none) ⟨rfl, dX10_next_321⟩ ⟨_, _, j, _, rfl, rfl, by rw [← hj]; exact Or.inr ⟨hjn, rfl, Or.inr (Or.inr (Or.inl ⟨(fun q => bi0.mp h_92 (qLt_iff.mp q)), (fun q => bi0.mp h_145 (qDt_iff.mp q)), qSn_iff.mpr (Or.inr (Or.inl h_261)), rfl, rfl, rfl⟩))⟩⟩
            · refine x_iload_n dX10_next_264 rfl ?_
              refine x_bipush 59 dX10_next_265 ?_
              refine x_icmp_eq 300 dX10_next_267 (fun h_267 => ?_) (fun h_267 => ?_)
              · refine x_aload_n dX10_next_300 rfl ?_
                refine x_iconst 3 dX10_next_301 ?_
                refine mp_171 dX10_next_302 ?_
                refine x_aload_n dX10_next_305 rfl ?_
                refine x_iload_n dX10_next_306 rfl ?_
                refine x_i2l dX10_next_307 ?_
                refine mp_182 dX10_next_308 ?_
                refine x_aload_n dX10_next_311 rfl ?_
                refine x_dup dX10_next_312 ?_
                refine mg_162 dX10_next_313 ?_
                refine x_iconst 1 dX10_next_316 ?_
                refine x_iadd dX10_next_317 ?_
                rw [nI_1]
                refine mp_162 dX10_next_318 ?_
                exact Ex.ret (v := none) ⟨rfl, dX10_next_321⟩ ⟨_, _, j, _, rfl, rfl, by rw [← hj]; exact Or.inr ⟨hjn, rfl, Or.inr (Or.inr (Or.inl ⟨(fun q => bi0.mp h_92 (qLt_iff.mp q)), (fun q => bi0.mp h_145 (qDt_iff.mp q)), qSn_iff.mpr (Or.inr (Or.inr (Or.inl h_267))), rfl, rfl, rfl⟩))⟩⟩
              · refine x_iload_n dX10_next_270 rfl ?_
                refine x_bipush 43 dX10_next_271 ?_
                refine x_icmp_eq 300 dX10_next_273 (fun h_273 => ?_) (fun h_273 => ?_)
                · refine x_aload_n dX10_next_300 rfl ?_
                  refine x_iconst 3 dX10_next_301 ?_
                  refine mp_171 dX10_next_302 ?_
                  refine x_aload_n dX10_next_305 rfl ?_
                  refine x_iload_n dX10_next_306 rfl ?_
                  refine x_i2l dX10_next_307 ?_
                  refine mp_182 dX10_next_308 ?_
                  refine x_aload_n dX10_next_311 rfl ?_
                  refine x_dup dX10_next_312 ?_
                  refine mg_162 dX10_next_313 ?_
                  refine x_iconst 1 dX10_next_316 ?_
                  refine x_iadd dX10_next_317 ?_
                  rw [nI_1]
                  refine mp_162 dX10_next_318 ?_
                  exact Ex.ret (v := none) ⟨rfl, dX10_next_321⟩ ⟨_, _, j, _, rfl, rfl, by rw [← hj]; exact Or.inr ⟨hjn, rfl, Or.inr (Or.inr (Or.inl ⟨(fun q => bi0.mp h_92 (qLt_iff.mp q)), (fun q => bi0.mp h_145 (qDt_iff.mp q)), qSn_iff.mpr (Or.inr (Or.inr (Or.inr (Or.inl h_273)))), rfl, rfl, rfl⟩))⟩⟩
                · refine x_iload_n dX10_next_276 rfl ?_
                  refine x_bipush 45 dX10_next_277 ?_
                  refine x_icmp_eq 300 dX10_next_279 (fun h_279 => ?_) (fun h_279 => ?_)
                  · refine x_aload_n dX10_next_300 rfl ?_
                    refine x_iconst 3 dX10_next_301 ?_
                    refine mp_171 dX10_next_302 ?_
                    refine x_aload_n dX10_next_305 rfl ?_
                    refine x_iload_n dX10_next_306 rfl ?_
                    refine x_i2l dX10_next_307 ?_
                    refine mp_182 dX10_next_308 ?_
                    refine x_aload_n dX10_next_311 rfl ?_
                    refine x_dup dX10_next_312 ?_
                    refine mg_162 dX10_next_313 ?_
                    refine x_iconst 1 dX10_next_316 ?_
                    refine x_iadd dX10_next_317 ?_
                    rw [nI_1]
                    refine mp_162 dX10_next_318 ?_
                    exact Ex.ret (v := none) ⟨rfl, dX10_next_321⟩ ⟨_, _, j, _, rfl, rfl, by rw [← hj]; exact Or.inr ⟨hjn, rfl, Or.inr (Or.inr (Or.inl ⟨(fun q => bi0.mp h_92 (qLt_iff.mp q)), (fun q => bi0.mp h_145 (qDt_iff.mp q)), qSn_iff.mpr (Or.inr (Or.inr (Or.inr (Or.inr (Or.inl h_279))))), rfl, rfl, rfl⟩))⟩⟩
                  · refine x_iload_n dX10_next_282 rfl ?_
                    refine x_bipush 42 dX10_next_283 ?_
                    refine x_icmp_eq 300 dX10_next_285 (fun h_285 => ?_) (fun h_285 => ?_)
                    · refine x_aload_n dX10_next_300 rfl ?_
                      refine x_iconst 3 dX10_next_301 ?_
                      refine mp_171 dX10_next_302 ?_
                      refine x_aload_n dX10_next_305 rfl ?_
                      refine x_iload_n dX10_next_306 rfl ?_
                      refine x_i2l dX10_next_307 ?_
                      refine mp_182 dX10_next_308 ?_
                      refine x_aload_n dX10_next_311 rfl ?_
                      refine x_dup dX10_next_312 ?_
                      refine mg_162 dX10_next_313 ?_
                      refine x_iconst 1 dX10_next_316 ?_
                      refine x_iadd dX10_next_317 ?_
                      rw [nI_1]
                      refine mp_162 dX10_next_318 ?_
                      exact Ex.ret (v := none) ⟨rfl, dX10_next_321⟩ ⟨_, _, j, _, rfl, rfl, by rw [← hj]; exact Or.inr ⟨hjn, rfl, Or.inr (Or.inr (Or.inl ⟨(fun q => bi0.mp h_92 (qLt_iff.mp q)), (fun q => bi0.mp h_145 (qDt_iff.mp q)), qSn_iff.mpr (Or.inr (Or.inr (Or.inr (Or.inr (Or.inr (Or.inl h_285)))))), rfl, rfl, rfl⟩))⟩⟩
                    · refine x_iload_n dX10_next_288 rfl ?_
                      refine x_bipush 60 dX10_next_289 ?_
                      refine x_icmp_eq 300 dX10_next_291 (fun h_291 => ?_) (fun h_291 => ?_)
                      · refine x_aload_n dX10_next_300 rfl ?_
                        refine x_iconst 3 dX10_next_301 ?_
                        refine mp_171 dX10_next_302 ?_
                        refine x_aload_n dX10_next_305 rfl ?_
                        refine x_iload_n dX10_next_306 rfl ?_
                        refine x_i2l dX10_next_307 ?_
                        refine mp_182 dX10_next_308 ?_
                        refine x_aload_n dX10_next_311 rfl ?_
                        refine x_dup dX10_next_312 ?_
                        refine mg_162 dX10_next_313 ?_
                        refine x_iconst 1 dX10_next_316 ?_
                        refine x_iadd dX10_next_317 ?_
                        rw [nI_1]
                        refine mp_162 dX10_next_318 ?_
                        exact Ex.ret (v := none) ⟨rfl, dX10_next_321⟩ ⟨_, _, j, _, rfl, rfl, by rw [← hj]; exact Or.inr ⟨hjn, rfl, Or.inr (Or.inr (Or.inl ⟨(fun q => bi0.mp h_92 (qLt_iff.mp q)), (fun q => bi0.mp h_145 (qDt_iff.mp q)), qSn_iff.mpr (Or.inr (Or.inr (Or.inr (Or.inr (Or.inr (Or.inr (Or.inl h_291))))))), rfl, rfl, rfl⟩))⟩⟩
                      · refine x_iload_n dX10_next_294 rfl ?_
                        refine x_bipush 61 dX10_next_295 ?_
                        refine x_icmp_ne 321 dX10_next_297 (fun h_297 => ?_) (fun h_297 => ?_)
                        · exact Ex.ret (v := none) ⟨rfl, dX10_next_321⟩ ⟨_, _, j, _, rfl, rfl, by rw [← hj]; exact Or.inr ⟨hjn, rfl, Or.inr (Or.inr (Or.inr ⟨(fun q => bi0.mp h_92 (qLt_iff.mp q)), (fun q => bi0.mp h_145 (qDt_iff.mp q)), (fun q => by rcases qSn_iff.mp q with q | q | q | q | q | q | q | q <;> contradiction), rfl, rfl⟩))⟩⟩
                        · refine x_aload_n dX10_next_300 rfl ?_
                          refine x_iconst 3 dX10_next_301 ?_
                          refine mp_171 dX10_next_302 ?_
                          refine x_aload_n dX10_next_305 rfl ?_
                          refine x_iload_n dX10_next_306 rfl ?_
                          refine x_i2l dX10_next_307 ?_
                          refine mp_182 dX10_next_308 ?_
                          refine x_aload_n dX10_next_311 rfl ?_
                          refine x_dup dX10_next_312 ?_
                          refine mg_162 dX10_next_313 ?_
                          refine x_iconst 1 dX10_next_316 ?_
                          refine x_iadd dX10_next_317 ?_
                          rw [nI_1]
                          refine mp_162 dX10_next_318 ?_
                          exact Ex.ret (v := none) ⟨rfl, dX10_next_321⟩ ⟨_, _, j, _, rfl, rfl, by rw [← hj]; exact Or.inr ⟨hjn, rfl, Or.inr (Or.inr (Or.inl ⟨(fun q => bi0.mp h_92 (qLt_iff.mp q)), (fun q => bi0.mp h_145 (qDt_iff.mp q)), qSn_iff.mpr (Or.inr (Or.inr (Or.inr (Or.inr (Or.inr (Or.inr (Or.inr (h_297)))))))), rfl, rfl, rfl⟩))⟩⟩
        · refine x_aload_n dX10_next_148 rfl ?_
          refine x_iconst 2 dX10_next_149 ?_
          refine mp_171 dX10_next_150 ?_
          refine x_aload_n dX10_next_153 rfl ?_
          refine x_lconst 0 dX10_next_154 ?_
          refine mp_182 dX10_next_155 ?_
          refine x_iconst 0 dX10_next_158 ?_
          refine x_istore_n dX10_next_159 (by decide) ?_
          have hlt : ¬ qLt (b j) = true := fun q => bi0.mp h_92 (qLt_iff.mp q)
          have hdt : qDt (b j) = true := qDt_iff.mpr (bi1.mp h_145)
          obtain ⟨m, hm⟩ : ∃ m, m = spn qDt b (n - j) j - j := ⟨_, rfl⟩
          have hm1 : spn qDt b (n - j) j = j + m := by have := spn_ge qDt b (n - j) j; omega
          have hm2 : j + m ≤ n := by rw [← hm1]; exact sp_n hjn0
          suffices hs : Ex X mX10_next 2 (fun v w' => ∃ (h' : Nat) (to' : Int32) (t' : Nat) (tw' : Int64), v = none ∧ w' = cst S ++ (mw (tx, ts, tc, tp, tn) U (o, nI (160 * r), nI n, nI h', to', nI t', tw', op, ba, fa) C K H ++ tl) ∧ NX b n (spn qBk b (n - h) h) h' to' t' tw') 0 0 160 [some (.ref 42), some (.int (b j)), some (.int (nI 0))] [] (cst S ++ (mw (tx, ts, tc, tp, tn) U (o, nI (160 * r), nI n, nI (j + 0), 2, nI j, 0, op, ba, fa) C K H ++ tl)) from hs
          refine for_up (P := fun i => ∀ tw2 : Int64, (i ≤ 4 → tw2.toInt32 = nuv b i j 0) → Ex X mX10_next 2 (fun v w' => ∃ (h' : Nat) (to' : Int32) (t' : Nat) (tw' : Int64), v = none ∧ w' = cst S ++ (mw (tx, ts, tc, tp, tn) U (o, nI (160 * r), nI n, nI h', to', nI t', tw', op, ba, fa) C K H ++ tl) ∧ NX b n (spn qBk b (n - h) h) h' to' t' tw') 0 0 160 [some (.ref 42), some (.int (b j)), some (.int (nI i))] [] (cst S ++ (mw (tx, ts, tc, tp, tn) U (o, nI (160 * r), nI n, nI (j + i), 2, nI j, tw2, op, ba, fa) C K H ++ tl))) (m) ?_ (fun i hi ih => ?_) (0) (by omega) 0 (fun _ => rfl)
          · intro tw2 htw
            have hno : ¬ (48 ≤ btA b n (j + m) ∧ btA b n (j + m) ≤ 57) := by
              by_cases q : j + m < n
              · rw [btA_lt q]; have := sp_no (q := qDt) (b := b) hjn0 (by rw [hm1]; exact q); rw [hm1, qDt_iff] at this; exact this
              · rw [btA_ge (by omega)]; decide
            refine x_aload_n dX10_next_160 rfl ?_
            refine x_aload_n dX10_next_161 rfl ?_
            refine mg_162 dX10_next_162 ?_
            refine ii_X10_165 dX10_next_165 (c_X10_byteAt hr hn hb (by omega)) mw_o (by decide) (Nat.le_of_ble_eq_true rfl) ?_
            refine x_i2l dX10_next_168 ?_
            refine x_ldc2_w dX10_next_169 kk_X10_178 ?_
            refine x_ldc2_w dX10_next_172 kk_X10_180 ?_
            refine ii_X10_76 dX10_next_175 (c_X10_inC (a := 48) (b := 57) (by first | rfl | decide) (by first | rfl | decide)) (by decide) (Nat.le_of_ble_eq_true rfl) ?_
            refine x_if_eq 235 dX10_next_178 (fun _ => ?_) (fun hx => absurd (bi1.mp hx) hno)
            refine x_aload_n dX10_next_235 rfl ?_
            refine x_iload_n dX10_next_236 rfl ?_
            refine x_iconst 4 dX10_next_237 ?_
            refine x_icmp_le 245 dX10_next_238 (fun h_238 => ?_) (fun h_238 => ?_)
            · refine x_iconst 2 dX10_next_245 ?_
              refine mp_171 dX10_next_246 ?_
              refine x_goto 321 dX10_next_249 ?_
              exact Ex.ret (v := none) ⟨rfl, dX10_next_321⟩ ⟨_, _, j, _, rfl, rfl, by rw [← hj]; exact Or.inr ⟨hjn, rfl, Or.inr (Or.inl ⟨hlt, hdt, hm1.symm, (if_neg (show ¬ 4 < j + m - j from by rw [Nat.add_sub_cancel_left]; exact fun q => nI_ge q (by omega) h_238)).symm, fun q => by rw [Nat.add_sub_cancel_left] at q ⊢; exact htw q⟩)⟩⟩
            · refine x_iconst 4 dX10_next_241 ?_
              refine x_goto 246 dX10_next_242 ?_
              refine mp_171 dX10_next_246 ?_
              refine x_goto 321 dX10_next_249 ?_
              exact Ex.ret (v := none) ⟨rfl, dX10_next_321⟩ ⟨_, _, j, _, rfl, rfl, by rw [← hj]; exact Or.inr ⟨hjn, rfl, Or.inr (Or.inl ⟨hlt, hdt, hm1.symm, (if_pos (show 4 < j + m - j from by rw [Nat.add_sub_cancel_left]; exact Nat.not_le.mp (fun q => h_238 (nI_le q (by decide))))).symm, fun q => by rw [Nat.add_sub_cancel_left] at q ⊢; exact htw q⟩)⟩⟩
          · intro tw2 htw
            have hin : j + i < n := by omega
            have hyes : 48 ≤ btA b n (j + i) ∧ btA b n (j + i) ≤ 57 := by rw [btA_lt hin]; exact qDt_iff.mp (spn_all qDt b (n - j) j (j + i) (by omega) (by omega))
            refine x_aload_n dX10_next_160 rfl ?_
            refine x_aload_n dX10_next_161 rfl ?_
            refine mg_162 dX10_next_162 ?_
            refine ii_X10_165 dX10_next_165 (c_X10_byteAt hr hn hb (by omega)) mw_o (by decide) (Nat.le_of_ble_eq_true rfl) ?_
            refine x_i2l dX10_next_168 ?_
            refine x_ldc2_w dX10_next_169 kk_X10_178 ?_
            refine x_ldc2_w dX10_next_172 kk_X10_180 ?_
            refine ii_X10_76 dX10_next_175 (c_X10_inC (a := 48) (b := 57) (by first | rfl | decide) (by first | rfl | decide)) (by decide) (Nat.le_of_ble_eq_true rfl) ?_
            refine x_if_eq 235 dX10_next_178 (fun hx => absurd hyes (bi0.mp hx)) (fun _ => ?_)
            refine x_aload_n dX10_next_181 rfl ?_
            refine x_iload_n dX10_next_182 rfl ?_
            refine x_iconst 4 dX10_next_183 ?_
            refine x_icmp_ge 212 dX10_next_184 (fun h_184 => ?_) (fun h_184 => ?_)
            · refine x_aload_n dX10_next_212 rfl ?_
              refine mg_182 dX10_next_213 ?_
              refine mp_182 dX10_next_216 ?_
              refine x_iincN dX10_next_219 rfl (by decide) ?_
              refine x_aload_n dX10_next_222 rfl ?_
              refine x_dup dX10_next_223 ?_
              refine mg_162 dX10_next_224 ?_
              refine x_iconst 1 dX10_next_227 ?_
              refine x_iadd dX10_next_228 ?_
              rw [nI_1]
              refine mp_162 dX10_next_229 ?_
              refine x_goto 160 dX10_next_232 ?_
              exact ih _ (fun q => absurd h_184 (nI_ge (show i < 4 by omega) (by decide)))
            · refine x_ldc2_w dX10_next_187 kk_X10_186 ?_
              refine x_aload_n dX10_next_190 rfl ?_
              refine mg_182 dX10_next_191 ?_
              refine x_lmul dX10_next_194 ?_
              refine x_aload_n dX10_next_195 rfl ?_
              refine x_aload_n dX10_next_196 rfl ?_
              refine mg_162 dX10_next_197 ?_
              refine ii_X10_165 dX10_next_200 (c_X10_byteAt hr hn hb (by omega)) mw_o (by decide) (Nat.le_of_ble_eq_true rfl) ?_
              rw [btA_lt hin]
              refine x_i2l dX10_next_203 ?_
              refine x_ladd dX10_next_204 ?_
              refine x_ldc2_w dX10_next_205 kk_X10_178 ?_
              refine x_lsub dX10_next_208 ?_
              refine x_goto 216 dX10_next_209 ?_
              refine mp_182 dX10_next_216 ?_
              refine x_iincN dX10_next_219 rfl (by decide) ?_
              refine x_aload_n dX10_next_222 rfl ?_
              refine x_dup dX10_next_223 ?_
              refine mg_162 dX10_next_224 ?_
              refine x_iconst 1 dX10_next_227 ?_
              refine x_iadd dX10_next_228 ?_
              rw [nI_1]
              refine mp_162 dX10_next_229 ?_
              refine x_goto 160 dX10_next_232 ?_
              exact ih _ (fun q => by rw [nuv_snoc]; exact tw_step (htw (by omega)))
      · refine x_aload_n dX10_next_95 rfl ?_
        refine x_iconst 1 dX10_next_96 ?_
        refine mp_171 dX10_next_97 ?_
        have hlt : qLt (b j) = true := qLt_iff.mpr (bi1.mp h_92)
        obtain ⟨m, hm⟩ : ∃ m, m = spn qLt b (n - j) j - j := ⟨_, rfl⟩
        have hm1 : spn qLt b (n - j) j = j + m := by have := spn_ge qLt b (n - j) j; omega
        have hm2 : j + m ≤ n := by rw [← hm1]; exact sp_n hjn0
        suffices hs : Ex X mX10_next 2 (fun v w' => ∃ (h' : Nat) (to' : Int32) (t' : Nat) (tw' : Int64), v = none ∧ w' = cst S ++ (mw (tx, ts, tc, tp, tn) U (o, nI (160 * r), nI n, nI h', to', nI t', tw', op, ba, fa) C K H ++ tl) ∧ NX b n (spn qBk b (n - h) h) h' to' t' tw') 0 0 100 [some (.ref 42), some (.int (b j)), none] [] (cst S ++ (mw (tx, ts, tc, tp, tn) U (o, nI (160 * r), nI n, nI (j + 0), 1, nI j, tw, op, ba, fa) C K H ++ tl)) from hs
        refine for_up (P := fun i => Ex X mX10_next 2 (fun v w' => ∃ (h' : Nat) (to' : Int32) (t' : Nat) (tw' : Int64), v = none ∧ w' = cst S ++ (mw (tx, ts, tc, tp, tn) U (o, nI (160 * r), nI n, nI h', to', nI t', tw', op, ba, fa) C K H ++ tl) ∧ NX b n (spn qBk b (n - h) h) h' to' t' tw') 0 0 100 [some (.ref 42), some (.int (b j)), none] [] (cst S ++ (mw (tx, ts, tc, tp, tn) U (o, nI (160 * r), nI n, nI (j + i), 1, nI j, tw, op, ba, fa) C K H ++ tl))) (m) ?_ (fun i hi ih => ?_) (0) (by omega)
        · have hno : ¬ (97 ≤ btA b n (j + m) ∧ btA b n (j + m) ≤ 122) := by
            by_cases q : j + m < n
            · rw [btA_lt q]; have := sp_no (q := qLt) (b := b) hjn0 (by rw [hm1]; exact q); rw [hm1, qLt_iff] at this; exact this
            · rw [btA_ge (by omega)]; decide
          refine x_aload_n dX10_next_100 rfl ?_
          refine x_aload_n dX10_next_101 rfl ?_
          refine mg_162 dX10_next_102 ?_
          refine ii_X10_165 dX10_next_105 (c_X10_byteAt hr hn hb (by omega)) mw_o (by decide) (Nat.le_of_ble_eq_true rfl) ?_
          refine x_i2l dX10_next_108 ?_
          refine x_ldc2_w dX10_next_109 kk_X10_174 ?_
          refine x_ldc2_w dX10_next_112 kk_X10_176 ?_
          refine ii_X10_76 dX10_next_115 (c_X10_inC (a := 97) (b := 122) (by first | rfl | decide) (by first | rfl | decide)) (by decide) (Nat.le_of_ble_eq_true rfl) ?_
          refine x_if_eq 321 dX10_next_118 (fun _ => ?_) (fun hx => absurd (bi1.mp hx) hno)
          exact Ex.ret (v := none) ⟨rfl, dX10_next_321⟩ ⟨_, _, j, _, rfl, rfl, by rw [← hj]; exact Or.inr ⟨hjn, rfl, Or.inl ⟨hlt, rfl, hm1.symm⟩⟩⟩
        · have hin : j + i < n := by omega
          have hyes : 97 ≤ btA b n (j + i) ∧ btA b n (j + i) ≤ 122 := by rw [btA_lt hin]; exact qLt_iff.mp (spn_all qLt b (n - j) j (j + i) (by omega) (by omega))
          refine x_aload_n dX10_next_100 rfl ?_
          refine x_aload_n dX10_next_101 rfl ?_
          refine mg_162 dX10_next_102 ?_
          refine ii_X10_165 dX10_next_105 (c_X10_byteAt hr hn hb (by omega)) mw_o (by decide) (Nat.le_of_ble_eq_true rfl) ?_
          refine x_i2l dX10_next_108 ?_
          refine x_ldc2_w dX10_next_109 kk_X10_174 ?_
          refine x_ldc2_w dX10_next_112 kk_X10_176 ?_
          refine ii_X10_76 dX10_next_115 (c_X10_inC (a := 97) (b := 122) (by first | rfl | decide) (by first | rfl | decide)) (by decide) (Nat.le_of_ble_eq_true rfl) ?_
          refine x_if_eq 321 dX10_next_118 (fun hx => absurd hyes (bi0.mp hx)) (fun _ => ?_)
          refine x_aload_n dX10_next_121 rfl ?_
          refine x_dup dX10_next_122 ?_
          refine mg_162 dX10_next_123 ?_
          refine x_iconst 1 dX10_next_126 ?_
          refine x_iadd dX10_next_127 ?_
          rw [nI_1]
          refine mp_162 dX10_next_128 ?_
          refine x_goto 100 dX10_next_131 ?_
          exact ih
    · have hjn : n ≤ j := Nat.not_lt.mp (fun q => h_62 (by rw [btA_lt q]; exact hbp j q))
      refine x_aload_n dX10_next_65 rfl ?_
      refine x_iconst 0 dX10_next_66 ?_
      refine mp_171 dX10_next_67 ?_
      refine x_aload_n dX10_next_70 rfl ?_
      refine x_aload_n dX10_next_71 rfl ?_
      refine mg_156 dX10_next_72 ?_
      refine mp_168 dX10_next_75 ?_
      refine x_goto 321 dX10_next_78 ?_
      exact Ex.ret (v := none) ⟨rfl, dX10_next_321⟩ ⟨_, _, n, _, rfl, rfl, by rw [← hj]; exact Or.inl ⟨hjn, rfl, rfl, rfl⟩⟩
  · intro hhi
    have hin : i < n := by omega
    have hyes : btA b n i = 32 ∨ btA b n i = 10 := by rw [btA_lt hin]; exact qBk_iff.mp (spn_all qBk b (n - h) h i hhi (by rw [← hj]; exact hi))
    refine x_aload_n dX10_next_0 rfl ?_
    refine x_aload_n dX10_next_1 rfl ?_
    refine mg_162 dX10_next_2 ?_
    refine ii_X10_165 dX10_next_5 (c_X10_byteAt hr hn hb (by omega)) mw_o (by decide) (Nat.le_of_ble_eq_true rfl) ?_
    refine x_bipush 32 dX10_next_8 ?_
    refine x_icmp_eq 26 dX10_next_10 (fun h_10 => ?_) (fun h_10 => ?_)
    · refine x_aload_n dX10_next_26 rfl ?_
      refine x_dup dX10_next_27 ?_
      refine mg_162 dX10_next_28 ?_
      refine x_iconst 1 dX10_next_31 ?_
      refine x_iadd dX10_next_32 ?_
      rw [nI_1]
      refine mp_162 dX10_next_33 ?_
      refine x_goto 0 dX10_next_36 ?_
      exact ih (by omega)
    · refine x_aload_n dX10_next_13 rfl ?_
      refine x_aload_n dX10_next_14 rfl ?_
      refine mg_162 dX10_next_15 ?_
      refine ii_X10_165 dX10_next_18 (c_X10_byteAt hr hn hb (by omega)) mw_o (by decide) (Nat.le_of_ble_eq_true rfl) ?_
      refine x_bipush 10 dX10_next_21 ?_
      refine x_icmp_ne 39 dX10_next_23 (fun hx => absurd (hyes.resolve_left h_10) hx) (fun _ => ?_)
      refine x_aload_n dX10_next_26 rfl ?_
      refine x_dup dX10_next_27 ?_
      refine mg_162 dX10_next_28 ?_
      refine x_iconst 1 dX10_next_31 ?_
      refine x_iadd dX10_next_32 ?_
      rw [nI_1]
      refine mp_162 dX10_next_33 ?_
      refine x_goto 0 dX10_next_36 ?_
      exact ih (by omega)
