def ReL : Option Value → pc_W → Prop := fun v _ => v = some (.int 1)
theorem x_scr {L : Nat} {xs : Nat → Int32} {M : MI} {d : Nat} {Ret : Option Value → pc_W → Prop} {cb sb pc : Nat} {Lo : List (Option Value)} {st : List Value} {w : pc_W} {k j : Nat} (hd : decode M.2.2.1 pc = .ok (.iaload, 1)) (hj : k + j < L) (hL : L ≤ 3072) (kk : Ex (L, xs) M d Ret cb sb (pc + 1) Lo (.int (xs (k + j)) :: st) w) : Ex (L, xs) M d Ret cb sb pc Lo (.int (nI k + nI j) :: .float 200 :: st) w := by
  rw [nI_add]
  refine x_taload hd (Or.inr (Or.inr (Or.inr rfl))) (vin (n := L) (show k + j < L from hj) (by omega)) ?_
  rw [nI_clamp (by omega)]
  exact kk
theorem x_scr0 {L : Nat} {xs : Nat → Int32} {M : MI} {d : Nat} {Ret : Option Value → pc_W → Prop} {cb sb pc : Nat} {Lo : List (Option Value)} {st : List Value} {w : pc_W} {k : Nat} (hd : decode M.2.2.1 pc = .ok (.iaload, 1)) (hj : k < L) (hL : L ≤ 3072) (kk : Ex (L, xs) M d Ret cb sb (pc + 1) Lo (.int (xs k) :: st) w) : Ex (L, xs) M d Ret cb sb pc Lo (.int (nI k) :: .float 200 :: st) w := by
  refine x_taload hd (Or.inr (Or.inr (Or.inr rfl))) (vin (n := L) (show k < L from hj) (by omega)) ?_
  rw [nI_clamp (by omega)]
  exact kk
theorem lg_same (a : Int64) : lg_cmp a a = 0 := by
  unfold lg_cmp
  rw [if_neg (fun h : a > a => Int64.lt_irrefl h), if_pos rfl]
theorem lw_len {L q : Nat} (hL : L ≤ 3072) (hq : q ≤ 512) : (Int32.ofNat L - 6 < nI (6 * q)) ↔ ¬ 6 * q + 6 ≤ L := by
  have e1 : (Int32.ofNat L).toInt = (L : Int) := nI_toInt (n := L) (by omega)
  rw [Int32.lt_iff_toInt_lt, Int32.toInt_sub, e1, nI_toInt (by omega), show (6 : Int32).toInt = 6 from by decide, Int.bmod_eq_of_le (by omega) (by omega)]
  omega
set_option maxRecDepth 100000 in
set_option maxHeartbeats 4000000 in
theorem law_body {L N q : Nat} {mn : String} {xs : Nat → Int32} (hL : L ≤ 3072) (hN : N ≤ 512) (hq : q < N) (hqL : 6 * q + 6 ≤ L) (hgo : ∀ (S : CS) (T : MT) (U : MU) (Λ : ML) (C : MC) (K : MK) (H : MH) (tl : pc_W), Inv S T (mO U) K H tl → Ex (L, xs) (RL, mn, code, 4, some .boolean) 60 ReL (3 * (N - (q + 1))) (166 * (N - (q + 1))) 1025 [some (.float 200), some (.ref 0), some (.ref 42), some (.int (nI (6 * q)))] [] (WD S T U Λ C K H tl)) {S : CS} {T : MT} {U : MU} {Λ : ML} {C : MC} {K : MK} {H : MH} {tl : pc_W} (hI : Inv S T (mO U) K H tl) : Ex (L, xs) (RL, mn, code, 4, some .boolean) 60 ReL (3 * (N - q)) (166 * (N - q)) 27 [some (.float 200), some (.ref 0), some (.ref 42), some (.int (nI (6 * q)))] [] (WD S T U Λ C K H tl) := by
  refine x_aload_nF dL_law_27 rfl ?_
  refine x_iload_n dL_law_28 rfl ?_
  refine x_scr0 dL_law_29 (by omega) hL ?_
  refine x_bipush 31 dL_law_30 ?_
  refine x_iand dL_law_32 ?_
  generalize xs (6 * q) &&& 31 = y
  refine x_swC 0 (fun s_0 => ?_) (fun s_0 => ?_)
  · refine x_tswIn 160 dL_law_33 (by decide) (by decide) rfl ?_
    obtain ⟨x, R, h9, h10⟩ := k_set (X := (L, xs)) (Λ := Λ) (C := C) hI (xs (6 * q + 1)) (xs (6 * q + 2)) (xs (6 * q + 3))
    refine Ex.more (cb := 3 * (N - (q + 1))) (sb := 166 * (N - (q + 1))) (by omega) (by omega) ?_
    refine x_aload_n dL_law_160 rfl ?_
    refine x_aload_nF dL_law_161 rfl ?_
    refine x_iload_n dL_law_162 rfl ?_
    refine x_iconst 1 dL_law_163 ?_
    refine x_iadd dL_law_164 ?_
    refine x_scr (j := 1) dL_law_165 (by omega) hL ?_
    refine x_aload_nF dL_law_166 rfl ?_
    refine x_iload_n dL_law_167 rfl ?_
    refine x_iconst 2 dL_law_168 ?_
    refine x_iadd dL_law_169 ?_
    refine x_scr (j := 2) dL_law_170 (by omega) hL ?_
    refine x_aload_nF dL_law_171 rfl ?_
    refine x_iload_n dL_law_172 rfl ?_
    refine x_iconst 3 dL_law_173 ?_
    refine x_iadd dL_law_174 ?_
    refine x_scr (j := 3) dL_law_175 (by omega) hL ?_
    refine iv_L_13 dL_law_176 h9 rfl (by decide) (Nat.le_of_ble_eq_true rfl) (fun v w' h => ?_)
    obtain ⟨rfl, S', tl', rfl, hR⟩ := h
    refine x_aload_n dL_law_179 rfl ?_
    refine x_aload_nF dL_law_180 rfl ?_
    refine x_iload_n dL_law_181 rfl ?_
    refine x_iconst 1 dL_law_182 ?_
    refine x_iadd dL_law_183 ?_
    refine x_scr (j := 1) dL_law_184 (by omega) hL ?_
    refine x_aload_nF dL_law_185 rfl ?_
    refine x_iload_n dL_law_186 rfl ?_
    refine x_iconst 2 dL_law_187 ?_
    refine x_iadd dL_law_188 ?_
    refine x_scr (j := 2) dL_law_189 (by omega) hL ?_
    refine x_aload_nF dL_law_190 rfl ?_
    refine x_iload_n dL_law_191 rfl ?_
    refine x_iconst 3 dL_law_192 ?_
    refine x_iadd dL_law_193 ?_
    refine x_scr (j := 3) dL_law_194 (by omega) hL ?_
    refine iv_L_17 dL_law_195 (h10 S' tl' hR) mw_o (by decide) (Nat.le_of_ble_eq_true rfl) (fun v w' h => ?_)
    obtain ⟨rfl, T', U', Λ', C', K', H', rfl, hI'⟩ := h
    refine x_icmp_eq 1025 dL_law_198 (fun _ => ?_) (fun y => absurd rfl y)
    exact hgo S' T' U' Λ' C' K' H' tl' hI'
  refine x_swC 1 (fun s_1 => ?_) (fun s_1 => ?_)
  · refine x_tswIn 203 dL_law_33 (by decide) (by decide) rfl ?_
    obtain ⟨x, R, h9, h10⟩ := k_person (X := (L, xs)) (Λ := Λ) (C := C) hI (xs (6 * q + 1)) (xs (6 * q + 2))
    refine Ex.more (cb := 3 * (N - (q + 1))) (sb := 166 * (N - (q + 1))) (by omega) (by omega) ?_
    refine x_aload_n dL_law_203 rfl ?_
    refine x_aload_nF dL_law_204 rfl ?_
    refine x_iload_n dL_law_205 rfl ?_
    refine x_iconst 1 dL_law_206 ?_
    refine x_iadd dL_law_207 ?_
    refine x_scr (j := 1) dL_law_208 (by omega) hL ?_
    refine x_aload_nF dL_law_209 rfl ?_
    refine x_iload_n dL_law_210 rfl ?_
    refine x_iconst 2 dL_law_211 ?_
    refine x_iadd dL_law_212 ?_
    refine x_scr (j := 2) dL_law_213 (by omega) hL ?_
    refine iv_L_18 dL_law_214 h9 rfl (by decide) (Nat.le_of_ble_eq_true rfl) (fun v w' h => ?_)
    obtain ⟨rfl, S', tl', rfl, hR⟩ := h
    refine x_aload_n dL_law_217 rfl ?_
    refine x_aload_nF dL_law_218 rfl ?_
    refine x_iload_n dL_law_219 rfl ?_
    refine x_iconst 1 dL_law_220 ?_
    refine x_iadd dL_law_221 ?_
    refine x_scr (j := 1) dL_law_222 (by omega) hL ?_
    refine x_aload_nF dL_law_223 rfl ?_
    refine x_iload_n dL_law_224 rfl ?_
    refine x_iconst 2 dL_law_225 ?_
    refine x_iadd dL_law_226 ?_
    refine x_scr (j := 2) dL_law_227 (by omega) hL ?_
    refine iv_L_22 dL_law_228 (h10 S' tl' hR) mw_o (by decide) (Nat.le_of_ble_eq_true rfl) (fun v w' h => ?_)
    obtain ⟨rfl, T', U', Λ', C', K', H', rfl, hI'⟩ := h
    refine x_icmp_eq 1025 dL_law_231 (fun _ => ?_) (fun y => absurd rfl y)
    exact hgo S' T' U' Λ' C' K' H' tl' hI'
  refine x_swC 2 (fun s_2 => ?_) (fun s_2 => ?_)
  · refine x_tswIn 236 dL_law_33 (by decide) (by decide) rfl ?_
    obtain ⟨x, R, h9, h10⟩ := k_told (X := (L, xs)) (Λ := Λ) (C := C) hI (xs (6 * q + 1)) (xs (6 * q + 2))
    refine Ex.more (cb := 3 * (N - (q + 1))) (sb := 166 * (N - (q + 1))) (by omega) (by omega) ?_
    refine x_aload_n dL_law_236 rfl ?_
    refine x_aload_nF dL_law_237 rfl ?_
    refine x_iload_n dL_law_238 rfl ?_
    refine x_iconst 1 dL_law_239 ?_
    refine x_iadd dL_law_240 ?_
    refine x_scr (j := 1) dL_law_241 (by omega) hL ?_
    refine x_aload_nF dL_law_242 rfl ?_
    refine x_iload_n dL_law_243 rfl ?_
    refine x_iconst 2 dL_law_244 ?_
    refine x_iadd dL_law_245 ?_
    refine x_scr (j := 2) dL_law_246 (by omega) hL ?_
    refine iv_L_23 dL_law_247 h9 rfl (by decide) (Nat.le_of_ble_eq_true rfl) (fun v w' h => ?_)
    obtain ⟨rfl, S', tl', rfl, hR⟩ := h
    refine x_aload_n dL_law_250 rfl ?_
    refine x_aload_nF dL_law_251 rfl ?_
    refine x_iload_n dL_law_252 rfl ?_
    refine x_iconst 1 dL_law_253 ?_
    refine x_iadd dL_law_254 ?_
    refine x_scr (j := 1) dL_law_255 (by omega) hL ?_
    refine x_aload_nF dL_law_256 rfl ?_
    refine x_iload_n dL_law_257 rfl ?_
    refine x_iconst 2 dL_law_258 ?_
    refine x_iadd dL_law_259 ?_
    refine x_scr (j := 2) dL_law_260 (by omega) hL ?_
    refine iv_L_26 dL_law_261 (h10 S' tl' hR) mw_o (by decide) (Nat.le_of_ble_eq_true rfl) (fun v w' h => ?_)
    obtain ⟨rfl, T', U', Λ', C', K', H', rfl, hI'⟩ := h
    refine x_icmp_eq 1025 dL_law_264 (fun _ => ?_) (fun y => absurd rfl y)
    exact hgo S' T' U' Λ' C' K' H' tl' hI'
  refine x_swC 3 (fun s_3 => ?_) (fun s_3 => ?_)
  · refine x_tswIn 269 dL_law_33 (by decide) (by decide) rfl ?_
    obtain ⟨x, R, h9, h10⟩ := k_feed (X := (L, xs)) (Λ := Λ) (C := C) hI (xs (6 * q + 1))
    refine Ex.more (cb := 3 * (N - (q + 1))) (sb := 166 * (N - (q + 1))) (by omega) (by omega) ?_
    refine x_aload_n dL_law_269 rfl ?_
    refine x_aload_nF dL_law_270 rfl ?_
    refine x_iload_n dL_law_271 rfl ?_
    refine x_iconst 1 dL_law_272 ?_
    refine x_iadd dL_law_273 ?_
    refine x_scr (j := 1) dL_law_274 (by omega) hL ?_
    refine iv_L_27 dL_law_275 h9 rfl (by decide) (Nat.le_of_ble_eq_true rfl) (fun v w' h => ?_)
    obtain ⟨rfl, S', tl', rfl, hR⟩ := h
    refine x_aload_n dL_law_278 rfl ?_
    refine x_aload_nF dL_law_279 rfl ?_
    refine x_iload_n dL_law_280 rfl ?_
    refine x_iconst 1 dL_law_281 ?_
    refine x_iadd dL_law_282 ?_
    refine x_scr (j := 1) dL_law_283 (by omega) hL ?_
    refine iv_L_31 dL_law_284 (h10 S' tl' hR) mw_o (by decide) (Nat.le_of_ble_eq_true rfl) (fun v w' h => ?_)
    obtain ⟨rfl, T', U', Λ', C', K', H', rfl, hI'⟩ := h
    refine x_icmp_eq 1025 dL_law_287 (fun _ => ?_) (fun y => absurd rfl y)
    exact hgo S' T' U' Λ' C' K' H' tl' hI'
  refine x_swC 4 (fun s_4 => ?_) (fun s_4 => ?_)
  · refine x_tswIn 292 dL_law_33 (by decide) (by decide) rfl ?_
    obtain ⟨x, R, h9, h10⟩ := k_text (X := (L, xs)) (Λ := Λ) (C := C) hI
    refine Ex.more (cb := 3 * (N - (q + 1)) + 3) (sb := 166 * (N - (q + 1)) + 166) (by omega) (by omega) ?_
    refine x_aload_n dL_law_292 rfl ?_
    refine ia_L_32 dL_law_293 h9 rfl (by decide) (Nat.le_of_ble_eq_true rfl) (fun v w' h _ => ?_)
    obtain ⟨rfl, S', tl', rfl, hR⟩ := h
    refine x_aload_n dL_law_296 rfl ?_
    refine iv_L_36 dL_law_297 (h10 S' tl' hR) mw_o (by decide) (Nat.le_of_ble_eq_true rfl) (fun v w' h => ?_)
    obtain ⟨rfl, T', U', Λ', C', K', H', rfl, hI'⟩ := h
    refine x_icmp_eq 1025 dL_law_300 (fun _ => ?_) (fun y => absurd rfl y)
    exact hgo S' T' U' Λ' C' K' H' tl' hI'
  refine x_swC 5 (fun s_5 => ?_) (fun s_5 => ?_)
  · refine x_tswIn 305 dL_law_33 (by decide) (by decide) rfl ?_
    obtain ⟨x, R, h9, h10⟩ := k_force (X := (L, xs)) (Λ := Λ) (C := C) hI (xs (6 * q + 1))
    refine Ex.more (cb := 3 * (N - (q + 1))) (sb := 166 * (N - (q + 1))) (by omega) (by omega) ?_
    refine x_aload_n dL_law_305 rfl ?_
    refine x_aload_nF dL_law_306 rfl ?_
    refine x_iload_n dL_law_307 rfl ?_
    refine x_iconst 1 dL_law_308 ?_
    refine x_iadd dL_law_309 ?_
    refine x_scr (j := 1) dL_law_310 (by omega) hL ?_
    refine iv_L_37 dL_law_311 h9 rfl (by decide) (Nat.le_of_ble_eq_true rfl) (fun v w' h => ?_)
    obtain ⟨rfl, S', tl', rfl, hR⟩ := h
    refine x_aload_n dL_law_314 rfl ?_
    refine x_aload_nF dL_law_315 rfl ?_
    refine x_iload_n dL_law_316 rfl ?_
    refine x_iconst 1 dL_law_317 ?_
    refine x_iadd dL_law_318 ?_
    refine x_scr (j := 1) dL_law_319 (by omega) hL ?_
    refine iv_L_40 dL_law_320 (h10 S' tl' hR) mw_o (by decide) (Nat.le_of_ble_eq_true rfl) (fun v w' h => ?_)
    obtain ⟨rfl, T', U', Λ', C', K', H', rfl, hI'⟩ := h
    refine x_icmp_eq 1025 dL_law_323 (fun _ => ?_) (fun y => absurd rfl y)
    exact hgo S' T' U' Λ' C' K' H' tl' hI'
  refine x_swC 6 (fun s_6 => ?_) (fun s_6 => ?_)
  · refine x_tswIn 328 dL_law_33 (by decide) (by decide) rfl ?_
    obtain ⟨x, R, h9, h10⟩ := k_year (X := (L, xs)) (Λ := Λ) (C := C) hI
    refine Ex.more (cb := 3 * (N - (q + 1))) (sb := 166 * (N - (q + 1))) (by omega) (by omega) ?_
    refine x_aload_n dL_law_328 rfl ?_
    refine iv_L_41 dL_law_329 h9 rfl (by decide) (Nat.le_of_ble_eq_true rfl) (fun v w' h => ?_)
    obtain ⟨rfl, S', tl', rfl, hR⟩ := h
    refine x_aload_n dL_law_332 rfl ?_
    refine iv_L_44 dL_law_333 (h10 S' tl' hR) mw_o (by decide) (Nat.le_of_ble_eq_true rfl) (fun v w' h => ?_)
    obtain ⟨rfl, T', U', Λ', C', K', H', rfl, hI'⟩ := h
    refine x_icmp_eq 1025 dL_law_336 (fun _ => ?_) (fun y => absurd rfl y)
    exact hgo S' T' U' Λ' C' K' H' tl' hI'
  refine x_swC 7 (fun s_7 => ?_) (fun s_7 => ?_)
  · refine x_tswIn 341 dL_law_33 (by decide) (by decide) rfl ?_
    obtain ⟨x, R, h9, h10⟩ := k_right (X := (L, xs)) (Λ := Λ) (C := C) hI (xs (6 * q + 1))
    refine Ex.more (cb := 3 * (N - (q + 1))) (sb := 166 * (N - (q + 1))) (by omega) (by omega) ?_
    refine x_aload_n dL_law_341 rfl ?_
    refine x_aload_nF dL_law_342 rfl ?_
    refine x_iload_n dL_law_343 rfl ?_
    refine x_iconst 1 dL_law_344 ?_
    refine x_iadd dL_law_345 ?_
    refine x_scr (j := 1) dL_law_346 (by omega) hL ?_
    refine iv_L_45 dL_law_347 h9 rfl (by decide) (Nat.le_of_ble_eq_true rfl) (fun v w' h => ?_)
    obtain ⟨rfl, S', tl', rfl, hR⟩ := h
    refine x_aload_n dL_law_350 rfl ?_
    refine x_aload_nF dL_law_351 rfl ?_
    refine x_iload_n dL_law_352 rfl ?_
    refine x_iconst 1 dL_law_353 ?_
    refine x_iadd dL_law_354 ?_
    refine x_scr (j := 1) dL_law_355 (by omega) hL ?_
    refine iv_L_48 dL_law_356 (h10 S' tl' hR) mw_o (by decide) (Nat.le_of_ble_eq_true rfl) (fun v w' h => ?_)
    obtain ⟨rfl, T', U', Λ', C', K', H', rfl, hI'⟩ := h
    refine x_icmp_eq 1025 dL_law_359 (fun _ => ?_) (fun y => absurd rfl y)
    exact hgo S' T' U' Λ' C' K' H' tl' hI'
  refine x_swC 8 (fun s_8 => ?_) (fun s_8 => ?_)
  · refine x_tswIn 364 dL_law_33 (by decide) (by decide) rfl ?_
    obtain ⟨x, R, h9, h10⟩ := k_run (X := (L, xs)) (Λ := Λ) (C := C) hI (xs (6 * q + 1)) (xs (6 * q + 2))
    refine Ex.more (cb := 3 * (N - (q + 1))) (sb := 166 * (N - (q + 1))) (by omega) (by omega) ?_
    refine x_aload_n dL_law_364 rfl ?_
    refine x_aload_nF dL_law_365 rfl ?_
    refine x_iload_n dL_law_366 rfl ?_
    refine x_iconst 1 dL_law_367 ?_
    refine x_iadd dL_law_368 ?_
    refine x_scr (j := 1) dL_law_369 (by omega) hL ?_
    refine x_aload_nF dL_law_370 rfl ?_
    refine x_iload_n dL_law_371 rfl ?_
    refine x_iconst 2 dL_law_372 ?_
    refine x_iadd dL_law_373 ?_
    refine x_scr (j := 2) dL_law_374 (by omega) hL ?_
    refine iv_L_49 dL_law_375 h9 rfl (by decide) (Nat.le_of_ble_eq_true rfl) (fun v w' h => ?_)
    obtain ⟨rfl, S', tl', rfl, hR⟩ := h
    refine x_aload_n dL_law_378 rfl ?_
    refine x_aload_nF dL_law_379 rfl ?_
    refine x_iload_n dL_law_380 rfl ?_
    refine x_iconst 1 dL_law_381 ?_
    refine x_iadd dL_law_382 ?_
    refine x_scr (j := 1) dL_law_383 (by omega) hL ?_
    refine x_aload_nF dL_law_384 rfl ?_
    refine x_iload_n dL_law_385 rfl ?_
    refine x_iconst 2 dL_law_386 ?_
    refine x_iadd dL_law_387 ?_
    refine x_scr (j := 2) dL_law_388 (by omega) hL ?_
    refine iv_L_52 dL_law_389 (h10 S' tl' hR) mw_o (by decide) (Nat.le_of_ble_eq_true rfl) (fun v w' h => ?_)
    obtain ⟨rfl, T', U', Λ', C', K', H', rfl, hI'⟩ := h
    refine x_icmp_eq 1025 dL_law_392 (fun _ => ?_) (fun y => absurd rfl y)
    exact hgo S' T' U' Λ' C' K' H' tl' hI'
  refine x_swC 9 (fun s_9 => ?_) (fun s_9 => ?_)
  · refine x_tswIn 397 dL_law_33 (by decide) (by decide) rfl ?_
    obtain ⟨x, R, h9, h10⟩ := k_society (X := (L, xs)) (Λ := Λ) (C := C) hI (xs (6 * q + 1))
    refine Ex.more (cb := 3 * (N - (q + 1))) (sb := 166 * (N - (q + 1))) (by omega) (by omega) ?_
    refine x_aload_n dL_law_397 rfl ?_
    refine x_aload_nF dL_law_398 rfl ?_
    refine x_iload_n dL_law_399 rfl ?_
    refine x_iconst 1 dL_law_400 ?_
    refine x_iadd dL_law_401 ?_
    refine x_scr (j := 1) dL_law_402 (by omega) hL ?_
    refine iv_L_53 dL_law_403 h9 rfl (by decide) (Nat.le_of_ble_eq_true rfl) (fun v w' h => ?_)
    obtain ⟨rfl, S', tl', rfl, hR⟩ := h
    refine x_aload_n dL_law_406 rfl ?_
    refine x_aload_nF dL_law_407 rfl ?_
    refine x_iload_n dL_law_408 rfl ?_
    refine x_iconst 1 dL_law_409 ?_
    refine x_iadd dL_law_410 ?_
    refine x_scr (j := 1) dL_law_411 (by omega) hL ?_
    refine iv_L_56 dL_law_412 (h10 S' tl' hR) mw_o (by decide) (Nat.le_of_ble_eq_true rfl) (fun v w' h => ?_)
    obtain ⟨rfl, T', U', Λ', C', K', H', rfl, hI'⟩ := h
    refine x_icmp_eq 1025 dL_law_415 (fun _ => ?_) (fun y => absurd rfl y)
    exact hgo S' T' U' Λ' C' K' H' tl' hI'
  refine x_swC 10 (fun s_10 => ?_) (fun s_10 => ?_)
  · refine x_tswIn 420 dL_law_33 (by decide) (by decide) rfl ?_
    obtain ⟨x, R, h9, h10⟩ := k_cheapest (X := (L, xs)) (Λ := Λ) (C := C) hI (xs (6 * q + 1)) (xs (6 * q + 2))
    refine Ex.more (cb := 3 * (N - (q + 1))) (sb := 166 * (N - (q + 1))) (by omega) (by omega) ?_
    refine x_aload_n dL_law_420 rfl ?_
    refine x_aload_nF dL_law_421 rfl ?_
    refine x_iload_n dL_law_422 rfl ?_
    refine x_iconst 1 dL_law_423 ?_
    refine x_iadd dL_law_424 ?_
    refine x_scr (j := 1) dL_law_425 (by omega) hL ?_
    refine x_aload_nF dL_law_426 rfl ?_
    refine x_iload_n dL_law_427 rfl ?_
    refine x_iconst 2 dL_law_428 ?_
    refine x_iadd dL_law_429 ?_
    refine x_scr (j := 2) dL_law_430 (by omega) hL ?_
    refine iv_L_57 dL_law_431 h9 rfl (by decide) (Nat.le_of_ble_eq_true rfl) (fun v w' h => ?_)
    obtain ⟨rfl, S', tl', rfl, hR⟩ := h
    refine x_aload_n dL_law_434 rfl ?_
    refine x_aload_nF dL_law_435 rfl ?_
    refine x_iload_n dL_law_436 rfl ?_
    refine x_iconst 1 dL_law_437 ?_
    refine x_iadd dL_law_438 ?_
    refine x_scr (j := 1) dL_law_439 (by omega) hL ?_
    refine x_aload_nF dL_law_440 rfl ?_
    refine x_iload_n dL_law_441 rfl ?_
    refine x_iconst 2 dL_law_442 ?_
    refine x_iadd dL_law_443 ?_
    refine x_scr (j := 2) dL_law_444 (by omega) hL ?_
    refine iv_L_60 dL_law_445 (h10 S' tl' hR) mw_o (by decide) (Nat.le_of_ble_eq_true rfl) (fun v w' h => ?_)
    obtain ⟨rfl, T', U', Λ', C', K', H', rfl, hI'⟩ := h
    refine x_icmp_eq 1025 dL_law_448 (fun _ => ?_) (fun y => absurd rfl y)
    exact hgo S' T' U' Λ' C' K' H' tl' hI'
  refine x_swC 11 (fun s_11 => ?_) (fun s_11 => ?_)
  · refine x_tswIn 453 dL_law_33 (by decide) (by decide) rfl ?_
    obtain ⟨x, R, h9, h10⟩ := k_most (X := (L, xs)) (Λ := Λ) (C := C) hI (xs (6 * q + 1)) (xs (6 * q + 2))
    refine Ex.more (cb := 3 * (N - (q + 1))) (sb := 166 * (N - (q + 1))) (by omega) (by omega) ?_
    refine x_aload_n dL_law_453 rfl ?_
    refine x_aload_nF dL_law_454 rfl ?_
    refine x_iload_n dL_law_455 rfl ?_
    refine x_iconst 1 dL_law_456 ?_
    refine x_iadd dL_law_457 ?_
    refine x_scr (j := 1) dL_law_458 (by omega) hL ?_
    refine x_aload_nF dL_law_459 rfl ?_
    refine x_iload_n dL_law_460 rfl ?_
    refine x_iconst 2 dL_law_461 ?_
    refine x_iadd dL_law_462 ?_
    refine x_scr (j := 2) dL_law_463 (by omega) hL ?_
    refine iv_L_61 dL_law_464 h9 rfl (by decide) (Nat.le_of_ble_eq_true rfl) (fun v w' h => ?_)
    obtain ⟨rfl, S', tl', rfl, hR⟩ := h
    refine x_aload_n dL_law_467 rfl ?_
    refine x_aload_nF dL_law_468 rfl ?_
    refine x_iload_n dL_law_469 rfl ?_
    refine x_iconst 1 dL_law_470 ?_
    refine x_iadd dL_law_471 ?_
    refine x_scr (j := 1) dL_law_472 (by omega) hL ?_
    refine x_aload_nF dL_law_473 rfl ?_
    refine x_iload_n dL_law_474 rfl ?_
    refine x_iconst 2 dL_law_475 ?_
    refine x_iadd dL_law_476 ?_
    refine x_scr (j := 2) dL_law_477 (by omega) hL ?_
    refine iv_L_64 dL_law_478 (h10 S' tl' hR) mw_o (by decide) (Nat.le_of_ble_eq_true rfl) (fun v w' h => ?_)
    obtain ⟨rfl, T', U', Λ', C', K', H', rfl, hI'⟩ := h
    refine x_icmp_eq 1025 dL_law_481 (fun _ => ?_) (fun y => absurd rfl y)
    exact hgo S' T' U' Λ' C' K' H' tl' hI'
  refine x_swC 12 (fun s_12 => ?_) (fun s_12 => ?_)
  · refine x_tswIn 486 dL_law_33 (by decide) (by decide) rfl ?_
    obtain ⟨x, R, h9, h10⟩ := k_haze (X := (L, xs)) (Λ := Λ) (C := C) hI (xs (6 * q + 1))
    refine Ex.more (cb := 3 * (N - (q + 1))) (sb := 166 * (N - (q + 1))) (by omega) (by omega) ?_
    refine x_aload_n dL_law_486 rfl ?_
    refine x_aload_nF dL_law_487 rfl ?_
    refine x_iload_n dL_law_488 rfl ?_
    refine x_iconst 1 dL_law_489 ?_
    refine x_iadd dL_law_490 ?_
    refine x_scr (j := 1) dL_law_491 (by omega) hL ?_
    refine iv_L_65 dL_law_492 h9 rfl (by decide) (Nat.le_of_ble_eq_true rfl) (fun v w' h => ?_)
    obtain ⟨rfl, S', tl', rfl, hR⟩ := h
    refine x_aload_n dL_law_495 rfl ?_
    refine x_aload_nF dL_law_496 rfl ?_
    refine x_iload_n dL_law_497 rfl ?_
    refine x_iconst 1 dL_law_498 ?_
    refine x_iadd dL_law_499 ?_
    refine x_scr (j := 1) dL_law_500 (by omega) hL ?_
    refine iv_L_68 dL_law_501 (h10 S' tl' hR) mw_o (by decide) (Nat.le_of_ble_eq_true rfl) (fun v w' h => ?_)
    obtain ⟨rfl, T', U', Λ', C', K', H', rfl, hI'⟩ := h
    refine x_icmp_eq 1025 dL_law_504 (fun _ => ?_) (fun y => absurd rfl y)
    exact hgo S' T' U' Λ' C' K' H' tl' hI'
  refine x_swC 13 (fun s_13 => ?_) (fun s_13 => ?_)
  · refine x_tswIn 509 dL_law_33 (by decide) (by decide) rfl ?_
    obtain ⟨x, R, h9, h10⟩ := k_premium (X := (L, xs)) (Λ := Λ) (C := C) hI
    refine Ex.more (cb := 3 * (N - (q + 1))) (sb := 166 * (N - (q + 1))) (by omega) (by omega) ?_
    refine x_aload_n dL_law_509 rfl ?_
    refine iv_L_69 dL_law_510 h9 rfl (by decide) (Nat.le_of_ble_eq_true rfl) (fun v w' h => ?_)
    obtain ⟨rfl, S', tl', rfl, hR⟩ := h
    refine x_aload_n dL_law_513 rfl ?_
    refine iv_L_72 dL_law_514 (h10 S' tl' hR) mw_o (by decide) (Nat.le_of_ble_eq_true rfl) (fun v w' h => ?_)
    obtain ⟨rfl, T', U', Λ', C', K', H', rfl, hI'⟩ := h
    refine x_icmp_eq 1025 dL_law_517 (fun _ => ?_) (fun y => absurd rfl y)
    exact hgo S' T' U' Λ' C' K' H' tl' hI'
  refine x_swC 14 (fun s_14 => ?_) (fun s_14 => ?_)
  · refine x_tswIn 522 dL_law_33 (by decide) (by decide) rfl ?_
    obtain ⟨x, R, h9, h10⟩ := k_best (X := (L, xs)) (Λ := Λ) (C := C) hI (xs (6 * q + 1)) (xs (6 * q + 2))
    refine Ex.more (cb := 3 * (N - (q + 1))) (sb := 166 * (N - (q + 1))) (by omega) (by omega) ?_
    refine x_aload_n dL_law_522 rfl ?_
    refine x_aload_nF dL_law_523 rfl ?_
    refine x_iload_n dL_law_524 rfl ?_
    refine x_iconst 1 dL_law_525 ?_
    refine x_iadd dL_law_526 ?_
    refine x_scr (j := 1) dL_law_527 (by omega) hL ?_
    refine x_aload_nF dL_law_528 rfl ?_
    refine x_iload_n dL_law_529 rfl ?_
    refine x_iconst 2 dL_law_530 ?_
    refine x_iadd dL_law_531 ?_
    refine x_scr (j := 2) dL_law_532 (by omega) hL ?_
    refine iv_L_73 dL_law_533 h9 rfl (by decide) (Nat.le_of_ble_eq_true rfl) (fun v w' h => ?_)
    obtain ⟨rfl, S', tl', rfl, hR⟩ := h
    refine x_aload_n dL_law_536 rfl ?_
    refine x_aload_nF dL_law_537 rfl ?_
    refine x_iload_n dL_law_538 rfl ?_
    refine x_iconst 1 dL_law_539 ?_
    refine x_iadd dL_law_540 ?_
    refine x_scr (j := 1) dL_law_541 (by omega) hL ?_
    refine x_aload_nF dL_law_542 rfl ?_
    refine x_iload_n dL_law_543 rfl ?_
    refine x_iconst 2 dL_law_544 ?_
    refine x_iadd dL_law_545 ?_
    refine x_scr (j := 2) dL_law_546 (by omega) hL ?_
    refine iv_L_76 dL_law_547 (h10 S' tl' hR) mw_o (by decide) (Nat.le_of_ble_eq_true rfl) (fun v w' h => ?_)
    obtain ⟨rfl, T', U', Λ', C', K', H', rfl, hI'⟩ := h
    refine x_icmp_eq 1025 dL_law_550 (fun _ => ?_) (fun y => absurd rfl y)
    exact hgo S' T' U' Λ' C' K' H' tl' hI'
  refine x_swC 15 (fun s_15 => ?_) (fun s_15 => ?_)
  · refine x_tswIn 555 dL_law_33 (by decide) (by decide) rfl ?_
    obtain ⟨x, R, h9, h10⟩ := k_agree (X := (L, xs)) (Λ := Λ) (C := C) hI (xs (6 * q + 1)) (xs (6 * q + 2))
    refine Ex.more (cb := 3 * (N - (q + 1))) (sb := 166 * (N - (q + 1))) (by omega) (by omega) ?_
    refine x_aload_n dL_law_555 rfl ?_
    refine x_aload_nF dL_law_556 rfl ?_
    refine x_iload_n dL_law_557 rfl ?_
    refine x_iconst 1 dL_law_558 ?_
    refine x_iadd dL_law_559 ?_
    refine x_scr (j := 1) dL_law_560 (by omega) hL ?_
    refine x_aload_nF dL_law_561 rfl ?_
    refine x_iload_n dL_law_562 rfl ?_
    refine x_iconst 2 dL_law_563 ?_
    refine x_iadd dL_law_564 ?_
    refine x_scr (j := 2) dL_law_565 (by omega) hL ?_
    refine iv_L_77 dL_law_566 h9 rfl (by decide) (Nat.le_of_ble_eq_true rfl) (fun v w' h => ?_)
    obtain ⟨rfl, S', tl', rfl, hR⟩ := h
    refine x_aload_n dL_law_569 rfl ?_
    refine x_aload_nF dL_law_570 rfl ?_
    refine x_iload_n dL_law_571 rfl ?_
    refine x_iconst 1 dL_law_572 ?_
    refine x_iadd dL_law_573 ?_
    refine x_scr (j := 1) dL_law_574 (by omega) hL ?_
    refine x_aload_nF dL_law_575 rfl ?_
    refine x_iload_n dL_law_576 rfl ?_
    refine x_iconst 2 dL_law_577 ?_
    refine x_iadd dL_law_578 ?_
    refine x_scr (j := 2) dL_law_579 (by omega) hL ?_
    refine iv_L_80 dL_law_580 (h10 S' tl' hR) mw_o (by decide) (Nat.le_of_ble_eq_true rfl) (fun v w' h => ?_)
    obtain ⟨rfl, T', U', Λ', C', K', H', rfl, hI'⟩ := h
    refine x_icmp_eq 1025 dL_law_583 (fun _ => ?_) (fun y => absurd rfl y)
    exact hgo S' T' U' Λ' C' K' H' tl' hI'
  refine x_swC 16 (fun s_16 => ?_) (fun s_16 => ?_)
  · refine x_tswIn 588 dL_law_33 (by decide) (by decide) rfl ?_
    obtain ⟨x, R, h9, h10⟩ := k_tells (X := (L, xs)) (Λ := Λ) (C := C) hI (xs (6 * q + 1)) (xs (6 * q + 2)) (xs (6 * q + 3))
    refine Ex.more (cb := 3 * (N - (q + 1))) (sb := 166 * (N - (q + 1))) (by omega) (by omega) ?_
    refine x_aload_n dL_law_588 rfl ?_
    refine x_aload_nF dL_law_589 rfl ?_
    refine x_iload_n dL_law_590 rfl ?_
    refine x_iconst 1 dL_law_591 ?_
    refine x_iadd dL_law_592 ?_
    refine x_scr (j := 1) dL_law_593 (by omega) hL ?_
    refine x_aload_nF dL_law_594 rfl ?_
    refine x_iload_n dL_law_595 rfl ?_
    refine x_iconst 2 dL_law_596 ?_
    refine x_iadd dL_law_597 ?_
    refine x_scr (j := 2) dL_law_598 (by omega) hL ?_
    refine x_aload_nF dL_law_599 rfl ?_
    refine x_iload_n dL_law_600 rfl ?_
    refine x_iconst 3 dL_law_601 ?_
    refine x_iadd dL_law_602 ?_
    refine x_scr (j := 3) dL_law_603 (by omega) hL ?_
    refine iv_L_81 dL_law_604 h9 rfl (by decide) (Nat.le_of_ble_eq_true rfl) (fun v w' h => ?_)
    obtain ⟨rfl, S', tl', rfl, hR⟩ := h
    refine x_aload_n dL_law_607 rfl ?_
    refine x_aload_nF dL_law_608 rfl ?_
    refine x_iload_n dL_law_609 rfl ?_
    refine x_iconst 1 dL_law_610 ?_
    refine x_iadd dL_law_611 ?_
    refine x_scr (j := 1) dL_law_612 (by omega) hL ?_
    refine x_aload_nF dL_law_613 rfl ?_
    refine x_iload_n dL_law_614 rfl ?_
    refine x_iconst 2 dL_law_615 ?_
    refine x_iadd dL_law_616 ?_
    refine x_scr (j := 2) dL_law_617 (by omega) hL ?_
    refine x_aload_nF dL_law_618 rfl ?_
    refine x_iload_n dL_law_619 rfl ?_
    refine x_iconst 3 dL_law_620 ?_
    refine x_iadd dL_law_621 ?_
    refine x_scr (j := 3) dL_law_622 (by omega) hL ?_
    refine iv_L_84 dL_law_623 (h10 S' tl' hR) mw_o (by decide) (Nat.le_of_ble_eq_true rfl) (fun v w' h => ?_)
    obtain ⟨rfl, T', U', Λ', C', K', H', rfl, hI'⟩ := h
    refine x_icmp_eq 1025 dL_law_626 (fun _ => ?_) (fun y => absurd rfl y)
    exact hgo S' T' U' Λ' C' K' H' tl' hI'
  refine x_swC 17 (fun s_17 => ?_) (fun s_17 => ?_)
  · refine x_tswIn 631 dL_law_33 (by decide) (by decide) rfl ?_
    obtain ⟨x, R, h9, h10⟩ := k_film (X := (L, xs)) (Λ := Λ) (C := C) hI (xs (6 * q + 1)) (xs (6 * q + 2))
    refine Ex.more (cb := 3 * (N - (q + 1))) (sb := 166 * (N - (q + 1))) (by omega) (by omega) ?_
    refine x_aload_n dL_law_631 rfl ?_
    refine x_aload_nF dL_law_632 rfl ?_
    refine x_iload_n dL_law_633 rfl ?_
    refine x_iconst 1 dL_law_634 ?_
    refine x_iadd dL_law_635 ?_
    refine x_scr (j := 1) dL_law_636 (by omega) hL ?_
    refine x_aload_nF dL_law_637 rfl ?_
    refine x_iload_n dL_law_638 rfl ?_
    refine x_iconst 2 dL_law_639 ?_
    refine x_iadd dL_law_640 ?_
    refine x_scr (j := 2) dL_law_641 (by omega) hL ?_
    refine iv_L_85 dL_law_642 h9 rfl (by decide) (Nat.le_of_ble_eq_true rfl) (fun v w' h => ?_)
    obtain ⟨rfl, S', tl', rfl, hR⟩ := h
    refine x_aload_n dL_law_645 rfl ?_
    refine x_aload_nF dL_law_646 rfl ?_
    refine x_iload_n dL_law_647 rfl ?_
    refine x_iconst 1 dL_law_648 ?_
    refine x_iadd dL_law_649 ?_
    refine x_scr (j := 1) dL_law_650 (by omega) hL ?_
    refine x_aload_nF dL_law_651 rfl ?_
    refine x_iload_n dL_law_652 rfl ?_
    refine x_iconst 2 dL_law_653 ?_
    refine x_iadd dL_law_654 ?_
    refine x_scr (j := 2) dL_law_655 (by omega) hL ?_
    refine iv_L_88 dL_law_656 (h10 S' tl' hR) mw_o (by decide) (Nat.le_of_ble_eq_true rfl) (fun v w' h => ?_)
    obtain ⟨rfl, T', U', Λ', C', K', H', rfl, hI'⟩ := h
    refine x_icmp_eq 1025 dL_law_659 (fun _ => ?_) (fun y => absurd rfl y)
    exact hgo S' T' U' Λ' C' K' H' tl' hI'
  refine x_swC 18 (fun s_18 => ?_) (fun s_18 => ?_)
  · refine x_tswIn 664 dL_law_33 (by decide) (by decide) rfl ?_
    obtain ⟨x, R, h9, h10⟩ := k_drawn (X := (L, xs)) (Λ := Λ) (C := C) hI (xs (6 * q + 1))
    refine Ex.more (cb := 3 * (N - (q + 1))) (sb := 166 * (N - (q + 1))) (by omega) (by omega) ?_
    refine x_aload_n dL_law_664 rfl ?_
    refine x_aload_nF dL_law_665 rfl ?_
    refine x_iload_n dL_law_666 rfl ?_
    refine x_iconst 1 dL_law_667 ?_
    refine x_iadd dL_law_668 ?_
    refine x_scr (j := 1) dL_law_669 (by omega) hL ?_
    refine iv_L_89 dL_law_670 h9 rfl (by decide) (Nat.le_of_ble_eq_true rfl) (fun v w' h => ?_)
    obtain ⟨rfl, S', tl', rfl, hR⟩ := h
    refine x_aload_n dL_law_673 rfl ?_
    refine x_aload_nF dL_law_674 rfl ?_
    refine x_iload_n dL_law_675 rfl ?_
    refine x_iconst 1 dL_law_676 ?_
    refine x_iadd dL_law_677 ?_
    refine x_scr (j := 1) dL_law_678 (by omega) hL ?_
    refine iv_L_92 dL_law_679 (h10 S' tl' hR) mw_o (by decide) (Nat.le_of_ble_eq_true rfl) (fun v w' h => ?_)
    obtain ⟨rfl, T', U', Λ', C', K', H', rfl, hI'⟩ := h
    refine x_icmp_eq 1025 dL_law_682 (fun _ => ?_) (fun y => absurd rfl y)
    exact hgo S' T' U' Λ' C' K' H' tl' hI'
  refine x_swC 19 (fun s_19 => ?_) (fun s_19 => ?_)
  · refine x_tswIn 687 dL_law_33 (by decide) (by decide) rfl ?_
    obtain ⟨x, R, h9, h10⟩ := k_chance (X := (L, xs)) (Λ := Λ) (C := C) hI (xs (6 * q + 1)) (xs (6 * q + 2)) (xs (6 * q + 3)) (xs (6 * q + 4))
    refine Ex.more (cb := 3 * (N - (q + 1))) (sb := 166 * (N - (q + 1))) (by omega) (by omega) ?_
    refine x_aload_n dL_law_687 rfl ?_
    refine x_aload_nF dL_law_688 rfl ?_
    refine x_iload_n dL_law_689 rfl ?_
    refine x_iconst 1 dL_law_690 ?_
    refine x_iadd dL_law_691 ?_
    refine x_scr (j := 1) dL_law_692 (by omega) hL ?_
    refine x_aload_nF dL_law_693 rfl ?_
    refine x_iload_n dL_law_694 rfl ?_
    refine x_iconst 2 dL_law_695 ?_
    refine x_iadd dL_law_696 ?_
    refine x_scr (j := 2) dL_law_697 (by omega) hL ?_
    refine x_aload_nF dL_law_698 rfl ?_
    refine x_iload_n dL_law_699 rfl ?_
    refine x_iconst 3 dL_law_700 ?_
    refine x_iadd dL_law_701 ?_
    refine x_scr (j := 3) dL_law_702 (by omega) hL ?_
    refine x_aload_nF dL_law_703 rfl ?_
    refine x_iload_n dL_law_704 rfl ?_
    refine x_iconst 4 dL_law_705 ?_
    refine x_iadd dL_law_706 ?_
    refine x_scr (j := 4) dL_law_707 (by omega) hL ?_
    refine iv_L_93 dL_law_708 h9 rfl (by decide) (Nat.le_of_ble_eq_true rfl) (fun v w' h => ?_)
    obtain ⟨rfl, S', tl', rfl, hR⟩ := h
    refine x_aload_n dL_law_711 rfl ?_
    refine x_aload_nF dL_law_712 rfl ?_
    refine x_iload_n dL_law_713 rfl ?_
    refine x_iconst 1 dL_law_714 ?_
    refine x_iadd dL_law_715 ?_
    refine x_scr (j := 1) dL_law_716 (by omega) hL ?_
    refine x_aload_nF dL_law_717 rfl ?_
    refine x_iload_n dL_law_718 rfl ?_
    refine x_iconst 2 dL_law_719 ?_
    refine x_iadd dL_law_720 ?_
    refine x_scr (j := 2) dL_law_721 (by omega) hL ?_
    refine x_aload_nF dL_law_722 rfl ?_
    refine x_iload_n dL_law_723 rfl ?_
    refine x_iconst 3 dL_law_724 ?_
    refine x_iadd dL_law_725 ?_
    refine x_scr (j := 3) dL_law_726 (by omega) hL ?_
    refine x_aload_nF dL_law_727 rfl ?_
    refine x_iload_n dL_law_728 rfl ?_
    refine x_iconst 4 dL_law_729 ?_
    refine x_iadd dL_law_730 ?_
    refine x_scr (j := 4) dL_law_731 (by omega) hL ?_
    refine iv_L_97 dL_law_732 (h10 S' tl' hR) mw_o (by decide) (Nat.le_of_ble_eq_true rfl) (fun v w' h => ?_)
    obtain ⟨rfl, T', U', Λ', C', K', H', rfl, hI'⟩ := h
    refine x_lcmp dL_law_735 ?_
    rw [lg_same]
    refine x_if_eq 1025 dL_law_736 (fun _ => ?_) (fun y => absurd rfl y)
    exact hgo S' T' U' Λ' C' K' H' tl' hI'
  refine x_swC 20 (fun s_20 => ?_) (fun s_20 => ?_)
  · refine x_tswIn 741 dL_law_33 (by decide) (by decide) rfl ?_
    obtain ⟨x, R, h9, h10⟩ := k_image (X := (L, xs)) (Λ := Λ) (C := C) hI
    refine Ex.more (cb := 3 * (N - (q + 1))) (sb := 166 * (N - (q + 1))) (by omega) (by omega) ?_
    refine x_aload_n dL_law_741 rfl ?_
    refine iv_L_98 dL_law_742 h9 rfl (by decide) (Nat.le_of_ble_eq_true rfl) (fun v w' h => ?_)
    obtain ⟨rfl, S', tl', rfl, hR⟩ := h
    refine x_aload_n dL_law_745 rfl ?_
    refine iv_L_101 dL_law_746 (h10 S' tl' hR) mw_o (by decide) (Nat.le_of_ble_eq_true rfl) (fun v w' h => ?_)
    obtain ⟨rfl, T', U', Λ', C', K', H', rfl, hI'⟩ := h
    refine x_icmp_eq 1025 dL_law_749 (fun _ => ?_) (fun y => absurd rfl y)
    exact hgo S' T' U' Λ' C' K' H' tl' hI'
  refine x_swC 21 (fun s_21 => ?_) (fun s_21 => ?_)
  · refine x_tswIn 754 dL_law_33 (by decide) (by decide) rfl ?_
    obtain ⟨x, R, h9, h10⟩ := k_back (X := (L, xs)) (Λ := Λ) (C := C) hI
    refine Ex.more (cb := 3 * (N - (q + 1))) (sb := 166 * (N - (q + 1))) (by omega) (by omega) ?_
    refine x_aload_n dL_law_754 rfl ?_
    refine iv_L_102 dL_law_755 h9 rfl (by decide) (Nat.le_of_ble_eq_true rfl) (fun v w' h => ?_)
    obtain ⟨rfl, S', tl', rfl, hR⟩ := h
    refine x_aload_n dL_law_758 rfl ?_
    refine iv_L_105 dL_law_759 (h10 S' tl' hR) mw_o (by decide) (Nat.le_of_ble_eq_true rfl) (fun v w' h => ?_)
    obtain ⟨rfl, T', U', Λ', C', K', H', rfl, hI'⟩ := h
    refine x_icmp_eq 1025 dL_law_762 (fun _ => ?_) (fun y => absurd rfl y)
    exact hgo S' T' U' Λ' C' K' H' tl' hI'
  refine x_swC 22 (fun s_22 => ?_) (fun s_22 => ?_)
  · refine x_tswIn 767 dL_law_33 (by decide) (by decide) rfl ?_
    obtain ⟨x, R, h9, h10⟩ := k_count (X := (L, xs)) (Λ := Λ) (C := C) hI (xs (6 * q + 1))
    refine Ex.more (cb := 3 * (N - (q + 1))) (sb := 166 * (N - (q + 1))) (by omega) (by omega) ?_
    refine x_aload_n dL_law_767 rfl ?_
    refine x_aload_nF dL_law_768 rfl ?_
    refine x_iload_n dL_law_769 rfl ?_
    refine x_iconst 1 dL_law_770 ?_
    refine x_iadd dL_law_771 ?_
    refine x_scr (j := 1) dL_law_772 (by omega) hL ?_
    refine iv_L_106 dL_law_773 h9 rfl (by decide) (Nat.le_of_ble_eq_true rfl) (fun v w' h => ?_)
    obtain ⟨rfl, S', tl', rfl, hR⟩ := h
    refine x_aload_n dL_law_776 rfl ?_
    refine x_aload_nF dL_law_777 rfl ?_
    refine x_iload_n dL_law_778 rfl ?_
    refine x_iconst 1 dL_law_779 ?_
    refine x_iadd dL_law_780 ?_
    refine x_scr (j := 1) dL_law_781 (by omega) hL ?_
    refine iv_L_109 dL_law_782 (h10 S' tl' hR) mw_o (by decide) (Nat.le_of_ble_eq_true rfl) (fun v w' h => ?_)
    obtain ⟨rfl, T', U', Λ', C', K', H', rfl, hI'⟩ := h
    refine x_icmp_eq 1025 dL_law_785 (fun _ => ?_) (fun y => absurd rfl y)
    exact hgo S' T' U' Λ' C' K' H' tl' hI'
  refine x_swC 23 (fun s_23 => ?_) (fun s_23 => ?_)
  · refine x_tswIn 790 dL_law_33 (by decide) (by decide) rfl ?_
    obtain ⟨x, R, h9, h10⟩ := k_sheet (X := (L, xs)) (Λ := Λ) (C := C) hI (xs (6 * q + 1)) (xs (6 * q + 2)) (xs (6 * q + 3))
    refine Ex.more (cb := 3 * (N - (q + 1))) (sb := 166 * (N - (q + 1))) (by omega) (by omega) ?_
    refine x_aload_n dL_law_790 rfl ?_
    refine x_aload_nF dL_law_791 rfl ?_
    refine x_iload_n dL_law_792 rfl ?_
    refine x_iconst 1 dL_law_793 ?_
    refine x_iadd dL_law_794 ?_
    refine x_scr (j := 1) dL_law_795 (by omega) hL ?_
    refine x_aload_nF dL_law_796 rfl ?_
    refine x_iload_n dL_law_797 rfl ?_
    refine x_iconst 2 dL_law_798 ?_
    refine x_iadd dL_law_799 ?_
    refine x_scr (j := 2) dL_law_800 (by omega) hL ?_
    refine x_aload_nF dL_law_801 rfl ?_
    refine x_iload_n dL_law_802 rfl ?_
    refine x_iconst 3 dL_law_803 ?_
    refine x_iadd dL_law_804 ?_
    refine x_scr (j := 3) dL_law_805 (by omega) hL ?_
    refine iv_L_110 dL_law_806 h9 rfl (by decide) (Nat.le_of_ble_eq_true rfl) (fun v w' h => ?_)
    obtain ⟨rfl, S', tl', rfl, hR⟩ := h
    refine x_aload_n dL_law_809 rfl ?_
    refine x_aload_nF dL_law_810 rfl ?_
    refine x_iload_n dL_law_811 rfl ?_
    refine x_iconst 1 dL_law_812 ?_
    refine x_iadd dL_law_813 ?_
    refine x_scr (j := 1) dL_law_814 (by omega) hL ?_
    refine x_aload_nF dL_law_815 rfl ?_
    refine x_iload_n dL_law_816 rfl ?_
    refine x_iconst 2 dL_law_817 ?_
    refine x_iadd dL_law_818 ?_
    refine x_scr (j := 2) dL_law_819 (by omega) hL ?_
    refine x_aload_nF dL_law_820 rfl ?_
    refine x_iload_n dL_law_821 rfl ?_
    refine x_iconst 3 dL_law_822 ?_
    refine x_iadd dL_law_823 ?_
    refine x_scr (j := 3) dL_law_824 (by omega) hL ?_
    refine iv_L_113 dL_law_825 (h10 S' tl' hR) mw_o (by decide) (Nat.le_of_ble_eq_true rfl) (fun v w' h => ?_)
    obtain ⟨rfl, T', U', Λ', C', K', H', rfl, hI'⟩ := h
    refine x_icmp_eq 1025 dL_law_828 (fun _ => ?_) (fun y => absurd rfl y)
    exact hgo S' T' U' Λ' C' K' H' tl' hI'
  refine x_swC 24 (fun s_24 => ?_) (fun s_24 => ?_)
  · refine x_tswIn 833 dL_law_33 (by decide) (by decide) rfl ?_
    obtain ⟨x, R, h9, h10⟩ := k_cell (X := (L, xs)) (Λ := Λ) (C := C) hI (xs (6 * q + 1)) (xs (6 * q + 2)) (xs (6 * q + 3))
    refine Ex.more (cb := 3 * (N - (q + 1))) (sb := 166 * (N - (q + 1))) (by omega) (by omega) ?_
    refine x_aload_n dL_law_833 rfl ?_
    refine x_aload_nF dL_law_834 rfl ?_
    refine x_iload_n dL_law_835 rfl ?_
    refine x_iconst 1 dL_law_836 ?_
    refine x_iadd dL_law_837 ?_
    refine x_scr (j := 1) dL_law_838 (by omega) hL ?_
    refine x_aload_nF dL_law_839 rfl ?_
    refine x_iload_n dL_law_840 rfl ?_
    refine x_iconst 2 dL_law_841 ?_
    refine x_iadd dL_law_842 ?_
    refine x_scr (j := 2) dL_law_843 (by omega) hL ?_
    refine x_aload_nF dL_law_844 rfl ?_
    refine x_iload_n dL_law_845 rfl ?_
    refine x_iconst 3 dL_law_846 ?_
    refine x_iadd dL_law_847 ?_
    refine x_scr (j := 3) dL_law_848 (by omega) hL ?_
    refine iv_L_114 dL_law_849 h9 rfl (by decide) (Nat.le_of_ble_eq_true rfl) (fun v w' h => ?_)
    obtain ⟨rfl, S', tl', rfl, hR⟩ := h
    refine x_aload_n dL_law_852 rfl ?_
    refine x_aload_nF dL_law_853 rfl ?_
    refine x_iload_n dL_law_854 rfl ?_
    refine x_iconst 1 dL_law_855 ?_
    refine x_iadd dL_law_856 ?_
    refine x_scr (j := 1) dL_law_857 (by omega) hL ?_
    refine x_aload_nF dL_law_858 rfl ?_
    refine x_iload_n dL_law_859 rfl ?_
    refine x_iconst 2 dL_law_860 ?_
    refine x_iadd dL_law_861 ?_
    refine x_scr (j := 2) dL_law_862 (by omega) hL ?_
    refine x_aload_nF dL_law_863 rfl ?_
    refine x_iload_n dL_law_864 rfl ?_
    refine x_iconst 3 dL_law_865 ?_
    refine x_iadd dL_law_866 ?_
    refine x_scr (j := 3) dL_law_867 (by omega) hL ?_
    refine iv_L_117 dL_law_868 (h10 S' tl' hR) mw_o (by decide) (Nat.le_of_ble_eq_true rfl) (fun v w' h => ?_)
    obtain ⟨rfl, T', U', Λ', C', K', H', rfl, hI'⟩ := h
    refine x_icmp_eq 1025 dL_law_871 (fun _ => ?_) (fun y => absurd rfl y)
    exact hgo S' T' U' Λ' C' K' H' tl' hI'
  refine x_swC 25 (fun s_25 => ?_) (fun s_25 => ?_)
  · refine x_tswIn 876 dL_law_33 (by decide) (by decide) rfl ?_
    obtain ⟨x, R, h9, h10⟩ := k_copy (X := (L, xs)) (Λ := Λ) (C := C) hI (xs (6 * q + 1)) (xs (6 * q + 2)) (xs (6 * q + 3)) (xs (6 * q + 4)) (xs (6 * q + 5))
    refine Ex.more (cb := 3 * (N - (q + 1))) (sb := 166 * (N - (q + 1))) (by omega) (by omega) ?_
    refine x_aload_n dL_law_876 rfl ?_
    refine x_aload_nF dL_law_877 rfl ?_
    refine x_iload_n dL_law_878 rfl ?_
    refine x_iconst 1 dL_law_879 ?_
    refine x_iadd dL_law_880 ?_
    refine x_scr (j := 1) dL_law_881 (by omega) hL ?_
    refine x_aload_nF dL_law_882 rfl ?_
    refine x_iload_n dL_law_883 rfl ?_
    refine x_iconst 2 dL_law_884 ?_
    refine x_iadd dL_law_885 ?_
    refine x_scr (j := 2) dL_law_886 (by omega) hL ?_
    refine x_aload_nF dL_law_887 rfl ?_
    refine x_iload_n dL_law_888 rfl ?_
    refine x_iconst 3 dL_law_889 ?_
    refine x_iadd dL_law_890 ?_
    refine x_scr (j := 3) dL_law_891 (by omega) hL ?_
    refine x_aload_nF dL_law_892 rfl ?_
    refine x_iload_n dL_law_893 rfl ?_
    refine x_iconst 4 dL_law_894 ?_
    refine x_iadd dL_law_895 ?_
    refine x_scr (j := 4) dL_law_896 (by omega) hL ?_
    refine x_aload_nF dL_law_897 rfl ?_
    refine x_iload_n dL_law_898 rfl ?_
    refine x_iconst 5 dL_law_899 ?_
    refine x_iadd dL_law_900 ?_
    refine x_scr (j := 5) dL_law_901 (by omega) hL ?_
    refine iv_L_118 dL_law_902 h9 rfl (by decide) (Nat.le_of_ble_eq_true rfl) (fun v w' h => ?_)
    obtain ⟨rfl, S', tl', rfl, hR⟩ := h
    refine x_aload_n dL_law_905 rfl ?_
    refine x_aload_nF dL_law_906 rfl ?_
    refine x_iload_n dL_law_907 rfl ?_
    refine x_iconst 1 dL_law_908 ?_
    refine x_iadd dL_law_909 ?_
    refine x_scr (j := 1) dL_law_910 (by omega) hL ?_
    refine x_aload_nF dL_law_911 rfl ?_
    refine x_iload_n dL_law_912 rfl ?_
    refine x_iconst 2 dL_law_913 ?_
    refine x_iadd dL_law_914 ?_
    refine x_scr (j := 2) dL_law_915 (by omega) hL ?_
    refine x_aload_nF dL_law_916 rfl ?_
    refine x_iload_n dL_law_917 rfl ?_
    refine x_iconst 3 dL_law_918 ?_
    refine x_iadd dL_law_919 ?_
    refine x_scr (j := 3) dL_law_920 (by omega) hL ?_
    refine x_aload_nF dL_law_921 rfl ?_
    refine x_iload_n dL_law_922 rfl ?_
    refine x_iconst 4 dL_law_923 ?_
    refine x_iadd dL_law_924 ?_
    refine x_scr (j := 4) dL_law_925 (by omega) hL ?_
    refine x_aload_nF dL_law_926 rfl ?_
    refine x_iload_n dL_law_927 rfl ?_
    refine x_iconst 5 dL_law_928 ?_
    refine x_iadd dL_law_929 ?_
    refine x_scr (j := 5) dL_law_930 (by omega) hL ?_
    refine iv_L_122 dL_law_931 (h10 S' tl' hR) mw_o (by decide) (Nat.le_of_ble_eq_true rfl) (fun v w' h => ?_)
    obtain ⟨rfl, T', U', Λ', C', K', H', rfl, hI'⟩ := h
    refine x_icmp_eq 1025 dL_law_934 (fun _ => ?_) (fun y => absurd rfl y)
    exact hgo S' T' U' Λ' C' K' H' tl' hI'
  refine x_swC 26 (fun s_26 => ?_) (fun s_26 => ?_)
  · refine x_tswIn 939 dL_law_33 (by decide) (by decide) rfl ?_
    obtain ⟨x, R, h9, h10⟩ := k_people (X := (L, xs)) (Λ := Λ) (C := C) hI (xs (6 * q + 1)) (xs (6 * q + 2)) (xs (6 * q + 3)) (xs (6 * q + 4))
    refine Ex.more (cb := 3 * (N - (q + 1))) (sb := 166 * (N - (q + 1))) (by omega) (by omega) ?_
    refine x_aload_n dL_law_939 rfl ?_
    refine x_aload_nF dL_law_940 rfl ?_
    refine x_iload_n dL_law_941 rfl ?_
    refine x_iconst 1 dL_law_942 ?_
    refine x_iadd dL_law_943 ?_
    refine x_scr (j := 1) dL_law_944 (by omega) hL ?_
    refine x_aload_nF dL_law_945 rfl ?_
    refine x_iload_n dL_law_946 rfl ?_
    refine x_iconst 2 dL_law_947 ?_
    refine x_iadd dL_law_948 ?_
    refine x_scr (j := 2) dL_law_949 (by omega) hL ?_
    refine x_aload_nF dL_law_950 rfl ?_
    refine x_iload_n dL_law_951 rfl ?_
    refine x_iconst 3 dL_law_952 ?_
    refine x_iadd dL_law_953 ?_
    refine x_scr (j := 3) dL_law_954 (by omega) hL ?_
    refine x_aload_nF dL_law_955 rfl ?_
    refine x_iload_n dL_law_956 rfl ?_
    refine x_iconst 4 dL_law_957 ?_
    refine x_iadd dL_law_958 ?_
    refine x_scr (j := 4) dL_law_959 (by omega) hL ?_
    refine iv_L_123 dL_law_960 h9 rfl (by decide) (Nat.le_of_ble_eq_true rfl) (fun v w' h => ?_)
    obtain ⟨rfl, S', tl', rfl, hR⟩ := h
    refine x_aload_n dL_law_963 rfl ?_
    refine x_aload_nF dL_law_964 rfl ?_
    refine x_iload_n dL_law_965 rfl ?_
    refine x_iconst 1 dL_law_966 ?_
    refine x_iadd dL_law_967 ?_
    refine x_scr (j := 1) dL_law_968 (by omega) hL ?_
    refine x_aload_nF dL_law_969 rfl ?_
    refine x_iload_n dL_law_970 rfl ?_
    refine x_iconst 2 dL_law_971 ?_
    refine x_iadd dL_law_972 ?_
    refine x_scr (j := 2) dL_law_973 (by omega) hL ?_
    refine x_aload_nF dL_law_974 rfl ?_
    refine x_iload_n dL_law_975 rfl ?_
    refine x_iconst 3 dL_law_976 ?_
    refine x_iadd dL_law_977 ?_
    refine x_scr (j := 3) dL_law_978 (by omega) hL ?_
    refine x_aload_nF dL_law_979 rfl ?_
    refine x_iload_n dL_law_980 rfl ?_
    refine x_iconst 4 dL_law_981 ?_
    refine x_iadd dL_law_982 ?_
    refine x_scr (j := 4) dL_law_983 (by omega) hL ?_
    refine iv_L_127 dL_law_984 (h10 S' tl' hR) mw_o (by decide) (Nat.le_of_ble_eq_true rfl) (fun v w' h => ?_)
    obtain ⟨rfl, T', U', Λ', C', K', H', rfl, hI'⟩ := h
    refine x_icmp_eq 1025 dL_law_987 (fun _ => ?_) (fun y => absurd rfl y)
    exact hgo S' T' U' Λ' C' K' H' tl' hI'
  refine x_swC 27 (fun s_27 => ?_) (fun s_27 => ?_)
  · refine x_tswIn 992 dL_law_33 (by decide) (by decide) rfl ?_
    obtain ⟨x, R, h9, h10⟩ := k_taken (X := (L, xs)) (Λ := Λ) (C := C) hI (xs (6 * q + 1)) (xs (6 * q + 2))
    refine Ex.more (cb := 3 * (N - (q + 1))) (sb := 166 * (N - (q + 1))) (by omega) (by omega) ?_
    refine x_aload_n dL_law_992 rfl ?_
    refine x_aload_nF dL_law_993 rfl ?_
    refine x_iload_n dL_law_994 rfl ?_
    refine x_iconst 1 dL_law_995 ?_
    refine x_iadd dL_law_996 ?_
    refine x_scr (j := 1) dL_law_997 (by omega) hL ?_
    refine x_aload_nF dL_law_998 rfl ?_
    refine x_iload_n dL_law_999 rfl ?_
    refine x_iconst 2 dL_law_1000 ?_
    refine x_iadd dL_law_1001 ?_
    refine x_scr (j := 2) dL_law_1002 (by omega) hL ?_
    refine iv_L_128 dL_law_1003 h9 rfl (by decide) (Nat.le_of_ble_eq_true rfl) (fun v w' h => ?_)
    obtain ⟨rfl, S', tl', rfl, hR⟩ := h
    refine x_aload_n dL_law_1006 rfl ?_
    refine x_aload_nF dL_law_1007 rfl ?_
    refine x_iload_n dL_law_1008 rfl ?_
    refine x_iconst 1 dL_law_1009 ?_
    refine x_iadd dL_law_1010 ?_
    refine x_scr (j := 1) dL_law_1011 (by omega) hL ?_
    refine x_aload_nF dL_law_1012 rfl ?_
    refine x_iload_n dL_law_1013 rfl ?_
    refine x_iconst 2 dL_law_1014 ?_
    refine x_iadd dL_law_1015 ?_
    refine x_scr (j := 2) dL_law_1016 (by omega) hL ?_
    refine iv_L_131 dL_law_1017 (h10 S' tl' hR) mw_o (by decide) (Nat.le_of_ble_eq_true rfl) (fun v w' h => ?_)
    obtain ⟨rfl, T', U', Λ', C', K', H', rfl, hI'⟩ := h
    refine x_icmp_eq 1025 dL_law_1020 (fun _ => ?_) (fun y => absurd rfl y)
    exact hgo S' T' U' Λ' C' K' H' tl' hI'
  refine x_tswOut 1025 dL_law_33 (by have e0 := lv_neT (a := 0) s_0 (by decide); have e1 := lv_neT (a := 1) s_1 (by decide); have e2 := lv_neT (a := 2) s_2 (by decide); have e3 := lv_neT (a := 3) s_3 (by decide); have e4 := lv_neT (a := 4) s_4 (by decide); have e5 := lv_neT (a := 5) s_5 (by decide); have e6 := lv_neT (a := 6) s_6 (by decide); have e7 := lv_neT (a := 7) s_7 (by decide); have e8 := lv_neT (a := 8) s_8 (by decide); have e9 := lv_neT (a := 9) s_9 (by decide); have e10 := lv_neT (a := 10) s_10 (by decide); have e11 := lv_neT (a := 11) s_11 (by decide); have e12 := lv_neT (a := 12) s_12 (by decide); have e13 := lv_neT (a := 13) s_13 (by decide); have e14 := lv_neT (a := 14) s_14 (by decide); have e15 := lv_neT (a := 15) s_15 (by decide); have e16 := lv_neT (a := 16) s_16 (by decide); have e17 := lv_neT (a := 17) s_17 (by decide); have e18 := lv_neT (a := 18) s_18 (by decide); have e19 := lv_neT (a := 19) s_19 (by decide); have e20 := lv_neT (a := 20) s_20 (by decide); have e21 := lv_neT (a := 21) s_21 (by decide); have e22 := lv_neT (a := 22) s_22 (by decide); have e23 := lv_neT (a := 23) s_23 (by decide); have e24 := lv_neT (a := 24) s_24 (by decide); have e25 := lv_neT (a := 25) s_25 (by decide); have e26 := lv_neT (a := 26) s_26 (by decide); have e27 := lv_neT (a := 27) s_27 (by decide); omega) ?_
  refine Ex.more (cb := 3 * (N - (q + 1))) (sb := 166 * (N - (q + 1))) (by omega) (by omega) ?_
  exact hgo S T U Λ C K H tl hI
set_option maxRecDepth 100000 in
theorem law_loop {L N : Nat} {mn : String} {xs : Nat → Int32} (hL : L ≤ 3072) (hN : N = L / 6) : ∀ q, q ≤ N → ∀ (S : CS) (T : MT) (U : MU) (Λ : ML) (C : MC) (K : MK) (H : MH) (tl : pc_W), Inv S T (mO U) K H tl → Ex (L, xs) (RL, mn, code, 4, some .boolean) 60 ReL (3 * (N - q)) (166 * (N - q)) 18 [some (.float 200), some (.ref 0), some (.ref 42), some (.int (nI (6 * q)))] [] (WD S T U Λ C K H tl) := by
  have hN2 : N ≤ 512 := by omega
  refine for_up (P := fun q => ∀ (S : CS) (T : MT) (U : MU) (Λ : ML) (C : MC) (K : MK) (H : MH) (tl : pc_W), Inv S T (mO U) K H tl → Ex (L, xs) (RL, mn, code, 4, some .boolean) 60 ReL (3 * (N - q)) (166 * (N - q)) 18 [some (.float 200), some (.ref 0), some (.ref 42), some (.int (nI (6 * q)))] [] (WD S T U Λ C K H tl)) N ?_ (fun q hq ih => ?_)
  · intro S T U Λ C K H tl hI
    refine x_iload_n dL_law_18 rfl ?_
    refine x_aload_nF dL_law_19 rfl ?_
    refine x_talen dL_law_20 (Or.inr (Or.inr (Or.inr rfl))) ?_
    refine x_bipush 6 dL_law_21 ?_
    refine x_isub dL_law_23 ?_
    refine x_icmp_gt 1031 dL_law_24 (fun _ => ?_) (fun y => absurd ((lw_len hL hN2).mpr (by omega)) y)
    refine x_iconst 1 dL_law_1031 ?_
    exact Ex.ret (v := some (.int _)) ⟨dL_law_1032, _, rfl, by first | rfl | decide⟩ rfl
  · intro S T U Λ C K H tl hI
    have hqL : 6 * q + 6 ≤ L := by omega
    refine x_iload_n dL_law_18 rfl ?_
    refine x_aload_nF dL_law_19 rfl ?_
    refine x_talen dL_law_20 (Or.inr (Or.inr (Or.inr rfl))) ?_
    refine x_bipush 6 dL_law_21 ?_
    refine x_isub dL_law_23 ?_
    refine x_icmp_gt 1031 dL_law_24 (fun y => absurd hqL ((lw_len hL (by omega)).mp y)) (fun _ => ?_)
    refine law_body hL hN2 hq hqL ?_ hI
    intro S T U Λ C K H tl hI
    refine Ex.iinc (v := nI (6 * (q + 1))) dL_law_1025 rfl (nI_add (6 * q) 6) (show 3 < 4 by decide) ?_
    refine x_goto 18 dL_law_1028 ?_
    exact ih S T U Λ C K H tl hI
