/-! the class's world with its thought in hand: one normal form, moved by lemmas -/
theorem k_nm_tho {S : CS} {T : OT} {x : Nat → Int32} : u_nm (u_tho S T) x = u_tho (u_nm S x) T := rfl
theorem k_sk_tho {S : CS} {T : OT} {x : Nat → Int32} : u_sk (u_tho S T) x = u_tho (u_sk S x) T := rfl
theorem k_sh_tho {S : CS} {T : OT} {F : Nat → ST} : u_sh (u_tho S T) F = u_tho (u_sh S F) T := rfl
theorem k_tho_tho {S : CS} {T T' : OT} : u_tho (u_tho S T) T' = u_tho S T' := rfl
theorem k_nm_sh {S : CS} {x : Nat → Int32} {F : Nat → ST} : u_nm (u_sh S F) x = u_sh (u_nm S x) F := rfl
theorem k_sk_sh {S : CS} {x : Nat → Int32} {F : Nat → ST} : u_sk (u_sh S F) x = u_sh (u_sk S x) F := rfl
theorem k_sh_sh {S : CS} {F G : Nat → ST} : u_sh (u_sh S F) G = u_sh S G := rfl
theorem k_nm_sk {S : CS} {x y : Nat → Int32} : u_nm (u_sk S y) x = u_sk (u_nm S x) y := rfl
theorem k_nm_nm {S : CS} {x y : Nat → Int32} : u_nm (u_nm S y) x = u_nm S x := rfl
theorem k_sk_sk {S : CS} {x y : Nat → Int32} : u_sk (u_sk S y) x = u_sk S x := rfl
theorem k_thoT {S : CS} {T : OT} : s_tho (u_tho S T) = T := rfl
def wtS (S : CS) (T : OT) (nm sk : Nat → Int32) (F : Nat → ST) : CS := u_tho (u_sh (u_sk (u_nm S nm) sk) F) T
theorem wt_tho {S : CS} {T : OT} {nm sk : Nat → Int32} {F : Nat → ST} : s_tho (wtS S T nm sk F) = T := rfl
theorem wt_now {S : CS} {T : OT} {nm sk : Nat → Int32} {F : Nat → ST} : s_now (wtS S T nm sk F) = s_now S := rfl
theorem wt_mt {S : CS} {T : OT} {nm sk : Nat → Int32} {F : Nat → ST} : s_mt (wtS S T nm sk F) = s_mt S := rfl
theorem wt_mz {S : CS} {T : OT} {nm sk : Nat → Int32} {F : Nat → ST} : s_mz (wtS S T nm sk F) = s_mz S := rfl
theorem wt_te {S : CS} {T : OT} {nm sk : Nat → Int32} {F : Nat → ST} : s_te (wtS S T nm sk F) = s_te S ∧ s_tz (wtS S T nm sk F) = s_tz S ∧ s_tc (wtS S T nm sk F) = s_tc S := ⟨rfl, rfl, rfl⟩
theorem wt_u {S : CS} {T T' : OT} {nm sk : Nat → Int32} {F : Nat → ST} : u_tho (wtS S T nm sk F) T' = wtS S T' nm sk F := by
  unfold wtS
  rw [k_tho_tho]
theorem wt_id {S : CS} : S = wtS S (s_tho S) (s_nm S) (s_sk S) (s_sh S) := rfl
/-- with its sheets aside, as the contracts of part 28 have it -/
theorem wt_sh {S : CS} {T : OT} {nm sk nm' sk' : Nat → Int32} {F : Nat → ST} : u_sh (u_sk (u_nm (wtS S T nm sk F) nm') sk') F = wtS S T nm' sk' F := by
  unfold wtS
  rw [k_nm_tho, k_sk_tho, k_sh_tho, k_nm_sh, k_sk_sh, k_sh_sh, k_nm_sk, k_sk_sk, k_nm_nm]
theorem wt_sh0 {S : CS} {T : OT} {nm sk : Nat → Int32} {F : Nat → ST} : u_sh (wtS S T nm sk F) F = wtS S T nm sk F := by
  unfold wtS
  rw [k_sh_tho, k_sh_sh]
theorem c_suppose_w {X : Nat × (Nat → Int32)} {S : CS} {tl : pc_W} {T : OT} {nm sk : Nat → Int32} {F : Nat → ST} {p : Nat} {what i : Int32} (hp6 : p < 6) (hw : ¬ what = 1 → ¬ what = 2 → ¬ what = 7 → vp_in (what - 10) 8) : Mt X 0 0 0 yX9_suppose cX9_suppose 4 none [.ref 0, .int (nI p), .int what, .int i] (cst (wtS S T nm sk F) ++ tl) (RV (cst (wtS S (suF T p what i) nm sk F) ++ tl)) := by
  have e := c_X9_suppose (X := X) (S := wtS S T nm sk F) (tl := tl) (i := i) hp6 hw
  rw [wt_tho, wt_u] at e
  exact e
theorem c_isJustSo_w {X : Nat × (Nat → Int32)} {S : CS} {tl : pc_W} {T : OT} {nm sk : Nat → Int32} {f : Nat → ST} {a b : Int32} {c : Nat → Int32} {τ : TV} {r p k : Nat} (hX : TXr τ (wtS S T nm sk (shU f k (a, b, c))) tl r) (hrt : o_ru T = nI r) (hp6 : p < 6) (hk : k < 4) : Mt X 5 0 0 yX9_isJustSo cX9_isJustSo 3 (some .boolean) [.ref 0, .ref (shP k), .int (nI p)] (cst (wtS S T nm sk (shU f k (a, b, c))) ++ tl) (fun v w' => ∃ nm' sk', v = some (.int (bi (foF (thF τ T r p) c 8 0 = -1))) ∧ w' = cst (wtS S T nm' sk' (shU f k (a, b, c))) ++ tl) := by
  have e := c_X9_isJustSo (X := X) (f := f) (a := a) (b := b) (c := c) (p := p) hX (by rw [wt_tho]; exact hrt) hp6 hk
  rw [wt_sh0, wt_tho] at e
  refine Mt.weaken e (fun v w h => ?_)
  obtain ⟨nm', sk', h1, h2⟩ := h
  exact ⟨nm', sk', h1, by rw [h2, wt_sh]⟩
