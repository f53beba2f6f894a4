/-! one outing, told twice: what the two sides have in common -/
def OEq (z : Nat) (A B : OT) : Prop := (∀ i, i < 8 → o_we A i = o_we B i) ∧ o_me A = o_me B ∧ o_ye A = o_ye B ∧ o_li A = o_li B ∧ o_pu A = o_pu B ∧ o_ru A = o_ru B ∧ o_sz A = o_sz B ∧ (∀ i, i < z → o_ki A i = o_ki B i ∧ o_nu A i = o_nu B i ∧ o_pr A i = o_pr B i)
section OEQ
variable {z : Nat} {A B : OT} {τ : TV} {r p : Nat}
theorem OEq.we (h : OEq z A B) {i : Nat} (hi : i < 8) : o_we A i = o_we B i := h.1 i hi
theorem OEq.me (h : OEq z A B) : o_me A = o_me B := h.2.1
theorem OEq.ye (h : OEq z A B) : o_ye A = o_ye B := h.2.2.1
theorem OEq.li (h : OEq z A B) : o_li A = o_li B := h.2.2.2.1
theorem OEq.pu (h : OEq z A B) : o_pu A = o_pu B := h.2.2.2.2.1
theorem OEq.ru (h : OEq z A B) : o_ru A = o_ru B := h.2.2.2.2.2.1
theorem OEq.sz (h : OEq z A B) : o_sz A = o_sz B := h.2.2.2.2.2.2.1
theorem OEq.ki (h : OEq z A B) {i : Nat} (hi : i < z) : o_ki A i = o_ki B i := (h.2.2.2.2.2.2.2 i hi).1
theorem OEq.nu (h : OEq z A B) {i : Nat} (hi : i < z) : o_nu A i = o_nu B i := (h.2.2.2.2.2.2.2 i hi).2.1
theorem OEq.pr (h : OEq z A B) {i : Nat} (hi : i < z) : o_pr A i = o_pr B i := (h.2.2.2.2.2.2.2 i hi).2.2
theorem OEq.refl (z : Nat) (A : OT) : OEq z A A := ⟨fun _ _ => rfl, rfl, rfl, rfl, rfl, rfl, rfl, fun _ _ => ⟨rfl, rfl, rfl⟩⟩
theorem OEq.symm (h : OEq z A B) : OEq z B A := ⟨fun _ hi => (h.we hi).symm, h.me.symm, h.ye.symm, h.li.symm, h.pu.symm, h.ru.symm, h.sz.symm, fun _ hi => ⟨(h.ki hi).symm, (h.nu hi).symm, (h.pr hi).symm⟩⟩
theorem OEq.trans {C : OT} (h : OEq z A B) (g : OEq z B C) : OEq z A C := ⟨fun _ hi => (h.we hi).trans (g.we hi), h.me.trans g.me, h.ye.trans g.ye, h.li.trans g.li, h.pu.trans g.pu, h.ru.trans g.ru, h.sz.trans g.sz, fun _ hi => ⟨(h.ki hi).trans (g.ki hi), (h.nu hi).trans (g.nu hi), (h.pr hi).trans (g.pr hi)⟩⟩
theorem OEq.bec (T O : OT) (hz : z ≤ 6) : OEq z (o_bec T O) O := by
  have q : ∀ (f g : Nat → Int32) (n i : Nat), i < n → va_cpy f g 0 0 n i = f i := fun f g n i hi => by
    unfold va_cpy; rw [if_pos ⟨Nat.zero_le _, by omega⟩, Nat.sub_zero, Nat.zero_add]
  exact ⟨fun i hi => q _ _ _ _ hi, rfl, rfl, rfl, rfl, rfl, rfl, fun i hi => ⟨q _ _ _ _ (by omega), q _ _ _ _ (by omega), q _ _ _ _ (by omega)⟩⟩
theorem eq_ahe (h : OEq z A B) {k : Nat} (hk : k < 8) : o_ahe A (nI k) = o_ahe B (nI k) := by
  unfold o_ahe
  by_cases q : (0 : Int32) < nI k
  · rw [if_pos q, if_pos q]
    have h1 : 1 ≤ k := Nat.pos_of_ne_zero (fun e => by subst e; exact absurd q (by decide))
    rw [isub1 h1, nI_clamp (by omega)]
    exact h.we (by omega)
  · rw [if_neg q, if_neg q]
theorem eq_mAt (h : OEq z A B) (x : Int32) : o_mAt A x = o_mAt B x := by unfold o_mAt; rw [h.me]
theorem eq_nmH (h : OEq z A B) {k : Nat} (hp : p < z) (hk : k < 8) : nmH A p k = nmH B p k := by
  unfold nmH kn2 kn1
  rw [h.we hk, eq_mAt h, eq_ahe h hk, h.ye, h.nu hp]
theorem eq_nmC (h : OEq z A B) (hp : p < z) : nmC A p = nmC B p := by
  unfold nmC kn1
  rw [h.ye, h.nu hp]
theorem eq_th (h : OEq z A B) {k : Nat} (hp : p < z) (hk : k < 8) : thF τ A r p k = thF τ B r p k := by
  unfold thF
  rw [eq_nmH h hp hk, h.ki hp, h.ye, h.nu hp]
theorem eq_me (h : OEq z A B) {k : Nat} (hp : p < z) (hk : k < 8) : meF τ A r p k = meF τ B r p k := by
  unfold meF
  rw [eq_nmH h hp hk, h.ki hp, h.nu hp]
theorem eq_mo (h : OEq z A B) (hp : p < z) : moF τ A r p = moF τ B r p := sumI_cong (fun _ hi => eq_th h hp hi)
theorem eq_cl (h : OEq z A B) (hp : p < z) : clF τ A r p = clF τ B r p := by
  unfold clF
  rw [h.li, eq_mo h hp, eq_nmC h hp, h.ki hp, h.nu hp]
theorem eq_hz (h : OEq z A B) (hp : p < z) : hzF τ A r p = hzF τ B r p := by
  unfold hzF
  rw [h.li, eq_mo h hp]
theorem eq_hp (h : OEq z A B) : hpF τ A r z = hpF τ B r z := sumI_cong (fun _ hi => eq_hz h hi)
theorem eq_du (h : OEq z A B) : duF τ A r z = duF τ B r z := sumI_cong (fun _ hi => eq_cl h hi)
theorem eq_co (h : OEq z A B) {k : Nat} (hk : k < 8) : coF τ A r z k = coF τ B r z k := sumI_cong (fun _ hi => eq_me h hi hk)
theorem eq_ps (h : OEq z A B) : sumI (o_pr A) z = sumI (o_pr B) z := sumI_cong (fun _ hi => h.pr hi)
theorem eq_lk (h : OEq z A B) (hp : p < z) : ∀ n, n ≤ 8 → lkF τ A r p n = lkF τ B r p n
  | 0, _ => rfl
  | n + 1, hn => by
    unfold lkF
    rw [eq_th h hp (show n < 8 by omega), eq_lk h hp n (by omega)]
theorem OEq.uye (h : OEq z A B) (x : Int32) : OEq z (uo_ye A x) (uo_ye B x) := ⟨h.1, h.me, rfl, h.li, h.pu, h.ru, h.sz, h.2.2.2.2.2.2.2⟩
theorem OEq.ume (h : OEq z A B) (x : Int32) : OEq z (uo_me A x) (uo_me B x) := ⟨h.1, rfl, h.ye, h.li, h.pu, h.ru, h.sz, h.2.2.2.2.2.2.2⟩
theorem OEq.uli (h : OEq z A B) (x : Int32) : OEq z (uo_li A x) (uo_li B x) := ⟨h.1, h.me, h.ye, rfl, h.pu, h.ru, h.sz, h.2.2.2.2.2.2.2⟩
theorem OEq.upu (h : OEq z A B) (x : Int32) : OEq z (uo_pu A x) (uo_pu B x) := ⟨h.1, h.me, h.ye, h.li, rfl, h.ru, h.sz, h.2.2.2.2.2.2.2⟩
theorem OEq.uru (h : OEq z A B) (x : Int32) : OEq z (uo_ru A x) (uo_ru B x) := ⟨h.1, h.me, h.ye, h.li, h.pu, rfl, h.sz, h.2.2.2.2.2.2.2⟩
theorem upd_cong {f g : Nat → Int32} {k : Nat} {x : Int32} {i : Nat} (h : i ≠ k → f i = g i) : upd f k x i = upd g k x i := by
  by_cases e : i = k
  · subst e; rw [pk_us, pk_us]
  · rw [pk_un e, pk_un e]; exact h e
theorem OEq.uwe (h : OEq z A B) (k : Nat) (x : Int32) : OEq z (uo_we A (upd (o_we A) k x)) (uo_we B (upd (o_we B) k x)) := ⟨fun _ hi => upd_cong (fun _ => h.we hi), h.me, h.ye, h.li, h.pu, h.ru, h.sz, h.2.2.2.2.2.2.2⟩
theorem OEq.uweF (h : OEq z A B) {f g : Nat → Int32} (hf : ∀ i, i < 8 → f i = g i) : OEq z (uo_we A f) (uo_we B g) := ⟨hf, h.me, h.ye, h.li, h.pu, h.ru, h.sz, h.2.2.2.2.2.2.2⟩
theorem OEq.uki (h : OEq z A B) (k : Nat) (x : Int32) : OEq z (uo_ki A (upd (o_ki A) k x)) (uo_ki B (upd (o_ki B) k x)) := ⟨h.1, h.me, h.ye, h.li, h.pu, h.ru, h.sz, fun _ hi => ⟨upd_cong (fun _ => h.ki hi), h.nu hi, h.pr hi⟩⟩
theorem OEq.unu (h : OEq z A B) (k : Nat) (x : Int32) : OEq z (uo_nu A (upd (o_nu A) k x)) (uo_nu B (upd (o_nu B) k x)) := ⟨h.1, h.me, h.ye, h.li, h.pu, h.ru, h.sz, fun _ hi => ⟨h.ki hi, upd_cong (fun _ => h.nu hi), h.pr hi⟩⟩
theorem OEq.upr (h : OEq z A B) (k : Nat) (x : Int32) : OEq z (uo_pr A (upd (o_pr A) k x)) (uo_pr B (upd (o_pr B) k x)) := ⟨h.1, h.me, h.ye, h.li, h.pu, h.ru, h.sz, fun _ hi => ⟨h.ki hi, h.nu hi, upd_cong (fun _ => h.pr hi)⟩⟩
theorem OEq.ear (h : OEq z A B) (x : Int32) : OEq z (o_ear A x) (o_ear B x) := by
  unfold o_ear
  rw [h.pu]
  exact h.upu _
theorem OEq.yr (h : OEq z A B) : OEq z (yrF τ A r z) (yrF τ B r z) := by
  unfold yrF yr1
  rw [eq_ps h, eq_du h]
  have e := (h.ear (sumI (o_pr B) z)).ear (-(duF τ B r z))
  have e2 := e.uye (o_ye (o_ear (o_ear B (sumI (o_pr B) z)) (-(duF τ B r z))) + 1)
  rw [e.ye]
  exact e2
theorem OEq.rt (h : OEq z A B) {k : Nat} (hk : k < 8) : OEq z (rtO τ A r z k) (rtO τ B r z k) := by
  unfold rtO
  rw [eq_co h hk]
  have e := h.ear (-(coF τ B r z k))
  show OEq z (uo_me (o_ear A (-coF τ B r z k)) (o_me (o_ear A (-coF τ B r z k)) ||| (1 <<< (nI k &&& 31)))) (uo_me (o_ear B (-coF τ B r z k)) (o_me (o_ear B (-coF τ B r z k)) ||| (1 <<< (nI k &&& 31))))
  rw [e.me]
  exact e.ume _
theorem eq_ri (h : OEq z A B) (x : Int32) : riF τ A r z x = riF τ B r z x := by
  unfold riF
  by_cases q : hoC x
  · rw [if_pos q, if_pos q, eq_mAt h]
    obtain ⟨k, hk, rfl⟩ := nat_of q.1 (show x < nI 8 from q.2) (by omega)
    rw [nI_clamp (by omega), eq_co h hk]
  · rw [if_neg q, if_neg q]
theorem OEq.ri (h : OEq z A B) (x : Int32) : OEq z (riO τ A r z x) (riO τ B r z x) := by
  unfold riO
  rw [eq_mAt h]
  by_cases q : hoC x ∧ ¬ o_mAt B x = 1
  · rw [if_pos q, if_pos q]
    obtain ⟨k, hk, rfl⟩ := nat_of q.1.1 (show x < nI 8 from q.1.2) (by omega)
    rw [nI_clamp (by omega)]
    exact h.rt hk
  · rw [if_neg q, if_neg q]; exact h
theorem OEq.rn (h : OEq z A B) : ∀ i, OEq z (rnT τ r z A i) (rnT τ r z B i)
  | 0 => h
  | i + 1 => (OEq.rn h i).yr
theorem eq_rnB (h : OEq z A B) : ∀ i, rnB τ r z A i = rnB τ r z B i
  | 0 => rfl
  | i + 1 => by
    unfold rnB
    rw [(h.rn (i + 1)).pu, eq_rnB h i]
theorem eq_ru (h : OEq z A B) (n what : Int32) : ruF τ r z A n what = ruF τ r z B n what := by
  unfold ruF
  rw [(h.rn _).pu, eq_hp (h.rn _), eq_rnB h]
theorem eq_hy (h : OEq z A B) (y : Int32) (hp : p < z) : ∀ n i, hyF τ A y r p n i = hyF τ B y r p n i
  | 0, _ => rfl
  | n + 1, i => by
    unfold hyF
    rw [eq_hz (h.uye _) hp, eq_hy h y hp n (i + 1)]
theorem on_nat {z : Nat} {one : Int32} (h : 0 ≤ one ∧ one < nI z) (hz : z ≤ 6) : ∃ p, p < z ∧ one = nI p ∧ one.toNatClampNeg = p := by
  obtain ⟨p, hp, e⟩ := nat_of h.1 h.2 (by omega)
  exact ⟨p, hp, e, by rw [e]; exact nI_clamp (by omega)⟩
theorem eq_hyA (h : OEq z A B) (hz : z ≤ 6) (y one : Int32) : hyA τ A y r z one = hyA τ B y r z one := by
  unfold hyA
  by_cases q : 0 ≤ one ∧ one < nI z
  · rw [if_pos q, if_pos q]
    obtain ⟨p, hp, e, e2⟩ := on_nat q hz
    rw [e2]
    exact eq_hy h y hp _ _
  · rw [if_neg q, if_neg q]
theorem OEq.prt (h : OEq z A B) : ∀ i, OEq z (prT A i) (prT B i)
  | 0 => h
  | i + 1 => by
    have e := OEq.prt h i
    unfold prT yr1
    rw [e.ye]
    exact e.uye _
theorem pd_at (τ : TV) (T : OT) (r z : Nat) (du : Nat → Int32) : ∀ i j, j < i → pdF τ T r z du i j = duF τ (prT T j) r z
  | 0, j, h => absurd h (by omega)
  | i + 1, j, h => by
    unfold pdF
    by_cases e : j = i
    · subst e; rw [pk_us]
    · rw [pk_un e]; exact pd_at τ T r z du i j (by omega)
theorem eq_pl (h : OEq z A B) (hz : z ≤ 6) {what of : Int32} (q : isPl z what of) : plF A what of = plF B what of := by
  unfold plF
  rw [h.ye, h.li, h.pu, eq_mAt h]
  rcases q with (q | q | q) | ⟨q, q1, q2⟩ | ⟨q, q1, q2⟩
  · rw [if_pos q, if_pos q]
  · subst q; rfl
  · subst q; rfl
  · obtain ⟨k, hk, rfl⟩ := nat_of q1 (show of < nI 8 from q2) (by omega)
    rw [nI_clamp (by omega), h.we hk]
    rcases q with rfl | rfl <;> rfl
  · obtain ⟨k, hk, e, e2⟩ := on_nat ⟨q1, q2⟩ hz
    rw [e2, h.nu hk, h.pr hk]
    rcases q with rfl | rfl <;> rfl
theorem OEq.put (h : OEq z A B) (what of v : Int32) : OEq z (puF A what of v) (puF B what of v) := by
  unfold puF
  rw [h.me]
  repeat' split
  · exact h.uye _
  · exact h.uli _
  · exact h.upu _
  · exact h.uwe _ _
  · exact h.ume _
  · exact h.unu _ _
  · exact h.upr _ _
theorem eq_td (h : OEq z A B) (hz : z ≤ 6) (of what : Int32) : tdF τ A r z of what = tdF τ B r z of what := by
  unfold tdF
  by_cases h6 : what ≤ 6
  · rw [if_pos h6, if_pos h6]
    by_cases q : isPl z what of
    · rw [if_pos q, if_pos q]; exact eq_pl h hz q
    · rw [if_neg q, if_neg q]
  rw [if_neg h6, if_neg h6]
  by_cases h11 : what = 11
  · rw [if_pos h11, if_pos h11]
    by_cases q : 0 ≤ of ∧ of < 8
    · rw [if_pos q, if_pos q]
      obtain ⟨k, hk, rfl⟩ := nat_of q.1 (show of < nI 8 from q.2) (by omega)
      rw [nI_clamp (by omega)]; exact eq_co h hk
    · rw [if_neg q, if_neg q]
  rw [if_neg h11, if_neg h11]
  by_cases ho : onC z of
  · rw [if_neg (fun y : ¬ onC z of => y ho), if_neg (fun y : ¬ onC z of => y ho)]
    obtain ⟨p, hp, e, e2⟩ := on_nat ho hz
    rw [e2, h.ki hp, eq_mo h hp, eq_hz h hp, eq_cl h hp]
    by_cases h20 : 20 ≤ what ∧ what ≤ 27
    · rw [if_pos h20, if_pos h20]
      obtain ⟨k, hk, ek⟩ := nat_of (hr20.mpr h20).1 (show what - 20 < nI 8 from (hr20.mpr h20).2) (by omega)
      rw [ek, nI_clamp (by omega)]; exact eq_th h hp hk
    rw [if_neg h20, if_neg h20]
    by_cases h30 : 30 ≤ what ∧ what ≤ 37
    · rw [if_pos h30, if_pos h30]
      obtain ⟨k, hk, ek⟩ := nat_of (hr30.mpr h30).1 (show what - 30 < nI 8 from (hr30.mpr h30).2) (by omega)
      rw [ek, nI_clamp (by omega)]; exact eq_me h hp hk
    rw [if_neg h30, if_neg h30]
  · rw [if_pos ho, if_pos ho]
theorem eq_ta (h : OEq z A B) (hz : z ≤ 6) (one k : Int32) : taF A z one k = taF B z one k := by
  unfold taF
  by_cases q : 0 ≤ one ∧ one < nI z
  · obtain ⟨p, hp, e, e2⟩ := on_nat q hz
    rw [e2, h.ki hp, h.nu hp]
  · rw [if_neg q, if_neg q]
end OEQ
