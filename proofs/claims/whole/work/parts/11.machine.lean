section
variable {X : Nat × (Nat → Int32)} {M : MI} {d : Nat} {Ret : Option Value → pc_W → Prop} {cb sb : Nat} {pc : Nat} {L L' : List (Option Value)} {st : List Value} {w : pc_W}
/-- fewer locals -/
def lsub : List (Option Value) → List (Option Value) → Prop
  | [], _ => True
  | none :: t, [] => lsub t []
  | none :: t, _ :: t' => lsub t t'
  | some _ :: _, [] => False
  | some v :: t, o :: t' => o = some v ∧ lsub t t'
theorem lsub_at : ∀ (A B : List (Option Value)), lsub A B → ∀ (i : Nat) (v : Value), A[i]? = some (some v) → B[i]? = some (some v)
  | [], _, _, i, v, h => by simp at h
  | none :: t, [], hs, i, v, h => by
    cases i with
    | zero => simp at h
    | succ i =>
      have h2 := lsub_at t [] hs i v (by simpa using h)
      simp at h2
  | none :: t, _ :: t', hs, i, v, h => by
    cases i with
    | zero => simp at h
    | succ i => simpa using lsub_at t t' hs i v (by simpa using h)
  | some _ :: _, [], hs, i, v, h => hs.elim
  | some u :: t, b :: t', hs, i, v, h => by
    cases i with
    | zero =>
      simp only [List.getElem?_cons_zero] at h ⊢
      rw [hs.1]; exact h
    | succ i => simpa using lsub_at t t' hs.2 i v (by simpa using h)
theorem Ex.forget (hs : lsub L' L) (k : Ex X M d Ret cb sb pc L' st w) : Ex X M d Ret cb sb pc L st w := by
  intro p l e R s m args below meth c Q A D ty sa adV ad0 n0 cm sm hC ad H locs cells slots ls hS hl hL hst h1 h2
  exact k p l e R s m args below meth c Q A D ty sa adV ad0 n0 cm sm hC ad H locs cells slots ls hS ⟨hl.1, hl.2.1, fun i v hv => hl.2.2 i v (lsub_at _ _ hs i v hv)⟩ (fun v hv => by
    obtain ⟨i, hi⟩ := List.getElem?_of_mem hv
    exact hL v (List.mem_of_getElem? (lsub_at _ _ hs i v hi))) hst h1 h2
end
def jn (t a b : Int32) : Int32 := if t = 43 then a + b else if t = 45 then a - b else if t = 42 then a * b else if t = 60 then bi (a < b) else if t = 61 then bi (a = b) else if t = 209 then bi (¬ a = 0 ∨ ¬ b = 0) else bi (¬ a = 0 ∧ ¬ b = 0)
def mstep (nm : Nat → Int32) (c : Int32) (top : Nat) (sk : Nat → Int32) : Option (Nat × (Nat → Int32)) :=
  if -c ≤ 0 ∨ (200 ≤ -c ∧ -c ≤ 205) then
    if 160 ≤ top then none
    else some (top + 1, upd sk top (if -c ≤ 0 then -(-c) else nm (-c - 200).toNatClampNeg))
  else if -c = 3 ∨ -c = 211 then
    if top < 1 then none
    else some (top, upd sk (top - 1) (if -c = 3 then -(sk (top - 1)) else bi (sk (top - 1) = 0)))
  else if top < 2 then none
  else some (top - 1, upd sk (top - 2) (jn (-c) (sk (top - 2)) (sk (top - 1))))
def mrun (nm code : Nat → Int32) : Nat → Nat → Nat → (Nat → Int32) → Int32 × (Nat → Int32)
  | 0, _, _, sk => (sk 0, sk)
  | n + 1, i, top, sk => match mstep nm (code i) top sk with
    | none => (0, sk)
    | some q => mrun nm code n (i + 1) q.1 q.2
theorem mrun_n {nm code : Nat → Int32} {n i top : Nat} {sk : Nat → Int32} (h : mstep nm (code i) top sk = none) : mrun nm code (n + 1) i top sk = (0, sk) := by rw [mrun, h]
theorem mrun_s {nm code : Nat → Int32} {n i top t' : Nat} {sk s' : Nat → Int32} (h : mstep nm (code i) top sk = some (t', s')) : mrun nm code (n + 1) i top sk = mrun nm code n (i + 1) t' s' := by rw [mrun, h]
/-- what know() lays, what knowHour() lays -/
def kn1 (nm : Nat → Int32) (O : OT) (p : Nat) : Nat → Int32 := upd (upd (upd (upd (upd (upd nm 0 0) 1 0) 2 (o_ye O)) 3 (o_nu O p)) 4 0) 5 0
def kn2 (nm : Nat → Int32) (O : OT) (h : Nat) : Nat → Int32 := upd (upd (upd (upd nm 0 (o_we O h)) 1 (nI h)) 4 (o_mAt O (nI h))) 5 (o_ahe O (nI h))
/-- the cells of a text that was read -/
def TCell (S : CS) (tl : pc_W) (t cr er n : Nat) (code ends : Nat → Int32) : Prop :=
  (t = 40 ∧ cr = 41 ∧ er = 39 ∧ n = s_tz S ∧ code = s_tc S ∧ ends = s_te S) ∨ (42 ≤ t ∧ 42 ≤ cr ∧ 42 ≤ er ∧ tl[t - 42]? = some (.inr (6, [.ref cr, .ref er])) ∧ tl[cr - 42]? = some (.inl (0, (n, .inl code))) ∧ tl[er - 42]? = some (.inl (0, (4, .inl ends))))
theorem TCell.obj {S : CS} {tl : pc_W} {t cr er n : Nat} {code ends : Nat → Int32} (h : TCell S tl t cr er n code ends) : (cst S ++ tl)[t]? = some (.inr (6, [.ref cr, .ref er])) := by
  rcases h with ⟨rfl, rfl, rfl, -⟩ | ⟨h1, -, -, h4, -⟩
  · rfl
  · rw [cst_tl h1]; exact h4
theorem TCell.code {S : CS} {tl : pc_W} {t cr er n : Nat} {code ends : Nat → Int32} (h : TCell S tl t cr er n code ends) : (cst S ++ tl)[cr]? = some (.inl (0, (n, .inl code))) := by
  rcases h with ⟨rfl, rfl, rfl, rfl, rfl, rfl⟩ | ⟨-, h2, -, -, h5, -⟩
  · rfl
  · rw [cst_tl h2]; exact h5
theorem TCell.ends {S : CS} {tl : pc_W} {t cr er n : Nat} {code ends : Nat → Int32} (h : TCell S tl t cr er n code ends) : (cst S ++ tl)[er]? = some (.inl (0, (4, .inl ends))) := by
  rcases h with ⟨rfl, rfl, rfl, rfl, rfl, rfl⟩ | ⟨-, -, h3, -, -, h6⟩
  · rfl
  · rw [cst_tl h3]; exact h6
theorem isub1 {n : Nat} (h : 1 ≤ n) : nI n - 1 = nI (n - 1) := by
  obtain ⟨k, rfl⟩ : ∃ k, n = k + 1 := ⟨n - 1, by omega⟩
  exact nI_pred k
theorem iadm1 {n : Nat} (h : 1 ≤ n) : nI n + (-1) = nI (n - 1) := by
  obtain ⟨k, rfl⟩ : ∃ k, n = k + 1 := ⟨n - 1, by omega⟩
  exact pk_m1 k
set_option maxRecDepth 100000 in
set_option maxHeartbeats 4000000 in
theorem c_X1_joined {X : Nat × (Nat → Int32)} {t a b : Int32} {w : pc_W} : Mt X 0 0 0 yX1_joined cX1_joined 3 (some .int) [.int t, .int a, .int b] w (RI (jn t a b) w) := by
  refine Mt.of (by decide +kernel) (fun _ _ => Nat.le_of_ble_eq_true rfl) ?_
  show Ex X mX1_joined _ _ _ _ _ _ _ _
  refine x_iload_n dX1_joined_0 rfl ?_
  refine x_swC 42 (fun s_1_0 => ?_) (fun s_1_0 => ?_)
  · refine x_lsw (off := 67) 68 dX1_joined_1 (by decide) (by decide) ?_
    refine x_iload_n dX1_joined_68 rfl ?_
    refine x_iload_n dX1_joined_69 rfl ?_
    refine x_imul dX1_joined_70 ?_
    exact Ex.ret (v := some (.int _)) ⟨dX1_joined_71, _, rfl, by first | rfl | decide⟩ ⟨congrArg (fun z => some (Value.int z)) (by first | rfl | (simp_all [jn, bi]; done) | ((unfold jn bi; repeat' split) <;> first | rfl | contradiction | (simp_all; done) | (exfalso; simp only [Int32.lt_iff_toInt_lt, Int32.le_iff_toInt_le] at *; omega))), rfl⟩
  refine x_swC 43 (fun s_1_1 => ?_) (fun s_1_1 => ?_)
  · refine x_lsw (off := 59) 60 dX1_joined_1 (by decide) (by decide) ?_
    refine x_iload_n dX1_joined_60 rfl ?_
    refine x_iload_n dX1_joined_61 rfl ?_
    refine x_iadd dX1_joined_62 ?_
    exact Ex.ret (v := some (.int _)) ⟨dX1_joined_63, _, rfl, by first | rfl | decide⟩ ⟨congrArg (fun z => some (Value.int z)) (by first | rfl | (simp_all [jn, bi]; done) | ((unfold jn bi; repeat' split) <;> first | rfl | contradiction | (simp_all; done) | (exfalso; simp only [Int32.lt_iff_toInt_lt, Int32.le_iff_toInt_le] at *; omega))), rfl⟩
  refine x_swC 45 (fun s_1_2 => ?_) (fun s_1_2 => ?_)
  · refine x_lsw (off := 63) 64 dX1_joined_1 (by decide) (by decide) ?_
    refine x_iload_n dX1_joined_64 rfl ?_
    refine x_iload_n dX1_joined_65 rfl ?_
    refine x_isub dX1_joined_66 ?_
    exact Ex.ret (v := some (.int _)) ⟨dX1_joined_67, _, rfl, by first | rfl | decide⟩ ⟨congrArg (fun z => some (Value.int z)) (by first | rfl | (simp_all [jn, bi]; done) | ((unfold jn bi; repeat' split) <;> first | rfl | contradiction | (simp_all; done) | (exfalso; simp only [Int32.lt_iff_toInt_lt, Int32.le_iff_toInt_le] at *; omega))), rfl⟩
  refine x_swC 60 (fun s_1_3 => ?_) (fun s_1_3 => ?_)
  · refine x_lsw (off := 71) 72 dX1_joined_1 (by decide) (by decide) ?_
    refine x_iload_n dX1_joined_72 rfl ?_
    refine x_iload_n dX1_joined_73 rfl ?_
    refine x_icmp_ge 81 dX1_joined_74 (fun h_74 => ?_) (fun h_74 => ?_)
    · refine x_iconst 0 dX1_joined_81 ?_
      exact Ex.ret (v := some (.int _)) ⟨dX1_joined_82, _, rfl, by first | rfl | decide⟩ ⟨congrArg (fun z => some (Value.int z)) (by first | rfl | (simp_all [jn, bi]; done) | ((unfold jn bi; repeat' split) <;> first | rfl | contradiction | (simp_all; done) | (exfalso; simp only [Int32.lt_iff_toInt_lt, Int32.le_iff_toInt_le] at *; omega))), rfl⟩
    · refine x_iconst 1 dX1_joined_77 ?_
      refine x_goto 82 dX1_joined_78 ?_
      exact Ex.ret (v := some (.int _)) ⟨dX1_joined_82, _, rfl, by first | rfl | decide⟩ ⟨congrArg (fun z => some (Value.int z)) (by first | rfl | (simp_all [jn, bi]; done) | ((unfold jn bi; repeat' split) <;> first | rfl | contradiction | (simp_all; done) | (exfalso; simp only [Int32.lt_iff_toInt_lt, Int32.le_iff_toInt_le] at *; omega))), rfl⟩
  refine x_swC 61 (fun s_1_4 => ?_) (fun s_1_4 => ?_)
  · refine x_lsw (off := 82) 83 dX1_joined_1 (by decide) (by decide) ?_
    refine x_iload_n dX1_joined_83 rfl ?_
    refine x_iload_n dX1_joined_84 rfl ?_
    refine x_icmp_ne 92 dX1_joined_85 (fun h_85 => ?_) (fun h_85 => ?_)
    · refine x_iconst 0 dX1_joined_92 ?_
      exact Ex.ret (v := some (.int _)) ⟨dX1_joined_93, _, rfl, by first | rfl | decide⟩ ⟨congrArg (fun z => some (Value.int z)) (by first | rfl | (simp_all [jn, bi]; done) | ((unfold jn bi; repeat' split) <;> first | rfl | contradiction | (simp_all; done) | (exfalso; simp only [Int32.lt_iff_toInt_lt, Int32.le_iff_toInt_le] at *; omega))), rfl⟩
    · refine x_iconst 1 dX1_joined_88 ?_
      refine x_goto 93 dX1_joined_89 ?_
      exact Ex.ret (v := some (.int _)) ⟨dX1_joined_93, _, rfl, by first | rfl | decide⟩ ⟨congrArg (fun z => some (Value.int z)) (by first | rfl | (simp_all [jn, bi]; done) | ((unfold jn bi; repeat' split) <;> first | rfl | contradiction | (simp_all; done) | (exfalso; simp only [Int32.lt_iff_toInt_lt, Int32.le_iff_toInt_le] at *; omega))), rfl⟩
  refine x_swC 209 (fun s_1_5 => ?_) (fun s_1_5 => ?_)
  · refine x_lsw (off := 93) 94 dX1_joined_1 (by decide) (by decide) ?_
    refine x_iload_n dX1_joined_94 rfl ?_
    refine x_if_ne 102 dX1_joined_95 (fun h_95 => ?_) (fun h_95 => ?_)
    · refine x_iconst 1 dX1_joined_102 ?_
      refine x_goto 107 dX1_joined_103 ?_
      exact Ex.ret (v := some (.int _)) ⟨dX1_joined_107, _, rfl, by first | rfl | decide⟩ ⟨congrArg (fun z => some (Value.int z)) (by first | rfl | (simp_all [jn, bi]; done) | ((unfold jn bi; repeat' split) <;> first | rfl | contradiction | (simp_all; done) | (exfalso; simp only [Int32.lt_iff_toInt_lt, Int32.le_iff_toInt_le] at *; omega))), rfl⟩
    · refine x_iload_n dX1_joined_98 rfl ?_
      refine x_if_eq 106 dX1_joined_99 (fun h_99 => ?_) (fun h_99 => ?_)
      · refine x_iconst 0 dX1_joined_106 ?_
        exact Ex.ret (v := some (.int _)) ⟨dX1_joined_107, _, rfl, by first | rfl | decide⟩ ⟨congrArg (fun z => some (Value.int z)) (by first | rfl | (simp_all [jn, bi]; done) | ((unfold jn bi; repeat' split) <;> first | rfl | contradiction | (simp_all; done) | (exfalso; simp only [Int32.lt_iff_toInt_lt, Int32.le_iff_toInt_le] at *; omega))), rfl⟩
      · refine x_iconst 1 dX1_joined_102 ?_
        refine x_goto 107 dX1_joined_103 ?_
        exact Ex.ret (v := some (.int _)) ⟨dX1_joined_107, _, rfl, by first | rfl | decide⟩ ⟨congrArg (fun z => some (Value.int z)) (by first | rfl | (simp_all [jn, bi]; done) | ((unfold jn bi; repeat' split) <;> first | rfl | contradiction | (simp_all; done) | (exfalso; simp only [Int32.lt_iff_toInt_lt, Int32.le_iff_toInt_le] at *; omega))), rfl⟩
  refine x_lsw (off := 107) 108 dX1_joined_1 (by decide) (by show lookupswitch.offset _ _ _ = _; simp only [List.toList_toArray]; rw [lv_osw (a := 42) s_1_0 (by decide), lv_osw (a := 43) s_1_1 (by decide), lv_osw (a := 45) s_1_2 (by decide), lv_osw (a := 60) s_1_3 (by decide), lv_osw (a := 61) s_1_4 (by decide), lv_osw (a := 209) s_1_5 (by decide)]; rfl) ?_
  refine x_iload_n dX1_joined_108 rfl ?_
  refine x_if_eq 120 dX1_joined_109 (fun h_109 => ?_) (fun h_109 => ?_)
  · refine x_iconst 0 dX1_joined_120 ?_
    exact Ex.ret (v := some (.int _)) ⟨dX1_joined_121, _, rfl, by first | rfl | decide⟩ ⟨congrArg (fun z => some (Value.int z)) (by first | rfl | (simp_all [jn, bi]; done) | ((unfold jn bi; repeat' split) <;> first | rfl | contradiction | (simp_all; done) | (exfalso; simp only [Int32.lt_iff_toInt_lt, Int32.le_iff_toInt_le] at *; omega))), rfl⟩
  · refine x_iload_n dX1_joined_112 rfl ?_
    refine x_if_eq 120 dX1_joined_113 (fun h_113 => ?_) (fun h_113 => ?_)
    · refine x_iconst 0 dX1_joined_120 ?_
      exact Ex.ret (v := some (.int _)) ⟨dX1_joined_121, _, rfl, by first | rfl | decide⟩ ⟨congrArg (fun z => some (Value.int z)) (by first | rfl | (simp_all [jn, bi]; done) | ((unfold jn bi; repeat' split) <;> first | rfl | contradiction | (simp_all; done) | (exfalso; simp only [Int32.lt_iff_toInt_lt, Int32.le_iff_toInt_le] at *; omega))), rfl⟩
    · refine x_iconst 1 dX1_joined_116 ?_
      refine x_goto 121 dX1_joined_117 ?_
      exact Ex.ret (v := some (.int _)) ⟨dX1_joined_121, _, rfl, by first | rfl | decide⟩ ⟨congrArg (fun z => some (Value.int z)) (by first | rfl | (simp_all [jn, bi]; done) | ((unfold jn bi; repeat' split) <;> first | rfl | contradiction | (simp_all; done) | (exfalso; simp only [Int32.lt_iff_toInt_lt, Int32.le_iff_toInt_le] at *; omega))), rfl⟩
set_option maxRecDepth 100000 in
set_option maxHeartbeats 4000000 in
theorem c_X1_know_n {X : Nat × (Nat → Int32)} {S : CS} {tl : pc_W} {p : Nat} (hp : p < 6): Mt X 0 0 0 yX1_know cX1_know 3 none [.ref 21, .ref 1, .int (nI p)] (cst S ++ tl) (RV (cst (u_nm S (kn1 (s_nm S) (s_now S) p)) ++ tl)) := by
  refine Mt.of (by decide +kernel) (fun _ _ => Nat.le_of_ble_eq_true rfl) ?_
  show Ex X mX1_know _ _ _ _ _ _ _ _
  refine x_aload_n dX1_know_0 rfl ?_
  refine gf_X1_9 dX1_know_1 rfl rfl ?_
  refine x_iconst 0 dX1_know_4 ?_
  refine x_iconst 0 dX1_know_5 ?_
  refine x_iastore dX1_know_6 rfl (by unfold vp_in; decide) ?_
  refine x_aload_n dX1_know_7 rfl ?_
  refine gf_X1_9 dX1_know_8 rfl rfl ?_
  refine x_iconst 1 dX1_know_11 ?_
  refine x_iconst 0 dX1_know_12 ?_
  refine x_iastore dX1_know_13 rfl (by unfold vp_in; decide) ?_
  refine x_aload_n dX1_know_14 rfl ?_
  refine gf_X1_9 dX1_know_15 rfl rfl ?_
  refine x_iconst 2 dX1_know_18 ?_
  refine x_aload_n dX1_know_19 rfl ?_
  refine gf_X1_20 dX1_know_20 rfl rfl ?_
  refine x_iastore dX1_know_23 rfl (by unfold vp_in; decide) ?_
  refine x_aload_n dX1_know_24 rfl ?_
  refine gf_X1_9 dX1_know_25 rfl rfl ?_
  refine x_iconst 3 dX1_know_28 ?_
  refine x_aload_n dX1_know_29 rfl ?_
  refine gf_X1_26 dX1_know_30 rfl rfl ?_
  refine x_iload_n dX1_know_33 rfl ?_
  refine x_ialoadN dX1_know_34 rfl hp (by decide) ?_
  refine x_iastore dX1_know_35 rfl (by unfold vp_in; decide) ?_
  refine x_aload_n dX1_know_36 rfl ?_
  refine gf_X1_9 dX1_know_37 rfl rfl ?_
  refine x_iconst 4 dX1_know_40 ?_
  refine x_iconst 0 dX1_know_41 ?_
  refine x_iastore dX1_know_42 rfl (by unfold vp_in; decide) ?_
  refine x_aload_n dX1_know_43 rfl ?_
  refine gf_X1_9 dX1_know_44 rfl rfl ?_
  refine x_iconst 5 dX1_know_47 ?_
  refine x_iconst 0 dX1_know_48 ?_
  refine x_iastore dX1_know_49 rfl (by unfold vp_in; decide) ?_
  exact Ex.ret (v := none) ⟨rfl, dX1_know_50⟩ ⟨rfl, rfl⟩
set_option maxRecDepth 100000 in
set_option maxHeartbeats 4000000 in
theorem c_X1_knowHour_n {X : Nat × (Nat → Int32)} {S : CS} {tl : pc_W} {h : Nat} (hh : h < 8): Mt X 1 0 0 yX1_knowHour cX1_knowHour 3 none [.ref 21, .ref 1, .int (nI h)] (cst S ++ tl) (RV (cst (u_nm S (kn2 (s_nm S) (s_now S) h)) ++ tl)) := by
  refine Mt.of (by decide +kernel) (fun _ _ => Nat.le_of_ble_eq_true rfl) ?_
  show Ex X mX1_knowHour _ _ _ _ _ _ _ _
  refine x_aload_n dX1_knowHour_0 rfl ?_
  refine gf_X1_9 dX1_knowHour_1 rfl rfl ?_
  refine x_iconst 0 dX1_knowHour_4 ?_
  refine x_aload_n dX1_knowHour_5 rfl ?_
  refine gf_X1_29 dX1_knowHour_6 rfl rfl ?_
  refine x_iload_n dX1_knowHour_9 rfl ?_
  refine x_ialoadN dX1_knowHour_10 rfl hh (by decide) ?_
  refine x_iastore dX1_knowHour_11 rfl (by unfold vp_in; decide) ?_
  refine x_aload_n dX1_knowHour_12 rfl ?_
  refine gf_X1_9 dX1_knowHour_13 rfl rfl ?_
  refine x_iconst 1 dX1_knowHour_16 ?_
  refine x_iload_n dX1_knowHour_17 rfl ?_
  refine x_iastore dX1_knowHour_18 rfl (by unfold vp_in; decide) ?_
  refine x_aload_n dX1_knowHour_19 rfl ?_
  refine gf_X1_9 dX1_knowHour_20 rfl rfl ?_
  refine x_iconst 4 dX1_knowHour_23 ?_
  refine x_aload_n dX1_knowHour_24 rfl ?_
  refine x_iload_n dX1_knowHour_25 rfl ?_
  refine Ex.eqW (w' := cst (u_nm S (upd (upd (s_nm S) 0 (o_we (s_now S) h)) 1 (nI h))) ++ tl) rfl ?_
  refine ii_X1_32 dX1_knowHour_26 (c_X3_mendedAt_n) rfl (by decide) (Nat.le_of_ble_eq_true rfl) ?_
  refine x_iastore dX1_knowHour_29 rfl (by unfold vp_in; decide) ?_
  refine x_aload_n dX1_knowHour_30 rfl ?_
  refine gf_X1_9 dX1_knowHour_31 rfl rfl ?_
  refine x_iconst 5 dX1_knowHour_34 ?_
  refine x_aload_n dX1_knowHour_35 rfl ?_
  refine x_iload_n dX1_knowHour_36 rfl ?_
  refine Ex.eqW (w' := cst (u_nm S (upd (upd (upd (s_nm S) 0 (o_we (s_now S) h)) 1 (nI h)) 4 (o_mAt (s_now S) (nI h)))) ++ tl) rfl ?_
  refine ii_X1_36 dX1_knowHour_37 (c_X3_weatherAhead_n (fun h0 => by rw [isub1 (by have := (nI_ltI (a := 0) (b := h) (by decide) (by omega)).mp (by rw [nI_0]; exact h0); omega)]; exact vin (by omega) (by decide))) rfl (by decide) (Nat.le_of_ble_eq_true rfl) ?_
  refine x_iastore dX1_knowHour_40 rfl (by unfold vp_in; decide) ?_
  exact Ex.ret (v := none) ⟨rfl, dX1_knowHour_41⟩ ⟨rfl, rfl⟩
set_option maxRecDepth 100000 in
set_option maxHeartbeats 4000000 in
theorem c_X1_know_t {X : Nat × (Nat → Int32)} {S : CS} {tl : pc_W} {p : Nat} (hp : p < 6): Mt X 0 0 0 yX1_know cX1_know 3 none [.ref 21, .ref 11, .int (nI p)] (cst S ++ tl) (RV (cst (u_nm S (kn1 (s_nm S) (s_tho S) p)) ++ tl)) := by
  refine Mt.of (by decide +kernel) (fun _ _ => Nat.le_of_ble_eq_true rfl) ?_
  show Ex X mX1_know _ _ _ _ _ _ _ _
  refine x_aload_n dX1_know_0 rfl ?_
  refine gf_X1_9 dX1_know_1 rfl rfl ?_
  refine x_iconst 0 dX1_know_4 ?_
  refine x_iconst 0 dX1_know_5 ?_
  refine x_iastore dX1_know_6 rfl (by unfold vp_in; decide) ?_
  refine x_aload_n dX1_know_7 rfl ?_
  refine gf_X1_9 dX1_know_8 rfl rfl ?_
  refine x_iconst 1 dX1_know_11 ?_
  refine x_iconst 0 dX1_know_12 ?_
  refine x_iastore dX1_know_13 rfl (by unfold vp_in; decide) ?_
  refine x_aload_n dX1_know_14 rfl ?_
  refine gf_X1_9 dX1_know_15 rfl rfl ?_
  refine x_iconst 2 dX1_know_18 ?_
  refine x_aload_n dX1_know_19 rfl ?_
  refine gf_X1_20 dX1_know_20 rfl rfl ?_
  refine x_iastore dX1_know_23 rfl (by unfold vp_in; decide) ?_
  refine x_aload_n dX1_know_24 rfl ?_
  refine gf_X1_9 dX1_know_25 rfl rfl ?_
  refine x_iconst 3 dX1_know_28 ?_
  refine x_aload_n dX1_know_29 rfl ?_
  refine gf_X1_26 dX1_know_30 rfl rfl ?_
  refine x_iload_n dX1_know_33 rfl ?_
  refine x_ialoadN dX1_know_34 rfl hp (by decide) ?_
  refine x_iastore dX1_know_35 rfl (by unfold vp_in; decide) ?_
  refine x_aload_n dX1_know_36 rfl ?_
  refine gf_X1_9 dX1_know_37 rfl rfl ?_
  refine x_iconst 4 dX1_know_40 ?_
  refine x_iconst 0 dX1_know_41 ?_
  refine x_iastore dX1_know_42 rfl (by unfold vp_in; decide) ?_
  refine x_aload_n dX1_know_43 rfl ?_
  refine gf_X1_9 dX1_know_44 rfl rfl ?_
  refine x_iconst 5 dX1_know_47 ?_
  refine x_iconst 0 dX1_know_48 ?_
  refine x_iastore dX1_know_49 rfl (by unfold vp_in; decide) ?_
  exact Ex.ret (v := none) ⟨rfl, dX1_know_50⟩ ⟨rfl, rfl⟩
set_option maxRecDepth 100000 in
set_option maxHeartbeats 4000000 in
theorem c_X1_knowHour_t {X : Nat × (Nat → Int32)} {S : CS} {tl : pc_W} {h : Nat} (hh : h < 8): Mt X 1 0 0 yX1_knowHour cX1_knowHour 3 none [.ref 21, .ref 11, .int (nI h)] (cst S ++ tl) (RV (cst (u_nm S (kn2 (s_nm S) (s_tho S) h)) ++ tl)) := by
  refine Mt.of (by decide +kernel) (fun _ _ => Nat.le_of_ble_eq_true rfl) ?_
  show Ex X mX1_knowHour _ _ _ _ _ _ _ _
  refine x_aload_n dX1_knowHour_0 rfl ?_
  refine gf_X1_9 dX1_knowHour_1 rfl rfl ?_
  refine x_iconst 0 dX1_knowHour_4 ?_
  refine x_aload_n dX1_knowHour_5 rfl ?_
  refine gf_X1_29 dX1_knowHour_6 rfl rfl ?_
  refine x_iload_n dX1_knowHour_9 rfl ?_
  refine x_ialoadN dX1_knowHour_10 rfl hh (by decide) ?_
  refine x_iastore dX1_knowHour_11 rfl (by unfold vp_in; decide) ?_
  refine x_aload_n dX1_knowHour_12 rfl ?_
  refine gf_X1_9 dX1_knowHour_13 rfl rfl ?_
  refine x_iconst 1 dX1_knowHour_16 ?_
  refine x_iload_n dX1_knowHour_17 rfl ?_
  refine x_iastore dX1_knowHour_18 rfl (by unfold vp_in; decide) ?_
  refine x_aload_n dX1_knowHour_19 rfl ?_
  refine gf_X1_9 dX1_knowHour_20 rfl rfl ?_
  refine x_iconst 4 dX1_knowHour_23 ?_
  refine x_aload_n dX1_knowHour_24 rfl ?_
  refine x_iload_n dX1_knowHour_25 rfl ?_
  refine Ex.eqW (w' := cst (u_nm S (upd (upd (s_nm S) 0 (o_we (s_tho S) h)) 1 (nI h))) ++ tl) rfl ?_
  refine ii_X1_32 dX1_knowHour_26 (c_X3_mendedAt_t) rfl (by decide) (Nat.le_of_ble_eq_true rfl) ?_
  refine x_iastore dX1_knowHour_29 rfl (by unfold vp_in; decide) ?_
  refine x_aload_n dX1_knowHour_30 rfl ?_
  refine gf_X1_9 dX1_knowHour_31 rfl rfl ?_
  refine x_iconst 5 dX1_knowHour_34 ?_
  refine x_aload_n dX1_knowHour_35 rfl ?_
  refine x_iload_n dX1_knowHour_36 rfl ?_
  refine Ex.eqW (w' := cst (u_nm S (upd (upd (upd (s_nm S) 0 (o_we (s_tho S) h)) 1 (nI h)) 4 (o_mAt (s_tho S) (nI h)))) ++ tl) rfl ?_
  refine ii_X1_36 dX1_knowHour_37 (c_X3_weatherAhead_t (fun h0 => by rw [isub1 (by have := (nI_ltI (a := 0) (b := h) (by decide) (by omega)).mp (by rw [nI_0]; exact h0); omega)]; exact vin (by omega) (by decide))) rfl (by decide) (Nat.le_of_ble_eq_true rfl) ?_
  refine x_iastore dX1_knowHour_40 rfl (by unfold vp_in; decide) ?_
  exact Ex.ret (v := none) ⟨rfl, dX1_knowHour_41⟩ ⟨rfl, rfl⟩
theorem nm_in {t : Int32} (h : 200 ≤ t ∧ t ≤ 205) : vp_in (t - 200) 6 := by
  rw [vp_in_iff]
  obtain ⟨h1, h2⟩ := h
  rw [Int32.le_iff_toInt_le] at h1 h2
  have e1 : (200 : Int32).toInt = 200 := by decide
  have e2 : (205 : Int32).toInt = 205 := by decide
  rw [e1] at h1; rw [e2] at h2
  have e3 : (t - 200).toInt = t.toInt - 200 := by
    rw [Int32.toInt_sub, e1]
    exact Int.bmod_eq_of_le (by omega) (by omega)
  rw [e3]
  omega
set_option maxRecDepth 100000 in
set_option maxHeartbeats 4000000 in
theorem lp_valueOf {X : Nat × (Nat → Int32)} {S : CS} {tl : pc_W} {t cr er n pt b : Nat} {code ends : Nat → Int32} (hT : TCell S tl t cr er n code ends) (hn : n ≤ 160) (hb : b ≤ n) {r : Int32 × (Nat → Int32)} : ∀ (k i top : Nat) (sk : Nat → Int32), mrun (s_nm S) code k i top sk = r → i + k = b → top ≤ 160 → Ex X mX1_valueOf 2 (RI r.1 (cst (u_sk S r.2) ++ tl)) 0 0 20 [some (.ref 21), some (.ref t), some (.int (nI pt)), some (.int (nI top)), some (.int (nI b)), some (.int (nI i)), none, none] [] (cst (u_sk S sk) ++ tl) := by
  intro k
  induction k with
  | zero =>
    intro i top sk hr hi htop
    refine x_iload dX1_valueOf_20 rfl ?_
    refine x_iload dX1_valueOf_22 rfl ?_
    refine x_icmp_ge 202 dX1_valueOf_24 (fun _ => ?_) (fun hx => absurd (nI_le (by omega) (by omega)) hx)
    refine x_aload_n dX1_valueOf_202 rfl ?_
    refine gf_X1_15 dX1_valueOf_203 rfl rfl ?_
    refine x_iconst 0 dX1_valueOf_206 ?_
    refine x_iaload dX1_valueOf_207 rfl (by unfold vp_in; decide) ?_
    exact Ex.ret (v := some (.int _)) ⟨dX1_valueOf_208, _, rfl, rfl⟩ (by rw [← hr]; exact ⟨rfl, rfl⟩)
  | succ k ih =>
    intro i top sk hr hi htop
    have hT2 : TCell (u_sk S sk) tl t cr er n code ends := hT
    refine x_iload dX1_valueOf_20 rfl ?_
    refine x_iload dX1_valueOf_22 rfl ?_
    refine x_icmp_ge 202 dX1_valueOf_24 (fun hx => absurd hx (nI_ge (by omega) (by omega))) (fun _ => ?_)
    refine x_aload_n dX1_valueOf_27 rfl ?_
    refine gf_X1_44 dX1_valueOf_28 hT2.obj rfl ?_
    refine x_iload dX1_valueOf_31 rfl ?_
    refine x_ialoadN dX1_valueOf_33 hT2.code (by omega) (by omega) ?_
    refine x_ineg dX1_valueOf_34 ?_
    refine x_istore dX1_valueOf_35 (by decide) ?_
    refine x_iload dX1_valueOf_37 rfl ?_
    refine x_if_le 50 dX1_valueOf_39 (fun h_39 => ?_) (fun h_39 => ?_)
    · refine x_iload_n dX1_valueOf_50 rfl ?_
      refine x_aload_n dX1_valueOf_51 rfl ?_
      refine gf_X1_15 dX1_valueOf_52 rfl rfl ?_
      refine x_alenI (t := 0) 160 dX1_valueOf_55 rfl ?_ (by decide)
      refine x_icmp_lt 61 dX1_valueOf_56 (fun h_56 => ?_) (fun h_56 => ?_)
      · have ht : top < 160 := by rcases Nat.lt_or_ge top 160 with q | q; exact q; exact absurd h_56 (nI_nlt q (by omega))
        refine x_aload_n dX1_valueOf_61 rfl ?_
        refine gf_X1_15 dX1_valueOf_62 rfl rfl ?_
        refine x_iload_n dX1_valueOf_65 rfl ?_
        refine x_iload dX1_valueOf_66 rfl ?_
        refine x_if_gt 77 dX1_valueOf_68 (fun hx => absurd hx (Int32.not_lt.mpr h_39)) (fun _ => ?_)
        refine x_iload dX1_valueOf_71 rfl ?_
        refine x_ineg dX1_valueOf_73 ?_
        refine x_goto 88 dX1_valueOf_74 ?_
        refine x_iastoreN dX1_valueOf_88 rfl ht (by decide) ?_
        refine x_iincN dX1_valueOf_89 rfl (by decide) ?_
        refine x_goto 196 dX1_valueOf_92 ?_
        refine x_iincN dX1_valueOf_196 rfl (by decide) ?_
        refine x_goto 20 dX1_valueOf_199 ?_
        refine Ex.forget (L' := [some (.ref 21), some (.ref t), some (.int (nI pt)), some (.int (nI (top + 1))), some (.int (nI b)), some (.int (nI (i + 1))), none, none]) ⟨rfl, rfl, rfl, rfl, rfl, rfl, trivial⟩ ?_
        exact ih (i + 1) (top + 1) (upd sk top (-(-code i))) ((mrun_s (by unfold mstep; rw [if_pos (Or.inl h_39), if_neg (Nat.not_le.mpr ht), if_pos h_39])).symm.trans hr) (by omega) (by omega)
      · refine x_iconst 0 dX1_valueOf_59 ?_
        have ht : 160 ≤ top := by rcases Nat.lt_or_ge top 160 with q | q; exact absurd (nI_lt q (by decide)) h_56; exact q
        exact Ex.ret (v := some (.int _)) ⟨dX1_valueOf_60, _, rfl, rfl⟩ (by rw [← hr, mrun_n (by unfold mstep; rw [if_pos (Or.inl h_39), if_pos ht])]; exact ⟨rfl, rfl⟩)
    · refine x_iload dX1_valueOf_42 rfl ?_
      refine ii_X1_47 dX1_valueOf_44 c_X8_isName (by decide) (Nat.le_of_ble_eq_true rfl) ?_
      refine x_if_eq 95 dX1_valueOf_47 (fun h_47 => ?_) (fun h_47 => ?_)
      · refine x_iload dX1_valueOf_95 rfl ?_
        refine x_iconst 3 dX1_valueOf_97 ?_
        refine x_icmp_eq 109 dX1_valueOf_98 (fun h_98 => ?_) (fun h_98 => ?_)
        · refine x_iload_n dX1_valueOf_109 rfl ?_
          refine x_iconst 1 dX1_valueOf_110 ?_
          refine x_icmp_ge 116 dX1_valueOf_111 (fun h_111 => ?_) (fun h_111 => ?_)
          · have ht1 : 1 ≤ top := by rcases Nat.lt_or_ge top 1 with q | q; exact absurd h_111 (nI_ge (a := top) (b := 1) q (by decide)); exact q
            refine x_aload_n dX1_valueOf_116 rfl ?_
            refine gf_X1_15 dX1_valueOf_117 rfl rfl ?_
            refine x_iload_n dX1_valueOf_120 rfl ?_
            refine x_iconst 1 dX1_valueOf_121 ?_
            refine x_isub dX1_valueOf_122 ?_
            rw [isub1 (by omega)]
            refine x_ialoadN dX1_valueOf_123 rfl (by omega) (by decide) ?_
            refine x_istore dX1_valueOf_124 (by decide) ?_
            refine x_aload_n dX1_valueOf_126 rfl ?_
            refine gf_X1_15 dX1_valueOf_127 rfl rfl ?_
            refine x_iload_n dX1_valueOf_130 rfl ?_
            refine x_iconst 1 dX1_valueOf_131 ?_
            refine x_isub dX1_valueOf_132 ?_
            rw [isub1 (by omega)]
            refine x_iload dX1_valueOf_133 rfl ?_
            refine x_iconst 3 dX1_valueOf_135 ?_
            refine x_icmp_ne 145 dX1_valueOf_136 (fun hx => absurd h_98 hx) (fun _ => ?_)
            refine x_iload dX1_valueOf_139 rfl ?_
            refine x_ineg dX1_valueOf_141 ?_
            refine x_goto 155 dX1_valueOf_142 ?_
            refine x_iastoreN dX1_valueOf_155 rfl (by omega) (by decide) ?_
            refine x_goto 196 dX1_valueOf_156 ?_
            refine x_iincN dX1_valueOf_196 rfl (by decide) ?_
            refine x_goto 20 dX1_valueOf_199 ?_
            refine Ex.forget (L' := [some (.ref 21), some (.ref t), some (.int (nI pt)), some (.int (nI top)), some (.int (nI b)), some (.int (nI (i + 1))), none, none]) ⟨rfl, rfl, rfl, rfl, rfl, rfl, trivial⟩ ?_
            exact ih (i + 1) top (upd sk (top - 1) (-(sk (top - 1)))) ((mrun_s (by unfold mstep; rw [if_neg (by rintro (q | q); exact h_39 q; exact bi0.mp h_47 q), if_pos (Or.inl h_98), if_neg (Nat.not_lt.mpr ht1), if_pos h_98])).symm.trans hr) (by omega) (by omega)
          · refine x_iconst 0 dX1_valueOf_114 ?_
            have ht : top < 1 := by rcases Nat.lt_or_ge top 1 with q | q; exact q; exact absurd (nI_le (a := 1) (b := top) q (by omega)) h_111
            exact Ex.ret (v := some (.int _)) ⟨dX1_valueOf_115, _, rfl, rfl⟩ (by rw [← hr, mrun_n (by unfold mstep; rw [if_neg (by rintro (q | q); exact h_39 q; exact bi0.mp h_47 q), if_pos (Or.inl h_98), if_pos ht])]; exact ⟨rfl, rfl⟩)
        · refine x_iload dX1_valueOf_101 rfl ?_
          refine x_sipush 211 dX1_valueOf_103 ?_
          refine x_icmp_ne 159 dX1_valueOf_106 (fun h_106 => ?_) (fun h_106 => ?_)
          · refine x_iload_n dX1_valueOf_159 rfl ?_
            refine x_iconst 2 dX1_valueOf_160 ?_
            refine x_icmp_ge 166 dX1_valueOf_161 (fun h_161 => ?_) (fun h_161 => ?_)
            · have ht2 : 2 ≤ top := by rcases Nat.lt_or_ge top 2 with q | q; exact absurd h_161 (nI_ge (a := top) (b := 2) q (by decide)); exact q
              refine x_iinc (-1) dX1_valueOf_166 rfl (by decide) ?_
              rw [iadm1 (by omega)]
              refine x_aload_n dX1_valueOf_169 rfl ?_
              refine gf_X1_15 dX1_valueOf_170 rfl rfl ?_
              refine x_iload_n dX1_valueOf_173 rfl ?_
              refine x_iconst 1 dX1_valueOf_174 ?_
              refine x_isub dX1_valueOf_175 ?_
              rw [isub1 (by omega)]
              refine x_iload dX1_valueOf_176 rfl ?_
              refine x_aload_n dX1_valueOf_178 rfl ?_
              refine gf_X1_15 dX1_valueOf_179 rfl rfl ?_
              refine x_iload_n dX1_valueOf_182 rfl ?_
              refine x_iconst 1 dX1_valueOf_183 ?_
              refine x_isub dX1_valueOf_184 ?_
              rw [isub1 (by omega)]
              refine x_ialoadN dX1_valueOf_185 rfl (by omega) (by decide) ?_
              refine x_aload_n dX1_valueOf_186 rfl ?_
              refine gf_X1_15 dX1_valueOf_187 rfl rfl ?_
              refine x_iload_n dX1_valueOf_190 rfl ?_
              refine x_ialoadN dX1_valueOf_191 rfl (by omega) (by decide) ?_
              refine ii_X1_51 dX1_valueOf_192 c_X1_joined (by decide) (Nat.le_of_ble_eq_true rfl) ?_
              refine x_iastoreN dX1_valueOf_195 rfl (by omega) (by decide) ?_
              rw [show top - 1 - 1 = top - 2 from by omega]
              refine x_iincN dX1_valueOf_196 rfl (by decide) ?_
              refine x_goto 20 dX1_valueOf_199 ?_
              refine Ex.forget (L' := [some (.ref 21), some (.ref t), some (.int (nI pt)), some (.int (nI (top - 1))), some (.int (nI b)), some (.int (nI (i + 1))), none, none]) ⟨rfl, rfl, rfl, rfl, rfl, rfl, trivial⟩ ?_
              exact ih (i + 1) (top - 1) (upd sk (top - 2) (jn (-code i) (sk (top - 2)) (sk (top - 1)))) ((mrun_s (by unfold mstep; rw [if_neg (by rintro (q | q); exact h_39 q; exact bi0.mp h_47 q), if_neg (by rintro (q | q); exact h_98 q; exact h_106 q), if_neg (Nat.not_lt.mpr ht2)])).symm.trans hr) (by omega) (by omega)
            · refine x_iconst 0 dX1_valueOf_164 ?_
              have ht : top < 2 := by rcases Nat.lt_or_ge top 2 with q | q; exact q; exact absurd (nI_le (a := 2) (b := top) q (by omega)) h_161
              exact Ex.ret (v := some (.int _)) ⟨dX1_valueOf_165, _, rfl, rfl⟩ (by rw [← hr, mrun_n (by unfold mstep; rw [if_neg (by rintro (q | q); exact h_39 q; exact bi0.mp h_47 q), if_neg (by rintro (q | q); exact h_98 q; exact h_106 q), if_pos ht])]; exact ⟨rfl, rfl⟩)
          · refine x_iload_n dX1_valueOf_109 rfl ?_
            refine x_iconst 1 dX1_valueOf_110 ?_
            refine x_icmp_ge 116 dX1_valueOf_111 (fun h_111 => ?_) (fun h_111 => ?_)
            · have ht1 : 1 ≤ top := by rcases Nat.lt_or_ge top 1 with q | q; exact absurd h_111 (nI_ge (a := top) (b := 1) q (by decide)); exact q
              refine x_aload_n dX1_valueOf_116 rfl ?_
              refine gf_X1_15 dX1_valueOf_117 rfl rfl ?_
              refine x_iload_n dX1_valueOf_120 rfl ?_
              refine x_iconst 1 dX1_valueOf_121 ?_
              refine x_isub dX1_valueOf_122 ?_
              rw [isub1 (by omega)]
              refine x_ialoadN dX1_valueOf_123 rfl (by omega) (by decide) ?_
              refine x_istore dX1_valueOf_124 (by decide) ?_
              refine x_aload_n dX1_valueOf_126 rfl ?_
              refine gf_X1_15 dX1_valueOf_127 rfl rfl ?_
              refine x_iload_n dX1_valueOf_130 rfl ?_
              refine x_iconst 1 dX1_valueOf_131 ?_
              refine x_isub dX1_valueOf_132 ?_
              rw [isub1 (by omega)]
              refine x_iload dX1_valueOf_133 rfl ?_
              refine x_iconst 3 dX1_valueOf_135 ?_
              refine x_icmp_ne 145 dX1_valueOf_136 (fun _ => ?_) (fun hx => absurd hx h_98)
              refine x_iload dX1_valueOf_145 rfl ?_
              refine x_if_ne 154 dX1_valueOf_147 (fun h_147 => ?_) (fun h_147 => ?_)
              · refine x_iconst 0 dX1_valueOf_154 ?_
                refine x_iastoreN dX1_valueOf_155 rfl (by omega) (by decide) ?_
                rw [show ((0) : Int32) = bi (sk (top - 1) = 0) from ((bi_f h_147).symm)]
                refine x_goto 196 dX1_valueOf_156 ?_
                refine x_iincN dX1_valueOf_196 rfl (by decide) ?_
                refine x_goto 20 dX1_valueOf_199 ?_
                refine Ex.forget (L' := [some (.ref 21), some (.ref t), some (.int (nI pt)), some (.int (nI top)), some (.int (nI b)), some (.int (nI (i + 1))), none, none]) ⟨rfl, rfl, rfl, rfl, rfl, rfl, trivial⟩ ?_
                exact ih (i + 1) top (upd sk (top - 1) (bi (sk (top - 1) = 0))) ((mrun_s (by unfold mstep; rw [if_neg (by rintro (q | q); exact h_39 q; exact bi0.mp h_47 q), if_pos (Or.inr h_106), if_neg (Nat.not_lt.mpr ht1), if_neg h_98])).symm.trans hr) (by omega) (by omega)
              · refine x_iconst 1 dX1_valueOf_150 ?_
                refine x_goto 155 dX1_valueOf_151 ?_
                refine x_iastoreN dX1_valueOf_155 rfl (by omega) (by decide) ?_
                rw [show ((1) : Int32) = bi (sk (top - 1) = 0) from ((bi_t h_147).symm)]
                refine x_goto 196 dX1_valueOf_156 ?_
                refine x_iincN dX1_valueOf_196 rfl (by decide) ?_
                refine x_goto 20 dX1_valueOf_199 ?_
                refine Ex.forget (L' := [some (.ref 21), some (.ref t), some (.int (nI pt)), some (.int (nI top)), some (.int (nI b)), some (.int (nI (i + 1))), none, none]) ⟨rfl, rfl, rfl, rfl, rfl, rfl, trivial⟩ ?_
                exact ih (i + 1) top (upd sk (top - 1) (bi (sk (top - 1) = 0))) ((mrun_s (by unfold mstep; rw [if_neg (by rintro (q | q); exact h_39 q; exact bi0.mp h_47 q), if_pos (Or.inr h_106), if_neg (Nat.not_lt.mpr ht1), if_neg h_98])).symm.trans hr) (by omega) (by omega)
            · refine x_iconst 0 dX1_valueOf_114 ?_
              have ht : top < 1 := by rcases Nat.lt_or_ge top 1 with q | q; exact q; exact absurd (nI_le (a := 1) (b := top) q (by omega)) h_111
              exact Ex.ret (v := some (.int _)) ⟨dX1_valueOf_115, _, rfl, rfl⟩ (by rw [← hr, mrun_n (by unfold mstep; rw [if_neg (by rintro (q | q); exact h_39 q; exact bi0.mp h_47 q), if_pos (Or.inr h_106), if_pos ht])]; exact ⟨rfl, rfl⟩)
      · refine x_iload_n dX1_valueOf_50 rfl ?_
        refine x_aload_n dX1_valueOf_51 rfl ?_
        refine gf_X1_15 dX1_valueOf_52 rfl rfl ?_
        refine x_alenI (t := 0) 160 dX1_valueOf_55 rfl ?_ (by decide)
        refine x_icmp_lt 61 dX1_valueOf_56 (fun h_56 => ?_) (fun h_56 => ?_)
        · have ht : top < 160 := by rcases Nat.lt_or_ge top 160 with q | q; exact q; exact absurd h_56 (nI_nlt q (by omega))
          have hnm : vp_in (-code i - 200) 6 := by have q := bi1.mp h_47; exact nm_in q
          refine x_aload_n dX1_valueOf_61 rfl ?_
          refine gf_X1_15 dX1_valueOf_62 rfl rfl ?_
          refine x_iload_n dX1_valueOf_65 rfl ?_
          refine x_iload dX1_valueOf_66 rfl ?_
          refine x_if_gt 77 dX1_valueOf_68 (fun _ => ?_) (fun hx => absurd (Int32.not_le.mp h_39) hx)
          refine x_aload_n dX1_valueOf_77 rfl ?_
          refine gf_X1_9 dX1_valueOf_78 rfl rfl ?_
          refine x_iload dX1_valueOf_81 rfl ?_
          refine x_sipush 200 dX1_valueOf_83 ?_
          refine x_isub dX1_valueOf_86 ?_
          refine x_iaload dX1_valueOf_87 rfl hnm ?_
          refine x_iastoreN dX1_valueOf_88 rfl ht (by decide) ?_
          refine x_iincN dX1_valueOf_89 rfl (by decide) ?_
          refine x_goto 196 dX1_valueOf_92 ?_
          refine x_iincN dX1_valueOf_196 rfl (by decide) ?_
          refine x_goto 20 dX1_valueOf_199 ?_
          refine Ex.forget (L' := [some (.ref 21), some (.ref t), some (.int (nI pt)), some (.int (nI (top + 1))), some (.int (nI b)), some (.int (nI (i + 1))), none, none]) ⟨rfl, rfl, rfl, rfl, rfl, rfl, trivial⟩ ?_
          exact ih (i + 1) (top + 1) (upd sk top (s_nm S (-code i - 200).toNatClampNeg)) ((mrun_s (by unfold mstep; rw [if_pos (Or.inr (bi1.mp h_47)), if_neg (Nat.not_le.mpr ht), if_neg h_39])).symm.trans hr) (by omega) (by omega)
        · refine x_iconst 0 dX1_valueOf_59 ?_
          have ht : 160 ≤ top := by rcases Nat.lt_or_ge top 160 with q | q; exact absurd (nI_lt q (by decide)) h_56; exact q
          exact Ex.ret (v := some (.int _)) ⟨dX1_valueOf_60, _, rfl, rfl⟩ (by rw [← hr, mrun_n (by unfold mstep; rw [if_pos (Or.inr (bi1.mp h_47)), if_pos ht])]; exact ⟨rfl, rfl⟩)
set_option maxRecDepth 100000 in
set_option maxHeartbeats 4000000 in
theorem c_X1_valueOf {X : Nat × (Nat → Int32)} {S : CS} {tl : pc_W} {t cr er n pt a b : Nat} {code ends : Nat → Int32} (hT : TCell S tl t cr er n code ends) (hn : n ≤ 160) (hpt : pt < 3) (ha : ends pt = nI a) (hb2 : ends (pt + 1) = nI b) (hab : a ≤ b) (hb : b ≤ n): Mt X 2 0 0 yX1_valueOf cX1_valueOf 8 (some .int) [.ref 21, .ref t, .int (nI pt)] (cst S ++ tl) (RI (mrun (s_nm S) code (b - a) a 0 (s_sk S)).1 (cst (u_sk S (mrun (s_nm S) code (b - a) a 0 (s_sk S)).2) ++ tl)) := by
  refine Mt.of (by decide +kernel) (fun _ _ => Nat.le_of_ble_eq_true rfl) ?_
  show Ex X mX1_valueOf _ _ _ _ _ _ _ _
  refine x_iconst 0 dX1_valueOf_0 ?_
  refine x_istore_n dX1_valueOf_1 (by decide) ?_
  refine x_aload_n dX1_valueOf_2 rfl ?_
  refine gf_X1_39 dX1_valueOf_3 hT.obj rfl ?_
  refine x_iload_n dX1_valueOf_6 rfl ?_
  refine x_iconst 1 dX1_valueOf_7 ?_
  refine x_iadd dX1_valueOf_8 ?_
  rw [nI_1]
  refine x_ialoadN dX1_valueOf_9 hT.ends (by omega) (by decide) ?_
  rw [hb2]
  refine x_istore dX1_valueOf_10 (by decide) ?_
  refine x_aload_n dX1_valueOf_12 rfl ?_
  refine gf_X1_39 dX1_valueOf_13 hT.obj rfl ?_
  refine x_iload_n dX1_valueOf_16 rfl ?_
  refine x_ialoadN dX1_valueOf_17 hT.ends (by omega) (by decide) ?_
  rw [ha]
  refine x_istore dX1_valueOf_18 (by decide) ?_
  exact lp_valueOf hT hn hb (b - a) a 0 (s_sk S) rfl (by omega) (by decide)
