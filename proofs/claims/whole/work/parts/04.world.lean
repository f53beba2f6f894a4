/-! CORE: a judgement Ex over worlds by roles: a cell is named by its place in the list, strings and tables by .float numbers -/
abbrev pc_E : Type := (Nat × vp_A) ⊕ (Nat × List Value)
abbrev pc_W : Type := List pc_E
def pv (ad sa : Nat → Nat) (v : Value) : Value := match v with
  | .ref r => .ref (ad r)
  | .float k => .ref (sa k.toNat)
  | v => v
def pa (ad : Nat → Nat) (x : vp_A) : vp_A := match x with
  | (n, .inr (.inr (.inr (.inr f)))) => (n, .inr (.inr (.inr (.inr (fun k => (f k).map ad)))))
  | x => x
def pe (ty : Nat → ClassId) (ad sa : Nat → Nat) (c : pc_E) : va_E := match c with
  | .inl (t, x) => .inl (ty t, pa ad x)
  | .inr (ci, fs) => .inr (ci, fs.map (pv ad sa))
def pw (ty : Nat → ClassId) (ad sa : Nat → Nat) (w : pc_W) : va_W := w.mapIdx (fun i c => (ad i, pe ty ad sa c))
theorem pw_at (ty : Nat → ClassId) (ad sa : Nat → Nat) (w : pc_W) (r : Nat) : (pw ty ad sa w)[r]? = (w[r]?).map (fun c => (ad r, pe ty ad sa c)) := by
  unfold pw
  rw [List.getElem?_mapIdx]
theorem pw_get {ty : Nat → ClassId} {ad sa : Nat → Nat} {w : pc_W} {r : Nat} {c : pc_E} (h : w[r]? = some c) : (pw ty ad sa w)[r]? = some (ad r, pe ty ad sa c) := by
  rw [pw_at, h]; rfl
theorem pw_set {ty : Nat → ClassId} {ad sa : Nat → Nat} {w : pc_W} {r : Nat} (c : pc_E) : (pw ty ad sa w).set r (ad r, pe ty ad sa c) = pw ty ad sa (w.set r c) := by
  apply List.ext_getElem?
  intro i
  rw [List.getElem?_set, pw_at, pw_at, List.getElem?_set]
  have hl : (pw ty ad sa w).length = w.length := by unfold pw; exact List.length_mapIdx
  rw [hl]
  by_cases h : r = i
  · subst h
    by_cases h2 : r < w.length
    · simp [h2]
    · simp [h2]
  · simp [h]
/-- scopes: a role that is named stands in the list -/
def scv (n : Nat) (v : Value) : Prop := match v with
  | .ref r => r < n
  | _ => True
def scE (n : Nat) (c : pc_E) : Prop := match c with
  | .inl (_, (_, .inr (.inr (.inr (.inr f))))) => ∀ k r, f k = some r → r < n
  | .inl _ => True
  | .inr (_, fs) => ∀ v ∈ fs, scv n v
def scW (w : pc_W) : Prop := ∀ c ∈ w, scE w.length c
def scS (n : Nat) (st : List Value) : Prop := ∀ v ∈ st, scv n v
def scL (n : Nat) (L : List (Option Value)) : Prop := ∀ v, some v ∈ L → scv n v
theorem scv_mono {n m : Nat} (h : n ≤ m) {v : Value} (hv : scv n v) : scv m v := by
  cases v <;> first | trivial | exact Nat.lt_of_lt_of_le hv h
theorem scS_mono {n m : Nat} (h : n ≤ m) {st : List Value} (hv : scS n st) : scS m st := fun v hm => scv_mono h (hv v hm)
theorem scL_mono {n m : Nat} (h : n ≤ m) {L : List (Option Value)} (hv : scL n L) : scL m L := fun v hm => scv_mono h (hv v hm)
theorem scE_mono {n m : Nat} (h : n ≤ m) {c : pc_E} (hv : scE n c) : scE m c := by
  rcases c with ⟨t, k, f | f | f | f | f⟩ | ⟨ci, fs⟩
  · trivial
  · trivial
  · trivial
  · trivial
  · exact fun k r hk => Nat.lt_of_lt_of_le (hv k r hk) h
  · exact fun v hm => scv_mono h (hv v hm)
theorem scS_nil {n : Nat} : scS n [] := fun v h => by cases h
theorem scS_cons {n : Nat} {v : Value} {st : List Value} (h : scv n v) (h2 : scS n st) : scS n (v :: st) := fun u hu => by
  rcases List.mem_cons.mp hu with rfl | hu
  · exact h
  · exact h2 u hu
theorem scS_tail {n : Nat} {v : Value} {st : List Value} (h : scS n (v :: st)) : scS n st := fun u hu => h u (List.mem_cons_of_mem _ hu)
theorem scS_head {n : Nat} {v : Value} {st : List Value} (h : scS n (v :: st)) : scv n v := h v List.mem_cons_self
theorem pv_cong {n : Nat} {ad ad' sa : Nat → Nat} (h : ∀ i, i < n → ad' i = ad i) {v : Value} (hv : scv n v) : pv ad' sa v = pv ad sa v := by
  cases v <;> first | rfl | exact congrArg Value.ref (h _ hv)
theorem pvS_cong {n : Nat} {ad ad' sa : Nat → Nat} (h : ∀ i, i < n → ad' i = ad i) {st : List Value} (hv : scS n st) : st.map (pv ad' sa) = st.map (pv ad sa) :=
  List.map_congr_left fun v hm => pv_cong h (hv v hm)
theorem pe_cong {n : Nat} {ty : Nat → ClassId} {ad ad' sa : Nat → Nat} (h : ∀ i, i < n → ad' i = ad i) {c : pc_E} (hv : scE n c) : pe ty ad' sa c = pe ty ad sa c := by
  rcases c with ⟨t, k, f | f | f | f | f⟩ | ⟨ci, fs⟩
  · rfl
  · rfl
  · rfl
  · rfl
  · have e : (fun k => (f k).map ad') = (fun k => (f k).map ad) := by
      funext k
      cases hk : f k with
      | none => rfl
      | some r => exact congrArg some (h r (hv k r hk))
    exact congrArg (fun z => (Sum.inl (ty t, (k, Sum.inr (Sum.inr (Sum.inr (Sum.inr z))))) : va_E)) e
  · exact congrArg (fun z => (Sum.inr (ci, z) : va_E)) (List.map_congr_left fun v hm => pv_cong h (hv v hm))
theorem pw_push {ty : Nat → ClassId} {ad sa : Nat → Nat} {w : pc_W} {q : Nat} {c : pc_E} (hw : scW w) (hc : scE w.length c) : pw ty ad sa w ++ [(q, pe ty ad sa c)] = pw ty (va_up ad w.length q) sa (w ++ [c]) := by
  have hg : ∀ i, i < w.length → va_up ad w.length q i = ad i := fun i hi => va_up_ne _ _ (Nat.ne_of_lt hi)
  apply List.ext_getElem?
  intro i
  have hl : (pw ty ad sa w).length = w.length := by unfold pw; exact List.length_mapIdx
  rw [pw_at]
  by_cases h : i < w.length
  · rw [List.getElem?_append_left (by rw [hl]; exact h), List.getElem?_append_left h, pw_at, List.getElem?_eq_getElem h]
    show some (ad i, pe ty ad sa w[i]) = some (va_up ad w.length q i, pe ty (va_up ad w.length q) sa w[i])
    rw [hg i h, pe_cong hg (hw _ (List.getElem_mem h))]
  · rw [List.getElem?_append_right (by rw [hl]; omega), List.getElem?_append_right (by omega), hl]
    by_cases h2 : i = w.length
    · subst h2
      rw [Nat.sub_self]
      show some (q, pe ty ad sa c) = some (va_up ad w.length q w.length, pe ty (va_up ad w.length q) sa c)
      rw [va_up_self, pe_cong hg hc]
    · obtain ⟨k, hk⟩ : ∃ k, i - w.length = k + 1 := ⟨i - w.length - 1, by omega⟩
      rw [hk]
      simp
theorem scW_set {w : pc_W} {r : Nat} {c : pc_E} (hw : scW w) (hc : scE w.length c) : scW (w.set r c) := fun x hx => by
  rw [List.length_set]
  rcases List.mem_or_eq_of_mem_set hx with h | h
  · exact hw x h
  · rw [h]; exact hc
theorem scW_push {w : pc_W} {c : pc_E} (hw : scW w) (hc : scE (w.length + 1) c) : scW (w ++ [c]) := fun x hx => by
  rw [List.length_append]
  rcases List.mem_append.mp hx with h | h
  · exact scE_mono (Nat.le_add_right _ _) (hw x h)
  · rw [List.mem_singleton.mp h]; exact hc
theorem scW_at {w : pc_W} {r : Nat} {c : pc_E} (hw : scW w) (h : w[r]? = some c) : scE w.length c := hw c (List.mem_of_getElem? h)
/-- locals by their places -/
def lvp (ls : Array Slot) (nL : Nat) (ad sa : Nat → Nat) (L : List (Option Value)) : Prop := ls.size = nL ∧ lv_wf ls ∧ ∀ (i : Nat) (v : Value), L[i]? = some (some v) → ls[i]? = some (.val (pv ad sa v))
def lset (v : Value) (two : Bool) : Nat → List (Option Value) → List (Option Value)
  | _, [] => []
  | 0, _ :: t => some v :: (match two, t with
    | true, _ :: t' => none :: t'
    | _, t => t)
  | 1, o :: t => (match o with
    | some u => (match u.category with
      | 1 => some u
      | _ => none)
    | none => none) :: lset v two 0 t
  | i + 2, o :: t => o :: lset v two (i + 1) t
theorem lset_at (v : Value) (two : Bool) : ∀ (i : Nat) (L : List (Option Value)) (j : Nat) (u : Value), (lset v two i L)[j]? = some (some u) → (j = i ∧ u = v) ∨ (j ≠ i ∧ L[j]? = some (some u) ∧ (j + 1 = i → u.category = 1) ∧ (two = true → j ≠ i + 1))
  | 0, [], j, u, h => by simp [lset] at h
  | 1, [], j, u, h => by simp [lset] at h
  | i + 2, [], j, u, h => by simp [lset] at h
  | 0, o :: t, 0, u, h => by
    simp only [lset, List.getElem?_cons_zero, Option.some.injEq] at h
    exact Or.inl ⟨rfl, h.symm⟩
  | 0, o :: t, j + 1, u, h => by
    refine Or.inr ⟨by omega, ?_, fun h => by omega, ?_⟩
    · cases two with
      | false => simpa [lset] using h
      | true =>
        cases t with
        | nil => simp [lset] at h
        | cons o2 t2 =>
          cases j with
          | zero => simp [lset] at h
          | succ j => simpa [lset] using h
    · rintro rfl
      cases t with
      | nil => simp [lset] at h
      | cons o2 t2 =>
        cases j with
        | zero => simp [lset] at h
        | succ j => omega
  | 1, o :: t, 0, u, h => by
    refine Or.inr ⟨by omega, ?_, fun _ => ?_, fun _ => by omega⟩
    · cases o with
      | none => simp [lset] at h
      | some w =>
        rcases lv_cat w with hc | hc
        · simpa [lset, hc] using h
        · simp [lset, hc] at h
    · cases o with
      | none => simp [lset] at h
      | some w =>
        rcases lv_cat w with hc | hc
        · simp [lset, hc] at h
          rw [← h]; exact hc
        · simp [lset, hc] at h
  | 1, o :: t, j + 1, u, h => by
    have h1 : (lset v two 0 t)[j]? = some (some u) := by simpa [lset] using h
    rcases lset_at v two 0 t j u h1 with ⟨rfl, q⟩ | ⟨q1, q2, q3, q4⟩
    · exact Or.inl ⟨rfl, q⟩
    · exact Or.inr ⟨by omega, by simpa using q2, fun z => absurd z (by omega), fun z => by have := q4 z; omega⟩
  | i + 2, o :: t, 0, u, h => Or.inr ⟨by omega, by simpa [lset] using h, fun z => by omega, fun z => by omega⟩
  | i + 2, o :: t, j + 1, u, h => by
    have h1 : (lset v two (i + 1) t)[j]? = some (some u) := by simpa [lset] using h
    rcases lset_at v two (i + 1) t j u h1 with ⟨rfl, q⟩ | ⟨q1, q2, q3, q4⟩
    · exact Or.inl ⟨rfl, q⟩
    · exact Or.inr ⟨by omega, by simpa using q2, fun z => q3 (by omega), fun z => by have := q4 z; omega⟩
theorem pv_cat (ad sa : Nat → Nat) (v : Value) : (pv ad sa v).category = v.category := by cases v <;> rfl
/-- the kit's list of locals -/
def las (ad sa : Nat → Nat) (L : List (Option Value)) : List (Nat × Value) := L.zipIdx.filterMap (fun p => p.1.map fun v => (p.2, pv ad sa v))
theorem las_mem {ad sa : Nat → Nat} {L : List (Option Value)} {i : Nat} {u : Value} : (i, u) ∈ las ad sa L ↔ ∃ v, L[i]? = some (some v) ∧ u = pv ad sa v := by
  unfold las
  rw [List.mem_filterMap]
  constructor
  · rintro ⟨⟨o, k⟩, hm, he⟩
    have hk := List.mem_zipIdx_iff_getElem?.mp hm
    cases o with
    | none => simp at he
    | some v =>
      simp only [Option.map_some, Option.some.injEq, Prod.mk.injEq] at he
      obtain ⟨rfl, rfl⟩ := he
      exact ⟨v, hk, rfl⟩
  · rintro ⟨v, hv, rfl⟩
    exact ⟨(some v, i), List.mem_zipIdx_iff_getElem?.mpr hv, rfl⟩
theorem lvp_has {ls : Array Slot} {nL : Nat} {ad sa : Nat → Nat} {L : List (Option Value)} (h : lvp ls nL ad sa L) : lv_has ls nL (las ad sa L) :=
  ⟨h.1, h.2.1, fun q hq => by
    obtain ⟨i, u⟩ := q
    obtain ⟨v, hv, rfl⟩ := las_mem.mp hq
    exact h.2.2 i v hv⟩
theorem lvp_set1 {ls : Array Slot} {nL i : Nat} {ad sa : Nat → Nat} {L : List (Option Value)} {v : Value} (h : lv_has ls nL ((i, pv ad sa v) :: (las ad sa L).filter (fun q => !(q.1 == i) && !(q.1 + 1 == i && q.2.category == 2)))) : lvp ls nL ad sa (lset v false i L) := by
  refine ⟨h.1, h.2.1, fun j u hj => ?_⟩
  rcases lset_at v false i L j u hj with ⟨rfl, rfl⟩ | ⟨q1, q2, q3, -⟩
  · exact h.2.2 (j, pv ad sa u) List.mem_cons_self
  · refine h.2.2 (j, pv ad sa u) (List.mem_cons_of_mem _ (List.mem_filter.mpr ⟨las_mem.mpr ⟨u, q2, rfl⟩, ?_⟩))
    by_cases hji : j + 1 = i
    · simp [q1, hji, pv_cat, q3 hji]
    · simp [q1, hji]
theorem lvp_set2 {ls : Array Slot} {nL i : Nat} {ad sa : Nat → Nat} {L : List (Option Value)} {v : Value} (h : lv_has ls nL ((i, pv ad sa v) :: (las ad sa L).filter (fun q => !(q.1 == i) && (!(q.1 == i + 1) && !(q.1 + 1 == i && q.2.category == 2))))) : lvp ls nL ad sa (lset v true i L) := by
  refine ⟨h.1, h.2.1, fun j u hj => ?_⟩
  rcases lset_at v true i L j u hj with ⟨rfl, rfl⟩ | ⟨q1, q2, q3, q4⟩
  · exact h.2.2 (j, pv ad sa u) List.mem_cons_self
  · refine h.2.2 (j, pv ad sa u) (List.mem_cons_of_mem _ (List.mem_filter.mpr ⟨las_mem.mpr ⟨u, q2, rfl⟩, ?_⟩))
    have q5 := q4 rfl
    by_cases hji : j + 1 = i
    · simp [q1, hji, pv_cat, q3 hji]; omega
    · simp [q1, hji, q5]
theorem scL_set {n : Nat} {v : Value} {two : Bool} {i : Nat} {L : List (Option Value)} (hv : scv n v) (h : scL n L) : scL n (lset v two i L) := fun u hu => by
  obtain ⟨j, hj⟩ := List.getElem?_of_mem hu
  rcases lset_at v two i L j u hj with ⟨-, rfl⟩ | ⟨-, q2, -⟩
  · exact hv
  · exact h u (List.mem_of_getElem? q2)
theorem lvp_cong {n : Nat} {ls : Array Slot} {nL : Nat} {ad ad' sa : Nat → Nat} {L : List (Option Value)} (h : ∀ i, i < n → ad' i = ad i) (hL : scL n L) (hl : lvp ls nL ad sa L) : lvp ls nL ad' sa L :=
  ⟨hl.1, hl.2.1, fun i v hv => by rw [pv_cong h (hL v (List.mem_of_getElem? hv))]; exact hl.2.2 i v hv⟩
