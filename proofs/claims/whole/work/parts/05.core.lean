/-- the tables' words that outlive a step -/
def gw_tbl : List Cond := lw_tbl.filter goodWord
theorem gw_in {w : Cond} (h : w ∈ lw_tbl) (hg : goodWord w = true) : w ∈ gw_tbl := List.mem_filter.mpr ⟨h, hg⟩
theorem gw_at {w : Cond} (i : Nat) (h : lw_tbl[i]? = some w) (hg : goodWord w = true) : w ∈ gw_tbl := gw_in (List.mem_of_getElem? h) hg
theorem gw_lays {C : String} {T : u_T} {N : Nat} (h : ∀ w ∈ u_ws C T N, w ∈ lw_tbl) : ∀ w ∈ u_ws C T N, w ∈ gw_tbl := fun w hw => gw_in (h w hw) (by
  unfold u_ws at hw
  obtain ⟨k, -, rfl⟩ := List.mem_map.mp hw
  unfold u_lay
  by_cases hb : (T k).2.2.2 = true
  · rw [if_pos hb]; rfl
  · rw [if_neg hb]; rfl)
/-! what is there beside the world: strings, tables, words of nest mates, the script -/
def nestW : List Cond := [.methodLinkNest "RememberedAsSunny" 9 ⟨"RememberedAsSunny$Outing", "<init>", "()V"⟩ "RememberedAsSunny", .methodLinkNest "RememberedAsSunny" 28 ⟨"RememberedAsSunny$Parser", "<init>", "()V"⟩ "RememberedAsSunny", .methodLinkNest "RememberedAsSunny" 35 ⟨"RememberedAsSunny$Minds", "<init>", "()V"⟩ "RememberedAsSunny", .methodLinkNest "RememberedAsSunny$Minds" 23 ⟨"RememberedAsSunny$Machine", "<init>", "()V"⟩ "RememberedAsSunny", .methodLinkNest "RememberedAsSunny" 42 ⟨"RememberedAsSunny$Remedies", "<init>", "()V"⟩ "RememberedAsSunny", .methodLinkNest "RememberedAsSunny" 57 ⟨"RememberedAsSunny$Sheet", "<init>", "()V"⟩ "RememberedAsSunny", .methodLinkNest "RememberedAsSunny$Minds" 44 ⟨"RememberedAsSunny", "within", "(III)I"⟩ "RememberedAsSunny", .methodLinkNest "RememberedAsSunny$Outing" 55 ⟨"RememberedAsSunny", "within", "(III)I"⟩ "RememberedAsSunny", .fieldLinkNest "RememberedAsSunny$Outing" 49 "RememberedAsSunny" "LOWEST" "[I" "RememberedAsSunny", .fieldLinkNest "RememberedAsSunny$Outing" 52 "RememberedAsSunny" "HIGHEST" "[I" "RememberedAsSunny"]
theorem nestW_on : ∀ w ∈ nestW, w.onTables = true := by decide +kernel
def strTx (k : Nat) : String := match k with
  | 0 => "thinks weather + mended * 9 ; mends 10 - weather ; claims 20 + years ;"
  | 1 => "weather"
  | 2 => "hour"
  | 3 => "years"
  | 4 => "number"
  | 5 => "mended"
  | 6 => "last"
  | 7 => "thinks"
  | 8 => "mends"
  | 9 => "claims"
  | 10 => "or"
  | 11 => "and"
  | 12 => "not"
  | _ => ""
def strOwn (k : Nat) : String := match k with
  | 0 => "RememberedAsSunny"
  | _ => "RememberedAsSunny$Token"
def strIdx (k : Nat) : Nat := match k with
  | 0 => 58
  | k => 2 * k + 5
def strB (k : Nat) : List Int32 := (strTx k).toList.map (fun c => Int32.ofNat c.toNat)
def strLens : List Nat := (List.range 14).map (fun k => (strB k).length)
def strByts : List (List Int32) := (List.range 14).map strB
def tabLow (j : Nat) : Int32 := [0, -999, -99999, -9, 0, 0, 0].getD j 0
def tabHigh (j : Nat) : Int32 := [99, 999, 99999, 9, 1, 9, 99].getD j 0
def tabAbove (j : Nat) : Int32 := [-1, 0, 0, 1, 2, 0].getD j 0
/-- table k: its length, its items -/
def tabF (X : Nat × (Nat → Int32)) (k : Nat) : Nat × (Nat → Int32) := match k with
  | 100 => (7, tabLow)
  | 101 => (7, tabHigh)
  | 102 => (6, tabAbove)
  | _ => X
def Gb (X : Nat × (Nat → Int32)) (sa adV : Nat → Nat) (A : Nat → Prop) (U : State) (H : Heap) : Prop :=
  (∀ w ∈ nestW, va_Nw w U) ∧
  (va_Z "RememberedAsSunny" "LOWEST" "[I" (.ref (sa 100)) A U H ∧ va_Z "RememberedAsSunny" "HIGHEST" "[I" (.ref (sa 101)) A U H ∧ va_Z "RememberedAsSunny$Kinds" "ABOVE" "[I" (.ref (sa 102)) A U H) ∧
  (∀ k, k = 100 ∨ k = 101 ∨ k = 102 ∨ k = 200 → va_T .int (sa k) (tabF X k).1 (fun j => .int ((tabF X k).2 j)) A U H) ∧
  (vk_S 14 strLens strByts sa adV A U H ∧ ∀ k, k < 14 → vk_R (strOwn k) (strIdx k) (strTx k) (sa k) U ∧ adV k = sa (300 + k)) ∧
  va_Z "java/lang/String" "COMPACT_STRINGS" "Z" (.int 1) A U H ∧ (va_Z "jdk/internal/util/Preconditions" "SIOOBE_FORMATTER" "Ljava/util/function/BiFunction;" .null A U H ∨ va_Z "jdk/internal/util/Preconditions" "SIOOBE_FORMATTER" "Ljava/util/function/BiFunction;" (.ref (sa 400)) A U H) ∧ (va_AO "RememberedAsSunny$Text" U ∧ va_AO "RememberedAsSunny$Sheet" U)
theorem va_Nw_warm {w : Cond} (hw : w ∈ nestW) {s U : State} (hW : s.WarmedH U.vm) (h : va_Nw w s) : va_Nw w U := by
  simp only [nestW, List.mem_cons, List.not_mem_nil, or_false] at hw
  rcases hw with rfl | rfl | rfl | rfl | rfl | rfl | rfl | rfl | rfl | rfl
  · exact va_Nw.warmM hW h
  · exact va_Nw.warmM hW h
  · exact va_Nw.warmM hW h
  · exact va_Nw.warmM hW h
  · exact va_Nw.warmM hW h
  · exact va_Nw.warmM hW h
  · exact va_Nw.warmM hW h
  · exact va_Nw.warmM hW h
  · exact va_Nw.warmF hW h
  · exact va_Nw.warmF hW h
theorem Gb.warm {X : Nat × (Nat → Int32)} {sa adV : Nat → Nat} {A : Nat → Prop} {s U : State} {H : Heap} (hW : s.WarmedH U.vm) (h : Gb X sa adV A s H) : Gb X sa adV A U H := by
  obtain ⟨h1, ⟨h2, h3, h4⟩, h5, ⟨h6, h7⟩, h8, h9, ha1, ha2⟩ := h
  have hv := hW.alike
  exact ⟨fun w hw => va_Nw_warm hw hW (h1 w hw), ⟨h2.moved hv, h3.moved hv, h4.moved hv⟩, fun k hk => (h5 k hk).moved hv, ⟨h6.moved hv, fun k hk => ⟨(h7 k hk).1.warm hW, (h7 k hk).2⟩⟩, h8.moved hv, h9.imp (fun q => q.moved hv) (fun q => q.moved hv), ha1.moved hv, ha2.moved hv⟩
theorem Gb.same {X : Nat × (Nat → Int32)} {sa adV : Nat → Nat} {A : Nat → Prop} {s U : State} {H : Heap} (hv : U.vm = s.vm) (h : Gb X sa adV A s H) : Gb X sa adV A U H := by
  obtain ⟨h1, ⟨h2, h3, h4⟩, h5, ⟨h6, h7⟩, h8, h9, ha1, ha2⟩ := h
  have ha : s.vm.Alike U.vm := by rw [hv]; exact Vm.Alike.refl _
  exact ⟨fun w hw => va_Nw.same (nestW_on w hw) hv.symm (h1 w hw), ⟨h2.moved ha, h3.moved ha, h4.moved ha⟩, fun k hk => (h5 k hk).moved ha, ⟨h6.moved ha, fun k hk => ⟨(h7 k hk).1.same hv, (h7 k hk).2⟩⟩, h8.moved ha, h9.imp (fun q => q.moved ha) (fun q => q.moved ha), ha1.moved ha, ha2.moved ha⟩
theorem Gb.kept {X : Nat × (Nat → Int32)} {sa adV : Nat → Nat} {A : Nat → Prop} {U : State} {H H1 : Heap} (h : Gb X sa adV A U H) (hq : ∀ a : Nat, a < H.size → ¬ A a → H1[a]? = H[a]?) : Gb X sa adV A U H1 := by
  obtain ⟨h1, ⟨h2, h3, h4⟩, h5, ⟨h6, h7⟩, h8, h9, ha1, ha2⟩ := h
  exact ⟨h1, ⟨h2.kept hq, h3.kept hq, h4.kept hq⟩, fun k hk => (h5 k hk).kept hq, ⟨h6.kept hq, h7⟩, h8.kept hq, h9.imp (fun q => q.kept hq) (fun q => q.kept hq), ha1, ha2⟩
theorem Gb.narrow {X : Nat × (Nat → Int32)} {sa adV : Nat → Nat} {A B : Nat → Prop} {U : State} {H : Heap} (h : Gb X sa adV A U H) (hAB : ∀ q, B q → A q) : Gb X sa adV B U H := by
  obtain ⟨h1, ⟨h2, h3, h4⟩, h5, ⟨h6, h7⟩, h8, h9, ha1, ha2⟩ := h
  exact ⟨h1, ⟨h2.narrow hAB, h3.narrow hAB, h4.narrow hAB⟩, fun k hk => (h5 k hk).narrow hAB, ⟨h6.narrow hAB, h7⟩, h8.narrow hAB, h9.imp (fun q => q.narrow hAB) (fun q => q.narrow hAB), ha1, ha2⟩
/-! the judgement -/
abbrev tys4 (ty : Nat → ClassId) : List (ClassId × FieldType) := [(ty 0, .int), (ty 1, .boolean), (ty 2, .object "RememberedAsSunny$Text"), (ty 3, .object "RememberedAsSunny$Sheet")]
/-- a method's data: its class, its name, its code, its locals, what it answers -/
abbrev MI : Type := String × String × ByteArray × Nat × Option FieldType
/-- what stays while a world moves -/
def St (A : Nat → Prop) (D : va_G) (ty : Nat → ClassId) (sa ad0 : Nat → Nat) (n0 : Nat) (s : State) (w : pc_W) (ad : Nat → Nat) (H : Heap) (locs : List Loc) : Prop :=
  n0 ≤ w.length ∧ (∀ i, i < n0 → ad i = ad0 i) ∧ scW w ∧ va_P D vwCl (pw ty ad sa w) H ∧ va_D A (pw ty ad sa w) ∧ va_S A s.heap H locs
def rtOK (M : MI) (pc : Nat) (v : Option Value) : Prop := match v with
  | none => M.2.2.2.2 = none ∧ decode M.2.2.1 pc = .ok (.return_, 1)
  | some (.int x) => decode M.2.2.1 pc = .ok (.ireturn, 1) ∧ ∃ t, M.2.2.2.2 = some t ∧ narrow t (.int x) = .int x
  | some (.long _) => M.2.2.2.2 = some .long ∧ decode M.2.2.1 pc = .ok (.lreturn, 1)
  | some (.ref _) => decode M.2.2.1 pc = .ok (.areturn, 1) ∧ ∃ t, M.2.2.2.2 = some t ∧ ((∃ n, t = .object n) ∨ ∃ t', t = .array t')
  | some .null => decode M.2.2.1 pc = .ok (.areturn, 1) ∧ ∃ t, M.2.2.2.2 = some t ∧ ((∃ n, t = .object n) ∨ ∃ t', t = .array t')
  | some (.float _) => decode M.2.2.1 pc = .ok (.areturn, 1) ∧ ∃ t, M.2.2.2.2 = some t ∧ ((∃ n, t = .object n) ∨ ∃ t', t = .array t')
  | _ => False
def Cx (X : Nat × (Nat → Int32)) (M : MI) (d : Nat) (Ret : Option Value → pc_W → Prop) (p : Program) (l : Launch) (e : Env) (R : Room) (s : State) (m : MethodId) (args : Array Value) (below : List Frame) (meth : Method) (c : Code) (Q : State → Prop) (A : Nat → Prop) (D : va_G) (ty : Nat → ClassId) (sa adV ad0 : Nat → Nat) (n0 cm sm : Nat) : Prop :=
  p.tables.exec = Jvm.exec ∧ c.code = M.2.2.1 ∧ c.maxLocals = M.2.2.2.1 ∧ s.vm.findClass M.1 = some m.cls ∧ (∀ w ∈ gw_tbl, w.before args s = true) ∧ va_K D vwCl (tys4 ty) s ∧ Gb X sa adV A s s.heap ∧ (∀ q, s.heap.size ≤ q → A q) ∧ meth.name = M.2.1 ∧ d ≤ R.frames ∧ 64 * d ≤ R.locals ∧ cm ≤ R.cells ∧ sm ≤ R.slots ∧
  ∀ (pc : Nat) (v : Option Value) (w : pc_W) (ad : Nat → Nat) (H : Heap) (locs : List Loc) (cells slots : Nat) (ls : Array Slot), rtOK M pc v → Ret v w → St A D ty sa ad0 n0 s w ad H locs → scS w.length v.toList → cells ≤ cm → slots ≤ sm → W p l e R s m args below meth c H locs cells slots Q (F0 m pc ls (v.toList.map (pv ad sa)))
def Ex (X : Nat × (Nat → Int32)) (M : MI) (d : Nat) (Ret : Option Value → pc_W → Prop) (cb sb : Nat) (pc : Nat) (L : List (Option Value)) (st : List Value) (w : pc_W) : Prop :=
  ∀ (p : Program) (l : Launch) (e : Env) (R : Room) (s : State) (m : MethodId) (args : Array Value) (below : List Frame) (meth : Method) (c : Code) (Q : State → Prop) (A : Nat → Prop) (D : va_G) (ty : Nat → ClassId) (sa adV ad0 : Nat → Nat) (n0 cm sm : Nat),
  Cx X M d Ret p l e R s m args below meth c Q A D ty sa adV ad0 n0 cm sm →
  ∀ (ad : Nat → Nat) (H : Heap) (locs : List Loc) (cells slots : Nat) (ls : Array Slot),
    St A D ty sa ad0 n0 s w ad H locs → lvp ls M.2.2.2.1 ad sa L → scL w.length L → scS w.length st → cells + cb ≤ cm → slots + sb ≤ sm →
    W p l e R s m args below meth c H locs cells slots Q (F0 m pc ls (st.map (pv ad sa)))
section RULES
variable {X : Nat × (Nat → Int32)} {M : MI} {d : Nat} {Ret : Option Value → pc_W → Prop} {cb sb : Nat} {pc : Nat} {L : List (Option Value)} {st : List Value} {w : pc_W}
/-- the end -/
theorem Ex.ret {v : Option Value} (h : rtOK M pc v) (hR : Ret v w) : Ex X M d Ret cb sb pc L v.toList w := by
  intro p l e R s m args below meth c Q A D ty sa adV ad0 n0 cm sm hC ad H locs cells slots ls hS hl hL hs h1 h2
  obtain ⟨-, -, -, -, -, -, -, -, -, -, -, -, -, hf⟩ := hC
  exact hf pc v w ad H locs cells slots ls h hR hS hs (by omega) (by omega)
/-- one step that touches the stack alone -/
theorem Ex.one {pc' : Nat} {st' : List Value} (k : Ex X M d Ret cb sb pc' L st' w) (hsc : ∀ n, scS n st → scS n st')
    (hW : ∀ (p : Program) (l : Launch) (e : Env) (R : Room) (s : State) (m : MethodId) (args : Array Value) (below : List Frame) (meth : Method) (c : Code) (Q : State → Prop) (H : Heap) (locs : List Loc) (cells slots : Nat) (ls : Array Slot) (ad sa : Nat → Nat), p.tables.exec = Jvm.exec → c.code = M.2.2.1 → s.vm.findClass M.1 = some m.cls → (∀ w ∈ gw_tbl, w.before args s = true) → W p l e R s m args below meth c H locs cells slots Q (F0 m pc' ls (st'.map (pv ad sa))) → W p l e R s m args below meth c H locs cells slots Q (F0 m pc ls (st.map (pv ad sa)))) : Ex X M d Ret cb sb pc L st w := by
  intro p l e R s m args below meth c Q A D ty sa adV ad0 n0 cm sm hC ad H locs cells slots ls hS hl hL hs h1 h2
  have hC' := hC
  obtain ⟨hx, hb, -, hown, hts, -⟩ := hC'
  exact hW p l e R s m args below meth c Q H locs cells slots ls ad sa hx hb hown hts (k p l e R s m args below meth c Q A D ty sa adV ad0 n0 cm sm hC ad H locs cells slots ls hS hl hL (hsc _ hs) h1 h2)
/-- one step that goes two ways -/
theorem Ex.two {a : Prop} {pc' pc'' : Nat} {st' : List Value} (k1 : a → Ex X M d Ret cb sb pc' L st' w) (k2 : ¬ a → Ex X M d Ret cb sb pc'' L st' w) (hsc : ∀ n, scS n st → scS n st')
    (hW : ∀ (p : Program) (l : Launch) (e : Env) (R : Room) (s : State) (m : MethodId) (args : Array Value) (below : List Frame) (meth : Method) (c : Code) (Q : State → Prop) (H : Heap) (locs : List Loc) (cells slots : Nat) (ls : Array Slot) (ad sa : Nat → Nat), p.tables.exec = Jvm.exec → c.code = M.2.2.1 → (a → W p l e R s m args below meth c H locs cells slots Q (F0 m pc' ls (st'.map (pv ad sa)))) → (¬ a → W p l e R s m args below meth c H locs cells slots Q (F0 m pc'' ls (st'.map (pv ad sa)))) → W p l e R s m args below meth c H locs cells slots Q (F0 m pc ls (st.map (pv ad sa)))) : Ex X M d Ret cb sb pc L st w := by
  intro p l e R s m args below meth c Q A D ty sa adV ad0 n0 cm sm hC ad H locs cells slots ls hS hl hL hs h1 h2
  have hC' := hC
  obtain ⟨hx, hb, -⟩ := hC'
  exact hW p l e R s m args below meth c Q H locs cells slots ls ad sa hx hb (fun ha => k1 ha p l e R s m args below meth c Q A D ty sa adV ad0 n0 cm sm hC ad H locs cells slots ls hS hl hL (hsc _ hs) h1 h2) (fun ha => k2 ha p l e R s m args below meth c Q A D ty sa adV ad0 n0 cm sm hC ad H locs cells slots ls hS hl hL (hsc _ hs) h1 h2)
/-- a load of a local -/
theorem Ex.load {pc' i : Nat} {v : Value} (hL0 : L[i]? = some (some v)) (k : Ex X M d Ret cb sb pc' L (v :: st) w)
    (hW : ∀ (p : Program) (l : Launch) (e : Env) (R : Room) (s : State) (m : MethodId) (args : Array Value) (below : List Frame) (meth : Method) (c : Code) (Q : State → Prop) (H : Heap) (locs : List Loc) (cells slots : Nat) (ls : Array Slot) (ad sa : Nat → Nat), p.tables.exec = Jvm.exec → c.code = M.2.2.1 → ls[i]? = some (.val (pv ad sa v)) → W p l e R s m args below meth c H locs cells slots Q (F0 m pc' ls (pv ad sa v :: st.map (pv ad sa))) → W p l e R s m args below meth c H locs cells slots Q (F0 m pc ls (st.map (pv ad sa)))) : Ex X M d Ret cb sb pc L st w := by
  intro p l e R s m args below meth c Q A D ty sa adV ad0 n0 cm sm hC ad H locs cells slots ls hS hl hL hs h1 h2
  have hC' := hC
  obtain ⟨hx, hb, -⟩ := hC'
  exact hW p l e R s m args below meth c Q H locs cells slots ls ad sa hx hb (hl.2.2 i v hL0) (k p l e R s m args below meth c Q A D ty sa adV ad0 n0 cm sm hC ad H locs cells slots ls hS hl hL (scS_cons (hL v (List.mem_of_getElem? hL0)) hs) h1 h2)
/-- a store to a local of one word -/
theorem Ex.store1 {pc' i : Nat} {v : Value} (k : Ex X M d Ret cb sb pc' (lset v false i L) st w)
    (hW : ∀ (p : Program) (l : Launch) (e : Env) (R : Room) (s : State) (m : MethodId) (args : Array Value) (below : List Frame) (meth : Method) (c : Code) (Q : State → Prop) (H : Heap) (locs : List Loc) (cells slots : Nat) (ls : Array Slot) (ad sa : Nat → Nat), p.tables.exec = Jvm.exec → c.code = M.2.2.1 → lv_has ls M.2.2.2.1 (las ad sa L) → (∀ ls' : Array Slot, lv_has ls' M.2.2.2.1 ((i, pv ad sa v) :: (las ad sa L).filter (fun q => !(q.1 == i) && !(q.1 + 1 == i && q.2.category == 2))) → W p l e R s m args below meth c H locs cells slots Q (F0 m pc' ls' (st.map (pv ad sa)))) → W p l e R s m args below meth c H locs cells slots Q (F0 m pc ls (pv ad sa v :: st.map (pv ad sa)))) : Ex X M d Ret cb sb pc L (v :: st) w := by
  intro p l e R s m args below meth c Q A D ty sa adV ad0 n0 cm sm hC ad H locs cells slots ls hS hl hL hs h1 h2
  have hC' := hC
  obtain ⟨hx, hb, -⟩ := hC'
  exact hW p l e R s m args below meth c Q H locs cells slots ls ad sa hx hb (lvp_has hl) (fun ls' h => k p l e R s m args below meth c Q A D ty sa adV ad0 n0 cm sm hC ad H locs cells slots ls' hS (lvp_set1 h) (scL_set (scS_head hs) hL) (scS_tail hs) h1 h2)
theorem Ex.store2 {pc' i : Nat} {v : Value} (k : Ex X M d Ret cb sb pc' (lset v true i L) st w)
    (hW : ∀ (p : Program) (l : Launch) (e : Env) (R : Room) (s : State) (m : MethodId) (args : Array Value) (below : List Frame) (meth : Method) (c : Code) (Q : State → Prop) (H : Heap) (locs : List Loc) (cells slots : Nat) (ls : Array Slot) (ad sa : Nat → Nat), p.tables.exec = Jvm.exec → c.code = M.2.2.1 → lv_has ls M.2.2.2.1 (las ad sa L) → (∀ ls' : Array Slot, lv_has ls' M.2.2.2.1 ((i, pv ad sa v) :: (las ad sa L).filter (fun q => !(q.1 == i) && (!(q.1 == i + 1) && !(q.1 + 1 == i && q.2.category == 2)))) → W p l e R s m args below meth c H locs cells slots Q (F0 m pc' ls' (st.map (pv ad sa)))) → W p l e R s m args below meth c H locs cells slots Q (F0 m pc ls (pv ad sa v :: st.map (pv ad sa)))) : Ex X M d Ret cb sb pc L (v :: st) w := by
  intro p l e R s m args below meth c Q A D ty sa adV ad0 n0 cm sm hC ad H locs cells slots ls hS hl hL hs h1 h2
  have hC' := hC
  obtain ⟨hx, hb, -⟩ := hC'
  exact hW p l e R s m args below meth c Q H locs cells slots ls ad sa hx hb (lvp_has hl) (fun ls' h => k p l e R s m args below meth c Q A D ty sa adV ad0 n0 cm sm hC ad H locs cells slots ls' hS (lvp_set2 h) (scL_set (scS_head hs) hL) (scS_tail hs) h1 h2)
theorem Ex.iinc {i : Nat} {n : Int} {x v : Int32} (hd : decode M.2.2.1 pc = .ok (.iinc i n, 3)) (hL0 : L[i]? = some (some (.int x))) (hv : x + Int32.ofInt n = v) (hn : i < M.2.2.2.1) (k : Ex X M d Ret cb sb (pc + 3) (lset (.int v) false i L) st w) : Ex X M d Ret cb sb pc L st w := by
  intro p l e R s m args below meth c Q A D ty sa adV ad0 n0 cm sm hC ad H locs cells slots ls hS hl hL hs h1 h2
  have hC' := hC
  obtain ⟨hx, hb, -⟩ := hC'
  obtain ⟨kk, hkk⟩ := List.getElem?_of_mem (las_mem (ad := ad) (sa := sa) (i := i) (u := .int x) |>.mpr ⟨.int x, hL0, rfl⟩)
  exact lv_iinc hx hb hd (lvp_has hl) hkk hv hn rfl (fun ls' h => k p l e R s m args below meth c Q A D ty sa adV ad0 n0 cm sm hC ad H locs cells slots ls' hS (lvp_set1 (v := .int v) h) (scL_set trivial hL) hs h1 h2)
/-- one step that reads a cell of the world, or a table -/
theorem Ex.read {pc' : Nat} {st' : List Value} {v : Value} (k : Ex X M d Ret cb sb pc' L (v :: st') w) (hsc : ∀ n, scS n st → scS n st') (hv : scW w → scS w.length st → scv w.length v)
    (hW : ∀ (p : Program) (l : Launch) (e : Env) (R : Room) (s : State) (m : MethodId) (args : Array Value) (below : List Frame) (meth : Method) (c : Code) (Q : State → Prop) (A : Nat → Prop) (D : va_G) (ty : Nat → ClassId) (H : Heap) (locs : List Loc) (cells slots : Nat) (ls : Array Slot) (ad sa adV : Nat → Nat), p.tables.exec = Jvm.exec → c.code = M.2.2.1 → s.vm.findClass M.1 = some m.cls → (∀ w ∈ gw_tbl, w.before args s = true) → va_K D vwCl (tys4 ty) s → Gb X sa adV A s s.heap → va_P D vwCl (pw ty ad sa w) H → va_S A s.heap H locs → W p l e R s m args below meth c H locs cells slots Q (F0 m pc' ls (pv ad sa v :: st'.map (pv ad sa))) → W p l e R s m args below meth c H locs cells slots Q (F0 m pc ls (st.map (pv ad sa)))) : Ex X M d Ret cb sb pc L st w := by
  intro p l e R s m args below meth c Q A D ty sa adV ad0 n0 cm sm hC ad H locs cells slots ls hS hl hL hs h1 h2
  have hC' := hC
  obtain ⟨hx, hb, -, hown, hts, hK, hG, -⟩ := hC'
  exact hW p l e R s m args below meth c Q A D ty H locs cells slots ls ad sa adV hx hb hown hts hK hG hS.2.2.2.1 hS.2.2.2.2.2 (k p l e R s m args below meth c Q A D ty sa adV ad0 n0 cm sm hC ad H locs cells slots ls hS hl hL (scS_cons (hv hS.2.2.1 hs) (hsc _ hs)) h1 h2)
/-- one step that writes a cell of the world -/
theorem Ex.write {pc' r : Nat} {st' : List Value} {ce : pc_E} (k : Ex X M d Ret cb sb pc' L st' (w.set r ce)) (hsc : ∀ n, scS n st → scS n st') (hv : scW w → scS w.length st → scE w.length ce)
    (hW : ∀ (p : Program) (l : Launch) (e : Env) (R : Room) (s : State) (m : MethodId) (args : Array Value) (below : List Frame) (meth : Method) (c : Code) (Q : State → Prop) (A : Nat → Prop) (D : va_G) (ty : Nat → ClassId) (H : Heap) (locs : List Loc) (cells slots : Nat) (ls : Array Slot) (ad sa adV : Nat → Nat), p.tables.exec = Jvm.exec → c.code = M.2.2.1 → c.maxLocals = M.2.2.2.1 → ls.size = M.2.2.2.1 → d ≤ R.frames → 64 * d ≤ R.locals → meth.name = M.2.1 → s.vm.findClass M.1 = some m.cls → (∀ w ∈ gw_tbl, w.before args s = true) → va_K D vwCl (tys4 ty) s → va_P D vwCl (pw ty ad sa w) H → va_D A (pw ty ad sa w) → va_S A s.heap H locs → (∀ (H1 : Heap) (locs1 : List Loc), va_P D vwCl ((pw ty ad sa w).set r (ad r, pe ty ad sa ce)) H1 → va_D A ((pw ty ad sa w).set r (ad r, pe ty ad sa ce)) → va_S A s.heap H1 locs1 → W p l e R s m args below meth c H1 locs1 cells slots Q (F0 m pc' ls (st'.map (pv ad sa)))) → W p l e R s m args below meth c H locs cells slots Q (F0 m pc ls (st.map (pv ad sa)))) : Ex X M d Ret cb sb pc L st w := by
  intro p l e R s m args below meth c Q A D ty sa adV ad0 n0 cm sm hC ad H locs cells slots ls hS hl hL hs h1 h2
  have hC' := hC
  obtain ⟨hx, hb, hml, hown, hts, hK, hG, -, hmn, hfr, hlo, -⟩ := hC'
  obtain ⟨g1, g2, g3, g4, g5, g6⟩ := hS
  refine hW p l e R s m args below meth c Q A D ty H locs cells slots ls ad sa adV hx hb hml hl.1 hfr hlo hmn hown hts hK g4 g5 g6 (fun H1 locs1 q1 q2 q3 => ?_)
  rw [pw_set] at q1 q2
  have hlen : (w.set r ce).length = w.length := List.length_set
  exact k p l e R s m args below meth c Q A D ty sa adV ad0 n0 cm sm hC ad H1 locs1 cells slots ls ⟨by rw [hlen]; exact g1, g2, scW_set g3 (hv g3 hs), q1, q2, q3⟩ hl (by rw [hlen]; exact hL) (by rw [hlen]; exact hsc _ hs) h1 h2
/-- one step that makes a cell -/
theorem Ex.make {pc' : Nat} {st' : List Value} {ce : pc_E} {N : Nat} (k : Ex X M d Ret cb sb pc' L (.ref w.length :: st') (w ++ [ce])) (hsc : ∀ n, scS n st → scS n st') (hv : ∀ n, scE n ce)
    (hW : ∀ (p : Program) (l : Launch) (e : Env) (R : Room) (s : State) (m : MethodId) (args : Array Value) (below : List Frame) (meth : Method) (c : Code) (Q : State → Prop) (A : Nat → Prop) (D : va_G) (ty : Nat → ClassId) (H : Heap) (locs : List Loc) (cells slots : Nat) (ls : Array Slot) (ad sa adV : Nat → Nat), p.tables.exec = Jvm.exec → c.code = M.2.2.1 → s.vm.findClass M.1 = some m.cls → (∀ w ∈ gw_tbl, w.before args s = true) → va_K D vwCl (tys4 ty) s → Gb X sa adV A s s.heap → va_P D vwCl (pw ty ad sa w) H → va_D A (pw ty ad sa w) → va_S A s.heap H locs → (∀ q, s.heap.size ≤ q → A q) → cells + 1 ≤ R.cells → slots + N ≤ R.slots → (∀ (q : Nat) (H1 : Heap), va_P D vwCl (pw ty ad sa w ++ [(q, pe ty ad sa ce)]) H1 → va_D A (pw ty ad sa w ++ [(q, pe ty ad sa ce)]) → va_S A s.heap H1 locs → W p l e R s m args below meth c H1 locs (cells + 1) (slots + N) Q (F0 m pc' ls (.ref q :: st'.map (pv ad sa)))) → W p l e R s m args below meth c H locs cells slots Q (F0 m pc ls (st.map (pv ad sa)))) : Ex X M d Ret (cb + 1) (sb + N) pc L st w := by
  intro p l e R s m args below meth c Q A D ty sa adV ad0 n0 cm sm hC ad H locs cells slots ls hS hl hL hs h1 h2
  have hC' := hC
  obtain ⟨hx, hb, hml, hown, hts, hK, hG, hA, hmn, hfr, hlo, hcr, hsr, -⟩ := hC'
  obtain ⟨g1, g2, g3, g4, g5, g6⟩ := hS
  refine hW p l e R s m args below meth c Q A D ty H locs cells slots ls ad sa adV hx hb hown hts hK hG g4 g5 g6 hA (by omega) (by omega) (fun q H1 q1 q2 q3 => ?_)
  rw [pw_push g3 (hv _)] at q1 q2
  have hg : ∀ i, i < w.length → va_up ad w.length q i = ad i := fun i hi => va_up_ne _ _ (Nat.ne_of_lt hi)
  have hlen : (w ++ [ce]).length = w.length + 1 := by rw [List.length_append]; rfl
  have hk := k p l e R s m args below meth c Q A D ty sa adV ad0 n0 cm sm hC (va_up ad w.length q) H1 locs (cells + 1) (slots + N) ls ⟨by rw [hlen]; omega, fun i hi => (hg i (Nat.lt_of_lt_of_le hi g1)).trans (g2 i hi), scW_push g3 (hv _), q1, q2, q3⟩ (lvp_cong hg hL hl) (by rw [hlen]; exact scL_mono (Nat.le_succ _) hL) (by rw [hlen]; exact scS_cons (Nat.lt_succ_self _) (scS_mono (Nat.le_succ _) (hsc _ hs))) (by omega) (by omega)
  have e1 : (Value.ref w.length :: st').map (pv (va_up ad w.length q) sa) = .ref q :: st'.map (pv ad sa) := by
    show Value.ref (va_up ad w.length q w.length) :: _ = _
    rw [va_up_self, pvS_cong hg (hsc _ hs)]
  rw [e1] at hk
  exact hk
/-! contracts by roles -/
def rmD (d cm sm : Nat) : Room := { frames := d, cells := cm, slots := sm, locals := 64 * d }
def Pm (X : Nat × (Nat → Int32)) (D : va_G) (ty : Nat → ClassId) (sa adV ad0 : Nat → Nat) (sz : Nat) (as : List Value) (w0 : pc_W) : Array Value → State → Prop := va_Pc (as.map (pv ad0 sa)) (fun U => U.heap.size = sz ∧ va_P D vwCl (pw ty ad0 sa w0) U.heap ∧ va_K D vwCl (tys4 ty) U ∧ Gb X sa adV (va_A (pw ty ad0 sa w0) sz) U U.heap ∧ va_D (fun _ => True) (pw ty ad0 sa w0))
def Qm (D : va_G) (ty : Nat → ClassId) (sa ad0 : Nat → Nat) (sz : Nat) (w0 : pc_W) (Ret : Option Value → pc_W → Prop) : Array Value → State → Outcome → State → Prop := fun _ st oc t =>
  (∃ (v : Option Value) (w' : pc_W) (ad' : Nat → Nat), oc = .returned (v.map (pv ad' sa)) ∧ Ret v w' ∧ w0.length ≤ w'.length ∧ (∀ i, i < w0.length → ad' i = ad0 i) ∧ scW w' ∧ scS w'.length v.toList ∧ va_P D vwCl (pw ty ad' sa w') t.heap ∧ va_D (va_A (pw ty ad0 sa w0) sz) (pw ty ad' sa w')) ∧ va_F (va_A (pw ty ad0 sa w0) sz) st t
def Mt (X : Nat × (Nat → Int32)) (d cm sm : Nat) (y : MethodName) (bytes : ByteArray) (maxL : Nat) (ret : Option FieldType) (as : List Value) (w0 : pc_W) (Ret : Option Value → pc_W → Prop) : Prop :=
  scW w0 → scS w0.length as → ∀ (l : Launch) (D : va_G) (ty : Nat → ClassId) (sa adV ad0 : Nat → Nat) (sz : Nat), Met l y (.code y bytes maxL ret :: gw_tbl) (rmD d cm sm) (Pm X D ty sa adV ad0 sz as w0) (Qm D ty sa ad0 sz w0 Ret) cm sm (va_A (pw ty ad0 sa w0) sz)
theorem Mt.weaken {X : Nat × (Nat → Int32)} {d cm sm : Nat} {y : MethodName} {bytes : ByteArray} {maxL : Nat} {ret : Option FieldType} {as : List Value} {w0 : pc_W} {Ret Ret' : Option Value → pc_W → Prop} (h : Mt X d cm sm y bytes maxL ret as w0 Ret) (hR : ∀ v w, Ret v w → Ret' v w) : Mt X d cm sm y bytes maxL ret as w0 Ret' := by
  intro hw ha l D ty sa adV ad0 sz p e hp hf hk s m args below h1 h2 h3 h4
  obtain ⟨n, o, q1, q2, q3, ⟨⟨v, w', ad', g1, g2, g3⟩, hF⟩, hL⟩ := h hw ha l D ty sa adV ad0 sz p e hp hf hk s m args below h1 h2 h3 h4
  exact ⟨n, o, q1, q2, q3, ⟨⟨v, w', ad', g1, hR _ _ g2, g3⟩, hF⟩, hL⟩
/-- the locals at an entry -/
def lent : List Value → List (Option Value)
  | [] => []
  | v :: vs => (match v with
    | .long _ => some v :: none :: lent vs
    | .double _ => some v :: none :: lent vs
    | _ => some v :: lent vs)
def lpad (n : Nat) (as : List Value) : List (Option Value) := lent as ++ List.replicate (n - (lent as).length) none
theorem lent_args (ad sa : Nat → Nat) : ∀ (as : List Value) (k i : Nat) (v : Value), (lent as)[i]? = some (some v) → (k + i, pv ad sa v) ∈ lv_args k (as.map (pv ad sa))
  | [], k, i, v, h => by simp [lent] at h
  | a :: as, k, i, v, h => by
    by_cases ha : a.category = 2
    · have e : lent (a :: as) = some a :: none :: lent as := by
        cases a <;> first | rfl | (simp [Value.category] at ha)
      rw [e] at h
      match i, h with
      | 0, h =>
        simp only [List.getElem?_cons_zero, Option.some.injEq] at h
        subst h
        exact List.mem_cons_self
      | 1, h => simp at h
      | i + 2, h =>
        have h1 := lent_args ad sa as (k + 2) i v (by simpa using h)
        refine List.mem_cons_of_mem _ ?_
        rw [pv_cat, if_pos ha]
        rw [show k + (i + 2) = k + 2 + i by omega]
        exact h1
    · have e : lent (a :: as) = some a :: lent as := by
        cases a <;> first | rfl | (simp [Value.category] at ha)
      rw [e] at h
      match i, h with
      | 0, h =>
        simp only [List.getElem?_cons_zero, Option.some.injEq] at h
        subst h
        exact List.mem_cons_self
      | i + 1, h =>
        have h1 := lent_args ad sa as (k + 1) i v (by simpa using h)
        refine List.mem_cons_of_mem _ ?_
        rw [pv_cat, if_neg ha]
        rw [show k + (i + 1) = k + 1 + i by omega]
        exact h1
theorem lent_mem : ∀ (as : List Value) (v : Value), some v ∈ lent as → v ∈ as
  | [], v, h => by simp [lent] at h
  | a :: as, v, h => by
    have h1 : some v = some a ∨ some v ∈ lent as := by
      cases a <;> simp [lent] at h ⊢ <;> exact h
    rcases h1 with h1 | h1
    · cases h1; exact List.mem_cons_self
    · exact List.mem_cons_of_mem _ (lent_mem as v h1)
theorem lpad_at {n : Nat} {as : List Value} {i : Nat} {v : Value} (h : (lpad n as)[i]? = some (some v)) : (lent as)[i]? = some (some v) := by
  unfold lpad at h
  by_cases hi : i < (lent as).length
  · rwa [List.getElem?_append_left hi] at h
  · rw [List.getElem?_append_right (by omega)] at h
    have h2 := List.mem_of_getElem? h
    rw [List.mem_replicate] at h2
    cases h2.2
theorem pw_len (ty : Nat → ClassId) (ad sa : Nat → Nat) (w : pc_W) : (pw ty ad sa w).length = w.length := by unfold pw; exact List.length_mapIdx
/-- a contract out of a walk -/
theorem Mt.of {X : Nat × (Nat → Int32)} {d cm sm : Nat} {own mn desc : String} {bytes : ByteArray} {maxL : Nat} {ret : Option FieldType} {as : List Value} {w0 : pc_W} {Ret : Option Value → pc_W → Prop} (hy : plainName own = true) (hsz : ∀ ad sa, (lg_sl (as.map (pv ad sa))).length ≤ maxL)
    (h : Ex X (own, mn, bytes, maxL, ret) d Ret cm sm 0 (lpad maxL as) [] w0) : Mt X d cm sm ⟨own, mn, desc⟩ bytes maxL ret as w0 Ret := by
  intro hw0 has l D ty sa adV ad0 sz
  refine Met.ofW (cc := bytes) (maxL := maxL) (ret := ret) hy rfl ?_
  intro p e s m args below meth c s₁ B hml hv
  obtain ⟨rfl, hz, hP, hK, hG, hD0⟩ := hv
  have hts0 := atoms_spec (ws := Cond.code ⟨own, mn, desc⟩ bytes maxL ret :: gw_tbl) B.pre
  have hown : s.vm.findClass own = some m.cls := findClass_of_methodNamed B.named
  have hr := B.returns
  have hlocks := B.notSynchronized
  have hx := B.exec
  have hb := B.bytes
  have hmn : meth.name = mn := (name_of_methodNamed B.named B.method).1
  subst hz
  rw [lg_entry_eq]
  have hl := lv_entry (as.map (pv ad0 sa)) (n := maxL) (hsz ad0 sa)
  have hlp : lvp ((lg_sl (as.map (pv ad0 sa)) ++ List.replicate (maxL - (lg_sl (as.map (pv ad0 sa))).length) Slot.unset).toArray) maxL ad0 sa (lpad maxL as) :=
    ⟨hl.1, hl.2.1, fun i v hi => by
      have h1 := lent_args ad0 sa as 0 i v (lpad_at hi)
      rw [Nat.zero_add] at h1
      exact hl.2.2 _ h1⟩
  have hD : va_D (va_A (pw ty ad0 sa w0) s.heap.size) (pw ty ad0 sa w0) := hD0.self (sz := s.heap.size)
  refine h p l e (rmD d cm sm) s m _ below meth c _ (va_A (pw ty ad0 sa w0) s.heap.size) D ty sa adV ad0 w0.length cm sm
    ⟨hx, hb, hml, hown, fun w hw => hts0 w (List.mem_cons_of_mem _ hw), hK, hG, fun q hq => Or.inr hq, hmn, Nat.le_refl _, Nat.le_refl _, Nat.le_refl _, Nat.le_refl _, ?_⟩
    ad0 s.heap [] 0 0 _ ⟨Nat.le_refl _, fun _ _ => rfl, hw0, hP, hD, va_S.rf⟩ hlp (fun v hv => has v (lent_mem as v ?_)) scS_nil (by omega) (by omega)
  · intro pc v w ad H locs cells slots ls hrt hR hS hsv hc hs
    obtain ⟨g1, g2, g3, g4, g5, g6⟩ := hS
    refine W.widen hc hs ?_
    have hfin : ∀ (t : State) (o : Outcome), t.heap = H → o = .returned (v.map (pv ad sa)) → Qm D ty sa ad0 s.heap.size w0 Ret (as.map (pv ad0 sa)).toArray s o t := fun t o ht ho =>
      ⟨⟨v, w, ad, ho, hR, g1, g2, g3, hsv, by rw [ht]; exact g4, g5⟩, g6.F ht⟩
    cases v with
    | none => exact W.vret hx hb (hr.trans hrt.1) (fun t ht hW => hfin t _ ht rfl) g6.2.2 hrt.2
    | some v =>
      cases v with
      | int x =>
        obtain ⟨h1, t0, h2, h3⟩ := hrt
        exact W.zret hx hb (hr.trans h2) h3 (fun t ht hW => hfin t _ ht rfl) g6.2.2 h1
      | long x => exact W.lret hx hb (hr.trans hrt.1) (fun t ht hW => hfin t _ ht rfl) g6.2.2 hrt.2
      | ref x =>
        obtain ⟨h1, t0, h2, h3⟩ := hrt
        exact W.aret hx hb (hr.trans h2) h3 (Or.inr ⟨_, rfl⟩) (fun t ht hW => hfin t _ ht rfl) g6.2.2 h1
      | null =>
        obtain ⟨h1, t0, h2, h3⟩ := hrt
        exact W.aret hx hb (hr.trans h2) h3 (Or.inl rfl) (fun t ht hW => hfin t _ ht rfl) g6.2.2 h1
      | float x =>
        obtain ⟨h1, t0, h2, h3⟩ := hrt
        exact W.aret hx hb (hr.trans h2) h3 (Or.inr ⟨_, rfl⟩) (fun t ht hW => hfin t _ ht rfl) g6.2.2 h1
      | double x => exact hrt.elim
      | retAddr x => exact hrt.elim
  · obtain ⟨i, hi⟩ := List.getElem?_of_mem hv
    exact List.mem_of_getElem? (lpad_at hi)
/-- a call, whatever its kind -/
theorem Ex.callG {d' cm' sm' : Nat} {y : MethodName} {bytes : ByteArray} {maxL : Nat} {ret : Option FieldType} {as st' : List Value} {Ret' : Option Value → pc_W → Prop} (hMt : Mt X d' cm' sm' y bytes maxL ret as w Ret') (has : ∀ n, scS n st → scS n as ∧ scS n st')
    (hrun : ∀ (p : Program) (l : Launch) (e : Env) (R : Room) (s : State) (m : MethodId) (args : Array Value) (below : List Frame) (meth : Method) (c : Code) (A : Nat → Prop) (D : va_G) (ty : Nat → ClassId) (H : Heap) (locs : List Loc) (cells slots : Nat) (ls : Array Slot) (ad sa adV : Nat → Nat), CallFix p m c M.2.2.1 M.2.2.2.1 s args gw_tbl M.1 → ls.size = M.2.2.2.1 → va_K D vwCl (tys4 ty) s → Gb X sa adV A s s.heap → va_P D vwCl (pw ty ad sa w) H → va_S A s.heap H locs → d ≤ R.frames → 64 * d ≤ R.locals → cells + cm' ≤ R.cells → slots + sm' ≤ R.slots → Met l y (.code y bytes maxL ret :: gw_tbl) (rmD d' cm' sm') (Pm X D ty sa adV ad H.size as w) (Qm D ty sa ad H.size w Ret') cm' sm' (va_A (pw ty ad sa w) H.size) → PreS s H (Pm X D ty sa adV ad H.size as w) (as.map (pv ad sa)) →
      va_Run p l e R s m args below meth c H locs cells slots cm' sm' (F0 m pc ls (st.map (pv ad sa))) (st'.map (pv ad sa)) (Qm D ty sa ad H.size w Ret' (as.map (pv ad sa)).toArray) (va_A (pw ty ad sa w) H.size))
    (k : ∀ (v : Option Value) (w' : pc_W), Ret' v w' → w.length ≤ w'.length → Ex X M d Ret cb sb (pc + 3) L (v.toList ++ st') w') : Ex X M d Ret (cb + cm') (sb + sm') pc L st w := by
  intro p l e R s m args below meth c Q A D ty sa adV ad0 n0 cm sm hC ad H locs cells slots ls hS hl hL hs h1 h2
  have hC' := hC
  obtain ⟨hx, hb, hml, hown, hts, hK, hG, hA, hmn, hfr, hlo, hcr, hsr, -⟩ := hC'
  obtain ⟨g1, g2, g3, g4, g5, g6⟩ := hS
  have hF : ∀ q, va_A (pw ty ad sa w) H.size q → A q := by
    intro q hq
    rcases hq with ⟨k, e, hk⟩ | hq
    · exact g5.2 k (q, e) hk
    · exact hA q (Nat.le_trans g6.1 hq)
  have hGH : Gb X sa adV A s H := hG.kept g6.2.1
  have hMet := hMt g3 (has _ hs).1 l D ty sa adV ad H.size
  have hpre : PreS s H (Pm X D ty sa adV ad H.size as w) (as.map (pv ad sa)) := by
    refine ⟨fun a U g mk q => ?_, fun U hU hW => ?_⟩
    · obtain ⟨q0, q1, q2, q3, q4, q5⟩ := q
      exact ⟨q0, q1, q2, va_K.moved (u := U) (U := U.calling g mk a) (Vm.Alike.refl U.vm) q3, Gb.same (s := U) (U := U.calling g mk a) rfl q4, q5⟩
    · exact ⟨rfl, by rw [hU], by rw [hU]; exact g4, va_K.moved hW.alike hK, by rw [hU]; exact (hGH.narrow hF).warm hW, g5.weaken (fun _ _ _ _ => trivial)⟩
  have hr := hrun p l e R s m args below meth c A D ty H locs cells slots ls ad sa adV ⟨hx, hb, hml, hown, hts⟩ hl.1 hK hG g4 g6 hfr hlo (by omega) (by omega) hMet hpre
  intro T hT XT
  obtain ⟨v1, st₀, t, T', Ls, e0, X', hLs, e1, e2, ⟨⟨v, w', ad', q1, q2, q3, q4, q5, q6, q7, q8⟩, hz, hk⟩, stp⟩ := hr T hT XT
  cases q1
  rw [e0] at hz hk
  have hag : ∀ i, i < w.length → ad' i = ad i := q4
  have hSn : va_S A s.heap T'.heap (locs ++ Ls) := ⟨Nat.le_trans g6.1 (by rw [e1]; exact hz), fun q h1 h2 => by rw [e1, hk q (Nat.lt_of_lt_of_le h1 g6.1) (fun z => h2 (hF q z))]; exact g6.2.1 q h1 h2, fun q hq => by
      rcases List.mem_append.mp hq with h | h
      · exact g6.2.2 q h
      · exact hF _ (hLs q h)⟩
  have hst' : scS w'.length (v.toList ++ st') := fun u hu => by
    rcases List.mem_append.mp hu with h | h
    · exact q6 u h
    · exact scv_mono q3 ((has _ hs).2 u h)
  have hE := k v w' q2 q3 p l e R s m args below meth c Q A D ty sa adV ad0 n0 cm sm hC ad' T'.heap (locs ++ Ls) (cells + cm') (slots + sm') ls
    ⟨Nat.le_trans g1 q3, fun i hi => (hag i (Nat.lt_of_lt_of_le hi g1)).trans (g2 i hi), q5, by rw [e1]; exact q7, q8.weaken (fun k q _ h => hF q.1 h), hSn⟩ (lvp_cong hag hL hl) (scL_mono q3 hL) hst' (by omega) (by omega)
  have e3 : (v.toList ++ st').map (pv ad' sa) = (v.map (pv ad' sa)).toList ++ st'.map (pv ad sa) := by
    rw [List.map_append, pvS_cong hag (has _ hs).2]
    cases v <;> rfl
  rw [e3] at hE
  obtain ⟨t2, a1, b1⟩ := hE T' rfl X'
  exact ⟨t2, stp t2 a1, b1⟩
theorem cl_len : ∀ (ci : Nat) (q : vw_C), vwCl[ci]? = some q → True := fun _ _ _ => trivial
theorem tbl_good : gw_tbl.all goodWord = true := List.all_eq_true.mpr fun w h => (List.mem_filter.mp h).2
theorem tbl_in {y : MethodName} {bytes : ByteArray} {maxL : Nat} {ret : Option FieldType} (hc : Cond.code y bytes maxL ret ∈ gw_tbl) : GoodIn gw_tbl (Cond.code y bytes maxL ret :: gw_tbl) := fun w hw => by
  have hm : w ∈ gw_tbl := by
    rcases List.mem_cons.mp hw with rfl | h
    · exact hc
    · exact h
  exact ⟨hm, good_of_word (List.all_eq_true.mp tbl_good w hm)⟩
/-- the receiver, by its role -/
theorem recv_at {D : va_G} {ty : Nat → ClassId} {ad sa : Nat → Nat} {s : State} {H : Heap} {r ci : Nat} {fs : List Value} {q : vw_C} (hK : va_K D vwCl (tys4 ty) s) (hP : va_P D vwCl (pw ty ad sa w) H) (hq : w[r]? = some (.inr (ci, fs))) (hci : vwCl[ci]? = some q) : ∃ cell : Cell, H[ad r]? = some cell ∧ cell.vm.isStatics = false ∧ s.vm.findClass q.1 = some cell.cls :=
  va_recv hK hP hci (pw_get hq)
/-- invokevirtual -/
theorem Ex.callV {idx d' cm' sm' n ci r : Nat} {y : MethodName} {bytes : ByteArray} {maxL : Nat} {ret : Option FieldType} {As : List Value} {fs : List Value} {q : vw_C} {Ret' : Option Value → pc_W → Prop} (hd : decode M.2.2.1 pc = .ok (.invokevirtual idx, 3)) (hMt : Mt X d' cm' sm' y bytes maxL ret (.ref r :: As) w Ret')
    (hc : Cond.code y bytes maxL ret ∈ gw_tbl) (hlk : Cond.methodLink M.1 idx y ∈ gw_tbl) (hin : Cond.instanceMethod y ∈ gw_tbl) (hse : Cond.selects y.cls y y ∈ gw_tbl) (hini : Cond.initialized y.cls ∈ gw_tbl) (hy : y.cls ≠ "java/lang/invoke/MethodHandle" ∧ y.cls ≠ "java/lang/invoke/VarHandle" ∧ (parseMethodDescriptor y.desc).map (fun d => d.parameters.length) = some n) (hn : As.length = n)
    (hq : w[r]? = some (.inr (ci, fs))) (hci : vwCl[ci]? = some q) (hqc : q.1 = y.cls) (hroom : d' + 1 ≤ d ∧ maxL ≤ 45) (hcat : (st.map Value.category).sum ≤ 8)
    (k : ∀ (v : Option Value) (w' : pc_W), Ret' v w' → w.length ≤ w'.length → Ex X M d Ret cb sb (pc + 3) L (v.toList ++ st) w') : Ex X M d Ret (cb + cm') (sb + sm') pc L (As.reverse ++ .ref r :: st) w := by
  refine Ex.callG (as := .ref r :: As) (st' := st) hMt (fun n h => ⟨fun v hv => ?_, fun v hv => h v (List.mem_append_right _ (List.mem_cons_of_mem _ hv))⟩) ?_ k
  · rcases List.mem_cons.mp hv with rfl | hv
    · exact h _ (List.mem_append_right _ List.mem_cons_self)
    · exact h _ (List.mem_append_left _ (List.mem_reverse.mpr hv))
  · intro p l e R s m args below meth c A D ty H locs cells slots ls ad sa adV hfix hlz hK hG hP hS hfr hlo h1 h2 hMet hpre
    have hts := hfix.2.2.2.2
    refine va_runV (As := As.map (pv ad sa)) (n := n) (C := q.1) (nL := M.2.2.2.1) hfix hMet ⟨callB_of n hts (tbl_in hc) rfl rfl rfl (hts _ hini) (hts _ hlk) hy ⟨by show d' + 1 ≤ _; omega, by show 8 + (maxL + 11) + 64 * d' ≤ _; omega⟩, hts _ hin, by rw [hqc]; exact hts _ hse⟩ ⟨hpre.1, recv_at hK hP hq hci, hpre.2⟩ rfl (by rw [List.length_map]; exact hn) hlz ?_ ?_ hd ⟨h1, h2⟩
    · show (As.reverse ++ .ref r :: st).map (pv ad sa) = (As.map (pv ad sa)).reverse ++ .ref (ad r) :: st.map (pv ad sa)
      rw [List.map_append, List.map_reverse]
      rfl
    · refine lv_room ?_
      rw [List.map_map]
      have e : ((fun v : Value => v.category) ∘ pv ad sa) = Value.category := funext fun v => pv_cat ad sa v
      rw [e]; exact hcat
/-- invokestatic -/
theorem Ex.callS {idx d' cm' sm' n : Nat} {y : MethodName} {bytes : ByteArray} {maxL : Nat} {ret : Option FieldType} {As : List Value} {Ret' : Option Value → pc_W → Prop} (hd : decode M.2.2.1 pc = .ok (.invokestatic idx, 3)) (hMt : Mt X d' cm' sm' y bytes maxL ret As w Ret')
    (hc : Cond.code y bytes maxL ret ∈ gw_tbl) (hlk : Cond.methodLink M.1 idx y ∈ gw_tbl) (hin : Cond.static y ∈ gw_tbl) (hini : Cond.initialized y.cls ∈ gw_tbl) (hy : y.cls ≠ "java/lang/invoke/MethodHandle" ∧ y.cls ≠ "java/lang/invoke/VarHandle" ∧ (parseMethodDescriptor y.desc).map (fun d => d.parameters.length) = some n) (hn : As.length = n)
    (hroom : d' + 1 ≤ d ∧ maxL ≤ 45) (hcat : (st.map Value.category).sum ≤ 8)
    (k : ∀ (v : Option Value) (w' : pc_W), Ret' v w' → w.length ≤ w'.length → Ex X M d Ret cb sb (pc + 3) L (v.toList ++ st) w') : Ex X M d Ret (cb + cm') (sb + sm') pc L (As.reverse ++ st) w := by
  refine Ex.callG (as := As) (st' := st) hMt (fun n h => ⟨fun v hv => h _ (List.mem_append_left _ (List.mem_reverse.mpr hv)), fun v hv => h v (List.mem_append_right _ hv)⟩) ?_ k
  intro p l e R s m args below meth c A D ty H locs cells slots ls ad sa adV hfix hlz hK hG hP hS hfr hlo h1 h2 hMet hpre
  have hts := hfix.2.2.2.2
  refine va_runS (As := As.map (pv ad sa)) (n := n) (nL := M.2.2.2.1) hfix hMet ⟨callB_of n hts (tbl_in hc) rfl rfl rfl (hts _ hini) (hts _ hlk) hy ⟨by show d' + 1 ≤ _; omega, by show 8 + (maxL + 11) + 64 * d' ≤ _; omega⟩, hts _ hin⟩ hpre rfl (by rw [List.length_map]; exact hn) hlz ?_ ?_ hd ⟨h1, h2⟩
  · show (As.reverse ++ st).map (pv ad sa) = (As.map (pv ad sa)).reverse ++ st.map (pv ad sa)
    rw [List.map_append, List.map_reverse]
  · refine lv_room ?_
    rw [List.map_map]
    have e : ((fun v : Value => v.category) ∘ pv ad sa) = Value.category := funext fun v => pv_cat ad sa v
    rw [e]; exact hcat
/-- invokestatic of a private method of a nest mate -/
theorem Ex.callSN {idx d' cm' sm' n : Nat} {host : String} {y : MethodName} {bytes : ByteArray} {maxL : Nat} {ret : Option FieldType} {As : List Value} {Ret' : Option Value → pc_W → Prop} (hd : decode M.2.2.1 pc = .ok (.invokestatic idx, 3)) (hMt : Mt X d' cm' sm' y bytes maxL ret As w Ret')
    (hc : Cond.code y bytes maxL ret ∈ gw_tbl) (hlk : Cond.methodLinkNest M.1 idx y host ∈ nestW) (hin : Cond.static y ∈ gw_tbl) (hini : Cond.initialized y.cls ∈ gw_tbl) (hy : y.cls ≠ "java/lang/invoke/MethodHandle" ∧ y.cls ≠ "java/lang/invoke/VarHandle" ∧ (parseMethodDescriptor y.desc).map (fun d => d.parameters.length) = some n) (hn : As.length = n)
    (hroom : d' + 1 ≤ d ∧ maxL ≤ 45) (hcat : (st.map Value.category).sum ≤ 8)
    (k : ∀ (v : Option Value) (w' : pc_W), Ret' v w' → w.length ≤ w'.length → Ex X M d Ret cb sb (pc + 3) L (v.toList ++ st) w') : Ex X M d Ret (cb + cm') (sb + sm') pc L (As.reverse ++ st) w := by
  refine Ex.callG (as := As) (st' := st) hMt (fun n h => ⟨fun v hv => h _ (List.mem_append_left _ (List.mem_reverse.mpr hv)), fun v hv => h v (List.mem_append_right _ hv)⟩) ?_ k
  intro p l e R s m args below meth c A D ty H locs cells slots ls ad sa adV hfix hlz hK hG hP hS hfr hlo h1 h2 hMet hpre
  have hts := hfix.2.2.2.2
  refine va_runSN (As := As.map (pv ad sa)) (n := n) (nL := M.2.2.2.1) hfix hMet ⟨va_cnB (host := host) n hts (tbl_in hc) rfl rfl rfl (hG.1 _ hlk) (hts _ hini) hy ⟨by show d' + 1 ≤ _; omega, by show 8 + (maxL + 11) + 64 * d' ≤ _; omega⟩, hts _ hin, trivial⟩ hpre rfl (by rw [List.length_map]; exact hn) hlz ?_ ?_ hd ⟨h1, h2⟩
  · show (As.reverse ++ st).map (pv ad sa) = (As.map (pv ad sa)).reverse ++ st.map (pv ad sa)
    rw [List.map_append, List.map_reverse]
  · refine lv_room ?_
    rw [List.map_map]
    have e : ((fun v : Value => v.category) ∘ pv ad sa) = Value.category := funext fun v => pv_cat ad sa v
    rw [e]; exact hcat
/-- invokespecial of a constructor -/
theorem Ex.callI {idx d' cm' sm' n r : Nat} {y : MethodName} {bytes : ByteArray} {maxL : Nat} {As : List Value} {Ret' : Option Value → pc_W → Prop} (hd : decode M.2.2.1 pc = .ok (.invokespecial idx, 3)) (hMt : Mt X d' cm' sm' y bytes maxL none (.ref r :: As) w Ret')
    (hc : Cond.code y bytes maxL none ∈ gw_tbl) (hlk : Cond.methodLink M.1 idx y ∈ gw_tbl) (hin : Cond.instanceMethod y ∈ gw_tbl) (hini : Cond.initialized y.cls ∈ gw_tbl) (hy1 : y.name = "<init>") (hy : y.cls ≠ "java/lang/invoke/MethodHandle" ∧ y.cls ≠ "java/lang/invoke/VarHandle" ∧ (parseMethodDescriptor y.desc).map (fun d => d.parameters.length) = some n) (hn : As.length = n)
    (hroom : d' + 1 ≤ d ∧ maxL ≤ 45) (hcat : (st.map Value.category).sum ≤ 8)
    (k : ∀ (v : Option Value) (w' : pc_W), Ret' v w' → w.length ≤ w'.length → Ex X M d Ret cb sb (pc + 3) L (v.toList ++ st) w') : Ex X M d Ret (cb + cm') (sb + sm') pc L (As.reverse ++ .ref r :: st) w := by
  refine Ex.callG (as := .ref r :: As) (st' := st) hMt (fun n h => ⟨fun v hv => ?_, fun v hv => h v (List.mem_append_right _ (List.mem_cons_of_mem _ hv))⟩) ?_ k
  · rcases List.mem_cons.mp hv with rfl | hv
    · exact h _ (List.mem_append_right _ List.mem_cons_self)
    · exact h _ (List.mem_append_left _ (List.mem_reverse.mpr hv))
  · intro p l e R s m args below meth c A D ty H locs cells slots ls ad sa adV hfix hlz hK hG hP hS hfr hlo h1 h2 hMet hpre
    have hts := hfix.2.2.2.2
    refine va_runI (As := As.map (pv ad sa)) (n := n) (nL := M.2.2.2.1) (b := ad r) hfix hMet ⟨callB_of n hts (tbl_in hc) rfl rfl rfl (hts _ hini) (hts _ hlk) hy ⟨by show d' + 1 ≤ _; omega, by show 8 + (maxL + 11) + 64 * d' ≤ _; omega⟩, hy1, hts _ hin⟩ hpre rfl (by rw [List.length_map]; exact hn) hlz ?_ ?_ hd ⟨h1, h2⟩
    · show (As.reverse ++ .ref r :: st).map (pv ad sa) = (As.map (pv ad sa)).reverse ++ .ref (ad r) :: st.map (pv ad sa)
      rw [List.map_append, List.map_reverse]
      rfl
    · refine lv_room ?_
      rw [List.map_map]
      have e : ((fun v : Value => v.category) ∘ pv ad sa) = Value.category := funext fun v => pv_cat ad sa v
      rw [e]; exact hcat
theorem Ex.callIN {idx d' cm' sm' n r : Nat} {host : String} {y : MethodName} {bytes : ByteArray} {maxL : Nat} {As : List Value} {Ret' : Option Value → pc_W → Prop} (hd : decode M.2.2.1 pc = .ok (.invokespecial idx, 3)) (hMt : Mt X d' cm' sm' y bytes maxL none (.ref r :: As) w Ret')
    (hc : Cond.code y bytes maxL none ∈ gw_tbl) (hlk : Cond.methodLinkNest M.1 idx y host ∈ nestW) (hin : Cond.instanceMethod y ∈ gw_tbl) (hini : Cond.initialized y.cls ∈ gw_tbl) (hy1 : y.name = "<init>") (hy : y.cls ≠ "java/lang/invoke/MethodHandle" ∧ y.cls ≠ "java/lang/invoke/VarHandle" ∧ (parseMethodDescriptor y.desc).map (fun d => d.parameters.length) = some n) (hn : As.length = n)
    (hroom : d' + 1 ≤ d ∧ maxL ≤ 45) (hcat : (st.map Value.category).sum ≤ 8)
    (k : ∀ (v : Option Value) (w' : pc_W), Ret' v w' → w.length ≤ w'.length → Ex X M d Ret cb sb (pc + 3) L (v.toList ++ st) w') : Ex X M d Ret (cb + cm') (sb + sm') pc L (As.reverse ++ .ref r :: st) w := by
  refine Ex.callG (as := .ref r :: As) (st' := st) hMt (fun n h => ⟨fun v hv => ?_, fun v hv => h v (List.mem_append_right _ (List.mem_cons_of_mem _ hv))⟩) ?_ k
  · rcases List.mem_cons.mp hv with rfl | hv
    · exact h _ (List.mem_append_right _ List.mem_cons_self)
    · exact h _ (List.mem_append_left _ (List.mem_reverse.mpr hv))
  · intro p l e R s m args below meth c A D ty H locs cells slots ls ad sa adV hfix hlz hK hG hP hS hfr hlo h1 h2 hMet hpre
    have hts := hfix.2.2.2.2
    refine va_runIN (As := As.map (pv ad sa)) (n := n) (nL := M.2.2.2.1) (b := ad r) hfix hMet ⟨va_cnB (host := host) n hts (tbl_in hc) rfl rfl rfl (hG.1 _ hlk) (hts _ hini) hy ⟨by show d' + 1 ≤ _; omega, by show 8 + (maxL + 11) + 64 * d' ≤ _; omega⟩, hy1, hts _ hin⟩ hpre rfl (by rw [List.length_map]; exact hn) hlz ?_ ?_ hd ⟨h1, h2⟩
    · show (As.reverse ++ .ref r :: st).map (pv ad sa) = (As.map (pv ad sa)).reverse ++ .ref (ad r) :: st.map (pv ad sa)
      rw [List.map_append, List.map_reverse]
      rfl
    · refine lv_room ?_
      rw [List.map_map]
      have e : ((fun v : Value => v.category) ∘ pv ad sa) = Value.category := funext fun v => pv_cat ad sa v
      rw [e]; exact hcat
end RULES
