/-! reading texts: pure words. A reader's state: where the token at hand begins, where the next may, the token, the number, the fault, how many are open, how much code, the code -/
abbrev PS : Type := Nat × Nat × Int32 × Int32 × Int32 × Nat × Nat × (Nat → Int32)
abbrev g_pl (s : PS) : Nat := s.1
abbrev g_nx (s : PS) : Nat := s.2.1
abbrev g_to (s : PS) : Int32 := s.2.2.1
abbrev g_nu (s : PS) : Int32 := s.2.2.2.1
abbrev g_fa (s : PS) : Int32 := s.2.2.2.2.1
abbrev g_op (s : PS) : Nat := s.2.2.2.2.2.1
abbrev g_cz (s : PS) : Nat := s.2.2.2.2.2.2.1
abbrev g_co (s : PS) : Nat → Int32 := s.2.2.2.2.2.2.2
def qLt (c : Int32) : Bool := decide (97 ≤ c ∧ c ≤ 122)
def qDt (c : Int32) : Bool := decide (48 ≤ c ∧ c ≤ 57)
def qBk (c : Int32) : Bool := decide (c = 32 ∨ c = 10)
def qSn (c : Int32) : Bool := decide (c = 40 ∨ c = 41 ∨ c = 59 ∨ c = 43 ∨ c = 45 ∨ c = 42 ∨ c = 60 ∨ c = 61)
def spn (q : Int32 → Bool) (b : Nat → Int32) : Nat → Nat → Nat
  | 0, i => i
  | f + 1, i => if q (b i) = true then spn q b f (i + 1) else i
theorem spn_ge (q : Int32 → Bool) (b : Nat → Int32) : ∀ f i, i ≤ spn q b f i
  | 0, i => Nat.le_refl _
  | f + 1, i => by
    unfold spn
    split
    · exact Nat.le_trans (Nat.le_succ i) (spn_ge q b f (i + 1))
    · exact Nat.le_refl _
theorem spn_le (q : Int32 → Bool) (b : Nat → Int32) : ∀ f i, spn q b f i ≤ i + f
  | 0, i => Nat.le_refl _
  | f + 1, i => by
    unfold spn
    split
    · have := spn_le q b f (i + 1); omega
    · omega
theorem spn_all (q : Int32 → Bool) (b : Nat → Int32) : ∀ f i k, i ≤ k → k < spn q b f i → q (b k) = true
  | 0, i, k, h1, h2 => by unfold spn at h2; omega
  | f + 1, i, k, h1, h2 => by
    unfold spn at h2
    split at h2
    · rename_i hq
      by_cases hk : k = i
      · rw [hk]; exact hq
      · exact spn_all q b f (i + 1) k (by omega) h2
    · omega
theorem spn_end (q : Int32 → Bool) (b : Nat → Int32) : ∀ f i, spn q b f i < i + f → q (b (spn q b f i)) = false
  | 0, i, h => by unfold spn at h; omega
  | f + 1, i, h => by
    unfold spn at h ⊢
    split
    · rename_i hq
      rw [if_pos hq] at h
      exact spn_end q b f (i + 1) (by omega)
    · rename_i hq
      exact Bool.eq_false_iff.mpr hq
theorem spn_t {q : Int32 → Bool} {b : Nat → Int32} {n i : Nat} (h : i < n) (hq : q (b i) = true) : spn q b (n - i) i = spn q b (n - (i + 1)) (i + 1) := by
  obtain ⟨f, hf⟩ : ∃ f, n - i = f + 1 := ⟨n - i - 1, by omega⟩
  rw [hf, show n - (i + 1) = f by omega]
  exact if_pos hq
theorem spn_f {q : Int32 → Bool} {b : Nat → Int32} {n i : Nat} (hq : i < n → ¬ q (b i) = true) : spn q b (n - i) i = i := by
  by_cases h : i < n
  · obtain ⟨f, hf⟩ : ∃ f, n - i = f + 1 := ⟨n - i - 1, by omega⟩
    rw [hf]
    exact if_neg (hq h)
  · rw [show n - i = 0 by omega]; rfl
def nuv (b : Nat → Int32) : Nat → Nat → Int32 → Int32
  | 0, _, a => a
  | f + 1, i, a => nuv b f (i + 1) (a * 10 + b i - 48)
/-- a word, spelled -/
def spB (b : Nat → Int32) : List Int32 → Nat → Bool
  | [], _ => true
  | c :: l, i => decide (c = b i) && spB b l (i + 1)
def spW (b : Nat → Int32) (j e w : Nat) : Bool := decide (e - j = (strB (w - 199)).length) && spB b (strB (w - 199)) j
def wtk (b : Nat → Int32) (j e : Nat) : Nat → Nat → Int32
  | 0, _ => 2
  | f + 1, w => if spW b j e w = true then nI w else wtk b j e f (w + 1)
def rfu (s : PS) : PS := (g_pl s, g_nx s, 2, g_nu s, (if g_fa s = -1 then nI (g_pl s) else g_fa s), g_op s, g_cz s, g_co s)
def emt (c : Int32) (s : PS) : PS := if g_cz s < 160 then (g_pl s, g_nx s, g_to s, g_nu s, g_fa s, g_op s, g_cz s + 1, upd (g_co s) (g_cz s) c) else s
def adW (b : Nat → Int32) (s : PS) (j e : Nat) (w : Int32) : PS := if w = 2 then rfu (j, e, g_to s, g_nu s, g_fa s, g_op s, g_cz s, g_co s) else (j, e, w, g_nu s, g_fa s, g_op s, g_cz s, g_co s)
def adN (b : Nat → Int32) (s : PS) (j e : Nat) : PS := if 4 < e - j then rfu (j, e, g_to s, nuv b (e - j) j 0, g_fa s, g_op s, g_cz s, g_co s) else (j, e, 1, nuv b (e - j) j 0, g_fa s, g_op s, g_cz s, g_co s)
def ad1 (b : Nat → Int32) (n : Nat) (s : PS) (j : Nat) : PS :=
  if n ≤ j then (j, j, 0, g_nu s, g_fa s, g_op s, g_cz s, g_co s)
  else if qLt (b j) = true then adW b s j (spn qLt b (n - j) j) (wtk b j (spn qLt b (n - j) j) 12 200)
  else if qDt (b j) = true then adN b s j (spn qDt b (n - j) j)
  else if qSn (b j) = true then (j, j + 1, b j, g_nu s, g_fa s, g_op s, g_cz s, g_co s)
  else rfu (j, j, g_to s, g_nu s, g_fa s, g_op s, g_cz s, g_co s)
/-- the next token -/
def adv (b : Nat → Int32) (n : Nat) (s : PS) : PS := ad1 b n s (spn qBk b (n - g_nx s) (g_nx s))
def exc (b : Nat → Int32) (n : Nat) (t : Int32) (s : PS) : PS := if g_to s = t then adv b n s else rfu s
def inc1 (s : PS) : PS := (g_pl s, g_nx s, g_to s, g_nu s, g_fa s, g_op s + 1, g_cz s, g_co s)
def dec1 (s : PS) : PS := (g_pl s, g_nx s, g_to s, g_nu s, g_fa s, g_op s - 1, g_cz s, g_co s)
abbrev PF : Type := PS → PS
def sgl (b : Nat → Int32) (n : Nat) (iE iS : PF) (s : PS) : PS :=
  if g_to s = 1 then adv b n (emt (g_nu s) s)
  else if 200 ≤ g_to s ∧ g_to s ≤ 205 then adv b n (emt (-(g_to s)) s)
  else if g_to s = 45 then (if 5 ≤ g_op s then rfu s else emt (-3) (dec1 (iS (adv b n (inc1 s)))))
  else if g_to s = 40 then (if 5 ≤ g_op s then rfu s else exc b n 41 (dec1 (iE (adv b n (inc1 s)))))
  else rfu s
def lpG (b : Nat → Int32) (n : Nat) (q : Int32 → Bool) (bd : PF) : Nat → PS → PS
  | 0, s => s
  | f + 1, s => if q (g_to s) = true then lpG b n q bd f (emt (-(g_to s)) (bd (adv b n s))) else s
def qMu (t : Int32) : Bool := decide (t = 42)
def qPl (t : Int32) : Bool := decide (t = 43 ∨ t = 45)
def qAn (t : Int32) : Bool := decide (t = 210)
def qOr (t : Int32) : Bool := decide (t = 209)
def seq (b : Nat → Int32) (n : Nat) (q : Int32 → Bool) (bd : PF) (s : PS) : PS := lpG b n q bd 160 (bd s)
def cmp (b : Nat → Int32) (n : Nat) (sm : PF) (s : PS) : PS := if g_to s = 60 ∨ g_to s = 61 then emt (-(g_to s)) (sm (adv b n s)) else s
def ngt (b : Nat → Int32) (n : Nat) (sm iN : PF) (s : PS) : PS :=
  if g_to s = 211 then (if 5 ≤ g_op s then rfu s else emt (-211) (dec1 (iN (adv b n (inc1 s)))))
  else cmp b n sm (sm s)
abbrev PL : Type := PF × PF × PF
def lvS (b : Nat → Int32) (n : Nat) (p : PL) : PF := sgl b n p.1 p.2.2
def lvT (b : Nat → Int32) (n : Nat) (p : PL) : PF := seq b n qMu (lvS b n p)
def lvM (b : Nat → Int32) (n : Nat) (p : PL) : PF := seq b n qPl (lvT b n p)
def lvN (b : Nat → Int32) (n : Nat) (p : PL) : PF := ngt b n (lvM b n p) p.2.1
def lvJ (b : Nat → Int32) (n : Nat) (p : PL) : PF := seq b n qAn (lvN b n p)
def lvE (b : Nat → Int32) (n : Nat) (p : PL) : PF := seq b n qOr (lvJ b n p)
/-- what is read inside: with k + 1 levels left -/
def lev (b : Nat → Int32) (n : Nat) : Nat → PL
  | 0 => (rfu, rfu, rfu)
  | k + 1 => (lvE b n (lev b n k), lvN b n (lev b n k), lvS b n (lev b n k))
/-- one part of a text: its key, an E, a ; -/
def prE (b : Nat → Int32) (n : Nat) (key : Int32) (s : PS) : PS := lvE b n (lev b n 5) (exc b n key s)
def prP (b : Nat → Int32) (n : Nat) (key : Int32) (s : PS) : PS := exc b n 59 (prE b n key s)
def fin0 (s : PS) : PS := if g_to s = 0 then s else rfu s
/-- a text, from the state ahead of its first token -/
def ps1 (b : Nat → Int32) (n : Nat) (s : PS) : PS := prP b n (nI 206) (adv b n s)
def ps2 (b : Nat → Int32) (n : Nat) (s : PS) : PS := prP b n (nI 207) (ps1 b n s)
def ps3 (b : Nat → Int32) (n : Nat) (s : PS) : PS := prP b n (nI 208) (ps2 b n s)
def prs (b : Nat → Int32) (n : Nat) (s : PS) : PS := fin0 (ps3 b n s)
