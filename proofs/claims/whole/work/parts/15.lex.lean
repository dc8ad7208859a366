/-! PURE: scans and the tokens -/
def sc (p : Nat → Bool) : Nat → Nat → Nat
  | 0, i => i
  | f + 1, i => if p i = true then sc p f (i + 1) else i
/-- the first place from i on, below N, where p fails (N if there is none) -/
def scan (p : Nat → Bool) (N i : Nat) : Nat := sc p (N - i) i
theorem scan_step {p : Nat → Bool} {N i : Nat} (h : i < N) (hp : p i = true) : scan p N i = scan p N (i + 1) := by
  unfold scan
  rw [show N - i = (N - (i + 1)) + 1 by omega, sc, if_pos hp]
theorem scan_stop {p : Nat → Bool} {N i : Nat} (hp : p i = false) : scan p N i = i := by
  unfold scan
  cases N - i with
  | zero => rfl
  | succ f => rw [sc, if_neg (by rw [hp]; decide)]
theorem scan_end {p : Nat → Bool} {N i : Nat} (h : N ≤ i) : scan p N i = i := by
  unfold scan
  rw [show N - i = 0 by omega, sc]
theorem sc_ge (p : Nat → Bool) : ∀ f i, i ≤ sc p f i
  | 0, i => Nat.le_refl i
  | f + 1, i => by
    rw [sc]
    split
    · exact Nat.le_trans (Nat.le_succ i) (sc_ge p f (i + 1))
    · exact Nat.le_refl i
theorem sc_le (p : Nat → Bool) : ∀ f i, sc p f i ≤ i + f
  | 0, i => Nat.le_refl i
  | f + 1, i => by
    rw [sc]
    split
    · have := sc_le p f (i + 1); omega
    · omega
theorem sc_all (p : Nat → Bool) : ∀ f i j, i ≤ j → j < sc p f i → p j = true
  | 0, i, j, h1, h2 => by rw [sc] at h2; omega
  | f + 1, i, j, h1, h2 => by
    rw [sc] at h2
    split at h2
    · rename_i hp
      by_cases e : i = j
      · rw [← e]; exact hp
      · exact sc_all p f (i + 1) j (by omega) h2
    · omega
theorem sc_at (p : Nat → Bool) : ∀ f i, sc p f i < i + f → p (sc p f i) = false
  | 0, i, h => by rw [sc] at h; omega
  | f + 1, i, h => by
    rw [sc] at h ⊢
    split
    · rename_i hp
      rw [if_pos hp] at h
      exact sc_at p f (i + 1) (by omega)
    · rename_i hp
      exact Bool.eq_false_iff.mpr hp
theorem scan_ge (p : Nat → Bool) (N i : Nat) : i ≤ scan p N i := sc_ge p _ i
theorem scan_le {p : Nat → Bool} {N i : Nat} (h : i ≤ N) : scan p N i ≤ N := by
  have := sc_le p (N - i) i
  unfold scan; omega
theorem scan_all {p : Nat → Bool} {N i j : Nat} (h1 : i ≤ j) (h2 : j < scan p N i) : p j = true := sc_all p _ i j h1 h2
theorem scan_at {p : Nat → Bool} {N i : Nat} (h : scan p N i < N) : p (scan p N i) = false := by
  by_cases hi : i ≤ N
  · exact sc_at p _ i (by unfold scan at h; omega)
  · have := scan_ge p N i; omega
/-- a token: kind, what it tells, the place behind it; none: a fault at its first byte -/
abbrev Tok : Type := Option (Int32 × Int32 × Nat)
def tkR (o : Tok) (i : Nat) : Int32 := match o with
  | none => nI i
  | some q => nI q.2.2
def tkF (o : Tok) (fa : Int32) (i : Nat) : Int32 := match o with
  | none => nI i
  | some _ => fa
def tkT (o : Tok) (T : TK) (c i : Nat) (ln : Int32) : TK := match o with
  | none => T
  | some q => tpush T c q.1 q.2.1 (nI i) (nI q.2.2 - nI i) ln
/-- the class's search of a word: the rest of the table, the word's number, how many letters agreed (-1: no more) -/
def wgo (L : Nat → Int32) (i z : Nat) : List Nat → Nat → Int32 → Int32
  | [], _, _ => -1
  | c :: r, w, ag => if c = 32 then (if ag = nI z then nI w else wgo L i z r (w + 1) 0) else if 0 ≤ ag.toInt ∧ ag.toInt < (z : Int) ∧ L (i + ag.toNatClampNeg) = nI c then wgo L i z r w (ag + 1) else wgo L i z r w (-1)
def wnum (L : Nat → Int32) (i z : Nat) : Int32 := wgo L i z wWd 0 0
def pNam (L : Nat → Int32) (j : Nat) : Bool := bNam (L j)
def pDig (L : Nat → Int32) (j : Nat) : Bool := bDig (L j)
def pHex (L : Nat → Int32) (j : Nat) : Bool := decide (0 ≤ (hexv (L j)).toInt)
def tokName (L : Nat → Int32) (N i : Nat) : Tok :=
  if 24 < scan (pNam L) N (i + 1) - i then none else if 0 ≤ (wnum L i (scan (pNam L) N (i + 1) - i)).toInt then some (4, wnum L i (scan (pNam L) N (i + 1) - i), scan (pNam L) N (i + 1)) else some (1, 0, scan (pNam L) N (i + 1))
/-- the worth of a digit -/
def dg (x : Int32) : Nat := (x.toInt - 48).toNat
/-- the worth of k digits from i on -/
def dval (L : Nat → Int32) (i : Nat) : Nat → Nat
  | 0 => 0
  | k + 1 => dval L i k * 10 + dg (L (i + k))
def tokDig (L : Nat → Int32) (N i : Nat) : Tok :=
  if 2147483647 < dval L i (scan (pDig L) N i - i) then none else some (2, nI (dval L i (scan (pDig L) N i - i)), scan (pDig L) N i)
/-- the worth of k digits of sixteen from i on, as an int -/
def hval (L : Nat → Int32) (i : Nat) : Nat → Int32
  | 0 => 0
  | k + 1 => (hval L i k <<< ((4 : Int32) &&& 31)) ||| hexv (L (i + k))
def tokHex (L : Nat → Int32) (N i : Nat) : Tok :=
  if 8 < scan (pHex L) N (i + 2) - i - 2 then none else some (2, hval L (i + 2) (scan (pHex L) N (i + 2) - (i + 2)), scan (pHex L) N (i + 2))
def tokQuo (L : Nat → Int32) (i : Nat) : Tok :=
  if cwd L (i + 1) 39 = 0 then none else if L (i + 1 + cwd L (i + 1) 39) = 39 then some (2, cat L (i + 1), i + 1 + cwd L (i + 1) 39 + 1) else none
def sgo (L : Nat → Int32) : Nat → Nat → Nat → Tok
  | 0, _, _ => none
  | f + 1, k, p => if L p = 34 then some (3, nI k, p + 1) else if cwd L p 34 = 0 then none else sgo L f (k + 1) (p + cwd L p 34)
def tokStr (L : Nat → Int32) (i : Nat) : Tok := sgo L 201 0 (i + 1)
def tokSgn (L : Nat → Int32) (i : Nat) : Tok :=
  if 0 ≤ (sg3 (L i) (L (i + 1)) (L (i + 2))).toInt then some (5, sg3 (L i) (L (i + 1)) (L (i + 2)), i + 3) else if 0 ≤ (sg2 (L i) (L (i + 1))).toInt then some (5, sg2 (L i) (L (i + 1)), i + 2) else if 0 ≤ (sg1 (L i)).toInt then some (5, sg1 (L i), i + 1) else none
def bHex (L : Nat → Int32) (i : Nat) : Bool := decide (L i = 48 ∧ L (i + 1) = 120 ∧ 0 ≤ (hexv (L (i + 2))).toInt)
/-- within a line's remark, a star's remark: goes on -/
def pLin (L : Nat → Int32) (j : Nat) : Bool := decide (¬ L j = 10) && bMay (L j)
def pStar (L : Nat → Int32) (j : Nat) : Bool := decide (¬ (L j = 42 ∧ L (j + 1) = 47)) && bMay (L j)
/-- how many bytes 10 among k bytes from i on -/
def cnt (L : Nat → Int32) (i : Nat) : Nat → Nat
  | 0 => 0
  | k + 1 => cnt L i k + if L (i + k) = 10 then 1 else 0
theorem cwd_le (L : Nat → Int32) (i : Nat) (q : Int32) : cwd L i q ≤ 2 := by
  unfold cwd
  repeat' split
  all_goals omega
theorem nI_subI {a b : Nat} (h : b ≤ a) : nI a - nI b = nI (a - b) := pk_sub h
