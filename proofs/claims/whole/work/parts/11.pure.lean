/-! PURE WORDS: bytes, what is looked at, scans, tokens; both the class and the reference are held against these -/
theorem g_top {g : Gl} {X : Cx} {q : Nat × Nat} {ws : va_W} {pc : Nat} {lv : List (Nat × Value)} {rest : List Value} {x y : Int32} (h : x = y) (k : G g X q ws pc lv (.int y :: rest)) : G g X q ws pc lv (.int x :: rest) := h ▸ k
theorem g_topl {g : Gl} {X : Cx} {q : Nat × Nat} {ws : va_W} {pc : Nat} {lv : List (Nat × Value)} {rest : List Value} {x y : Int64} (h : x = y) (k : G g X q ws pc lv (.long y :: rest)) : G g X q ws pc lv (.long x :: rest) := h ▸ k
theorem g_sub {g : Gl} {X : Cx} {q : Nat × Nat} {ws : va_W} {pc : Nat} {lv lv' : List (Nat × Value)} {st : List Value} (ks : List Nat) (h : lv_pick lv ks = lv') (k : G g X q ws pc lv' st) : G g X q ws pc lv st := by
  obtain ⟨p, l, e, R, s, m, args, below, meth, c, A, n9, Q⟩ := X
  intro H locs ls hP hD hS hl
  exact k H locs ls hP hD hS (lv_sub hl ks h)
theorem g_ws {g : Gl} {X : Cx} {q : Nat × Nat} {ws ws' : va_W} {pc : Nat} {lv : List (Nat × Value)} {st : List Value} (h : ws = ws') (k : G g X q ws' pc lv st) : G g X q ws pc lv st := h ▸ k
theorem k_lt {x y : Int32} {b : Int} (hy : y.toInt = b) (h : x < y) : x.toInt < b := by rw [← hy]; exact Int32.lt_iff_toInt_lt.mp h
theorem k_nlt {x y : Int32} {b : Int} (hy : y.toInt = b) (h : ¬ x < y) : b ≤ x.toInt := by rw [← hy]; exact Int.not_lt.mp (fun z => h (Int32.lt_iff_toInt_lt.mpr z))
theorem k_gt {x y : Int32} {b : Int} (hy : y.toInt = b) (h : y < x) : b < x.toInt := by rw [← hy]; exact Int32.lt_iff_toInt_lt.mp h
theorem k_ngt {x y : Int32} {b : Int} (hy : y.toInt = b) (h : ¬ y < x) : x.toInt ≤ b := by rw [← hy]; exact Int.not_lt.mp (fun z => h (Int32.lt_iff_toInt_lt.mpr z))
theorem k_le {x y : Int32} {b : Int} (hy : y.toInt = b) (h : x ≤ y) : x.toInt ≤ b := by rw [← hy]; exact Int32.le_iff_toInt_le.mp h
theorem k_nle {x y : Int32} {b : Int} (hy : y.toInt = b) (h : ¬ x ≤ y) : b < x.toInt := by rw [← hy]; exact Int.not_le.mp (fun z => h (Int32.le_iff_toInt_le.mpr z))
theorem k_ge {x y : Int32} {b : Int} (hy : y.toInt = b) (h : y ≤ x) : b ≤ x.toInt := by rw [← hy]; exact Int32.le_iff_toInt_le.mp h
theorem k_nge {x y : Int32} {b : Int} (hy : y.toInt = b) (h : ¬ y ≤ x) : x.toInt < b := by rw [← hy]; exact Int.not_le.mp (fun z => h (Int32.le_iff_toInt_le.mpr z))
theorem k_eq {x y : Int32} {b : Int} (hy : y.toInt = b) (h : x = y) : x.toInt = b := by rw [← hy, h]
theorem k_ne {x y : Int32} {b : Int} (hy : y.toInt = b) (h : ¬ x = y) : x.toInt ≠ b := by rw [← hy]; exact fun z => h (Int32.toInt_inj.mp z)
theorem k_of {x y : Int32} (h : x.toInt = y.toInt) : x = y := Int32.toInt_inj.mp h
def b01 (b : Bool) : Int32 := if b then 1 else 0
theorem b01_t {p : Prop} [Decidable p] (h : p) : b01 (decide p) = 1 := by simp [b01, h]
theorem b01_f {p : Prop} [Decidable p] (h : ¬ p) : b01 (decide p) = 0 := by simp [b01, h]
theorem b01_n (b : Bool) : narrow .boolean (.int (b01 b)) = .int (b01 b) := by cases b <;> decide
theorem b01_0 {b : Bool} : b01 b = 0 ↔ b = false := by cases b <;> decide
theorem b01_1 {b : Bool} : ¬ b01 b = 0 ↔ b = true := by cases b <;> decide
def bDig (x : Int32) : Bool := decide (48 ≤ x.toInt ∧ x.toInt ≤ 57)
def bLet (x : Int32) : Bool := decide ((97 ≤ x.toInt ∧ x.toInt ≤ 122) ∨ (65 ≤ x.toInt ∧ x.toInt ≤ 90) ∨ x.toInt = 95)
def bNam (x : Int32) : Bool := decide ((97 ≤ x.toInt ∧ x.toInt ≤ 122) ∨ (65 ≤ x.toInt ∧ x.toInt ≤ 90) ∨ x.toInt = 95 ∨ (48 ≤ x.toInt ∧ x.toInt ≤ 57))
def bBlk (x : Int32) : Bool := decide (x.toInt = 9 ∨ x.toInt = 10 ∨ x.toInt = 13 ∨ x.toInt = 32)
def bMay (x : Int32) : Bool := decide ((32 ≤ x.toInt ∧ x.toInt ≤ 126) ∨ x.toInt = 9 ∨ x.toInt = 10 ∨ x.toInt = 13)
theorem bDig_t {x : Int32} (h : bDig x = true) : 48 ≤ x.toInt ∧ x.toInt ≤ 57 := of_decide_eq_true h
theorem bDig_f {x : Int32} (h : bDig x = false) : ¬ (48 ≤ x.toInt ∧ x.toInt ≤ 57) := of_decide_eq_false h
theorem bLet_t {x : Int32} (h : bLet x = true) : (97 ≤ x.toInt ∧ x.toInt ≤ 122) ∨ (65 ≤ x.toInt ∧ x.toInt ≤ 90) ∨ x.toInt = 95 := of_decide_eq_true h
theorem bLet_f {x : Int32} (h : bLet x = false) : ¬ ((97 ≤ x.toInt ∧ x.toInt ≤ 122) ∨ (65 ≤ x.toInt ∧ x.toInt ≤ 90) ∨ x.toInt = 95) := of_decide_eq_false h
theorem bNam_t {x : Int32} (h : bNam x = true) : (97 ≤ x.toInt ∧ x.toInt ≤ 122) ∨ (65 ≤ x.toInt ∧ x.toInt ≤ 90) ∨ x.toInt = 95 ∨ (48 ≤ x.toInt ∧ x.toInt ≤ 57) := of_decide_eq_true h
theorem bNam_f {x : Int32} (h : bNam x = false) : ¬ ((97 ≤ x.toInt ∧ x.toInt ≤ 122) ∨ (65 ≤ x.toInt ∧ x.toInt ≤ 90) ∨ x.toInt = 95 ∨ (48 ≤ x.toInt ∧ x.toInt ≤ 57)) := of_decide_eq_false h
theorem bBlk_t {x : Int32} (h : bBlk x = true) : x.toInt = 9 ∨ x.toInt = 10 ∨ x.toInt = 13 ∨ x.toInt = 32 := of_decide_eq_true h
theorem bBlk_f {x : Int32} (h : bBlk x = false) : ¬ (x.toInt = 9 ∨ x.toInt = 10 ∨ x.toInt = 13 ∨ x.toInt = 32) := of_decide_eq_false h
theorem bMay_t {x : Int32} (h : bMay x = true) : (32 ≤ x.toInt ∧ x.toInt ≤ 126) ∨ x.toInt = 9 ∨ x.toInt = 10 ∨ x.toInt = 13 := of_decide_eq_true h
theorem bMay_f {x : Int32} (h : bMay x = false) : ¬ ((32 ≤ x.toInt ∧ x.toInt ≤ 126) ∨ x.toInt = 9 ∨ x.toInt = 10 ∨ x.toInt = 13) := of_decide_eq_false h
/-- the worth of a digit of sixteen, -1 of others -/
def hexv (x : Int32) : Int32 := if 48 ≤ x.toInt ∧ x.toInt ≤ 57 then x - 48 else if 97 ≤ x.toInt ∧ x.toInt ≤ 102 then x - 87 else if 65 ≤ x.toInt ∧ x.toInt ≤ 70 then x - 55 else -1
/-- what stands behind a backslash: its code, -1 if none -/
def escv (x : Int32) : Int32 := if x = 110 then 10 else if x = 48 then 0 else if x = 92 then 92 else if x = 39 then 39 else if x = 34 then 34 else -1
/-- the byte at a place of a text of N bytes, -1 outside -/
def look (tx : Nat → Int32) (N i : Nat) : Int32 := if i < N then tx i &&& 255 else -1
theorem look_out {tx : Nat → Int32} {N i : Nat} (h : N ≤ i) : look tx N i = -1 := if_neg (Nat.not_lt.mpr h)
theorem look_in {tx : Nat → Int32} {N i : Nat} (h : i < N) : look tx N i = tx i &&& 255 := if_pos h
theorem look_rng (tx : Nat → Int32) (N i : Nat) : (look tx N i).toInt = -1 ∧ N ≤ i ∨ 0 ≤ (look tx N i).toInt ∧ (look tx N i).toInt ≤ 255 ∧ i < N := by
  by_cases h : i < N
  · rw [look_in h]
    obtain ⟨j, hj, e⟩ := pk_andE (tx i) (m := 255) 8 (by decide)
    rw [e, nI_toInt (by omega)]
    omega
  · rw [look_out (Nat.not_lt.mp h)]
    exact Or.inl ⟨by decide, Nat.not_lt.mp h⟩
/-- the class's tokens: kinds, starts, sizes, lines, tells, count -/
abbrev TK : Type := (Nat → Int32) × (Nat → Int32) × (Nat → Int32) × (Nat → Int32) × (Nat → Int32) × Int32
/-- the class's cells -/
def tw (g : Gl) (a : Nat → Nat) (aT aX : Nat) (tr : Nat → Int32) (n fed : Int32) (tx : Nat → Int32) (m ln fa : Int32) (T : TK) : va_W :=
  [(a 0, .inr (0, [.ref aT, .int n, .int fed, .ref aX, .int m, .int ln, .int fa, .ref (a 3), .ref (a 4), .ref (a 5), .ref (a 6), .ref (a 7), .int T.2.2.2.2.2])), (aT, .inl (gB g, 16000, .inl tr)), (aX, .inl (gB g, 16000, .inl tx)), (a 3, .inl (gI g, 16000, .inl T.1)), (a 4, .inl (gI g, 16000, .inl T.2.1)), (a 5, .inl (gI g, 16000, .inl T.2.2.1)), (a 6, .inl (gI g, 16000, .inl T.2.2.2.1)), (a 7, .inl (gI g, 16000, .inl T.2.2.2.2.1))]
/-- the reference's cells: tray, trayed, fed, text, size, kinds, froms, tos, tokens, place -/
def mw (g : Gl) (b : Nat → Nat) (tr : Nat → Int32) (n fed : Int32) (tx : Nat → Int32) (m : Int32) (ks fs ts : Nat → Int32) (ct pl : Int32) : va_W :=
  [(b 0, .inr (1, [.ref (b 1), .int n, .int fed, .ref (b 2), .int m, .ref (b 3), .ref (b 4), .ref (b 5), .int ct, .int pl])), (b 1, .inl (gB g, 16000, .inl tr)), (b 2, .inl (gB g, 16000, .inl tx)), (b 3, .inl (gI g, 16000, .inl ks)), (b 4, .inl (gI g, 16000, .inl fs)), (b 5, .inl (gI g, 16000, .inl ts))]
