/-! PURE: the two texts' words, what the reference makes of them -/
/-- the words of a text: first place, place behind -/
def kW0 : List (Nat × Nat) := [(1, 2), (3, 4), (5, 6), (7, 8), (9, 10), (11, 12), (13, 14), (15, 16), (17, 18), (19, 20), (21, 22), (23, 25), (26, 28), (29, 31), (32, 34), (35, 37), (38, 40), (41, 43), (44, 46), (47, 50), (51, 54), (55, 57), (58, 60), (61, 62), (63, 64), (65, 66), (67, 69), (70, 72), (73, 74), (75, 76), (77, 79), (80, 82), (83, 85), (86, 88), (89, 90), (91, 92), (93, 94), (95, 96), (97, 98), (99, 100), (101, 102), (103, 105), (106, 108)]
def kW1 : List (Nat × Nat) := [(1, 4), (5, 9), (10, 16), (17, 23), (24, 26), (27, 31), (32, 37), (38, 40), (41, 44), (45, 50), (51, 59), (60, 66)]
def pSp (j t : Nat) : Bool := decide (¬ kch j t = 32)
def wfW (j : Nat) : List (Nat × Nat) → Nat → Bool
  | [], a => decide (kLen.getD j 0 ≤ a)
  | q :: r, a => decide (q.1 = a) && decide (scan (pSp j) (kLen.getD j 0) a = q.2) && decide (q.2 < kLen.getD j 0) && wfW j r (q.2 + 1)
theorem wf0 : wfW 0 kW0 1 = true := by decide +kernel
theorem wf1 : wfW 1 kW1 1 = true := by decide +kernel
theorem wfW_nil {j a : Nat} (h : wfW j [] a = true) : kLen.getD j 0 ≤ a := of_decide_eq_true h
theorem wfW_cons {j a : Nat} {q : Nat × Nat} {r : List (Nat × Nat)} (h : wfW j (q :: r) a = true) : q.1 = a ∧ scan (pSp j) (kLen.getD j 0) a = q.2 ∧ q.2 < kLen.getD j 0 ∧ wfW j r (q.2 + 1) = true := by
  rw [wfW] at h
  obtain ⟨h1, h4⟩ := Bool.and_eq_true_iff.mp h
  obtain ⟨h1, h3⟩ := Bool.and_eq_true_iff.mp h1
  obtain ⟨h1, h2⟩ := Bool.and_eq_true_iff.mp h1
  exact ⟨of_decide_eq_true h1, of_decide_eq_true h2, of_decide_eq_true h3, h4⟩
/-- the first c bytes of the text j from a on stand at k -/
def mAt (L : Nat → Int32) (k j a : Nat) : Nat → Bool
  | 0 => true
  | c + 1 => mAt L k j a c && decide (L (k + c) = kch j (a + c))
theorem mAt_no {L : Nat → Int32} {k j a c : Nat} (h : ¬ L (k + c) = kch j (a + c)) : ∀ z, c < z → mAt L k j a z = false
  | 0, hz => by omega
  | z + 1, hz => by
    rw [mAt]
    by_cases e : c = z
    · subst e; rw [decide_eq_false h, Bool.and_false]
    · rw [mAt_no h z (by omega)]; rfl
/-- signEnd: the furthest end of a sign at k -/
def foldS (L : Nat → Int32) (k : Nat) : List (Nat × Nat) → Int32 → Int32
  | [], best => best
  | q :: r, best => foldS L k r (if mAt L k 0 q.1 (q.2 - q.1) = true ∧ ¬ nI (k + q.2 - q.1) ≤ best then nI (k + q.2 - q.1) else best)
def sgnE (L : Nat → Int32) (k : Nat) : Int32 := foldS L k kW0 (-1)
/-- among: the number of the word of z bytes that stands at s -/
def amg (L : Nat → Int32) (s z j : Nat) : List (Nat × Nat) → Nat → Int32
  | [], _ => -1
  | q :: r, w => if q.2 - q.1 = z ∧ mAt L s j q.1 (q.2 - q.1) = true then nI w else amg L s z j r (w + 1)
/-- isInt -/
def pZ (L : Nat → Int32) (t : Nat) : Bool := decide (L t = 48)
def mInt (L : Nat → Int32) (i e : Nat) : Bool := if e - scan (pZ L) e i = 10 then decide (dval L (scan (pZ L) e i) 10 ≤ 2147483647) else decide (e - scan (pZ L) e i < 10)
theorem dval_lt {L : Nat → Int32} {i : Nat} : ∀ k, (∀ t, t < k → bDig (L (i + t)) = true) → dval L i k < 10 ^ k
  | 0, _ => by rw [dval]; decide
  | k + 1, h => by
    have h1 := dval_lt k (fun t ht => h t (by omega))
    have h2 := (dig_nI (h k (by omega))).1
    rw [dval, Nat.pow_succ]; omega
theorem ms_step {L : Nat → Int32} {i j : Nat} (h : bDig (L j) = true) (hij : i ≤ j) : 10 * lN (dval L i (j - i)) + (L j).toInt64 - 48 = lN (dval L i (j + 1 - i)) := by
  obtain ⟨h1, h2, -⟩ := dig_nI h
  have e2 : dval L i (j + 1 - i) = dval L i (j - i) * 10 + dg (L j) := by
    rw [show j + 1 - i = (j - i) + 1 by omega, dval, show i + (j - i) = j by omega]
  have e3 : (L j).toInt64 = lN (48 + dg (L j)) := by rw [← nI_l (n := 48 + dg (L j)) (by omega), ← h2]
  rw [e2, e3, show (10 : Int64) = lN 10 from rfl, show (48 : Int64) = lN 48 from rfl, lN_mul, lN_add, lN_sub (by omega)]
  congr 1; omega
theorem cmp_gt {v : Nat} (h : v < 2 ^ 63) : 0 < lg_cmp (lN v) 2147483647 ↔ ¬ v ≤ 2147483647 := by
  rw [← cmp_le h]
  constructor
  · intro a b; exact absurd b (Int32.not_le.mpr a)
  · intro a; exact Int32.not_le.mp a
/-- the reference's kind at a place -/
def mkd (L : Nat → Int32) (i : Nat) : Int32 := if bDig (L i) = true ∨ L i = 39 then 2 else if bNam (L i) = true then 1 else if L i = 34 then 3 else if 0 < sgnE L i then 5 else 0
