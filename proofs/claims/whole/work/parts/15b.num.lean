/-! PURE: digits, lines -/
theorem g_lv {g : Gl} {X : Cx} {q : Nat × Nat} {ws : va_W} {pc : Nat} {lv lv' : List (Nat × Value)} {st : List Value} (h : lv = lv') (k : G g X q ws pc lv' st) : G g X q ws pc lv st := h ▸ k
theorem dig_nI {x : Int32} (h : bDig x = true) : dg x ≤ 9 ∧ x = nI (48 + dg x) ∧ x - 48 = nI (dg x) := by
  have h1 := bDig_t h
  obtain ⟨b, hb, rfl⟩ := nI_of (x := x) (fun z => by have := k_lt (b := 0) (by decide) z; omega)
  rw [nI_toInt hb] at h1
  have hd : dg (nI b) = b - 48 := by unfold dg; rw [nI_toInt hb]; omega
  rw [hd]
  refine ⟨by omega, by rw [show 48 + (b - 48) = b by omega], ?_⟩
  exact pk_sub (a := b) (b := 48) (by omega)
/-- the worth, held just above the limit -/
def cap (v : Nat) : Nat := if v ≤ 2147483648 then v else 2147483648
theorem cap_le (v : Nat) : cap v ≤ 2147483648 := by unfold cap; split <;> omega
theorem cap_step (v d : Nat) (hd : d ≤ 9) : (if 2147483648 < cap v * 10 + d then 2147483648 else cap v * 10 + d) = cap (v * 10 + d) := by
  unfold cap
  by_cases h : v ≤ 2147483648
  · rw [if_pos h]
    by_cases h2 : v * 10 + d ≤ 2147483648
    · rw [if_pos h2, if_neg (by omega)]
    · rw [if_neg h2, if_pos (by omega)]
  · rw [if_neg h, if_pos (by omega), if_neg (by omega)]
theorem dig_step {L : Nat → Int32} {i j : Nat} (h : bDig (L j) = true) (hij : i ≤ j) : (if (2147483648 : Int64) < lN (cap (dval L i (j - i))) * 10 + (L j - 48).toInt64 then (2147483648 : Int64) else lN (cap (dval L i (j - i))) * 10 + (L j - 48).toInt64) = lN (cap (dval L i (j + 1 - i))) := by
  obtain ⟨h1, -, h3⟩ := dig_nI h
  have hc := cap_le (dval L i (j - i))
  have e1 : lN (cap (dval L i (j - i))) * 10 + (L j - 48).toInt64 = lN (cap (dval L i (j - i)) * 10 + dg (L j)) := by
    rw [h3, nI_l (by omega), show (10 : Int64) = lN 10 from rfl, lN_mul, lN_add]
  rw [e1, show (2147483648 : Int64) = lN 2147483648 from rfl]
  have e2 : dval L i (j + 1 - i) = dval L i (j - i) * 10 + dg (L j) := by
    rw [show j + 1 - i = (j - i) + 1 by omega, dval, show i + (j - i) = j by omega]
  rw [e2, ← cap_step _ _ h1]
  by_cases hlt : 2147483648 < cap (dval L i (j - i)) * 10 + dg (L j)
  · rw [if_pos ((pk_lLT (by omega) (by omega)).mpr hlt), if_pos hlt]
  · rw [if_neg (fun z => hlt ((pk_lLT (by omega) (by omega)).mp z)), if_neg hlt]
theorem cmp_le {v : Nat} (h : v < 2 ^ 63) : lg_cmp (lN v) 2147483647 ≤ 0 ↔ v ≤ 2147483647 := by
  rw [show (2147483647 : Int64) = lN 2147483647 from rfl]
  unfold lg_cmp
  by_cases h1 : 2147483647 < v
  · rw [if_pos (show lN v > lN 2147483647 from (pk_lLT (by omega) h).mpr h1)]
    constructor
    · intro z; exact absurd z (by decide)
    · intro z; omega
  · rw [if_neg (show ¬ lN v > lN 2147483647 from fun z => h1 ((pk_lLT (by omega) h).mp z))]
    constructor
    · intro _; omega
    · intro _
      split
      · decide
      · decide
theorem cnt_step {L : Nat → Int32} {i j : Nat} (hij : i ≤ j) (ln : Int32) : (if L j = 10 then ln + nI (cnt L i (j - i)) + 1 else ln + nI (cnt L i (j - i))) = ln + nI (cnt L i (j + 1 - i)) := by
  rw [show j + 1 - i = (j - i) + 1 by omega, cnt, show i + (j - i) = j by omega]
  by_cases h : L j = 10
  · rw [if_pos h, if_pos h, Int32.add_assoc, nI_1]
  · rw [if_neg h, if_neg h, Nat.add_zero]
theorem drop_getD {l : List Nat} {k : Nat} (h : k < l.length) : l.drop k = l.getD k 0 :: l.drop (k + 1) := by
  rw [List.drop_eq_getElem_cons h]
  simp [List.getD, h]
theorem wWd_lt (k : Nat) : wWd.getD k 0 < 128 := by
  by_cases h : k < 66
  · have h1 : (List.range 66).all (fun j => decide (wWd.getD j 0 < 128)) = true := by decide
    exact of_decide_eq_true (List.all_eq_true.mp h1 k (List.mem_range.mpr h))
  · have h2 : wWd.length ≤ k := by rw [show wWd.length = 66 from rfl]; omega
    have h3 : wWd[k]? = none := List.getElem?_eq_none h2
    simp [List.getD, h3]
