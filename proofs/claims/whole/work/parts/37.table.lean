theorem ite_e {α : Type} {p q : Prop} [Decidable p] [Decidable q] {a b : α} (h : p ↔ q) : (if p then a else b) = if q then a else b := by
  by_cases hp : p
  · rw [if_pos hp, if_pos (h.mp hp)]
  · rw [if_neg hp, if_neg (fun z => hp (h.mpr z))]
theorem amg_skip {L : Nat → Int32} {s z j x y w : Nat} {r : List (Nat × Nat)} (h : ¬ y - x = z) : amg L s z j ((x, y) :: r) w = amg L s z j r (w + 1) := by
  rw [amg, if_neg (fun q => h q.1)]
theorem mAt_1 {L : Nat → Int32} {s j a : Nat} {c : Int32} (h : kch j a = c) : (mAt L s j a 1 = true) ↔ L s = c := by
  rw [mAt, mAt, Bool.true_and, decide_eq_true_iff]
  show L s = kch j a ↔ _
  rw [h]
theorem mAt_2 {L : Nat → Int32} {s j a : Nat} {c d : Int32} (h : kch j a = c) (h2 : kch j (a + 1) = d) : (mAt L s j a 2 = true) ↔ L s = c ∧ L (s + 1) = d := by
  rw [mAt, Bool.and_eq_true_iff, mAt_1 h, decide_eq_true_iff, h2]
theorem mAt_3 {L : Nat → Int32} {s j a : Nat} {c d e : Int32} (h : kch j a = c) (h2 : kch j (a + 1) = d) (h3 : kch j (a + 2) = e) : (mAt L s j a 3 = true) ↔ (L s = c ∧ L (s + 1) = d) ∧ L (s + 2) = e := by
  rw [mAt, Bool.and_eq_true_iff, mAt_2 h h2, decide_eq_true_iff, h3]
theorem amg_1 {L : Nat → Int32} {s j x y w : Nat} {r : List (Nat × Nat)} {c : Int32} (hy : y - x = 1) (h : kch j x = c) : amg L s 1 j ((x, y) :: r) w = if L s = c then nI w else amg L s 1 j r (w + 1) := by
  rw [amg]
  have e : (y - x = 1 ∧ mAt L s j x (y - x) = true) ↔ L s = c := by rw [hy, mAt_1 h]; exact ⟨fun q => q.2, fun q => ⟨rfl, q⟩⟩
  exact ite_e e
theorem amg_2 {L : Nat → Int32} {s j x y w : Nat} {r : List (Nat × Nat)} {c d : Int32} (hy : y - x = 2) (h : kch j x = c) (h2 : kch j (x + 1) = d) : amg L s 2 j ((x, y) :: r) w = if L s = c ∧ L (s + 1) = d then nI w else amg L s 2 j r (w + 1) := by
  rw [amg]
  have e : (y - x = 2 ∧ mAt L s j x (y - x) = true) ↔ (L s = c ∧ L (s + 1) = d) := by rw [hy, mAt_2 h h2]; exact ⟨fun q => q.2, fun q => ⟨rfl, q⟩⟩
  exact ite_e e
theorem amg_3 {L : Nat → Int32} {s j x y w : Nat} {r : List (Nat × Nat)} {c d f : Int32} (hy : y - x = 3) (h : kch j x = c) (h2 : kch j (x + 1) = d) (h3 : kch j (x + 2) = f) : amg L s 3 j ((x, y) :: r) w = if (L s = c ∧ L (s + 1) = d) ∧ L (s + 2) = f then nI w else amg L s 3 j r (w + 1) := by
  rw [amg]
  have e : (y - x = 3 ∧ mAt L s j x (y - x) = true) ↔ ((L s = c ∧ L (s + 1) = d) ∧ L (s + 2) = f) := by rw [hy, mAt_3 h h2 h3]; exact ⟨fun q => q.2, fun q => ⟨rfl, q⟩⟩
  exact ite_e e
def ch1 (x : Int32) : Int32 := if x = 40 then nI 0 else if x = 41 then nI 1 else if x = 123 then nI 2 else if x = 125 then nI 3 else if x = 91 then nI 4 else if x = 93 then nI 5 else if x = 44 then nI 6 else if x = 59 then nI 7 else if x = 63 then nI 8 else if x = 58 then nI 9 else if x = 61 then nI 10 else if x = 124 then nI 23 else if x = 94 then nI 24 else if x = 38 then nI 25 else if x = 60 then nI 28 else if x = 62 then nI 29 else if x = 43 then nI 34 else if x = 45 then nI 35 else if x = 42 then nI 36 else if x = 47 then nI 37 else if x = 37 then nI 38 else if x = 33 then nI 39 else if x = 126 then nI 40 else -1
set_option maxRecDepth 20000 in
theorem amg_c1 (L : Nat → Int32) (s : Nat) : amg L s 1 0 kW0 0 = ch1 (L s) := by
  unfold kW0 ch1
  rw [amg_1 (by decide) (c := 40) (by decide)]
  rw [amg_1 (by decide) (c := 41) (by decide)]
  rw [amg_1 (by decide) (c := 123) (by decide)]
  rw [amg_1 (by decide) (c := 125) (by decide)]
  rw [amg_1 (by decide) (c := 91) (by decide)]
  rw [amg_1 (by decide) (c := 93) (by decide)]
  rw [amg_1 (by decide) (c := 44) (by decide)]
  rw [amg_1 (by decide) (c := 59) (by decide)]
  rw [amg_1 (by decide) (c := 63) (by decide)]
  rw [amg_1 (by decide) (c := 58) (by decide)]
  rw [amg_1 (by decide) (c := 61) (by decide)]
  rw [amg_skip (by decide)]
  rw [amg_skip (by decide)]
  rw [amg_skip (by decide)]
  rw [amg_skip (by decide)]
  rw [amg_skip (by decide)]
  rw [amg_skip (by decide)]
  rw [amg_skip (by decide)]
  rw [amg_skip (by decide)]
  rw [amg_skip (by decide)]
  rw [amg_skip (by decide)]
  rw [amg_skip (by decide)]
  rw [amg_skip (by decide)]
  rw [amg_1 (by decide) (c := 124) (by decide)]
  rw [amg_1 (by decide) (c := 94) (by decide)]
  rw [amg_1 (by decide) (c := 38) (by decide)]
  rw [amg_skip (by decide)]
  rw [amg_skip (by decide)]
  rw [amg_1 (by decide) (c := 60) (by decide)]
  rw [amg_1 (by decide) (c := 62) (by decide)]
  rw [amg_skip (by decide)]
  rw [amg_skip (by decide)]
  rw [amg_skip (by decide)]
  rw [amg_skip (by decide)]
  rw [amg_1 (by decide) (c := 43) (by decide)]
  rw [amg_1 (by decide) (c := 45) (by decide)]
  rw [amg_1 (by decide) (c := 42) (by decide)]
  rw [amg_1 (by decide) (c := 47) (by decide)]
  rw [amg_1 (by decide) (c := 37) (by decide)]
  rw [amg_1 (by decide) (c := 33) (by decide)]
  rw [amg_1 (by decide) (c := 126) (by decide)]
  rw [amg_skip (by decide)]
  rw [amg_skip (by decide)]
  rfl
def ch2 (x y : Int32) : Int32 := if x = 43 ∧ y = 61 then nI 11 else if x = 45 ∧ y = 61 then nI 12 else if x = 42 ∧ y = 61 then nI 13 else if x = 47 ∧ y = 61 then nI 14 else if x = 37 ∧ y = 61 then nI 15 else if x = 38 ∧ y = 61 then nI 16 else if x = 124 ∧ y = 61 then nI 17 else if x = 94 ∧ y = 61 then nI 18 else if x = 124 ∧ y = 124 then nI 21 else if x = 38 ∧ y = 38 then nI 22 else if x = 61 ∧ y = 61 then nI 26 else if x = 33 ∧ y = 61 then nI 27 else if x = 60 ∧ y = 61 then nI 30 else if x = 62 ∧ y = 61 then nI 31 else if x = 60 ∧ y = 60 then nI 32 else if x = 62 ∧ y = 62 then nI 33 else if x = 43 ∧ y = 43 then nI 41 else if x = 45 ∧ y = 45 then nI 42 else -1
set_option maxRecDepth 20000 in
theorem amg_c2 (L : Nat → Int32) (s : Nat) : amg L s 2 0 kW0 0 = ch2 (L s) (L (s + 1)) := by
  unfold kW0 ch2
  rw [amg_skip (by decide)]
  rw [amg_skip (by decide)]
  rw [amg_skip (by decide)]
  rw [amg_skip (by decide)]
  rw [amg_skip (by decide)]
  rw [amg_skip (by decide)]
  rw [amg_skip (by decide)]
  rw [amg_skip (by decide)]
  rw [amg_skip (by decide)]
  rw [amg_skip (by decide)]
  rw [amg_skip (by decide)]
  rw [amg_2 (by decide) (c := 43) (by decide) (d := 61) (by decide)]
  rw [amg_2 (by decide) (c := 45) (by decide) (d := 61) (by decide)]
  rw [amg_2 (by decide) (c := 42) (by decide) (d := 61) (by decide)]
  rw [amg_2 (by decide) (c := 47) (by decide) (d := 61) (by decide)]
  rw [amg_2 (by decide) (c := 37) (by decide) (d := 61) (by decide)]
  rw [amg_2 (by decide) (c := 38) (by decide) (d := 61) (by decide)]
  rw [amg_2 (by decide) (c := 124) (by decide) (d := 61) (by decide)]
  rw [amg_2 (by decide) (c := 94) (by decide) (d := 61) (by decide)]
  rw [amg_skip (by decide)]
  rw [amg_skip (by decide)]
  rw [amg_2 (by decide) (c := 124) (by decide) (d := 124) (by decide)]
  rw [amg_2 (by decide) (c := 38) (by decide) (d := 38) (by decide)]
  rw [amg_skip (by decide)]
  rw [amg_skip (by decide)]
  rw [amg_skip (by decide)]
  rw [amg_2 (by decide) (c := 61) (by decide) (d := 61) (by decide)]
  rw [amg_2 (by decide) (c := 33) (by decide) (d := 61) (by decide)]
  rw [amg_skip (by decide)]
  rw [amg_skip (by decide)]
  rw [amg_2 (by decide) (c := 60) (by decide) (d := 61) (by decide)]
  rw [amg_2 (by decide) (c := 62) (by decide) (d := 61) (by decide)]
  rw [amg_2 (by decide) (c := 60) (by decide) (d := 60) (by decide)]
  rw [amg_2 (by decide) (c := 62) (by decide) (d := 62) (by decide)]
  rw [amg_skip (by decide)]
  rw [amg_skip (by decide)]
  rw [amg_skip (by decide)]
  rw [amg_skip (by decide)]
  rw [amg_skip (by decide)]
  rw [amg_skip (by decide)]
  rw [amg_skip (by decide)]
  rw [amg_2 (by decide) (c := 43) (by decide) (d := 43) (by decide)]
  rw [amg_2 (by decide) (c := 45) (by decide) (d := 45) (by decide)]
  rfl
def ch3 (x y z : Int32) : Int32 := if (x = 60 ∧ y = 60) ∧ z = 61 then nI 19 else if (x = 62 ∧ y = 62) ∧ z = 61 then nI 20 else -1
set_option maxRecDepth 20000 in
theorem amg_c3 (L : Nat → Int32) (s : Nat) : amg L s 3 0 kW0 0 = ch3 (L s) (L (s + 1)) (L (s + 2)) := by
  unfold kW0 ch3
  rw [amg_skip (by decide)]
  rw [amg_skip (by decide)]
  rw [amg_skip (by decide)]
  rw [amg_skip (by decide)]
  rw [amg_skip (by decide)]
  rw [amg_skip (by decide)]
  rw [amg_skip (by decide)]
  rw [amg_skip (by decide)]
  rw [amg_skip (by decide)]
  rw [amg_skip (by decide)]
  rw [amg_skip (by decide)]
  rw [amg_skip (by decide)]
  rw [amg_skip (by decide)]
  rw [amg_skip (by decide)]
  rw [amg_skip (by decide)]
  rw [amg_skip (by decide)]
  rw [amg_skip (by decide)]
  rw [amg_skip (by decide)]
  rw [amg_skip (by decide)]
  rw [amg_3 (by decide) (c := 60) (by decide) (d := 60) (by decide) (f := 61) (by decide)]
  rw [amg_3 (by decide) (c := 62) (by decide) (d := 62) (by decide) (f := 61) (by decide)]
  rw [amg_skip (by decide)]
  rw [amg_skip (by decide)]
  rw [amg_skip (by decide)]
  rw [amg_skip (by decide)]
  rw [amg_skip (by decide)]
  rw [amg_skip (by decide)]
  rw [amg_skip (by decide)]
  rw [amg_skip (by decide)]
  rw [amg_skip (by decide)]
  rw [amg_skip (by decide)]
  rw [amg_skip (by decide)]
  rw [amg_skip (by decide)]
  rw [amg_skip (by decide)]
  rw [amg_skip (by decide)]
  rw [amg_skip (by decide)]
  rw [amg_skip (by decide)]
  rw [amg_skip (by decide)]
  rw [amg_skip (by decide)]
  rw [amg_skip (by decide)]
  rw [amg_skip (by decide)]
  rw [amg_skip (by decide)]
  rw [amg_skip (by decide)]
  rfl
theorem ch1_sg (x : Int32) : ch1 x = sg1 x := by
  by_cases e40 : x = 40
  · subst e40; decide
  by_cases e41 : x = 41
  · subst e41; decide
  by_cases e123 : x = 123
  · subst e123; decide
  by_cases e125 : x = 125
  · subst e125; decide
  by_cases e91 : x = 91
  · subst e91; decide
  by_cases e93 : x = 93
  · subst e93; decide
  by_cases e44 : x = 44
  · subst e44; decide
  by_cases e59 : x = 59
  · subst e59; decide
  by_cases e63 : x = 63
  · subst e63; decide
  by_cases e58 : x = 58
  · subst e58; decide
  by_cases e61 : x = 61
  · subst e61; decide
  by_cases e124 : x = 124
  · subst e124; decide
  by_cases e94 : x = 94
  · subst e94; decide
  by_cases e38 : x = 38
  · subst e38; decide
  by_cases e60 : x = 60
  · subst e60; decide
  by_cases e62 : x = 62
  · subst e62; decide
  by_cases e43 : x = 43
  · subst e43; decide
  by_cases e45 : x = 45
  · subst e45; decide
  by_cases e42 : x = 42
  · subst e42; decide
  by_cases e47 : x = 47
  · subst e47; decide
  by_cases e37 : x = 37
  · subst e37; decide
  by_cases e33 : x = 33
  · subst e33; decide
  by_cases e126 : x = 126
  · subst e126; decide
  unfold ch1 sg1
  rw [if_neg e40, if_neg e41, if_neg e123, if_neg e125, if_neg e91, if_neg e93, if_neg e44, if_neg e59, if_neg e63, if_neg e58, if_neg e61, if_neg e124, if_neg e94, if_neg e38, if_neg e60, if_neg e62, if_neg e43, if_neg e45, if_neg e42, if_neg e47, if_neg e37, if_neg e33, if_neg e126, if_neg e33, if_neg e37, if_neg e38, if_neg e40, if_neg e41, if_neg e42, if_neg e43, if_neg e44, if_neg e45, if_neg e47, if_neg e58, if_neg e59, if_neg e60, if_neg e61, if_neg e62, if_neg e63, if_neg e91, if_neg e93, if_neg e94, if_neg e123, if_neg e124, if_neg e125, if_neg e126]
theorem ch2_sg (x y : Int32) : ch2 x y = sg2 x y := by
  by_cases hy : y = 61
  · subst hy
    by_cases e43 : x = 43
    · subst e43; decide
    by_cases e45 : x = 45
    · subst e45; decide
    by_cases e42 : x = 42
    · subst e42; decide
    by_cases e47 : x = 47
    · subst e47; decide
    by_cases e37 : x = 37
    · subst e37; decide
    by_cases e38 : x = 38
    · subst e38; decide
    by_cases e124 : x = 124
    · subst e124; decide
    by_cases e94 : x = 94
    · subst e94; decide
    by_cases e61 : x = 61
    · subst e61; decide
    by_cases e33 : x = 33
    · subst e33; decide
    by_cases e60 : x = 60
    · subst e60; decide
    by_cases e62 : x = 62
    · subst e62; decide
    unfold ch2 sg2 sgE
    rw [if_neg (fun q => e43 q.1), if_neg (fun q => e45 q.1), if_neg (fun q => e42 q.1), if_neg (fun q => e47 q.1), if_neg (fun q => e37 q.1), if_neg (fun q => e38 q.1), if_neg (fun q => e124 q.1), if_neg (fun q => e94 q.1), if_neg (fun q => absurd q.2 (by decide)), if_neg (fun q => absurd q.2 (by decide)), if_neg (fun q => e61 q.1), if_neg (fun q => e33 q.1), if_neg (fun q => e60 q.1), if_neg (fun q => e62 q.1), if_neg (fun q => absurd q.2 (by decide)), if_neg (fun q => absurd q.2 (by decide)), if_neg (fun q => absurd q.2 (by decide)), if_neg (fun q => absurd q.2 (by decide)), if_pos rfl, if_neg e33, if_neg e37, if_neg e38, if_neg e42, if_neg e43, if_neg e45, if_neg e47, if_neg e60, if_neg e61, if_neg e62, if_neg e94, if_neg e124]
  · by_cases e124 : x = 124
    · subst e124
      by_cases f : y = 124
      · subst f; decide
      · unfold ch2 sg2
        rw [if_neg (fun q => hy q.2), if_neg (fun q => hy q.2), if_neg (fun q => hy q.2), if_neg (fun q => hy q.2), if_neg (fun q => hy q.2), if_neg (fun q => hy q.2), if_neg (fun q => hy q.2), if_neg (fun q => hy q.2), if_neg (fun q => f q.2), if_neg (fun q => absurd q.1 (by decide)), if_neg (fun q => hy q.2), if_neg (fun q => hy q.2), if_neg (fun q => hy q.2), if_neg (fun q => hy q.2), if_neg (fun q => absurd q.1 (by decide)), if_neg (fun q => absurd q.1 (by decide)), if_neg (fun q => absurd q.1 (by decide)), if_neg (fun q => absurd q.1 (by decide)), if_neg hy, if_neg f]
    by_cases e38 : x = 38
    · subst e38
      by_cases f : y = 38
      · subst f; decide
      · unfold ch2 sg2
        rw [if_neg (fun q => hy q.2), if_neg (fun q => hy q.2), if_neg (fun q => hy q.2), if_neg (fun q => hy q.2), if_neg (fun q => hy q.2), if_neg (fun q => hy q.2), if_neg (fun q => hy q.2), if_neg (fun q => hy q.2), if_neg (fun q => absurd q.1 (by decide)), if_neg (fun q => f q.2), if_neg (fun q => hy q.2), if_neg (fun q => hy q.2), if_neg (fun q => hy q.2), if_neg (fun q => hy q.2), if_neg (fun q => absurd q.1 (by decide)), if_neg (fun q => absurd q.1 (by decide)), if_neg (fun q => absurd q.1 (by decide)), if_neg (fun q => absurd q.1 (by decide)), if_neg hy, if_neg f]
    by_cases e60 : x = 60
    · subst e60
      by_cases f : y = 60
      · subst f; decide
      · unfold ch2 sg2
        rw [if_neg (fun q => hy q.2), if_neg (fun q => hy q.2), if_neg (fun q => hy q.2), if_neg (fun q => hy q.2), if_neg (fun q => hy q.2), if_neg (fun q => hy q.2), if_neg (fun q => hy q.2), if_neg (fun q => hy q.2), if_neg (fun q => absurd q.1 (by decide)), if_neg (fun q => absurd q.1 (by decide)), if_neg (fun q => hy q.2), if_neg (fun q => hy q.2), if_neg (fun q => hy q.2), if_neg (fun q => hy q.2), if_neg (fun q => f q.2), if_neg (fun q => absurd q.1 (by decide)), if_neg (fun q => absurd q.1 (by decide)), if_neg (fun q => absurd q.1 (by decide)), if_neg hy, if_neg f]
    by_cases e62 : x = 62
    · subst e62
      by_cases f : y = 62
      · subst f; decide
      · unfold ch2 sg2
        rw [if_neg (fun q => hy q.2), if_neg (fun q => hy q.2), if_neg (fun q => hy q.2), if_neg (fun q => hy q.2), if_neg (fun q => hy q.2), if_neg (fun q => hy q.2), if_neg (fun q => hy q.2), if_neg (fun q => hy q.2), if_neg (fun q => absurd q.1 (by decide)), if_neg (fun q => absurd q.1 (by decide)), if_neg (fun q => hy q.2), if_neg (fun q => hy q.2), if_neg (fun q => hy q.2), if_neg (fun q => hy q.2), if_neg (fun q => absurd q.1 (by decide)), if_neg (fun q => f q.2), if_neg (fun q => absurd q.1 (by decide)), if_neg (fun q => absurd q.1 (by decide)), if_neg hy, if_neg f]
    by_cases e43 : x = 43
    · subst e43
      by_cases f : y = 43
      · subst f; decide
      · unfold ch2 sg2
        rw [if_neg (fun q => hy q.2), if_neg (fun q => hy q.2), if_neg (fun q => hy q.2), if_neg (fun q => hy q.2), if_neg (fun q => hy q.2), if_neg (fun q => hy q.2), if_neg (fun q => hy q.2), if_neg (fun q => hy q.2), if_neg (fun q => absurd q.1 (by decide)), if_neg (fun q => absurd q.1 (by decide)), if_neg (fun q => hy q.2), if_neg (fun q => hy q.2), if_neg (fun q => hy q.2), if_neg (fun q => hy q.2), if_neg (fun q => absurd q.1 (by decide)), if_neg (fun q => absurd q.1 (by decide)), if_neg (fun q => f q.2), if_neg (fun q => absurd q.1 (by decide)), if_neg hy, if_neg f]
    by_cases e45 : x = 45
    · subst e45
      by_cases f : y = 45
      · subst f; decide
      · unfold ch2 sg2
        rw [if_neg (fun q => hy q.2), if_neg (fun q => hy q.2), if_neg (fun q => hy q.2), if_neg (fun q => hy q.2), if_neg (fun q => hy q.2), if_neg (fun q => hy q.2), if_neg (fun q => hy q.2), if_neg (fun q => hy q.2), if_neg (fun q => absurd q.1 (by decide)), if_neg (fun q => absurd q.1 (by decide)), if_neg (fun q => hy q.2), if_neg (fun q => hy q.2), if_neg (fun q => hy q.2), if_neg (fun q => hy q.2), if_neg (fun q => absurd q.1 (by decide)), if_neg (fun q => absurd q.1 (by decide)), if_neg (fun q => absurd q.1 (by decide)), if_neg (fun q => f q.2), if_neg hy, if_neg f]
    unfold ch2 sg2 sgT
    rw [if_neg (fun q => hy q.2), if_neg (fun q => hy q.2), if_neg (fun q => hy q.2), if_neg (fun q => hy q.2), if_neg (fun q => hy q.2), if_neg (fun q => hy q.2), if_neg (fun q => hy q.2), if_neg (fun q => hy q.2), if_neg (fun q => e124 q.1), if_neg (fun q => e38 q.1), if_neg (fun q => hy q.2), if_neg (fun q => hy q.2), if_neg (fun q => hy q.2), if_neg (fun q => hy q.2), if_neg (fun q => e60 q.1), if_neg (fun q => e62 q.1), if_neg (fun q => e43 q.1), if_neg (fun q => e45 q.1), if_neg hy]
    by_cases f : y = x
    · rw [if_pos f, if_neg e38, if_neg e43, if_neg e45, if_neg e60, if_neg e62, if_neg e124]
    · rw [if_neg f]
theorem ch3_sg (x y z : Int32) : ch3 x y z = sg3 x y z := by
  unfold ch3 sg3
  by_cases h : x = y ∧ z = 61
  · rw [if_pos h]
    obtain ⟨rfl, rfl⟩ := h
    by_cases e : x = 60
    · subst e; decide
    · by_cases f : x = 62
      · subst f; decide
      · rw [if_neg (fun q => e q.1.1), if_neg (fun q => f q.1.1), if_neg e, if_neg f]
  · rw [if_neg h, if_neg (fun q => h ⟨q.1.1.trans q.1.2.symm, q.2⟩), if_neg (fun q => h ⟨q.1.1.trans q.1.2.symm, q.2⟩)]
/-- is there a sign of c bytes at k -/
def fnd (L : Nat → Int32) (k c : Nat) (l : List (Nat × Nat)) : Bool := l.any (fun q => decide (q.2 - q.1 = c) && mAt L k 0 q.1 (q.2 - q.1))
theorem amg_fnd (L : Nat → Int32) (k c : Nat) : ∀ (l : List (Nat × Nat)) (w : Nat), w + l.length < 2 ^ 31 → (0 ≤ (amg L k c 0 l w).toInt ↔ fnd L k c l = true)
  | [], w, _ => by
    rw [amg]
    exact ⟨fun h => absurd h (by decide), fun h => absurd (show false = true from h) (by decide)⟩
  | q :: r, w, h => by
    have hl : (q :: r).length = r.length + 1 := rfl
    have ih := amg_fnd L k c r (w + 1) (by omega)
    have e : fnd L k c (q :: r) = ((decide (q.2 - q.1 = c) && mAt L k 0 q.1 (q.2 - q.1)) || fnd L k c r) := rfl
    rw [amg, e]
    by_cases hc : q.2 - q.1 = c ∧ mAt L k 0 q.1 (q.2 - q.1) = true
    · rw [if_pos hc, decide_eq_true hc.1, hc.2, nI_toInt (by omega)]
      exact ⟨fun _ => rfl, fun _ => by omega⟩
    · rw [if_neg hc, ih]
      have e2 : (decide (q.2 - q.1 = c) && mAt L k 0 q.1 (q.2 - q.1)) = false := by
        cases hd : decide (q.2 - q.1 = c) with
        | false => rfl
        | true =>
          cases hm : mAt L k 0 q.1 (q.2 - q.1) with
          | false => rfl
          | true => exact absurd ⟨of_decide_eq_true hd, hm⟩ hc
      rw [e2, Bool.false_or]
def enc (k m : Nat) : Int32 := if m = 0 then -1 else nI (k + m)
def mx (L : Nat → Int32) (k : Nat) (l : List (Nat × Nat)) : Nat := if fnd L k 3 l = true then 3 else if fnd L k 2 l = true then 2 else if fnd L k 1 l = true then 1 else 0
theorem enc_lt {k m c : Nat} (hk : k < 2 ^ 28) (hm : m ≤ 3) (hc : 1 ≤ c ∧ c ≤ 3) : (¬ nI (k + c) ≤ enc k m) ↔ m < c := by
  unfold enc
  by_cases h : m = 0
  · rw [if_pos h]
    exact ⟨fun _ => by omega, fun _ q => absurd q (by
      have := k_le (b := -1) (by decide) q
      intro _
      rw [nI_toInt (by omega)] at this
      omega)⟩
  · rw [if_neg h]
    rw [nI_leI (by omega) (by omega)]
    omega
theorem foldS_mx (L : Nat → Int32) {k : Nat} (hk : k < 2 ^ 28) : ∀ (l : List (Nat × Nat)) (m : Nat), m ≤ 3 → l.all (fun q => decide (q.1 ≤ q.2 ∧ 1 ≤ q.2 - q.1 ∧ q.2 - q.1 ≤ 3)) = true → foldS L k l (enc k m) = enc k (if m < mx L k l then mx L k l else m)
  | [], m, hm, _ => by
    rw [foldS]
    have : mx L k [] = 0 := rfl
    rw [this, if_neg (by omega)]
  | q :: r, m, hm, ha => by
    have ha2 : (decide (q.1 ≤ q.2 ∧ 1 ≤ q.2 - q.1 ∧ q.2 - q.1 ≤ 3) && r.all (fun q => decide (q.1 ≤ q.2 ∧ 1 ≤ q.2 - q.1 ∧ q.2 - q.1 ≤ 3))) = true := ha
    obtain ⟨h1, h2⟩ := Bool.and_eq_true_iff.mp ha2
    have h1 := of_decide_eq_true h1
    rw [foldS]
    have ek : nI (k + q.2 - q.1) = nI (k + (q.2 - q.1)) := by congr 1; omega
    rw [ek]
    obtain ⟨c, hc⟩ : ∃ c, c = q.2 - q.1 := ⟨_, rfl⟩
    have e : ∀ d, fnd L k d (q :: r) = ((decide (c = d) && mAt L k 0 q.1 c) || fnd L k d r) := fun d => by rw [hc]; rfl
    rw [← hc] at h1 ⊢
    have hmx : mx L k (q :: r) = if mAt L k 0 q.1 c = true ∧ mx L k r < c then c else mx L k r := by
      unfold mx
      rw [e, e, e]
      cases mAt L k 0 q.1 c
      · simp
      · rcases (show c = 1 ∨ c = 2 ∨ c = 3 by omega) with rfl | rfl | rfl <;> cases fnd L k 3 r <;> cases fnd L k 2 r <;> cases fnd L k 1 r <;> decide
    have ec : nI (k + c) = enc k c := by unfold enc; rw [if_neg (by omega)]
    by_cases hm2 : mAt L k 0 q.1 c = true
    · by_cases a : mx L k r < c
      · have hmy : mx L k (q :: r) = c := by rw [hmx, if_pos ⟨hm2, a⟩]
        by_cases hlt : m < c
        · rw [if_pos ⟨hm2, (enc_lt hk hm h1.2).mpr hlt⟩, ec, foldS_mx L hk r c (by omega) h2, hmy, if_neg (by omega), if_pos hlt]
        · rw [if_neg (fun z => hlt ((enc_lt hk hm h1.2).mp z.2)), foldS_mx L hk r m hm h2, hmy, if_neg (by omega), if_neg hlt]
      · have hmy : mx L k (q :: r) = mx L k r := by rw [hmx, if_neg (fun z => a z.2)]
        by_cases hlt : m < c
        · rw [if_pos ⟨hm2, (enc_lt hk hm h1.2).mpr hlt⟩, ec, foldS_mx L hk r c (by omega) h2, hmy, if_pos (show m < mx L k r by omega)]
          by_cases b : c < mx L k r
          · rw [if_pos b]
          · rw [if_neg b, show c = mx L k r by omega]
        · rw [if_neg (fun z => hlt ((enc_lt hk hm h1.2).mp z.2)), foldS_mx L hk r m hm h2, hmy]
    · have hmy : mx L k (q :: r) = mx L k r := by rw [hmx, if_neg (fun z => hm2 z.1)]
      rw [if_neg (fun z => hm2 z.1), foldS_mx L hk r m hm h2, hmy]
theorem amg_sg3 (L : Nat → Int32) (s : Nat) : amg L s 3 0 kW0 0 = sg3 (L s) (L (s + 1)) (L (s + 2)) := by rw [amg_c3, ch3_sg]
theorem amg_sg2 (L : Nat → Int32) (s : Nat) : amg L s 2 0 kW0 0 = sg2 (L s) (L (s + 1)) := by rw [amg_c2, ch2_sg]
theorem amg_sg1 (L : Nat → Int32) (s : Nat) : amg L s 1 0 kW0 0 = sg1 (L s) := by rw [amg_c1, ch1_sg]
/-- signEnd is the end of the class's sign -/
theorem sgn_eq (L : Nat → Int32) {k : Nat} (hk : k < 2 ^ 28) : sgnE L k = tkE (tokSgn L k) := by
  unfold sgnE
  rw [show (-1 : Int32) = enc k 0 from rfl, foldS_mx L hk kW0 0 (by omega) (by decide)]
  have f3 := amg_fnd L k 3 kW0 0 (by decide)
  have f2 := amg_fnd L k 2 kW0 0 (by decide)
  have f1 := amg_fnd L k 1 kW0 0 (by decide)
  rw [amg_sg3] at f3
  rw [amg_sg2] at f2
  rw [amg_sg1] at f1
  unfold tokSgn mx
  by_cases h3 : fnd L k 3 kW0 = true
  · rw [if_pos h3, if_pos (f3.mpr h3)]; rfl
  · rw [if_neg h3, if_neg (fun z => h3 (f3.mp z))]
    by_cases h2 : fnd L k 2 kW0 = true
    · rw [if_pos h2, if_pos (f2.mpr h2)]; rfl
    · rw [if_neg h2, if_neg (fun z => h2 (f2.mp z))]
      by_cases h1 : fnd L k 1 kW0 = true
      · rw [if_pos h1, if_pos (f1.mpr h1)]; rfl
      · rw [if_neg h1, if_neg (fun z => h1 (f1.mp z))]; rfl
