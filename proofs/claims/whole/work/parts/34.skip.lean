/-! PURE: isInt is the limit; blanks; the reference's run -/
theorem look_pos {tx : Nat → Int32} {N j : Nat} (h : 0 ≤ (look tx N j).toInt) : j < N := by
  have := look_rng tx N j
  omega
theorem look_neg {tx : Nat → Int32} {N j : Nat} (h : (look tx N j).toInt < 0) : N ≤ j := by
  have := look_rng tx N j
  omega
theorem dval_zero {L : Nat → Int32} {i J : Nat} (hij : i ≤ J) (hz : ∀ t, i ≤ t → t < J → L t = 48) : ∀ k, dval L i (J - i + k) = dval L J k := by
  have h0 : ∀ m, i + m ≤ J → dval L i m = 0 := by
    intro m
    induction m with
    | zero => intro _; rfl
    | succ m ih =>
      intro hm
      rw [dval, ih (by omega), hz (i + m) (by omega) (by omega)]
      decide
  intro k
  induction k with
  | zero => rw [Nat.add_zero, h0 (J - i) (by omega)]; rfl
  | succ k ih => rw [← Nat.add_assoc, dval, ih, dval, show i + (J - i + k) = J + k by omega]
theorem dval_ge {L : Nat → Int32} {J : Nat} (h : 1 ≤ dg (L J)) : ∀ k, 10 ^ k ≤ dval L J (k + 1)
  | 0 => by rw [dval, dval, Nat.add_zero]; omega
  | k + 1 => by
    have := dval_ge h k
    rw [dval, Nat.pow_succ]; omega
theorem mInt_dval {L : Nat → Int32} {i e : Nat} (hie : i ≤ e) (hd : ∀ t, i ≤ t → t < e → bDig (L t) = true) : mInt L i e = decide (dval L i (e - i) ≤ 2147483647) := by
  obtain ⟨J, hJ⟩ : ∃ J, J = scan (pZ L) e i := ⟨_, rfl⟩
  have h1 : i ≤ J := by rw [hJ]; exact scan_ge _ _ _
  have h2 : J ≤ e := by rw [hJ]; exact scan_le hie
  have hz := dval_zero (L := L) h1 (fun t a b => of_decide_eq_true (scan_all (p := pZ L) (N := e) (i := i) a (by rw [← hJ]; exact b))) (e - J)
  rw [show J - i + (e - J) = e - i by omega] at hz
  unfold mInt
  rw [← hJ, hz]
  by_cases h10 : e - J = 10
  · rw [if_pos h10, h10]
  · rw [if_neg h10]
    rcases Nat.lt_or_ge (e - J) 10 with h | h
    · rw [decide_eq_true h]
      have := dval_lt (L := L) (i := J) (e - J) (fun t ht => hd (J + t) (by omega) (by omega))
      have h9 : 10 ^ (e - J) ≤ 10 ^ 9 := Nat.pow_le_pow_right (by omega) (by omega)
      rw [decide_eq_true (by omega)]
    · rw [decide_eq_false (by omega)]
      have hne : ¬ L J = 48 := of_decide_eq_false (by have := scan_at (p := pZ L) (N := e) (i := i) (by rw [← hJ]; omega); rw [← hJ] at this; exact this)
      have hdj := bDig_t (hd J h1 (by omega))
      have hg : 1 ≤ dg (L J) := by
        unfold dg
        have h48 : ¬ (L J).toInt = 48 := fun q => hne (k_of (y := 48) q)
        omega
      have := dval_ge hg (e - J - 1)
      rw [show e - J - 1 + 1 = e - J by omega] at this
      have h9 : 10 ^ 10 ≤ 10 ^ (e - J - 1) := Nat.pow_le_pow_right (by omega) (by omega)
      rw [decide_eq_false (by omega)]
/-- what blanks skips: the place behind, the fault -/
def skp (L : Nat → Int32) (N : Nat) : Nat → Nat → Nat × Option Nat
  | 0, i => (i, none)
  | f + 1, i => if bBlk (L i) = true then skp L N f (i + 1) else if L i = 47 ∧ L (i + 1) = 47 then (if (stpLin L N i).2.1 = none then skp L N f (stpLin L N i).1 else (i, (stpLin L N i).2.1)) else if L i = 47 ∧ L (i + 1) = 42 then (if (stpStar L N i).2.1 = none then skp L N f (stpStar L N i).1 else (i, (stpStar L N i).2.1)) else (i, none)
theorem lin_none {L : Nat → Int32} {N i : Nat} (h : ¬ (scan (pLin L) N (i + 2) < N ∧ ¬ L (scan (pLin L) N (i + 2)) = 10)) : (stpLin L N i).2.1 = none := if_neg h
theorem lin_some {L : Nat → Int32} {N i : Nat} (h : scan (pLin L) N (i + 2) < N ∧ ¬ L (scan (pLin L) N (i + 2)) = 10) : (stpLin L N i).2.1 = some (scan (pLin L) N (i + 2)) := if_pos h
theorem star_none {L : Nat → Int32} {N i : Nat} (h : scan (pStar L) N (i + 2) < N) (h2 : L (scan (pStar L) N (i + 2)) = 42 ∧ L (scan (pStar L) N (i + 2) + 1) = 47) : (stpStar L N i).2.1 = none ∧ (stpStar L N i).1 = scan (pStar L) N (i + 2) + 2 := by
  unfold stpStar
  dsimp only
  rw [if_pos h, if_pos h2, if_pos h, if_pos h2]
  exact ⟨rfl, rfl⟩
theorem star_bad {L : Nat → Int32} {N i : Nat} (h : scan (pStar L) N (i + 2) < N) (h2 : ¬ (L (scan (pStar L) N (i + 2)) = 42 ∧ L (scan (pStar L) N (i + 2) + 1) = 47)) : (stpStar L N i).2.1 = some (scan (pStar L) N (i + 2)) := by
  unfold stpStar
  dsimp only
  rw [if_pos h, if_neg h2]
theorem star_end {L : Nat → Int32} {N i : Nat} (h : ¬ scan (pStar L) N (i + 2) < N) : (stpStar L N i).2.1 = some i := by
  unfold stpStar
  dsimp only
  rw [if_neg h]
/-- the reference's run: place, fault, kinds, froms, tos, how many -/
abbrev MR : Type := Nat × Option Nat × (Nat → Int32) × (Nat → Int32) × (Nat → Int32) × Nat
def mstep (L : Nat → Int32) (N : Nat) (s : MR) : MR := match tok L N s.1 with
  | none => (s.1, some s.1, s.2.2.1, s.2.2.2.1, s.2.2.2.2.1, s.2.2.2.2.2)
  | some q => ((skp L N (N + 1 - q.2.2) q.2.2).1, (skp L N (N + 1 - q.2.2) q.2.2).2, upd s.2.2.1 s.2.2.2.2.2 (mkd L s.1), upd s.2.2.2.1 s.2.2.2.2.2 (nI s.1), upd s.2.2.2.2.1 s.2.2.2.2.2 (nI q.2.2), s.2.2.2.2.2 + 1)
def mrun (L : Nat → Int32) (N : Nat) : Nat → MR → MR
  | 0, s => s
  | f + 1, s => if s.2.1 = none ∧ s.1 < N then mrun L N f (mstep L N s) else s
/-- the first k bytes of tr, the rest of tx -/
def cpy (tr tx : Nat → Int32) (k : Nat) : Nat → Int32 := fun j => if j < k then tr j else tx j
theorem cpy_step (tr tx : Nat → Int32) (k : Nat) : upd (cpy tr tx k) k (tr k) = cpy tr tx (k + 1) := by
  funext j
  unfold upd cpy
  by_cases h : j = k
  · rw [if_pos h, if_pos (by omega), h]
  · rw [if_neg h]
    by_cases h2 : j < k
    · rw [if_pos h2, if_pos (by omega)]
    · rw [if_neg h2, if_neg (by omega)]
theorem cpy_0 (tr tx : Nat → Int32) : cpy tr tx 0 = tx := by
  funext j; unfold cpy; rw [if_neg (by omega)]
theorem skp_ok {tx : Nat → Int32} {N : Nat} : ∀ (f i : Nat), i ≤ N → N + 1 ≤ i + f → i ≤ (skp (look tx N) N f i).1 ∧ (skp (look tx N) N f i).1 ≤ N ∧ (∀ p, (skp (look tx N) N f i).2 = some p → p < N) ∧ ((skp (look tx N) N f i).2 = none → bBlk (look tx N (skp (look tx N) N f i).1) = false ∧ ¬ (look tx N (skp (look tx N) N f i).1 = 47 ∧ look tx N ((skp (look tx N) N f i).1 + 1) = 47) ∧ ¬ (look tx N (skp (look tx N) N f i).1 = 47 ∧ look tx N ((skp (look tx N) N f i).1 + 1) = 42))
  | 0, i, h1, h2 => by omega
  | f + 1, i, h1, h2 => by
    rw [skp]
    split
    · rename_i hb
      have hi : i < N := look_pos (tx := tx) (by have := bBlk_t hb; omega)
      have := skp_ok (tx := tx) (N := N) f (i + 1) hi (by omega)
      exact ⟨by omega, this.2.1, this.2.2⟩
    · rename_i hb
      have hb : bBlk (look tx N i) = false := Bool.eq_false_iff.mpr hb
      split
      · rename_i hc
        have hl := look_ltN hc.2 (by decide)
        have hs : stp (look tx N) N i = stpLin (look tx N) N i := by unfold stp; rw [if_neg (by rw [hb]; decide), if_pos hc]
        have hp := stp_prog (tx := tx) (N := N) (i := i) (by omega)
        rw [hs] at hp
        split
        · rename_i hn
          have h3 := hp.1 hn
          have := skp_ok (tx := tx) f (stpLin (look tx N) N i).1 hp.2.1 (by omega)
          exact ⟨by omega, this.2.1, this.2.2⟩
        · rename_i hn
          exact ⟨Nat.le_refl i, h1, fun p hq => stp_fa (i := i) (by omega) (by rw [hs]; exact hq), fun hq => absurd hq hn⟩
      · rename_i hc1
        split
        · rename_i hc
          have hl := look_ltN hc.2 (by decide)
          have hs : stp (look tx N) N i = stpStar (look tx N) N i := by unfold stp; rw [if_neg (by rw [hb]; decide), if_neg hc1, if_pos hc]
          have hp := stp_prog (tx := tx) (N := N) (i := i) (by omega)
          rw [hs] at hp
          split
          · rename_i hn
            have h3 := hp.1 hn
            have := skp_ok (tx := tx) f (stpStar (look tx N) N i).1 hp.2.1 (by omega)
            exact ⟨by omega, this.2.1, this.2.2⟩
          · rename_i hn
            exact ⟨Nat.le_refl i, h1, fun p hq => stp_fa (i := i) (by omega) (by rw [hs]; exact hq), fun hq => absurd hq hn⟩
        · rename_i hc2
          exact ⟨Nat.le_refl i, h1, fun p hq => (by cases hq), fun _ => ⟨hb, hc1, hc2⟩⟩
