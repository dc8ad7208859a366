/-! the reference's kind and end are those of the token -/
theorem tkE_some {o : Tok} (h : 0 ≤ tkE o) : ∃ q, o = some q := by
  cases o with
  | none => exact absurd h (by decide)
  | some q => exact ⟨q, rfl⟩
theorem tkE_none {o : Tok} {N : Nat} (hN : N ≤ 16000) (hb : ∀ q, o = some q → q.2.2 ≤ N) (h : ¬ 0 ≤ tkE o) : o = none := by
  cases o with
  | none => rfl
  | some q => exact absurd (nI_pos' (n := q.2.2) (by have := hb q rfl; omega)) h
theorem mkd0 {tx : Nat → Int32} {N i : Nat} (hN : N ≤ 16000) (hi : i < N) (h : mkd (look tx N) i = 0) : tok (look tx N) N i = none := by
  unfold mkd at h
  split at h
  · exact absurd h (by decide)
  · rename_i h1
    split at h
    · exact absurd h (by decide)
    · rename_i h2
      split at h
      · exact absurd h (by decide)
      · rename_i h3
        split at h
        · exact absurd h (by decide)
        · rename_i h4
          have hd : ¬ bDig (look tx N i) = true := fun z => h1 (Or.inl z)
          have hl : ¬ bLet (look tx N i) = true := fun z => h2 (decide_eq_true (by have := bLet_t z; omega))
          have ht : tok (look tx N) N i = tokSgn (look tx N) i := by unfold tok; rw [if_neg hl, if_neg hd, if_neg (fun z => h1 (Or.inr z)), if_neg h3]
          rw [sgn_eq (look tx N) (by omega)] at h4
          rw [← ht] at h4
          cases ho : tok (look tx N) N i with
          | none => rfl
          | some q =>
            have he := tok_end hi (look_ne hi) ho
            rw [ho] at h4
            exact absurd (show 0 < tkE (some q) from nI_lt (a := 0) (b := q.2.2) (by omega) (by omega)) h4
theorem c_X1_endOf (g : Gl) (b : Nat → Nat) (tr : Nat → Int32) (n fed : Int32) (tx : Nat → Int32) (ks fs ts : Nat → Int32) (ct pl : Int32) (N i : Nat) (hN : N ≤ 16000) (hi : i < N) (hk : ¬ mkd (look tx N) i = 0) : Ctr g yX1_endOf wsX1_endOf ({ frames := 6, cells := 0, slots := 0, locals := 134 }) [.ref (b 0), .int (mkd (look tx N) i), .int (nI i)] (mw g b tr n fed tx (nI N) ks fs ts ct pl) (some (.int (tkE (tok (look tx N) N i)))) (mw g b tr n fed tx (nI N) ks fs ts ct pl) 0 0 := by
  have hm : mkd (look tx N) i = _ := rfl
  unfold mkd at hm hk
  by_cases h1 : bDig (look tx N i) = true ∨ look tx N i = 39
  · have e2 : mkd (look tx N) i = 2 := by unfold mkd; rw [if_pos h1]
    rw [e2]
    by_cases hq : look tx N i = 39
    · have ht : tok (look tx N) N i = tokQuo (look tx N) i := by
        unfold tok; rw [if_neg (by rw [hq]; decide), if_neg (by rw [hq]; decide), if_pos hq]
      rw [ht]
      exact c_X1_endOf2q g b tr n fed tx ks fs ts ct pl N i hN hi hq
    · have hd : bDig (look tx N i) = true := h1.resolve_right hq
      have hl : ¬ bLet (look tx N i) = true := fun z => by have := bLet_t z; have := bDig_t hd; omega
      cases hx : bHex (look tx N) i with
      | true =>
        have ht : tok (look tx N) N i = tokHex (look tx N) N i := by unfold tok; rw [if_neg hl, if_pos hd, if_pos hx]
        rw [ht]
        exact c_X1_endOf2h g b tr n fed tx ks fs ts ct pl N i hN hi hx
      | false =>
        have ht : tok (look tx N) N i = tokDig (look tx N) N i := by unfold tok; rw [if_neg hl, if_pos hd, if_neg (by rw [hx]; decide)]
        rw [ht]
        exact c_X1_endOf2d g b tr n fed tx ks fs ts ct pl N i hN hi hx hq
  · rw [if_neg h1] at hk
    have hd : ¬ bDig (look tx N i) = true := fun z => h1 (Or.inl z)
    have hq : ¬ look tx N i = 39 := fun z => h1 (Or.inr z)
    by_cases h2 : bNam (look tx N i) = true
    · have e2 : mkd (look tx N) i = 1 := by unfold mkd; rw [if_neg h1, if_pos h2]
      have hl : bLet (look tx N i) = true := decide_eq_true (by have := bNam_t h2; have : ¬ (48 ≤ (look tx N i).toInt ∧ (look tx N i).toInt ≤ 57) := fun z => hd (decide_eq_true z); omega)
      have ht : tok (look tx N) N i = tokName (look tx N) N i := by unfold tok; rw [if_pos hl]
      have hs := scan_step (p := pNam (look tx N)) hi h2
      have hv : tkE (tokName (look tx N) N i) = if scan (pNam (look tx N)) N i - i ≤ 24 then nI (scan (pNam (look tx N)) N i) else -1 := by
        unfold tokName
        rw [hs]
        by_cases h24 : 24 < scan (pNam (look tx N)) N (i + 1) - i
        · rw [if_pos h24, if_neg (by omega)]; rfl
        · rw [if_neg h24, if_pos (show scan (pNam (look tx N)) N (i + 1) - i ≤ 24 by omega)]
          split <;> rfl
      rw [e2, ht, hv]
      exact c_X1_endOf1 g b tr n fed tx ks fs ts ct pl N i hN hi
    · rw [if_neg h2] at hk
      have hl : ¬ bLet (look tx N i) = true := fun z => h2 (decide_eq_true (by have := bLet_t z; omega))
      by_cases h3 : look tx N i = 34
      · have e2 : mkd (look tx N) i = 3 := by unfold mkd; rw [if_neg h1, if_neg h2, if_pos h3]
        have ht : tok (look tx N) N i = tokStr (look tx N) i := by unfold tok; rw [if_neg hl, if_neg hd, if_neg hq, if_pos h3]
        rw [e2, ht]
        exact c_X1_endOf3 g b tr n fed tx ks fs ts ct pl N i hN hi
      · rw [if_neg h3] at hk
        have h4 : 0 < sgnE (look tx N) i := Classical.byContradiction (fun z => hk (by rw [if_neg z]))
        have e2 : mkd (look tx N) i = 5 := by unfold mkd; rw [if_neg h1, if_neg h2, if_neg h3, if_pos h4]
        have ht : tok (look tx N) N i = tokSgn (look tx N) i := by unfold tok; rw [if_neg hl, if_neg hd, if_neg hq, if_neg h3]
        rw [e2, ht, ← sgn_eq (look tx N) (by omega)]
        exact c_X1_endOf5 g b tr n fed tx ks fs ts ct pl N i hN hi
theorem mrun_stop {L : Nat → Int32} {N : Nat} {s : MR} (h : ¬ (s.2.1 = none ∧ s.1 < N)) : ∀ f, mrun L N f s = s
  | 0 => rfl
  | f + 1 => by rw [mrun, if_neg h]
theorem mstep_some {L : Nat → Int32} {N : Nat} {s : MR} {q : Int32 × Int32 × Nat} (h : tok L N s.1 = some q) : mstep L N s = ((skp L N (N + 1 - q.2.2) q.2.2).1, (skp L N (N + 1 - q.2.2) q.2.2).2, upd s.2.2.1 s.2.2.2.2.2 (mkd L s.1), upd s.2.2.2.1 s.2.2.2.2.2 (nI s.1), upd s.2.2.2.2.1 s.2.2.2.2.2 (nI q.2.2), s.2.2.2.2.2 + 1) := by
  unfold mstep; rw [h]
theorem mstep_none {L : Nat → Int32} {N : Nat} {s : MR} (h : tok L N s.1 = none) : mstep L N s = (s.1, some s.1, s.2.2.1, s.2.2.2.1, s.2.2.2.2.1, s.2.2.2.2.2) := by
  unfold mstep; rw [h]
