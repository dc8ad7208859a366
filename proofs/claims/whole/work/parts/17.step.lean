/-! PURE: a step of the class's cut, and the whole run -/
theorem g_perm {g : Gl} {X : Cx} {q : Nat × Nat} {ws ws' : va_W} {pc : Nat} {lv : List (Nat × Value)} {st : List Value} (is : List Nat) (hn : va_nd is = true) (h1 : is.filterMap (fun i => ws[i]?) = ws') (h2 : is.map (fun i => ws[i]?) = ws'.map some) (k : G g X q ws' pc lv st) : G g X q ws pc lv st := by
  obtain ⟨p, l, e, R, s, m, args, below, meth, c, A, n9, Q⟩ := X
  intro H locs ls hP hD hS hl
  exact k H locs ls (hP.sub is h1) (hD.sub is hn h2) hS hl
theorem look_ltN {tx : Nat → Int32} {N i : Nat} {v : Int32} (h : look tx N i = v) (hv : ¬ v = -1) : i < N := by
  rcases Nat.lt_or_ge i N with q | q
  · exact q
  · rw [look_out q] at h; exact absurd h.symm hv
def tok (L : Nat → Int32) (N i : Nat) : Tok :=
  if bLet (L i) = true then tokName L N i else if bDig (L i) = true then (if bHex L i = true then tokHex L N i else tokDig L N i) else if L i = 39 then tokQuo L i else if L i = 34 then tokStr L i else tokSgn L i
/-- a step: the place behind it, the fault, how many lines more, the token -/
abbrev LStp : Type := Nat × Option Nat × Nat × Tok
def stpLin (L : Nat → Int32) (N i : Nat) : LStp := (scan (pLin L) N (i + 2), (if scan (pLin L) N (i + 2) < N ∧ ¬ L (scan (pLin L) N (i + 2)) = 10 then some (scan (pLin L) N (i + 2)) else none), 0, none)
def stpStar (L : Nat → Int32) (N i : Nat) : LStp :=
  ((if scan (pStar L) N (i + 2) < N then (if L (scan (pStar L) N (i + 2)) = 42 ∧ L (scan (pStar L) N (i + 2) + 1) = 47 then scan (pStar L) N (i + 2) + 2 else scan (pStar L) N (i + 2)) else i), (if scan (pStar L) N (i + 2) < N then (if L (scan (pStar L) N (i + 2)) = 42 ∧ L (scan (pStar L) N (i + 2) + 1) = 47 then none else some (scan (pStar L) N (i + 2))) else some i), cnt L (i + 2) (scan (pStar L) N (i + 2) - (i + 2)), none)
def stpTok (o : Tok) (i : Nat) : LStp := match o with
  | none => (i, some i, 0, none)
  | some q => (q.2.2, none, 0, some q)
def stp (L : Nat → Int32) (N i : Nat) : LStp :=
  if bBlk (L i) = true then (i + 1, none, (if L i = 10 then 1 else 0), none) else if L i = 47 ∧ L (i + 1) = 47 then stpLin L N i else if L i = 47 ∧ L (i + 1) = 42 then stpStar L N i else stpTok (tok L N i) i
def stF (o : Option Nat) (fa : Int32) : Int32 := match o with
  | none => fa
  | some p => nI p
theorem stpTok_r (o : Tok) (i : Nat) : nI (stpTok o i).1 = tkR o i := by cases o <;> rfl
theorem stpTok_f (o : Tok) (i : Nat) (fa : Int32) : stF (stpTok o i).2.1 fa = tkF o fa i := by cases o <;> rfl
theorem stpTok_l (o : Tok) (i : Nat) (ln : Int32) : ln + nI (stpTok o i).2.2.1 = ln := by cases o <;> exact Int32.add_zero ln
theorem stpTok_t (o : Tok) (i : Nat) (T : TK) (c : Nat) (ln : Int32) : tkT (stpTok o i).2.2.2 T c i ln = tkT o T c i ln := by cases o <;> rfl
/-- a state of the run: place, fault, line, tokens, how many -/
abbrev Run : Type := Nat × Option Nat × Nat × TK × Nat
def rstep (L : Nat → Int32) (N : Nat) (s : Run) : Run :=
  ((stp L N s.1).1, (stp L N s.1).2.1, s.2.2.1 + (stp L N s.1).2.2.1, tkT (stp L N s.1).2.2.2 s.2.2.2.1 s.2.2.2.2 s.1 (nI s.2.2.1), s.2.2.2.2 + (match (stp L N s.1).2.2.2 with | none => 0 | some _ => 1))
def crun (L : Nat → Int32) (N : Nat) : Nat → Run → Run
  | 0, s => s
  | f + 1, s => if s.1 < N ∧ s.2.1 = none then crun L N f (rstep L N s) else s
/-- how far a token goes -/
theorem sgo_end {tx : Nat → Int32} {N : Nat} : ∀ (f k p : Nat) (q : Int32 × Int32 × Nat), sgo (look tx N) f k p = some q → p < q.2.2 ∧ q.2.2 ≤ N
  | 0, k, p, q, h => by rw [sgo] at h; cases h
  | f + 1, k, p, q, h => by
    rw [sgo] at h
    split at h
    · rename_i h34
      cases h
      exact ⟨Nat.lt_succ_self p, look_ltN h34 (by decide)⟩
    · split at h
      · cases h
      · have := sgo_end f (k + 1) _ q h
        omega
theorem sg3_z {x y z : Int32} (h : 0 ≤ (sg3 x y z).toInt) : z = 61 := by
  unfold sg3 at h
  split at h
  · rename_i q; exact q.2
  · exact absurd h (by decide)
theorem sg2_y {x y : Int32} (h : 0 ≤ (sg2 x y).toInt) (hx : ¬ x = -1) : ¬ y = -1 := by
  intro e
  subst e
  unfold sg2 at h
  rw [if_neg (by decide), if_neg (fun q => hx q.symm)] at h
  exact absurd h (by decide)
theorem tok_end {tx : Nat → Int32} {N i : Nat} (hi : i < N) (hs : ¬ look tx N i = -1) {q : Int32 × Int32 × Nat} (h : tok (look tx N) N i = some q) : i < q.2.2 ∧ q.2.2 ≤ N := by
  unfold tok at h
  split at h
  · unfold tokName at h
    have h1 := scan_ge (pNam (look tx N)) N (i + 1)
    have h2 := scan_le (p := pNam (look tx N)) (N := N) (i := i + 1) (by omega)
    split at h
    · cases h
    · split at h <;> (cases h; exact ⟨by show i < scan _ _ _; omega, h2⟩)
  · split at h
    · rename_i hd
      split at h
      · rename_i hx
        have hx2 := of_decide_eq_true hx
        have hl := look_ltN hx2.2.1 (by decide)
        unfold tokHex at h
        have h1 := scan_ge (pHex (look tx N)) N (i + 2)
        have h2 := scan_le (p := pHex (look tx N)) (N := N) (i := i + 2) (by omega)
        split at h
        · cases h
        · cases h; exact ⟨by show i < scan _ _ _; omega, h2⟩
      · unfold tokDig at h
        have h1 := scan_ge (pDig (look tx N)) N (i + 1)
        have h2 := scan_le (p := pDig (look tx N)) (N := N) (i := i) (by omega)
        have h3 := scan_step (p := pDig (look tx N)) hi hd
        split at h
        · cases h
        · cases h; exact ⟨by show i < scan _ _ _; omega, h2⟩
    · split at h
      · unfold tokQuo at h
        split at h
        · cases h
        · split at h
          · rename_i hq
            have hl := look_ltN hq (by decide)
            cases h; exact ⟨by show i < _ + 1; omega, by show _ + 1 ≤ N; omega⟩
          · cases h
      · split at h
        · unfold tokStr at h
          have := sgo_end _ _ _ _ h
          omega
        · unfold tokSgn at h
          split at h
          · rename_i h3
            have hl := look_ltN (sg3_z h3) (by decide)
            cases h; exact ⟨by show i < i + 3; omega, by show i + 3 ≤ N; omega⟩
          · split at h
            · rename_i h3
              have hl := look_ltN rfl (sg2_y h3 hs)
              cases h; exact ⟨by show i < i + 2; omega, by show i + 2 ≤ N; omega⟩
            · split at h
              · cases h; exact ⟨by show i < i + 1; omega, by show i + 1 ≤ N; omega⟩
              · cases h
theorem look_ne {tx : Nat → Int32} {N i : Nat} (hi : i < N) : ¬ look tx N i = -1 := by
  intro h
  have := look_rng tx N i
  rw [h] at this
  rcases this with q | q
  · omega
  · exact absurd q.1 (by decide)
theorem stp_prog {tx : Nat → Int32} {N i : Nat} (hi : i < N) : ((stp (look tx N) N i).2.1 = none → i < (stp (look tx N) N i).1) ∧ (stp (look tx N) N i).1 ≤ N ∧ ((stp (look tx N) N i).2.2.2 ≠ none → (stp (look tx N) N i).2.1 = none) := by
  unfold stp
  split
  · exact ⟨fun _ => Nat.lt_succ_self i, hi, fun h => absurd rfl h⟩
  · split
    · rename_i hc
      have hl := look_ltN hc.2 (by decide)
      have h1 := scan_ge (pLin (look tx N)) N (i + 2)
      have h2 := scan_le (p := pLin (look tx N)) (N := N) (i := i + 2) (by omega)
      exact ⟨fun _ => by show i < scan _ _ _; omega, h2, fun h => absurd rfl h⟩
    · split
      · rename_i hc
        have hl := look_ltN hc.2 (by decide)
        have h1 := scan_ge (pStar (look tx N)) N (i + 2)
        have h2 := scan_le (p := pStar (look tx N)) (N := N) (i := i + 2) (by omega)
        unfold stpStar
        refine ⟨fun h => ?_, ?_, fun h => absurd rfl h⟩
        · dsimp only at h ⊢
          split at h
          · rename_i q
            rw [if_pos q]
            split at h
            · rename_i q2; rw [if_pos q2]; omega
            · cases h
          · cases h
        · dsimp only
          split
          · split
            · rename_i q2
              have := look_ltN q2.2 (by decide)
              omega
            · omega
          · omega
      · cases ho : tok (look tx N) N i with
        | none => exact ⟨fun h => (by cases h), (by show i ≤ N; omega), fun h => absurd rfl h⟩
        | some q =>
          have := tok_end hi (look_ne hi) ho
          exact ⟨fun _ => this.1, this.2, fun _ => rfl⟩
theorem stp_fa {tx : Nat → Int32} {N i p : Nat} (hi : i < N) (h : (stp (look tx N) N i).2.1 = some p) : p < N := by
  unfold stp at h
  split at h
  · cases h
  · split at h
    · unfold stpLin at h
      dsimp only at h
      split at h
      · rename_i q; cases h; exact q.1
      · cases h
    · split at h
      · unfold stpStar at h
        dsimp only at h
        split at h
        · rename_i q
          split at h
          · cases h
          · cases h; exact q
        · cases h; exact hi
      · cases ho : tok (look tx N) N i with
        | none => rw [ho] at h; cases h; exact hi
        | some q => rw [ho] at h; cases h
theorem stF_none {o : Option Nat} {N : Nat} (hN : N ≤ 16000) (hb : ∀ p, o = some p → p < N) (h : ¬ 0 ≤ stF o (-1)) : o = none := by
  cases o with
  | none => rfl
  | some p => exact absurd (nI_pos' (n := p) (by have := hb p rfl; omega)) h
theorem stF_some {o : Option Nat} (h : 0 ≤ stF o (-1)) : ¬ o = none := by
  intro z
  rw [z] at h
  exact absurd h (by decide)
theorem run_T {L : Nat → Int32} {N : Nat} {s : Run} (h : s.2.2.2.1.2.2.2.2.2 = nI s.2.2.2.2) : (rstep L N s).2.2.2.1.2.2.2.2.2 = nI (rstep L N s).2.2.2.2 := by
  unfold rstep
  dsimp only
  cases (stp L N s.1).2.2.2 with
  | none => exact h
  | some q => rfl
theorem run_c {tx : Nat → Int32} {N : Nat} {s : Run} (hs : s.1 < N) (hf : s.2.1 = none) (h : s.2.2.2.2 ≤ s.1 ∨ s.2.1 ≠ none ∧ s.2.2.2.2 ≤ N) : (rstep (look tx N) N s).2.2.2.2 ≤ (rstep (look tx N) N s).1 ∨ (rstep (look tx N) N s).2.1 ≠ none ∧ (rstep (look tx N) N s).2.2.2.2 ≤ N := by
  have hc : s.2.2.2.2 ≤ s.1 := by
    rcases h with h | h
    · exact h
    · exact absurd hf h.1
  obtain ⟨h1, h2, h3⟩ := stp_prog (tx := tx) hs
  unfold rstep
  dsimp only
  cases ho : (stp (look tx N) N s.1).2.2.2 with
  | none =>
    dsimp only
    cases hq : (stp (look tx N) N s.1).2.1 with
    | none => exact Or.inl (by have := h1 hq; omega)
    | some p => exact Or.inr ⟨fun z => (by cases z), by omega⟩
  | some q =>
    have := h1 (h3 (by rw [ho]; exact fun z => (by cases z)))
    exact Or.inl (by dsimp only; omega)
theorem run_lt {s : Run} {N : Nat} (h : s.2.2.2.2 ≤ s.1 ∨ s.2.1 ≠ none ∧ s.2.2.2.2 ≤ N) (hf : s.2.1 = none) : s.2.2.2.2 ≤ s.1 := by
  rcases h with h | h
  · exact h
  · exact absurd hf h.1
