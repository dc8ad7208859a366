/-! PURE: the class's run and the reference's run -/
theorem cnt_add (L : Nat → Int32) (i : Nat) : ∀ k, cnt L 0 (i + k) = cnt L 0 i + cnt L i k
  | 0 => rfl
  | k + 1 => by
    rw [show i + (k + 1) = (i + k) + 1 by omega, cnt, cnt_add L i k, cnt, show 0 + (i + k) = i + k by omega]; omega
theorem cnt_zero {L : Nat → Int32} {i : Nat} : ∀ k, (∀ t, t < k → ¬ L (i + t) = 10) → cnt L i k = 0
  | 0, _ => rfl
  | k + 1, h => by rw [cnt, cnt_zero k (fun t ht => h t (by omega)), if_neg (h k (by omega))]
/-- no byte 10 from i up to e: the lines stay -/
theorem cnt_same {L : Nat → Int32} {i e : Nat} (hie : i ≤ e) (h : ∀ t, i ≤ t → t < e → ¬ L t = 10) : cnt L 0 e = cnt L 0 i := by
  have := cnt_add L i (e - i)
  rw [show i + (e - i) = e by omega, cnt_zero (e - i) (fun t ht => h (i + t) (by omega) (by omega))] at this
  omega
theorem cwd_no10 {L : Nat → Int32} {p : Nat} {c : Int32} (h : ¬ cwd L p c = 0) : ∀ t, p ≤ t → t < p + cwd L p c → ¬ L t = 10 := by
  intro t h1 h2 e
  unfold cwd at h h2
  by_cases a : L p = 92
  · rw [if_pos a] at h h2
    by_cases b : 0 ≤ (escv (L (p + 1))).toInt
    · rw [if_pos b] at h2
      rcases (show t = p ∨ t = p + 1 by omega) with z | z
      · rw [z, a] at e; exact absurd e (by decide)
      · rw [z] at e; rw [e] at b; exact absurd b (by decide)
    · rw [if_neg b] at h; exact h rfl
  · rw [if_neg a] at h h2
    by_cases b : 32 ≤ (L p).toInt ∧ (L p).toInt ≤ 126 ∧ ¬ L p = c
    · rw [if_pos b] at h2
      rw [show t = p by omega] at e
      rw [e] at b; exact absurd b.1 (by decide)
    · rw [if_neg b] at h; exact h rfl
theorem sgo_no10 {L : Nat → Int32} {q : Int32 × Int32 × Nat} : ∀ (f k p : Nat), sgo L f k p = some q → ∀ t, p ≤ t → t < q.2.2 → ¬ L t = 10
  | 0, k, p, h => by rw [sgo] at h; cases h
  | f + 1, k, p, h => by
    rw [sgo] at h
    split at h
    · rename_i a
      cases h
      intro t h1 h2 e
      have h2 : t < p + 1 := h2
      rw [show t = p by omega, a] at e; exact absurd e (by decide)
    · split at h
      · cases h
      · rename_i b
        intro t h1 h2
        by_cases z : t < p + cwd L p 34
        · exact cwd_no10 b t h1 z
        · exact sgo_no10 f (k + 1) _ h t (by omega) h2
theorem tok_no10 {tx : Nat → Int32} {N i : Nat} {q : Int32 × Int32 × Nat} (h : tok (look tx N) N i = some q) : ∀ t, i ≤ t → t < q.2.2 → ¬ look tx N t = 10 := by
  refine tok_elim h ?_ ?_ ?_ ?_ ?_ ?_
  · intro a b t h1 h2 e
    have a1 := bLet_t a
    by_cases z : t = i
    · rw [← z, e] at a1; exact absurd a1 (by decide)
    · have hq : q.2.2 = scan (pNam (look tx N)) N (i + 1) := by
        unfold tokName at b
        split at b
        · cases b
        · split at b <;> (cases b; rfl)
      have := scan_all (p := pNam (look tx N)) (N := N) (i := i + 1) (j := t) (by omega) (by omega)
      have a2 := bNam_t (x := look tx N t) this
      rw [e] at a2; exact absurd a2 (by decide)
  · intro a b c t h1 h2 e
    have hx := of_decide_eq_true b
    rw [hex_q c] at h2
    have h2 : t < scan (pHex (look tx N)) N (i + 2) := h2
    rcases (show t = i ∨ t = i + 1 ∨ i + 2 ≤ t by omega) with z | z | z
    · rw [z, hx.1] at e; exact absurd e (by decide)
    · rw [z, hx.2.1] at e; exact absurd e (by decide)
    · have := of_decide_eq_true (scan_all (p := pHex (look tx N)) (N := N) (i := i + 2) (j := t) z h2)
      rw [e] at this; exact absurd this (by decide)
  · intro a b c t h1 h2 e
    rw [dig_q c] at h2
    have h2 : t < scan (pDig (look tx N)) N i := h2
    have := bDig_t (scan_all (p := pDig (look tx N)) (N := N) (i := i) (j := t) h1 h2)
    rw [e] at this; exact absurd this (by decide)
  · intro a c t h1 h2 e
    obtain ⟨c1, c2, c3⟩ := quo_q c
    rw [c3] at h2
    have h2 : t < i + 1 + cwd (look tx N) (i + 1) 39 + 1 := h2
    rcases (show t = i ∨ (i + 1 ≤ t ∧ t < i + 1 + cwd (look tx N) (i + 1) 39) ∨ t = i + 1 + cwd (look tx N) (i + 1) 39 by omega) with z | z | z
    · rw [z, a] at e; exact absurd e (by decide)
    · exact cwd_no10 c1 t z.1 z.2 e
    · rw [z, c2] at e; exact absurd e (by decide)
  · intro a c t h1 h2 e
    by_cases z : t = i
    · rw [z, a] at e; exact absurd e (by decide)
    · exact sgo_no10 201 0 (i + 1) c t (by omega) h2 e
  · intro a b c d f t h1 h2 e
    unfold tokSgn at f
    split at f
    · rename_i g3
      cases f
      have h2 : t < i + 3 := h2
      rcases (show t = i ∨ t = i + 1 ∨ t = i + 2 by omega) with z | z | z
      · rw [← z, e] at g3; unfold sg3 at g3; split at g3 <;> exact absurd g3 (by decide)
      · rw [← z, e] at g3; unfold sg3 at g3
        split at g3
        · rename_i y; rw [y.1] at g3; exact absurd g3 (by decide)
        · exact absurd g3 (by decide)
      · rw [← z, e] at g3; unfold sg3 at g3; rw [if_neg (fun y => absurd y.2 (by decide))] at g3; exact absurd g3 (by decide)
    · split at f
      · rename_i g2
        cases f
        have h2 : t < i + 2 := h2
        rcases (show t = i ∨ t = i + 1 by omega) with z | z
        · rw [← z, e] at g2; unfold sg2 at g2
          split at g2
          · exact absurd g2 (by decide)
          · split at g2 <;> exact absurd g2 (by decide)
        · rw [← z, e] at g2; unfold sg2 at g2
          rw [if_neg (by decide)] at g2
          split at g2
          · rename_i y; rw [← y] at g2; exact absurd g2 (by decide)
          · exact absurd g2 (by decide)
      · split at f
        · rename_i g1
          cases f
          have h2 : t < i + 1 := h2
          rw [show t = i by omega] at e
          rw [e] at g1; exact absurd g1 (by decide)
        · cases f
theorem skp_fuel {tx : Nat → Int32} {N : Nat} : ∀ (f f' i : Nat), i ≤ N → N + 1 ≤ i + f → N + 1 ≤ i + f' → skp (look tx N) N f i = skp (look tx N) N f' i
  | 0, f', i, h1, h2, h3 => by omega
  | f + 1, 0, i, h1, h2, h3 => by omega
  | f + 1, f' + 1, i, h1, h2, h3 => by
    rw [skp, skp]
    by_cases hb : bBlk (look tx N i) = true
    · rw [if_pos hb, if_pos hb]
      have hi : i < N := look_pos (tx := tx) (by have := bBlk_t hb; omega)
      exact skp_fuel f f' (i + 1) hi (by omega) (by omega)
    · rw [if_neg hb, if_neg hb]
      have hb2 : bBlk (look tx N i) = false := Bool.eq_false_iff.mpr hb
      by_cases hc : look tx N i = 47 ∧ look tx N (i + 1) = 47
      · rw [if_pos hc, if_pos hc]
        have hl := look_ltN hc.2 (by decide)
        have hs : stp (look tx N) N i = stpLin (look tx N) N i := by unfold stp; rw [if_neg hb, if_pos hc]
        have hp := stp_prog (tx := tx) (N := N) (i := i) (by omega)
        rw [hs] at hp
        by_cases hn : (stpLin (look tx N) N i).2.1 = none
        · rw [if_pos hn, if_pos hn]
          have h4 := hp.1 hn
          exact skp_fuel f f' _ hp.2.1 (by omega) (by omega)
        · rw [if_neg hn, if_neg hn]
      · rw [if_neg hc, if_neg hc]
        by_cases hd : look tx N i = 47 ∧ look tx N (i + 1) = 42
        · rw [if_pos hd, if_pos hd]
          have hl := look_ltN hd.2 (by decide)
          have hs : stp (look tx N) N i = stpStar (look tx N) N i := by unfold stp; rw [if_neg hb, if_neg hc, if_pos hd]
          have hp := stp_prog (tx := tx) (N := N) (i := i) (by omega)
          rw [hs] at hp
          by_cases hn : (stpStar (look tx N) N i).2.1 = none
          · rw [if_pos hn, if_pos hn]
            have h4 := hp.1 hn
            exact skp_fuel f f' _ hp.2.1 (by omega) (by omega)
          · rw [if_neg hn, if_neg hn]
        · rw [if_neg hd, if_neg hd]
theorem crun_stop {L : Nat → Int32} {N : Nat} {s : Run} (h : ¬ (s.1 < N ∧ s.2.1 = none)) : ∀ f, crun L N f s = s
  | 0 => rfl
  | f + 1 => by rw [crun, if_neg h]
/-- what the class and the reference hold of a token -/
def TRel (L : Nat → Int32) (N : Nat) (T : TK) (ks fs ts : Nat → Int32) (k : Nat) : Prop := ∃ (i : Nat) (q : Int32 × Int32 × Nat), i < N ∧ tok L N i = some q ∧ T.1 k = q.1 ∧ T.2.1 k = nI i ∧ T.2.2.1 k = nI (q.2.2 - i) ∧ T.2.2.2.1 k = nI (1 + cnt L 0 i) ∧ T.2.2.2.2.1 k = q.2.1 ∧ ks k = mkd L i ∧ fs k = nI i ∧ ts k = nI q.2.2
def RelT (L : Nat → Int32) (N : Nat) (T : TK) (ks fs ts : Nat → Int32) (c : Nat) : Prop := ∀ k, k < c → TRel L N T ks fs ts k
theorem RelT.push {L : Nat → Int32} {N : Nat} {T : TK} {ks fs ts : Nat → Int32} {c i : Nat} {q : Int32 × Int32 × Nat} (h : RelT L N T ks fs ts c) (hi : i < N) (ho : tok L N i = some q) (hq : i ≤ q.2.2) : RelT L N (tkT (some q) T c i (nI (1 + cnt L 0 i))) (upd ks c (mkd L i)) (upd fs c (nI i)) (upd ts c (nI q.2.2)) (c + 1) := by
  intro k hk
  by_cases e : k = c
  · subst e
    exact ⟨i, q, hi, ho, pk_us, pk_us, pk_us.trans (nI_subI hq), pk_us, pk_us, pk_us, pk_us, pk_us⟩
  · obtain ⟨j, r, a1, a2, a3, a4, a5, a6, a7, a8, a9, a10⟩ := h k (by omega)
    exact ⟨j, r, a1, a2, (pk_un e).trans a3, (pk_un e).trans a4, (pk_un e).trans a5, (pk_un e).trans a6, (pk_un e).trans a7, (pk_un e).trans a8, (pk_un e).trans a9, (pk_un e).trans a10⟩
/-- two runs from the same place end alike -/
def Ends (L : Nat → Int32) (N : Nat) (Rc : Run) (Rm : MR) : Prop := Rc.2.1 = Rm.2.1 ∧ Rc.2.2.2.2 = Rm.2.2.2.2.2 ∧ Rc.2.2.2.1.2.2.2.2.2 = nI Rc.2.2.2.2 ∧ Rc.2.2.2.2 ≤ N ∧ RelT L N Rc.2.2.2.1 Rm.2.2.1 Rm.2.2.2.1 Rm.2.2.2.2.1 Rc.2.2.2.2
def SimAt (tx : Nat → Int32) (N i : Nat) : Prop := ∀ (ln c fc fm : Nat) (T : TK) (ks fs ts : Nat → Int32), c ≤ i → ln = 1 + cnt (look tx N) 0 i → N ≤ i + fc → N ≤ i + fm → T.2.2.2.2.2 = nI c → RelT (look tx N) N T ks fs ts c →
    Ends (look tx N) N (crun (look tx N) N fc (i, none, ln, T, c)) (mrun (look tx N) N fm ((skp (look tx N) N (N + 1 - i) i).1, (skp (look tx N) N (N + 1 - i) i).2, ks, fs, ts, c))
theorem crun_1 {L : Nat → Int32} {N i ln c fc : Nat} {T : TK} (hi : i < N) (hf : N ≤ i + fc) : ∃ f, crun L N fc (i, none, ln, T, c) = crun L N f (rstep L N (i, none, ln, T, c)) ∧ fc = f + 1 := by
  obtain ⟨f, rfl⟩ : ∃ f9, fc = f9 + 1 := ⟨fc - 1, by omega⟩
  exact ⟨f, by rw [crun, if_pos ⟨hi, rfl⟩], rfl⟩
theorem rstep_eq {L : Nat → Int32} {N i ln c j k : Nat} {T : TK} {o : Option Nat} (hs : stp L N i = (j, o, k, none)) : rstep L N (i, none, ln, T, c) = (j, o, ln + k, T, c) := by
  unfold rstep; dsimp only; rw [hs]; rfl
theorem rstep_tok {L : Nat → Int32} {N i ln c j : Nat} {T : TK} {q : Int32 × Int32 × Nat} (hs : stp L N i = (j, none, 0, some q)) : rstep L N (i, none, ln, T, c) = (j, none, ln, tkT (some q) T c i (nI ln), c + 1) := by
  unfold rstep; dsimp only; rw [hs]; rfl
theorem ends_fault {L : Nat → Int32} {N i j p ln c f fm : Nat} {T : TK} {ks fs ts : Nat → Int32} (h1 : c ≤ i) (h2 : i ≤ N) (h6 : T.2.2.2.2.2 = nI c) (h7 : RelT L N T ks fs ts c) : Ends L N (crun L N f (j, some p, ln, T, c)) (mrun L N fm (i, some p, ks, fs, ts, c)) := by
  rw [crun_stop (s := (j, some p, ln, T, c)) (fun z => Option.some_ne_none p (show some p = none from z.2)), mrun_stop (s := (i, some p, ks, fs, ts, c)) (fun z => Option.some_ne_none p (show some p = none from z.1))]
  exact ⟨rfl, rfl, h6, Nat.le_trans h1 h2, h7⟩
theorem sim_blank {tx : Nat → Int32} {N i : Nat} (hi : i < N) (hb : bBlk (look tx N i) = true) (IH : SimAt tx N (i + 1)) : SimAt tx N i := by
  intro ln c fc fm T ks fs ts h2 h3 h4 h5 h6 h7
  obtain ⟨f, e1, rfl⟩ := crun_1 (L := look tx N) (ln := ln) (c := c) (T := T) hi h4
  have hs : stp (look tx N) N i = (i + 1, none, (if look tx N i = 10 then 1 else 0), none) := by unfold stp; rw [if_pos hb]
  rw [e1, rstep_eq hs, show N + 1 - i = (N - i) + 1 by omega, skp, if_pos hb, skp_fuel (N - i) (N + 1 - (i + 1)) (i + 1) (by omega) (by omega) (by omega)]
  refine IH _ c f fm T ks fs ts (by omega) ?_ (by omega) (by omega) h6 h7
  rw [h3, cnt, show 0 + i = i by omega]; omega
theorem lin_t {L : Nat → Int32} {N i : Nat} : stpLin L N i = (scan (pLin L) N (i + 2), (stpLin L N i).2.1, 0, none) := rfl
theorem sim_lin {tx : Nat → Int32} {N i : Nat} (hb : ¬ bBlk (look tx N i) = true) (hc : look tx N i = 47 ∧ look tx N (i + 1) = 47) (IH : ∀ j, i < j → j ≤ N → SimAt tx N j) : SimAt tx N i := by
  intro ln c fc fm T ks fs ts h2 h3 h4 h5 h6 h7
  have hl := look_ltN hc.2 (by decide)
  obtain ⟨f, e1, rfl⟩ := crun_1 (L := look tx N) (ln := ln) (c := c) (T := T) (show i < N by omega) h4
  have hp := stp_prog (tx := tx) (N := N) (i := i) (by omega)
  have hs : stp (look tx N) N i = stpLin (look tx N) N i := by unfold stp; rw [if_neg hb, if_pos hc]
  rw [hs] at hp
  rw [e1, rstep_eq (hs.trans lin_t), show N + 1 - i = (N - i) + 1 by omega, skp, if_neg hb, if_pos hc]
  cases hn : (stpLin (look tx N) N i).2.1 with
  | none =>
    have h8 := hp.1 hn
    rw [if_pos rfl, skp_fuel (N - i) (N + 1 - (stpLin (look tx N) N i).1) _ hp.2.1 (by omega) (by omega)]
    refine IH _ h8 hp.2.1 _ c f fm T ks fs ts (by omega) ?_ (by omega) (by omega) h6 h7
    rw [h3, Nat.add_zero]
    congr 1
    refine (cnt_same (by omega) (fun t a b e => ?_)).symm
    have b : t < scan (pLin (look tx N)) N (i + 2) := b
    rcases (show t = i ∨ t = i + 1 ∨ i + 2 ≤ t by omega) with z | z | z
    · rw [z, hc.1] at e; exact absurd e (by decide)
    · rw [z, hc.2] at e; exact absurd e (by decide)
    · have := scan_all (p := pLin (look tx N)) (N := N) (i := i + 2) (j := t) z b
      exact of_decide_eq_true (Bool.and_eq_true_iff.mp this).1 e
  | some p =>
    rw [if_neg (fun z => Option.some_ne_none p z)]
    exact ends_fault h2 (by omega) h6 h7
theorem star_t {L : Nat → Int32} {N i : Nat} : stpStar L N i = ((stpStar L N i).1, (stpStar L N i).2.1, cnt L (i + 2) (scan (pStar L) N (i + 2) - (i + 2)), none) := rfl
theorem sim_star {tx : Nat → Int32} {N i : Nat} (hb : ¬ bBlk (look tx N i) = true) (hc : ¬ (look tx N i = 47 ∧ look tx N (i + 1) = 47)) (hd : look tx N i = 47 ∧ look tx N (i + 1) = 42) (IH : ∀ j, i < j → j ≤ N → SimAt tx N j) : SimAt tx N i := by
  intro ln c fc fm T ks fs ts h2 h3 h4 h5 h6 h7
  have hl := look_ltN hd.2 (by decide)
  obtain ⟨f, e1, rfl⟩ := crun_1 (L := look tx N) (ln := ln) (c := c) (T := T) (show i < N by omega) h4
  have hp := stp_prog (tx := tx) (N := N) (i := i) (by omega)
  have hs : stp (look tx N) N i = stpStar (look tx N) N i := by unfold stp; rw [if_neg hb, if_neg hc, if_pos hd]
  rw [hs] at hp
  rw [e1, rstep_eq (hs.trans star_t), show N + 1 - i = (N - i) + 1 by omega, skp, if_neg hb, if_neg hc, if_pos hd]
  cases hn : (stpStar (look tx N) N i).2.1 with
  | none =>
    have h8 := hp.1 hn
    have hge := scan_ge (pStar (look tx N)) N (i + 2)
    have h9 : scan (pStar (look tx N)) N (i + 2) < N := Classical.byContradiction (fun z => by rw [star_end z] at hn; cases hn)
    have h10 : look tx N (scan (pStar (look tx N)) N (i + 2)) = 42 ∧ look tx N (scan (pStar (look tx N)) N (i + 2) + 1) = 47 := Classical.byContradiction (fun z => by rw [star_bad h9 z] at hn; cases hn)
    have h11 := (star_none h9 h10).2
    rw [if_pos rfl, skp_fuel (N - i) (N + 1 - (stpStar (look tx N) N i).1) _ hp.2.1 (by omega) (by omega)]
    refine IH _ h8 hp.2.1 _ c f fm T ks fs ts (by omega) ?_ (by omega) (by omega) h6 h7
    rw [h3, h11]
    obtain ⟨E, hE⟩ : ∃ E, E = scan (pStar (look tx N)) N (i + 2) := ⟨_, rfl⟩
    rw [← hE] at hge h10 ⊢
    have e1 := cnt_add (look tx N) (i + 2) (E - (i + 2))
    rw [show i + 2 + (E - (i + 2)) = E by omega] at e1
    have e2 : cnt (look tx N) 0 (i + 2) = cnt (look tx N) 0 i := cnt_same (by omega) (fun t a b e => by
      rcases (show t = i ∨ t = i + 1 by omega) with z | z
      · rw [z, hd.1] at e; exact absurd e (by decide)
      · rw [z, hd.2] at e; exact absurd e (by decide))
    have e3 : cnt (look tx N) 0 (E + 2) = cnt (look tx N) 0 E := cnt_same (by omega) (fun t a b e => by
      rcases (show t = E ∨ t = E + 1 by omega) with z | z
      · rw [z, h10.1] at e; exact absurd e (by decide)
      · rw [z, h10.2] at e; exact absurd e (by decide))
    omega
  | some p =>
    rw [if_neg (fun z => Option.some_ne_none p z)]
    exact ends_fault h2 (by omega) h6 h7
theorem sim_tok {tx : Nat → Int32} {N i : Nat} (hi : i < N) (hb : ¬ bBlk (look tx N i) = true) (hc : ¬ (look tx N i = 47 ∧ look tx N (i + 1) = 47)) (hd : ¬ (look tx N i = 47 ∧ look tx N (i + 1) = 42)) (IH : ∀ j, i < j → j ≤ N → SimAt tx N j) : SimAt tx N i := by
  intro ln c fc fm T ks fs ts h2 h3 h4 h5 h6 h7
  obtain ⟨f, e1, rfl⟩ := crun_1 (L := look tx N) (ln := ln) (c := c) (T := T) hi h4
  have hsk : skp (look tx N) N (N + 1 - i) i = (i, none) := by rw [show N + 1 - i = (N - i) + 1 by omega, skp, if_neg hb, if_neg hc, if_neg hd]
  rw [hsk, e1]
  obtain ⟨fm, rfl⟩ : ∃ f9, fm = f9 + 1 := ⟨fm - 1, by omega⟩
  have e2 : mrun (look tx N) N (fm + 1) (i, none, ks, fs, ts, c) = mrun (look tx N) N fm (mstep (look tx N) N (i, none, ks, fs, ts, c)) := by rw [mrun, if_pos ⟨rfl, hi⟩]
  have hst : stp (look tx N) N i = stpTok (tok (look tx N) N i) i := by unfold stp; rw [if_neg hb, if_neg hc, if_neg hd]
  show Ends (look tx N) N _ (mrun (look tx N) N (fm + 1) (i, none, ks, fs, ts, c))
  rw [e2]
  cases ho : tok (look tx N) N i with
  | none =>
    rw [ho] at hst
    rw [rstep_eq (hst.trans rfl), mstep_none (s := (i, none, ks, fs, ts, c)) ho]
    exact ends_fault h2 (Nat.le_of_lt hi) h6 h7
  | some q =>
    rw [ho] at hst
    have he := tok_end hi (look_ne hi) ho
    rw [rstep_tok (hst.trans rfl), mstep_some (s := (i, none, ks, fs, ts, c)) ho]
    refine IH q.2.2 he.1 he.2 ln (c + 1) f fm _ _ _ _ (by omega) ?_ (by omega) (by omega) rfl ?_
    · rw [h3, cnt_same (Nat.le_of_lt he.1) (tok_no10 ho)]
    · rw [h3]
      exact h7.push hi ho (Nat.le_of_lt he.1)
theorem sim_end {tx : Nat → Int32} {N : Nat} : SimAt tx N N := by
  intro ln c fc fm T ks fs ts h2 h3 h4 h5 h6 h7
  have hl := look_out (tx := tx) (N := N) (i := N) (Nat.le_refl N)
  have hsk : skp (look tx N) N (N + 1 - N) N = (N, none) := by
    rw [show N + 1 - N = 0 + 1 by omega, skp, if_neg (by rw [hl]; decide), if_neg (fun z => by rw [hl] at z; exact absurd z.1 (by decide)), if_neg (fun z => by rw [hl] at z; exact absurd z.1 (by decide))]
  rw [hsk]
  show Ends (look tx N) N _ (mrun (look tx N) N fm (N, none, ks, fs, ts, c))
  rw [crun_stop (s := (N, none, ln, T, c)) (fun z => absurd (show N < N from z.1) (Nat.lt_irrefl _)), mrun_stop (s := (N, none, ks, fs, ts, c)) (fun z => absurd (show N < N from z.2) (Nat.lt_irrefl _))]
  exact ⟨rfl, rfl, h6, h2, h7⟩
theorem sim {tx : Nat → Int32} {N : Nat} : ∀ n i : Nat, N < i + n → i ≤ N → SimAt tx N i := by
  intro n
  induction n with
  | zero => intro i h0 h1; omega
  | succ n ih =>
    intro i h0 h1
    by_cases hi : i < N
    · have IH : ∀ j, i < j → j ≤ N → SimAt tx N j := fun j a b => ih j (by omega) b
      by_cases hb : bBlk (look tx N i) = true
      · exact sim_blank hi hb (IH (i + 1) (by omega) hi)
      · by_cases hc : look tx N i = 47 ∧ look tx N (i + 1) = 47
        · exact sim_lin hb hc IH
        · by_cases hd : look tx N i = 47 ∧ look tx N (i + 1) = 42
          · exact sim_star hb hc hd IH
          · exact sim_tok hi hb hc hd IH
    · rw [show i = N by omega]
      exact sim_end
