/-! PURE: what a token is, to the class and to the reference -/
theorem tok_elim {L : Nat → Int32} {N i : Nat} {q : Int32 × Int32 × Nat} {P : Prop} (h : tok L N i = some q)
    (h1 : bLet (L i) = true → tokName L N i = some q → P)
    (h2 : bDig (L i) = true → bHex L i = true → tokHex L N i = some q → P)
    (h3 : bDig (L i) = true → bHex L i = false → tokDig L N i = some q → P)
    (h4 : L i = 39 → tokQuo L i = some q → P)
    (h5 : L i = 34 → tokStr L i = some q → P)
    (h6 : bLet (L i) = false → bDig (L i) = false → ¬ L i = 39 → ¬ L i = 34 → tokSgn L i = some q → P) : P := by
  unfold tok at h
  split at h
  · rename_i a; exact h1 a h
  · rename_i a
    split at h
    · rename_i b
      split at h
      · rename_i c; exact h2 b c h
      · rename_i c; exact h3 b (Bool.eq_false_iff.mpr c) h
    · rename_i b
      split at h
      · rename_i c; exact h4 c h
      · rename_i c
        split at h
        · rename_i d; exact h5 d h
        · rename_i d; exact h6 (Bool.eq_false_iff.mpr a) (Bool.eq_false_iff.mpr b) c d h
theorem mkd_name {L : Nat → Int32} {i : Nat} (h : bLet (L i) = true) : mkd L i = 1 := by
  have h1 := bLet_t h
  unfold mkd
  have hh : ¬ (bDig (L i) = true ∨ L i = 39) := by
    intro z
    rcases z with z | z
    · have := bDig_t z; omega
    · have : (L i).toInt = 39 := by rw [z]; decide
      omega
  rw [if_neg hh, if_pos (show bNam (L i) = true from decide_eq_true (by omega))]
theorem mkd_dig {L : Nat → Int32} {i : Nat} (h : bDig (L i) = true) : mkd L i = 2 := by
  unfold mkd; rw [if_pos (Or.inl h)]
theorem mkd_quo {L : Nat → Int32} {i : Nat} (h : L i = 39) : mkd L i = 2 := by
  unfold mkd; rw [if_pos (Or.inr h)]
theorem mkd_str {L : Nat → Int32} {i : Nat} (h : L i = 34) : mkd L i = 3 := by
  unfold mkd; rw [if_neg (by rw [h]; decide), if_neg (by rw [h]; decide), if_pos h]
theorem mkd_sgn {L : Nat → Int32} {i : Nat} {q : Int32 × Int32 × Nat} (hi : i < 2 ^ 28) (h1 : bLet (L i) = false) (h2 : bDig (L i) = false) (h3 : ¬ L i = 39) (h4 : ¬ L i = 34) (h : tokSgn L i = some q) (hq : 0 < q.2.2 ∧ q.2.2 < 2 ^ 31) : mkd L i = 5 := by
  have a1 := bLet_f h1
  have a2 := bDig_f h2
  unfold mkd
  rw [if_neg (fun z => z.elim (fun z => by rw [h2] at z; cases z) h3), if_neg (fun z => by have := bNam_t z; omega), if_neg h4, if_pos]
  rw [sgn_eq L hi, h]
  exact nI_lt (a := 0) (b := q.2.2) hq.1 hq.2
theorem name_q {L : Nat → Int32} {N i : Nat} {q : Int32 × Int32 × Nat} (h : tokName L N i = some q) : q.2.2 - i ≤ 24 ∧ (0 ≤ (wnum L i (q.2.2 - i)).toInt ∧ q.1 = 4 ∧ q.2.1 = wnum L i (q.2.2 - i) ∨ ¬ 0 ≤ (wnum L i (q.2.2 - i)).toInt ∧ q.1 = 1) := by
  unfold tokName at h
  split at h
  · cases h
  · rename_i h24
    split at h
    · rename_i hw
      cases h
      exact ⟨Nat.not_lt.mp h24, Or.inl ⟨hw, rfl, rfl⟩⟩
    · rename_i hw
      cases h
      exact ⟨Nat.not_lt.mp h24, Or.inr ⟨hw, rfl⟩⟩
theorem sgn_q {L : Nat → Int32} {i : Nat} {q : Int32 × Int32 × Nat} (h : tokSgn L i = some q) : q.1 = 5 ∧ i < q.2.2 ∧ q.2.2 ≤ i + 3 ∧ q.2.1 = amg L i (q.2.2 - i) 0 kW0 0 := by
  unfold tokSgn at h
  split at h
  · cases h
    exact ⟨rfl, by show i < i + 3; omega, by show i + 3 ≤ _; omega, by show _ = amg L i (i + 3 - i) 0 kW0 0; rw [show i + 3 - i = 3 by omega, amg_sg3]⟩
  · split at h
    · cases h
      exact ⟨rfl, by show i < i + 2; omega, by show i + 2 ≤ _; omega, by show _ = amg L i (i + 2 - i) 0 kW0 0; rw [show i + 2 - i = 2 by omega, amg_sg2]⟩
    · split at h
      · cases h
        exact ⟨rfl, by show i < i + 1; omega, by show i + 1 ≤ _; omega, by show _ = amg L i (i + 1 - i) 0 kW0 0; rw [show i + 1 - i = 1 by omega, amg_sg1]⟩
      · cases h
theorem hex_q {L : Nat → Int32} {N i : Nat} {q : Int32 × Int32 × Nat} (h : tokHex L N i = some q) : q = (2, hval L (i + 2) (scan (pHex L) N (i + 2) - (i + 2)), scan (pHex L) N (i + 2)) := by
  unfold tokHex at h
  split at h
  · cases h
  · cases h; rfl
theorem dig_q {L : Nat → Int32} {N i : Nat} {q : Int32 × Int32 × Nat} (h : tokDig L N i = some q) : q = (2, nI (dval L i (scan (pDig L) N i - i)), scan (pDig L) N i) := by
  unfold tokDig at h
  split at h
  · cases h
  · cases h; rfl
theorem quo_q {L : Nat → Int32} {i : Nat} {q : Int32 × Int32 × Nat} (h : tokQuo L i = some q) : ¬ cwd L (i + 1) 39 = 0 ∧ L (i + 1 + cwd L (i + 1) 39) = 39 ∧ q = (2, cat L (i + 1), i + 1 + cwd L (i + 1) 39 + 1) := by
  unfold tokQuo at h
  split at h
  · cases h
  · rename_i a
    split at h
    · rename_i b; cases h; exact ⟨a, b, rfl⟩
    · cases h
theorem sgo_q {L : Nat → Int32} {p0 : Nat} {q : Int32 × Int32 × Nat} : ∀ (f k : Nat), sgo L f k (cpos L p0 k) = some q → ∃ t, k ≤ t ∧ t < k + f ∧ q = (3, nI t, cpos L p0 t + 1) ∧ L (cpos L p0 t) = 34 ∧ ∀ j, k ≤ j → j < t → ¬ cwd L (cpos L p0 j) 34 = 0
  | 0, k, h => by rw [sgo] at h; cases h
  | f + 1, k, h => by
    rw [sgo] at h
    split at h
    · rename_i a
      cases h
      exact ⟨k, Nat.le_refl k, by omega, rfl, a, fun j h1 h2 => by omega⟩
    · split at h
      · cases h
      · rename_i b
        obtain ⟨t, h1, h2, h3, h4, h5⟩ := sgo_q f (k + 1) h
        refine ⟨t, by omega, by omega, h3, h4, fun j h6 h7 => ?_⟩
        by_cases e : j = k
        · rw [e]; exact b
        · exact h5 j (by omega) h7
theorem cpos_lt {L : Nat → Int32} {p : Nat} : ∀ t, (∀ j, j < t → ¬ cwd L (cpos L p j) 34 = 0) → ∀ j, j < t → cpos L p j < cpos L p t
  | 0, _, j, h => by omega
  | t + 1, ha, j, h => by
    have h1 := ha t (by omega)
    rw [show cpos L p (t + 1) = cpos L p t + cwd L (cpos L p t) 34 from rfl]
    by_cases e : j = t
    · rw [e]; omega
    · have := cpos_lt t (fun j hj => ha j (by omega)) j (by omega)
      omega
theorem str_q {L : Nat → Int32} {i : Nat} {q : Int32 × Int32 × Nat} (h : tokStr L i = some q) : ∃ t, t ≤ 200 ∧ q.1 = 3 ∧ q.2.1 = nI t ∧ 1 ≤ q.2.2 ∧ cpos L (i + 1) t = q.2.2 - 1 ∧ L (cpos L (i + 1) t) = 34 ∧ ∀ j, j < t → ¬ cwd L (cpos L (i + 1) j) 34 = 0 ∧ cpos L (i + 1) j < q.2.2 - 1 := by
  obtain ⟨t, -, h2, h3, h4, h5⟩ := sgo_q (L := L) (p0 := i + 1) 201 0 h
  rw [h3]
  refine ⟨t, by omega, rfl, rfl, by show 1 ≤ _ + 1; omega, by show _ = cpos L (i + 1) t + 1 - 1; omega, h4, fun j hj => ⟨h5 j (by omega) hj, ?_⟩⟩
  have := cpos_lt t (fun j hj => h5 j (by omega) hj) j hj
  show _ < cpos L (i + 1) t + 1 - 1
  omega
theorem tok_kind {tx : Nat → Int32} {N i : Nat} {q : Int32 × Int32 × Nat} (hN : N ≤ 16000) (hi : i < N) (h : tok (look tx N) N i = some q) : q.1 = mK (look tx N) (mkd (look tx N) i) i q.2.2 := by
  have he := tok_end hi (look_ne hi) h
  refine tok_elim h ?_ ?_ ?_ ?_ ?_ ?_
  · intro a b
    obtain ⟨h24, hc⟩ := name_q b
    rw [mkd_name a]
    unfold mK
    rw [← wnum_amg (look tx N) i (by omega)]
    rcases hc with ⟨c1, c2, -⟩ | ⟨c1, c2⟩
    · rw [if_pos ⟨rfl, c1⟩, c2]
    · rw [if_neg (fun z => c1 z.2), c2]
  · intro a b c
    rw [mkd_dig a, hex_q c]; rfl
  · intro a b c
    rw [mkd_dig a, dig_q c]; rfl
  · intro a c
    rw [mkd_quo a, (quo_q c).2.2]; rfl
  · intro a c
    obtain ⟨t, -, c2, -⟩ := str_q c
    rw [mkd_str a, c2]; rfl
  · intro a b c d f
    rw [mkd_sgn (by omega) a b c d f ⟨by omega, by omega⟩, (sgn_q f).1]; rfl
theorem tok_which {tx : Nat → Int32} {N i : Nat} {q : Int32 × Int32 × Nat} (hN : N ≤ 16000) (hi : i < N) (h : tok (look tx N) N i = some q) : (if q.1 = 4 ∨ q.1 = 5 then q.2.1 else -1) = if q.1 = 4 then amg (look tx N) i (q.2.2 - i) 1 kW1 0 else if q.1 = 5 then amg (look tx N) i (q.2.2 - i) 0 kW0 0 else -1 := by
  have he := tok_end hi (look_ne hi) h
  refine tok_elim h ?_ ?_ ?_ ?_ ?_ ?_
  · intro a b
    obtain ⟨h24, hc⟩ := name_q b
    rw [← wnum_amg (look tx N) i (by omega)]
    rcases hc with ⟨c1, c2, c3⟩ | ⟨c1, c2⟩
    · rw [if_pos (Or.inl c2), if_pos c2, c3]
    · rw [c2, if_neg (by decide), if_neg (by decide), if_neg (by decide)]
  · intro a b c
    have c2 : q.1 = 2 := by rw [hex_q c]
    rw [c2, if_neg (by decide), if_neg (by decide), if_neg (by decide)]
  · intro a b c
    have c2 : q.1 = 2 := by rw [dig_q c]
    rw [c2, if_neg (by decide), if_neg (by decide), if_neg (by decide)]
  · intro a c
    have c2 : q.1 = 2 := by rw [(quo_q c).2.2]
    rw [c2, if_neg (by decide), if_neg (by decide), if_neg (by decide)]
  · intro a c
    obtain ⟨t, -, c2, -⟩ := str_q c
    rw [c2, if_neg (by decide), if_neg (by decide), if_neg (by decide)]
  · intro a b c d f
    obtain ⟨f1, -, -, f2⟩ := sgn_q f
    rw [if_pos (Or.inr f1), if_neg (by rw [f1]; decide), if_pos f1, f2]
theorem cat_mcat {L : Nat → Int32} {i : Nat} {c : Int32} (h : ¬ cwd L i c = 0) : cat L i = mcat L i := by
  unfold cat mcat
  by_cases h92 : L i = 92
  · rw [if_pos h92, if_pos h92]
    unfold cwd at h
    rw [if_pos h92] at h
    generalize L (i + 1) = d at h
    have hd : 0 ≤ (escv d).toInt := Classical.byContradiction (fun z => h (by rw [if_neg z]))
    unfold escv at hd ⊢
    by_cases a : d = 110
    · rw [if_pos a, if_pos a]
    · rw [if_neg a, if_neg a]
      by_cases b : d = 48
      · rw [if_pos b, if_pos b]
      · rw [if_neg b, if_neg b]
        rw [if_neg a, if_neg b] at hd
        by_cases e : d = 92
        · rw [if_pos e, e]
        · rw [if_neg e]
          rw [if_neg e] at hd
          by_cases f : d = 39
          · rw [if_pos f, f]
          · rw [if_neg f]
            rw [if_neg f] at hd
            by_cases k : d = 34
            · rw [if_pos k, k]
            · rw [if_neg k] at hd; exact absurd hd (by decide)
  · rw [if_neg h92, if_neg h92]
theorem hexv_nI {x : Int32} (h : 0 ≤ (hexv x).toInt) : ∃ d, d < 16 ∧ hexv x = nI d := by
  have key : ∀ a b : Nat, a ≤ b → b < a + 16 → ∀ c : Nat, (c : Int) = x.toInt → a ≤ c → c ≤ b → ∃ d, d < 16 ∧ x - nI a = nI d := by
    intro a b h1 h2 c hc h3 h4
    obtain ⟨y, hy, rfl⟩ := nI_of (x := x) (fun z => by have := k_lt (b := 0) (by decide) z; omega)
    rw [nI_toInt hy] at hc
    exact ⟨y - a, by omega, pk_sub (by omega)⟩
  unfold hexv at h ⊢
  by_cases a : 48 ≤ x.toInt ∧ x.toInt ≤ 57
  · rw [if_pos a]
    exact key 48 57 (by omega) (by omega) x.toInt.toNat (by omega) (by omega) (by omega)
  · rw [if_neg a]
    rw [if_neg a] at h
    by_cases b : 97 ≤ x.toInt ∧ x.toInt ≤ 102
    · rw [if_pos b]
      obtain ⟨y, hy, rfl⟩ := nI_of (x := x) (fun z => by have := k_lt (b := 0) (by decide) z; omega)
      rw [nI_toInt hy] at b
      exact ⟨y - 87, by omega, pk_sub (b := 87) (by omega)⟩
    · rw [if_neg b]
      rw [if_neg b] at h
      by_cases c : 65 ≤ x.toInt ∧ x.toInt ≤ 70
      · rw [if_pos c]
        obtain ⟨y, hy, rfl⟩ := nI_of (x := x) (fun z => by have := k_lt (b := 0) (by decide) z; omega)
        rw [nI_toInt hy] at c
        exact ⟨y - 55, by omega, pk_sub (b := 55) (by omega)⟩
      · rw [if_neg c] at h; exact absurd h (by decide)
theorem hv_step (h : Int32) {d : Nat} (hd : d < 16) : (h <<< ((4 : Int32) &&& 31)) ||| nI d = h * 16 + nI d := by
  have e1 : h <<< ((4 : Int32) &&& 31) = h * 16 := by
    apply Int32.toBitVec_inj.mp
    apply BitVec.eq_of_toNat_eq
    rw [pk_shl h ((4 : Int32) &&& 31) 4 (by decide), Int32.toBitVec_mul, BitVec.toNat_mul]
    rfl
  rw [← e1]
  apply Int32.toBitVec_inj.mp
  rw [Int32.toBitVec_or, Int32.toBitVec_add]
  refine (BitVec.add_eq_or_of_and_eq_zero _ _ ?_).symm
  apply BitVec.eq_of_getLsbD_eq
  intro i hi
  rw [BitVec.getLsbD_and]
  by_cases h4 : i < 4
  · have : (h <<< ((4 : Int32) &&& 31)).toBitVec.getLsbD i = false := by
      rw [Int32.toBitVec_shiftLeft]
      show (h.toBitVec <<< (((4 : Int32) &&& 31).toBitVec.smod 32).toNat).getLsbD i = false
      rw [show (((4 : Int32) &&& 31).toBitVec.smod 32).toNat = 4 by decide, BitVec.getLsbD_shiftLeft]
      simp [h4]
    rw [this]; simp
  · have : (nI d).toBitVec.getLsbD i = false := by
      unfold BitVec.getLsbD
      rw [pk_tn (by omega)]
      exact Nat.testBit_lt_two_pow (Nat.lt_of_lt_of_le hd (Nat.pow_le_pow_right (n := 2) (by omega) (show 4 ≤ i by omega)))
    rw [this]; simp
theorem hval_mhv {L : Nat → Int32} {i : Nat} : ∀ k, (∀ t, t < k → 0 ≤ (hexv (L (i + t))).toInt) → hval L i k = mhv L i k
  | 0, _ => rfl
  | k + 1, h => by
    obtain ⟨d, hd, e⟩ := hexv_nI (h k (by omega))
    rw [hval, mhv, hval_mhv k (fun t ht => h t (by omega)), e, hv_step _ hd]
theorem dval_mdv {L : Nat → Int32} {i : Nat} : ∀ k, (∀ t, t < k → bDig (L (i + t)) = true) → nI (dval L i k) = mdv L i k
  | 0, _ => rfl
  | k + 1, h => by
    obtain ⟨h1, h2, -⟩ := dig_nI (h k (by omega))
    rw [mdv, ← dval_mdv k (fun t ht => h t (by omega)), dval]
    have e : L (i + k) = nI (48 + dg (L (i + k))) := h2
    generalize dg (L (i + k)) = d at e h1 ⊢
    rw [e, show (10 : Int32) = nI 10 from rfl, show (48 : Int32) = nI 48 from rfl, pk_mul, nI_add, pk_sub (by omega)]
    congr 1; omega
theorem tok_worth {tx : Nat → Int32} {N i : Nat} {q : Int32 × Int32 × Nat} (hi : i < N) (h : tok (look tx N) N i = some q) (h2 : q.1 = 2) : q.2.1 = if look tx N i = 39 then mcat (look tx N) (i + 1) else if 2 < q.2.2 - i ∧ look tx N (i + 1) = 120 then mhv (look tx N) (i + 2) (q.2.2 - (i + 2)) else mdv (look tx N) i (q.2.2 - i) := by
  refine tok_elim h ?_ ?_ ?_ ?_ ?_ ?_
  · intro a b
    obtain ⟨-, hc⟩ := name_q b
    rcases hc with ⟨-, c2, -⟩ | ⟨-, c2⟩ <;> (rw [c2] at h2; exact absurd h2 (by decide))
  · intro a b c
    have hx := of_decide_eq_true b
    have hge := scan_ge (pHex (look tx N)) N (i + 2)
    have hl := look_ltN hx.2.1 (by decide)
    have h3 : i + 2 < scan (pHex (look tx N)) N (i + 2) := by
      have hj : i + 2 < N := hex_lt hx.2.2
      rw [scan_step hj (show pHex (look tx N) (i + 2) = true from decide_eq_true hx.2.2)]
      have := scan_ge (pHex (look tx N)) N (i + 2 + 1)
      omega
    rw [hex_q c]
    dsimp only
    rw [if_neg (by rw [hx.1]; decide), if_pos ⟨by omega, hx.2.1⟩]
    exact hval_mhv _ (fun t ht => of_decide_eq_true (scan_all (p := pHex (look tx N)) (N := N) (i := i + 2) (by omega) (by omega)))
  · intro a b c
    have hd : ∀ t, t < scan (pDig (look tx N)) N i - i → bDig (look tx N (i + t)) = true := fun t ht => scan_all (p := pDig (look tx N)) (N := N) (i := i) (by omega) (by omega)
    have a1 := bDig_t a
    rw [dig_q c]
    dsimp only
    rw [if_neg (fun z => by rw [z] at a1; exact absurd a1 (by decide)), if_neg]
    · exact dval_mdv _ hd
    · intro z
      have := bDig_t (hd 1 (by omega))
      rw [z.2] at this
      exact absurd this (by decide)
  · intro a c
    obtain ⟨c1, -, c3⟩ := quo_q c
    rw [c3]
    dsimp only
    rw [if_pos a, cat_mcat c1]
  · intro a c
    obtain ⟨t, -, c2, -⟩ := str_q c
    rw [c2] at h2; exact absurd h2 (by decide)
  · intro a b c d f
    rw [(sgn_q f).1] at h2; exact absurd h2 (by decide)
theorem tok_str {tx : Nat → Int32} {N i : Nat} {q : Int32 × Int32 × Nat} (h : tok (look tx N) N i = some q) (h3 : q.1 = 3) : tokStr (look tx N) i = some q := by
  refine tok_elim h ?_ ?_ ?_ ?_ ?_ ?_
  · intro a b
    obtain ⟨-, hc⟩ := name_q b
    rcases hc with ⟨-, c2, -⟩ | ⟨-, c2⟩ <;> (rw [c2] at h3; exact absurd h3 (by decide))
  · intro a b c; have c2 : q.1 = 2 := (by rw [hex_q c]); rw [c2] at h3; exact absurd h3 (by decide)
  · intro a b c; have c2 : q.1 = 2 := (by rw [dig_q c]); rw [c2] at h3; exact absurd h3 (by decide)
  · intro a c; have c2 : q.1 = 2 := (by rw [(quo_q c).2.2]); rw [c2] at h3; exact absurd h3 (by decide)
  · intro a c; exact c
  · intro a b c d f; rw [(sgn_q f).1] at h3; exact absurd h3 (by decide)
