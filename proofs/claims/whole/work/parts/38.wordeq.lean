/-! PURE: the class's search of a word is the reference's -/
theorem mAt_iff {L : Nat → Int32} {k j a : Nat} : ∀ c, (mAt L k j a c = true ↔ ∀ t, t < c → L (k + t) = kch j (a + t))
  | 0 => ⟨fun _ t h => by omega, fun _ => rfl⟩
  | c + 1 => by
    rw [mAt, Bool.and_eq_true_iff, mAt_iff c, decide_eq_true_iff]
    constructor
    · intro h t ht
      by_cases e : t = c
      · rw [e]; exact h.2
      · exact h.1 t (by omega)
    · intro h
      exact ⟨fun t ht => h t (by omega), h c (by omega)⟩
/-- the letters cs stand at p -/
def mf (L : Nat → Int32) : Nat → List Nat → Bool
  | _, [] => true
  | p, c :: cs => decide (L p = nI c) && mf L (p + 1) cs
theorem mf_iff {L : Nat → Int32} : ∀ (cs : List Nat) (p : Nat), (mf L p cs = true ↔ ∀ t, t < cs.length → L (p + t) = nI (cs.getD t 0))
  | [], p => ⟨fun _ t h => by simp at h, fun _ => rfl⟩
  | c :: cs, p => by
    rw [mf, Bool.and_eq_true_iff, mf_iff cs (p + 1), decide_eq_true_iff]
    constructor
    · intro h t ht
      cases t with
      | zero => exact h.1
      | succ t => rw [show p + (t + 1) = p + 1 + t by omega]; exact h.2 t (by simpa using ht)
    · intro h
      refine ⟨h 0 (by simp), fun t ht => ?_⟩
      have := h (t + 1) (by simpa using ht)
      rw [show p + (t + 1) = p + 1 + t by omega] at this
      exact this
theorem wgo_no {L : Nat → Int32} {i z w : Nat} {r : List Nat} (hz : z < 2 ^ 28) : ∀ cs : List Nat, cs.all (fun c => !decide (c = 32)) = true → wgo L i z (cs ++ 32 :: r) w (-1) = wgo L i z r (w + 1) 0
  | [], _ => by
    show wgo L i z (32 :: r) w (-1) = _
    rw [wgo, if_pos rfl, if_neg (fun q => by have := congrArg Int32.toInt q; rw [nI_toInt (by omega)] at this; have h1 : (-1 : Int32).toInt = -1 := by decide
                                             omega)]
  | c :: cs, h => by
    have h2 : ((!decide (c = 32)) && cs.all (fun c => !decide (c = 32))) = true := h
    obtain ⟨h3, h4⟩ := Bool.and_eq_true_iff.mp h2
    have hc : ¬ c = 32 := by
      intro q
      rw [decide_eq_true q] at h3
      exact absurd h3 (by decide)
    show wgo L i z (c :: (cs ++ 32 :: r)) w (-1) = _
    rw [wgo, if_neg hc, if_neg (fun q => absurd q.1 (by decide)), wgo_no hz cs h4]
theorem wgo_yes {L : Nat → Int32} {i z w : Nat} {r : List Nat} (hz : z < 2 ^ 28) : ∀ (cs : List Nat) (m : Nat), m ≤ z → cs.all (fun c => !decide (c = 32)) = true → wgo L i z (cs ++ 32 :: r) w (nI m) = if m + cs.length = z ∧ mf L (i + m) cs = true then nI w else wgo L i z r (w + 1) 0
  | [], m, hm, _ => by
    show wgo L i z (32 :: r) w (nI m) = _
    rw [wgo, if_pos rfl]
    by_cases e : m = z
    · rw [if_pos (by rw [e]), if_pos ⟨e, rfl⟩]
    · rw [if_neg (fun q => e ((nI_eq (by omega) (by omega)).mp q)), if_neg (fun q => e q.1)]
  | c :: cs, m, hm, h => by
    have h2 : ((!decide (c = 32)) && cs.all (fun c => !decide (c = 32))) = true := h
    obtain ⟨h3, h4⟩ := Bool.and_eq_true_iff.mp h2
    have hc : ¬ c = 32 := by
      intro q
      rw [decide_eq_true q] at h3
      exact absurd h3 (by decide)
    have hl : (c :: cs).length = cs.length + 1 := rfl
    show wgo L i z (c :: (cs ++ 32 :: r)) w (nI m) = _
    rw [wgo, if_neg hc, nI_toInt (by omega), nI_clamp (by omega), mf, hl]
    by_cases q : 0 ≤ (m : Int) ∧ (m : Int) < (z : Int) ∧ L (i + m) = nI c
    · rw [if_pos q, nI_1, wgo_yes hz cs (m + 1) (by omega) h4, decide_eq_true q.2.2, Bool.true_and, show i + (m + 1) = i + m + 1 by omega]
      exact ite_e ⟨fun y => ⟨by omega, y.2⟩, fun y => ⟨by omega, y.2⟩⟩
    · rw [if_neg q, wgo_no hz cs h4, if_neg]
      intro y
      have y2 := (Bool.and_eq_true_iff.mp y.2).1
      exact q ⟨by omega, by omega, of_decide_eq_true y2⟩
def kWl : List (List Nat) := [[105, 110, 116], [118, 111, 105, 100], [115, 116, 97, 116, 105, 99], [101, 120, 116, 101, 114, 110], [105, 102], [101, 108, 115, 101], [119, 104, 105, 108, 101], [100, 111], [102, 111, 114], [98, 114, 101, 97, 107], [99, 111, 110, 116, 105, 110, 117, 101], [114, 101, 116, 117, 114, 110]]
def wrel : List (Nat × Nat) → List (List Nat) → Bool
  | [], [] => true
  | q :: l, cs :: r => decide (q.2 - q.1 = cs.length) && cs.all (fun c => !decide (c = 32)) && (List.range cs.length).all (fun t => decide (kch 1 (q.1 + t) = nI (cs.getD t 0))) && wrel l r
  | _, _ => false
theorem wrel_ok : wrel kW1 kWl = true := by decide +kernel
theorem wWd_ok : wWd = kWl.flatMap (fun cs => cs ++ [32]) := by decide +kernel
theorem wgo_amg {L : Nat → Int32} {i z : Nat} (hz : z < 2 ^ 28) : ∀ (l : List (Nat × Nat)) (r : List (List Nat)) (w : Nat), wrel l r = true → wgo L i z (r.flatMap (fun cs => cs ++ [32])) w 0 = amg L i z 1 l w
  | [], [], w, _ => rfl
  | [], _ :: _, w, h => by cases h
  | _ :: _, [], w, h => by cases h
  | q :: l, cs :: r, w, h => by
    rw [wrel] at h
    obtain ⟨h1, h4⟩ := Bool.and_eq_true_iff.mp h
    obtain ⟨h1, h3⟩ := Bool.and_eq_true_iff.mp h1
    obtain ⟨h1, h2⟩ := Bool.and_eq_true_iff.mp h1
    have h1 := of_decide_eq_true h1
    have e : (cs :: r).flatMap (fun cs => cs ++ [32]) = cs ++ 32 :: r.flatMap (fun cs => cs ++ [32]) := by
      rw [List.flatMap_cons, List.append_assoc]; rfl
    rw [e, show (0 : Int32) = nI 0 from rfl, wgo_yes hz cs 0 (Nat.zero_le z) h2, amg, h1, wgo_amg hz l r (w + 1) h4]
    refine ite_e ?_
    rw [mf_iff, mAt_iff]
    constructor
    · intro y
      refine ⟨by omega, fun t ht => ?_⟩
      have hk := of_decide_eq_true (List.all_eq_true.mp h3 t (List.mem_range.mpr ht))
      rw [hk]
      exact y.2 t ht
    · intro y
      refine ⟨by omega, fun t ht => ?_⟩
      have hk := of_decide_eq_true (List.all_eq_true.mp h3 t (List.mem_range.mpr ht))
      rw [← hk]
      exact y.2 t ht
theorem wnum_amg (L : Nat → Int32) (i : Nat) {z : Nat} (hz : z < 2 ^ 28) : wnum L i z = amg L i z 1 kW1 0 := by
  unfold wnum
  rw [wWd_ok, wgo_amg hz kW1 kWl 0 wrel_ok]
