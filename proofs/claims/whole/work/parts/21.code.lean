/-- the place of code k of a string whose first code is at p -/
def cpos (L : Nat → Int32) (p : Nat) : Nat → Nat
  | 0 => p
  | k + 1 => cpos L p k + cwd L (cpos L p k) 34
theorem cpos_le (L : Nat → Int32) (p : Nat) : ∀ k, cpos L p k ≤ p + 2 * k
  | 0 => Nat.le_refl p
  | k + 1 => by have := cpos_le L p k; have := cwd_le L (cpos L p k) 34; rw [cpos]; omega
/-- the first k bytes from s on and from t on are the same -/
def allEq (L : Nat → Int32) (s t : Nat) : Nat → Bool
  | 0 => true
  | k + 1 => allEq L s t k && decide (L (s + k) = L (t + k))
theorem allEq_no {L : Nat → Int32} {s t k : Nat} (h : ¬ L (s + k) = L (t + k)) : ∀ z, k < z → allEq L s t z = false
  | 0, hz => by omega
  | z + 1, hz => by
    rw [allEq]
    by_cases e : k = z
    · subst e; rw [decide_eq_false h, Bool.and_false]
    · rw [allEq_no h z (by omega)]; rfl
set_option maxHeartbeats 4000000 in
set_option maxRecDepth 100000 in
theorem c_X0_code (g : Gl) (a : Nat → Nat) (aT aX : Nat) (tr : Nat → Int32) (n fed : Int32) (tx : Nat → Int32) (ln fa : Int32) (T : TK) (c : Nat) (hT : T.2.2.2.2.2 = nI c) (hc : c ≤ 16000) (x : Int32) (k s t N : Nat) (hN : N ≤ 16000) (h1 : (bTok c x && decide (T.1 x.toNatClampNeg = 3)) = true) (h2 : T.2.2.2.2.1 x.toNatClampNeg = nI t) (h3 : k < t) (h4 : t ≤ 200) (h5 : T.2.1 x.toNatClampNeg = nI s) (h6 : s ≤ 16000) : Ctr g yX0_code wsX0_code ({ frames := 2, cells := 0, slots := 0, locals := 44 }) [.ref (a 0), .int x, .int (nI k)] (tw g a aT aX tr n fed tx (nI N) ln fa T) (some (.int (cat (look tx N) (cpos (look tx N) (s + 1) k)))) (tw g a aT aX tr n fed tx (nI N) ln fa T) 0 0 := by
  refine Ctr.start (cc := cX0_code) (maxL := 5) (ret := (some .int)) (by decide) rfl (Nat.le_of_ble_eq_true rfl) (lv0 := [(0, .ref (a 0)), (1, .int x), (2, .int (nI k))]) rfl ?_
  intro X C F
  have C : Ok g X cX0_code RX0 wsX0_code ({ frames := 2, cells := 0, slots := 0, locals := 44 }) (some .int) 5 := C
  have hin : ∀ w ∈ wsX00, w ∈ wsX0_code := fun _ h => List.mem_cons_of_mem _ (List.mem_append_right _ h)
  have lk20 : Cond.fieldLink RX0 20 "TokenRows" "starts" "[I" ∈ wsX0_code := by decide +kernel
  have lk29 : Cond.fieldLink RX0 29 "TokenRows" "tells" "[I" ∈ wsX0_code := by decide +kernel
  have loop : ∀ (k0 j : Nat), j ≤ k → k + 1 ≤ j + k0 → G g X (0, 0) (tw g a aT aX tr n fed tx (nI N) ln fa T) 37 [(4, .int (nI j)), (3, .int (nI (cpos (look tx N) (s + 1) j))), (0, .ref (a 0)), (1, .int x), (2, .int (nI k))] [] := by
    intro k0
    induction k0 with
    | zero => intro j q1 q2; omega
    | succ k0 ih =>
      intro j q1 q2
      refine g_iload C dX0_code_37 0 rfl ?_
      refine g_iload_n C dX0_code_39 4 rfl ?_
      refine g_icmp_ge C dX0_code_40 (tgt := 59) (by decide) (fun c1 => ?_) (fun c1 => ?_)
      · have hj := (nI_leI (by omega) (by omega)).mp c1
        have hj : j = k := by omega
        subst hj
        have hcp := cpos_le (look tx N) (s + 1) j
        refine g_aload_n C dX0_code_59 2 rfl ?_
        refine g_iload_n C dX0_code_60 1 rfl ?_
        refine g_callVi (n := 1) C (c_X0_codeAt g a aT aX tr n fed tx ln fa T N (cpos (look tx N) (s + 1) j) hN (by omega)) gX0_code_X0_codeAt rfl rfl rfl rfl (by decide) (by decide) rfl (Nat.le_of_ble_eq_true rfl) dX0_code_61 ?_
        exact g_iret C F (rfl) (rfl) dX0_code_64
      · have hj : j < k := Nat.not_le.mp (fun z => c1 (nI_le z (by omega)))
        have hcp := cpos_le (look tx N) (s + 1) j
        refine g_iload_n C dX0_code_43 1 rfl ?_
        refine g_aload_n C dX0_code_44 2 rfl ?_
        refine g_iload_n C dX0_code_45 1 rfl ?_
        refine g_bipush C dX0_code_46 (v := 34) (by decide) ?_
        refine g_callVi (n := 2) C (c_X0_codeWidth g a aT aX tr n fed tx ln fa T N (cpos (look tx N) (s + 1) j) hN (by omega) 34) gX0_code_X0_codeWidth rfl rfl rfl rfl (by decide) (by decide) rfl (Nat.le_of_ble_eq_true rfl) dX0_code_48 ?_
        refine g_iadd C dX0_code_51 ?_
        refine g_top (nI_add (cpos (look tx N) (s + 1) j) (cwd (look tx N) (cpos (look tx N) (s + 1) j) 34)) ?_
        refine g_top (y := nI (cpos (look tx N) (s + 1) (j + 1))) rfl ?_
        refine g_istore_n (lv' := [(3, .int (nI (cpos (look tx N) (s + 1) (j + 1)))), (4, .int (nI j)), (0, .ref (a 0)), (1, .int x), (2, .int (nI k))]) C dX0_code_52 (by decide) rfl ?_
        refine g_iinc (o := 1) (v := nI (j + 1)) (lv' := [(4, .int (nI (j + 1))), (3, .int (nI (cpos (look tx N) (s + 1) (j + 1)))), (0, .ref (a 0)), (1, .int x), (2, .int (nI k))]) C dX0_code_53 rfl (nI_add j 1) (by decide) rfl ?_
        refine g_goto C dX0_code_56 (tgt := 37) (by decide) ?_
        exact ih (j + 1) (by omega) (by omega)
  refine g_aload_n C dX0_code_0 0 rfl ?_
  refine g_iload_n C dX0_code_1 1 rfl ?_
  refine g_iconst C dX0_code_2 (v := 3) (by decide) ?_
  refine g_callVi (n := 2) C (c_X0_isOfKind g a aT aX tr n fed tx (nI N) ln fa T c hT hc x 3) gX0_code_X0_isOfKind rfl rfl rfl rfl (by decide) (by decide) rfl (Nat.le_of_ble_eq_true rfl) dX0_code_3 ?_
  refine g_if_eq C dX0_code_6 (tgt := 23) (by decide) (fun c2 => ?_) (fun c2 => ?_)
  · exact absurd c2 (by rw [h1]; decide)
  · refine g_iload_n C dX0_code_9 2 rfl ?_
    refine g_if_lt C dX0_code_10 (tgt := 23) (by decide) (fun c3 => ?_) (fun c3 => ?_)
    · exact absurd c3 (nI_pos (by omega))
    · refine g_iload_n C dX0_code_13 2 rfl ?_
      refine g_aload_n C dX0_code_14 0 rfl ?_
      refine g_get0 C hin 0 rfl 11 (by decide) lk29 rfl dX0_code_15 ?_
      refine g_iload_n C dX0_code_18 1 rfl ?_
      refine g_iald C 7 rfl (bTok_in (Bool.and_eq_true_iff.mp h1).1 hc) dX0_code_19 ?_
      refine g_top (y := nI t) (h2) ?_
      refine g_icmp_lt C dX0_code_20 (tgt := 25) (by decide) (fun c4 => ?_) (fun c4 => ?_)
      · refine g_aload_n C dX0_code_25 0 rfl ?_
        refine g_get0 C hin 0 rfl 8 (by decide) lk20 rfl dX0_code_26 ?_
        refine g_iload_n C dX0_code_29 1 rfl ?_
        refine g_iald C 4 rfl (bTok_in (Bool.and_eq_true_iff.mp h1).1 hc) dX0_code_30 ?_
        refine g_top (y := nI s) (h5) ?_
        refine g_iconst C dX0_code_31 (v := 1) (by decide) ?_
        refine g_iadd C dX0_code_32 ?_
        refine g_top (nI_add s 1) ?_
        refine g_istore_n (lv' := [(3, .int (nI (s + 1))), (0, .ref (a 0)), (1, .int x), (2, .int (nI k))]) C dX0_code_33 (by decide) rfl ?_
        refine g_iconst C dX0_code_34 (v := 0) (by decide) ?_
        refine g_istore (lv' := [(4, .int 0), (3, .int (nI (s + 1))), (0, .ref (a 0)), (1, .int x), (2, .int (nI k))]) C dX0_code_35 (by decide) rfl ?_
        exact loop (k + 1) 0 (by omega) (by omega)
      · exact absurd (nI_lt h3 (by omega)) c4
set_option maxHeartbeats 4000000 in
set_option maxRecDepth 100000 in
theorem c_X0_codeN (g : Gl) (a : Nat → Nat) (aT aX : Nat) (tr : Nat → Int32) (n fed : Int32) (tx : Nat → Int32) (m ln fa : Int32) (T : TK) (c : Nat) (hT : T.2.2.2.2.2 = nI c) (hc : c ≤ 16000) (x : Int32) (k : Int32) (h : ¬ ((bTok c x && decide (T.1 x.toNatClampNeg = 3)) = true ∧ 0 ≤ k.toInt ∧ k.toInt < (T.2.2.2.2.1 x.toNatClampNeg).toInt)) : Ctr g yX0_code wsX0_code ({ frames := 2, cells := 0, slots := 0, locals := 44 }) [.ref (a 0), .int x, .int k] (tw g a aT aX tr n fed tx m ln fa T) (some (.int (-1))) (tw g a aT aX tr n fed tx m ln fa T) 0 0 := by
  refine Ctr.start (cc := cX0_code) (maxL := 5) (ret := (some .int)) (by decide) rfl (Nat.le_of_ble_eq_true rfl) (lv0 := [(0, .ref (a 0)), (1, .int x), (2, .int k)]) rfl ?_
  intro X C F
  have C : Ok g X cX0_code RX0 wsX0_code ({ frames := 2, cells := 0, slots := 0, locals := 44 }) (some .int) 5 := C
  have hin : ∀ w ∈ wsX00, w ∈ wsX0_code := fun _ h => List.mem_cons_of_mem _ (List.mem_append_right _ h)
  have lk29 : Cond.fieldLink RX0 29 "TokenRows" "tells" "[I" ∈ wsX0_code := by decide +kernel
  refine g_aload_n C dX0_code_0 0 rfl ?_
  refine g_iload_n C dX0_code_1 1 rfl ?_
  refine g_iconst C dX0_code_2 (v := 3) (by decide) ?_
  refine g_callVi (n := 2) C (c_X0_isOfKind g a aT aX tr n fed tx m ln fa T c hT hc x 3) gX0_code_X0_isOfKind rfl rfl rfl rfl (by decide) (by decide) rfl (Nat.le_of_ble_eq_true rfl) dX0_code_3 ?_
  refine g_if_eq C dX0_code_6 (tgt := 23) (by decide) (fun c1 => ?_) (fun c1 => ?_)
  · refine g_iconst C dX0_code_23 (v := (-1)) (by decide) ?_
    exact g_iret C F (rfl) (rfl) dX0_code_24
  · refine g_iload_n C dX0_code_9 2 rfl ?_
    refine g_if_lt C dX0_code_10 (tgt := 23) (by decide) (fun c2 => ?_) (fun c2 => ?_)
    · refine g_iconst C dX0_code_23 (v := (-1)) (by decide) ?_
      exact g_iret C F (rfl) (rfl) dX0_code_24
    · refine g_iload_n C dX0_code_13 2 rfl ?_
      refine g_aload_n C dX0_code_14 0 rfl ?_
      refine g_get0 C hin 0 rfl 11 (by decide) lk29 rfl dX0_code_15 ?_
      refine g_iload_n C dX0_code_18 1 rfl ?_
      refine g_iald C 7 rfl (bTok_in (Bool.and_eq_true_iff.mp (b01_1.mp c1)).1 hc) dX0_code_19 ?_
      refine g_top (y := T.2.2.2.2.1 x.toNatClampNeg) (rfl) ?_
      refine g_icmp_lt C dX0_code_20 (tgt := 25) (by decide) (fun c3 => ?_) (fun c3 => ?_)
      · exact absurd ⟨b01_1.mp c1, k_nlt (b := 0) (by decide) c2, k_lt rfl c3⟩ h
      · refine g_iconst C dX0_code_23 (v := (-1)) (by decide) ?_
        exact g_iret C F (rfl) (rfl) dX0_code_24
set_option maxHeartbeats 4000000 in
set_option maxRecDepth 100000 in
theorem c_X0_same (g : Gl) (a : Nat → Nat) (aT aX : Nat) (tr : Nat → Int32) (n fed : Int32) (tx : Nat → Int32) (ln fa : Int32) (T : TK) (c : Nat) (hT : T.2.2.2.2.2 = nI c) (hc : c ≤ 16000) (x : Int32) (y : Int32) (s t z N : Nat) (hN : N ≤ 16000) (h1 : bTok c x = true) (h2 : bTok c y = true) (h3 : T.2.2.1 x.toNatClampNeg = nI z) (h4 : T.2.2.1 y.toNatClampNeg = nI z) (h5 : T.2.1 x.toNatClampNeg = nI s) (h6 : T.2.1 y.toNatClampNeg = nI t) (h7 : s ≤ 16000 ∧ t ≤ 16000 ∧ z ≤ 16000) : Ctr g yX0_same wsX0_same ({ frames := 1, cells := 0, slots := 0, locals := 21 }) [.ref (a 0), .int x, .int y] (tw g a aT aX tr n fed tx (nI N) ln fa T) (some (.int (b01 (allEq (look tx N) s t z)))) (tw g a aT aX tr n fed tx (nI N) ln fa T) 0 0 := by
  refine Ctr.start (cc := cX0_same) (maxL := 4) (ret := (some .boolean)) (by decide) rfl (Nat.le_of_ble_eq_true rfl) (lv0 := [(0, .ref (a 0)), (1, .int x), (2, .int y)]) rfl ?_
  intro X C F
  have C : Ok g X cX0_same RX0 wsX0_same ({ frames := 1, cells := 0, slots := 0, locals := 21 }) (some .boolean) 4 := C
  have hin : ∀ w ∈ wsX00, w ∈ wsX0_same := fun _ h => List.mem_cons_of_mem _ (List.mem_append_right _ h)
  have lk20 : Cond.fieldLink RX0 20 "TokenRows" "starts" "[I" ∈ wsX0_same := by decide +kernel
  have lk23 : Cond.fieldLink RX0 23 "TokenRows" "sizes" "[I" ∈ wsX0_same := by decide +kernel
  have loop : ∀ (k0 j : Nat), j ≤ z → z + 1 ≤ j + k0 → allEq (look tx N) s t j = true → G g X (0, 0) (tw g a aT aX tr n fed tx (nI N) ln fa T) 35 [(3, .int (nI j)), (0, .ref (a 0)), (1, .int x), (2, .int y)] [] := by
    intro k0
    induction k0 with
    | zero => intro j q1 q2 q3; omega
    | succ k0 ih =>
      intro j q1 q2 q3
      refine g_iload_n C dX0_same_35 0 rfl ?_
      refine g_aload_n C dX0_same_36 1 rfl ?_
      refine g_get0 C hin 0 rfl 9 (by decide) lk23 rfl dX0_same_37 ?_
      refine g_iload_n C dX0_same_40 2 rfl ?_
      refine g_iald C 5 rfl (bTok_in h1 hc) dX0_same_41 ?_
      refine g_top (y := nI z) (h3) ?_
      refine g_icmp_ge C dX0_same_42 (tgt := 80) (by decide) (fun c1 => ?_) (fun c1 => ?_)
      · have hj := (nI_leI (by omega) (by omega)).mp c1
        have hj : j = z := by omega
        subst hj
        refine g_iconst C dX0_same_80 (v := 1) (by decide) ?_
        exact g_zret C F (by decide) (by rw [q3]; rfl) (rfl) dX0_same_81
      · have hj : j < z := Nat.not_le.mp (fun q => c1 (nI_le q (by omega)))
        refine g_aload_n C dX0_same_45 1 rfl ?_
        refine g_aload_n C dX0_same_46 1 rfl ?_
        refine g_get0 C hin 0 rfl 8 (by decide) lk20 rfl dX0_same_47 ?_
        refine g_iload_n C dX0_same_50 2 rfl ?_
        refine g_iald C 4 rfl (bTok_in h1 hc) dX0_same_51 ?_
        refine g_top (y := nI s) (h5) ?_
        refine g_iload_n C dX0_same_52 0 rfl ?_
        refine g_iadd C dX0_same_53 ?_
        refine g_top (nI_add s j) ?_
        refine g_callVi (n := 1) C (c_X0_byteAt g a aT aX tr n fed tx ln fa T N (s + j) hN (by omega)) gX0_same_X0_byteAt rfl rfl rfl rfl (by decide) (by decide) rfl (Nat.le_of_ble_eq_true rfl) dX0_same_54 ?_
        refine g_aload_n C dX0_same_57 1 rfl ?_
        refine g_aload_n C dX0_same_58 1 rfl ?_
        refine g_get0 C hin 0 rfl 8 (by decide) lk20 rfl dX0_same_59 ?_
        refine g_iload_n C dX0_same_62 3 rfl ?_
        refine g_iald C 4 rfl (bTok_in h2 hc) dX0_same_63 ?_
        refine g_top (y := nI t) (h6) ?_
        refine g_iload_n C dX0_same_64 0 rfl ?_
        refine g_iadd C dX0_same_65 ?_
        refine g_top (nI_add t j) ?_
        refine g_callVi (n := 1) C (c_X0_byteAt g a aT aX tr n fed tx ln fa T N (t + j) hN (by omega)) gX0_same_X0_byteAt rfl rfl rfl rfl (by decide) (by decide) rfl (Nat.le_of_ble_eq_true rfl) dX0_same_66 ?_
        refine g_icmp_eq C dX0_same_69 (tgt := 74) (by decide) (fun c2 => ?_) (fun c2 => ?_)
        · have c_e := c2
          refine g_iinc (o := 0) (v := nI (j + 1)) (lv' := [(3, .int (nI (j + 1))), (0, .ref (a 0)), (1, .int x), (2, .int y)]) C dX0_same_74 rfl (nI_add j 1) (by decide) rfl ?_
          refine g_goto C dX0_same_77 (tgt := 35) (by decide) ?_
          exact ih (j + 1) (by omega) (by omega) (by rw [allEq, q3, decide_eq_true c_e]; rfl)
        · have hno := allEq_no c2 z hj
          refine g_iconst C dX0_same_72 (v := 0) (by decide) ?_
          exact g_zret C F (by decide) (by rw [hno]; rfl) (rfl) dX0_same_73
  refine g_aload_n C dX0_same_0 0 rfl ?_
  refine g_iload_n C dX0_same_1 1 rfl ?_
  refine g_callVi (n := 1) C (c_X0_isToken g a aT aX tr n fed tx (nI N) ln fa T c hT hc x) gX0_same_X0_isToken rfl rfl rfl rfl (by decide) (by decide) rfl (Nat.le_of_ble_eq_true rfl) dX0_same_2 ?_
  refine g_if_eq C dX0_same_5 (tgt := 31) (by decide) (fun c3 => ?_) (fun c3 => ?_)
  · exact absurd c3 (by rw [h1]; decide)
  · refine g_aload_n C dX0_same_8 0 rfl ?_
    refine g_iload_n C dX0_same_9 2 rfl ?_
    refine g_callVi (n := 1) C (c_X0_isToken g a aT aX tr n fed tx (nI N) ln fa T c hT hc y) gX0_same_X0_isToken rfl rfl rfl rfl (by decide) (by decide) rfl (Nat.le_of_ble_eq_true rfl) dX0_same_10 ?_
    refine g_if_eq C dX0_same_13 (tgt := 31) (by decide) (fun c4 => ?_) (fun c4 => ?_)
    · exact absurd c4 (by rw [h2]; decide)
    · refine g_aload_n C dX0_same_16 0 rfl ?_
      refine g_get0 C hin 0 rfl 9 (by decide) lk23 rfl dX0_same_17 ?_
      refine g_iload_n C dX0_same_20 1 rfl ?_
      refine g_iald C 5 rfl (bTok_in h1 hc) dX0_same_21 ?_
      refine g_top (y := nI z) (h3) ?_
      refine g_aload_n C dX0_same_22 0 rfl ?_
      refine g_get0 C hin 0 rfl 9 (by decide) lk23 rfl dX0_same_23 ?_
      refine g_iload_n C dX0_same_26 2 rfl ?_
      refine g_iald C 5 rfl (bTok_in h2 hc) dX0_same_27 ?_
      refine g_top (y := nI z) (h4) ?_
      refine g_icmp_eq C dX0_same_28 (tgt := 33) (by decide) (fun c5 => ?_) (fun c5 => ?_)
      · refine g_iconst C dX0_same_33 (v := 0) (by decide) ?_
        refine g_istore_n (lv' := [(3, .int 0), (0, .ref (a 0)), (1, .int x), (2, .int y)]) C dX0_same_34 (by decide) rfl ?_
        exact loop (z + 1) 0 (by omega) (by omega) rfl
      · exact absurd rfl c5
set_option maxHeartbeats 4000000 in
set_option maxRecDepth 100000 in
theorem c_X0_sameN (g : Gl) (a : Nat → Nat) (aT aX : Nat) (tr : Nat → Int32) (n fed : Int32) (tx : Nat → Int32) (m ln fa : Int32) (T : TK) (c : Nat) (hT : T.2.2.2.2.2 = nI c) (hc : c ≤ 16000) (x : Int32) (y : Int32) (h : ¬ (bTok c x = true ∧ bTok c y = true ∧ T.2.2.1 x.toNatClampNeg = T.2.2.1 y.toNatClampNeg)) : Ctr g yX0_same wsX0_same ({ frames := 1, cells := 0, slots := 0, locals := 21 }) [.ref (a 0), .int x, .int y] (tw g a aT aX tr n fed tx m ln fa T) (some (.int 0)) (tw g a aT aX tr n fed tx m ln fa T) 0 0 := by
  refine Ctr.start (cc := cX0_same) (maxL := 4) (ret := (some .boolean)) (by decide) rfl (Nat.le_of_ble_eq_true rfl) (lv0 := [(0, .ref (a 0)), (1, .int x), (2, .int y)]) rfl ?_
  intro X C F
  have C : Ok g X cX0_same RX0 wsX0_same ({ frames := 1, cells := 0, slots := 0, locals := 21 }) (some .boolean) 4 := C
  have hin : ∀ w ∈ wsX00, w ∈ wsX0_same := fun _ h => List.mem_cons_of_mem _ (List.mem_append_right _ h)
  have lk23 : Cond.fieldLink RX0 23 "TokenRows" "sizes" "[I" ∈ wsX0_same := by decide +kernel
  refine g_aload_n C dX0_same_0 0 rfl ?_
  refine g_iload_n C dX0_same_1 1 rfl ?_
  refine g_callVi (n := 1) C (c_X0_isToken g a aT aX tr n fed tx m ln fa T c hT hc x) gX0_same_X0_isToken rfl rfl rfl rfl (by decide) (by decide) rfl (Nat.le_of_ble_eq_true rfl) dX0_same_2 ?_
  refine g_if_eq C dX0_same_5 (tgt := 31) (by decide) (fun c1 => ?_) (fun c1 => ?_)
  · refine g_iconst C dX0_same_31 (v := 0) (by decide) ?_
    exact g_zret C F (by decide) (rfl) (rfl) dX0_same_32
  · refine g_aload_n C dX0_same_8 0 rfl ?_
    refine g_iload_n C dX0_same_9 2 rfl ?_
    refine g_callVi (n := 1) C (c_X0_isToken g a aT aX tr n fed tx m ln fa T c hT hc y) gX0_same_X0_isToken rfl rfl rfl rfl (by decide) (by decide) rfl (Nat.le_of_ble_eq_true rfl) dX0_same_10 ?_
    refine g_if_eq C dX0_same_13 (tgt := 31) (by decide) (fun c2 => ?_) (fun c2 => ?_)
    · refine g_iconst C dX0_same_31 (v := 0) (by decide) ?_
      exact g_zret C F (by decide) (rfl) (rfl) dX0_same_32
    · refine g_aload_n C dX0_same_16 0 rfl ?_
      refine g_get0 C hin 0 rfl 9 (by decide) lk23 rfl dX0_same_17 ?_
      refine g_iload_n C dX0_same_20 1 rfl ?_
      refine g_iald C 5 rfl (bTok_in (b01_1.mp c1) hc) dX0_same_21 ?_
      refine g_top (y := T.2.2.1 x.toNatClampNeg) (rfl) ?_
      refine g_aload_n C dX0_same_22 0 rfl ?_
      refine g_get0 C hin 0 rfl 9 (by decide) lk23 rfl dX0_same_23 ?_
      refine g_iload_n C dX0_same_26 2 rfl ?_
      refine g_iald C 5 rfl (bTok_in (b01_1.mp c2) hc) dX0_same_27 ?_
      refine g_top (y := T.2.2.1 y.toNatClampNeg) (rfl) ?_
      refine g_icmp_eq C dX0_same_28 (tgt := 33) (by decide) (fun c3 => ?_) (fun c3 => ?_)
      · exact absurd ⟨b01_1.mp c1, b01_1.mp c2, c3⟩ h
      · refine g_iconst C dX0_same_31 (v := 0) (by decide) ?_
        exact g_zret C F (by decide) (rfl) (rfl) dX0_same_32
