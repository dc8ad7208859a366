/-- the reference's answer to kind, of a token -/
def mK (L : Nat → Int32) (kk : Int32) (s e : Nat) : Int32 := if kk = 1 ∧ 0 ≤ (amg L s (e - s) 1 kW1 0).toInt then 4 else kk
/-- how many of the first k bytes are 10 -/
def cntR (tx : Nat → Int32) : Nat → Nat
  | 0 => 0
  | k + 1 => cntR tx k + if tx k = 10 then 1 else 0
def mhv (L : Nat → Int32) (i : Nat) : Nat → Int32
  | 0 => 0
  | k + 1 => mhv L i k * 16 + hexv (L (i + k))
def mdv (L : Nat → Int32) (i : Nat) : Nat → Int32
  | 0 => 0
  | k + 1 => mdv L i k * 10 + L (i + k) - 48
def allR (tx : Nat → Int32) (s t : Nat) : Nat → Bool
  | 0 => true
  | k + 1 => allR tx s t k && decide (tx (s + k) = tx (t + k))
theorem allR_no {tx : Nat → Int32} {s t k : Nat} (h : ¬ tx (s + k) = tx (t + k)) : ∀ z, k < z → allR tx s t z = false
  | 0, hz => by omega
  | z + 1, hz => by
    rw [allR]
    by_cases e : k = z
    · subst e; rw [decide_eq_false h, Bool.and_false]
    · rw [allR_no h z (by omega)]; rfl
set_option maxHeartbeats 4000000 in
set_option maxRecDepth 100000 in
theorem c_X1_kind (g : Gl) (b : Nat → Nat) (tr : Nat → Int32) (n fed : Int32) (tx : Nat → Int32) (ks fs ts : Nat → Int32) (pl : Int32) (c N : Nat) (hN : N ≤ 16000) (hc : c ≤ 16000) (x : Int32) (s e : Nat) (h1 : bTok c x = true) (hfs : fs x.toNatClampNeg = nI s) (hts : ts x.toNatClampNeg = nI e) (hse : s ≤ e) (he : e ≤ 16000) : Ctr g yX1_kind wsX1_kind ({ frames := 6, cells := 0, slots := 0, locals := 135 }) [.ref (b 0), .int x] (mw g b tr n fed tx (nI N) ks fs ts (nI c) pl) (some (.int (mK (look tx N) (ks x.toNatClampNeg) s e))) (mw g b tr n fed tx (nI N) ks fs ts (nI c) pl) 0 0 := by
  refine Ctr.start (cc := cX1_kind) (maxL := 2) (ret := (some .int)) (by decide) rfl (Nat.le_of_ble_eq_true rfl) (lv0 := [(0, .ref (b 0)), (1, .int x)]) rfl ?_
  intro X C F
  have C : Ok g X cX1_kind RX1 wsX1_kind ({ frames := 6, cells := 0, slots := 0, locals := 135 }) (some .int) 2 := C
  have hin : ∀ w ∈ wsX10, w ∈ wsX1_kind := fun _ h => List.mem_cons_of_mem _ (List.mem_append_right _ h)
  have lk16 : Cond.fieldLink RX1 16 "TokenRowsModel" "kinds" "[I" ∈ wsX1_kind := by decide +kernel
  refine g_aload_n C dX1_kind_0 0 rfl ?_
  refine g_iload_n C dX1_kind_1 1 rfl ?_
  refine g_callVi (n := 1) C (c_X1_isToken g b tr n fed tx (nI N) ks fs ts pl c hc x) gX1_kind_X1_isToken rfl rfl rfl rfl (by decide) (by decide) rfl (Nat.le_of_ble_eq_true rfl) dX1_kind_2 ?_
  refine g_if_ne C dX1_kind_5 (tgt := 12) (by decide) (fun c1 => ?_) (fun c1 => ?_)
  · refine g_aload_n C dX1_kind_12 0 rfl ?_
    refine g_get1 C hin 0 rfl 5 (by decide) lk16 rfl dX1_kind_13 ?_
    refine g_iload_n C dX1_kind_16 1 rfl ?_
    refine g_iald C 3 rfl (bTok_in h1 hc) dX1_kind_17 ?_
    refine g_top (y := ks x.toNatClampNeg) (rfl) ?_
    refine g_iconst C dX1_kind_18 (v := 1) (by decide) ?_
    refine g_icmp_ne C dX1_kind_19 (tgt := 36) (by decide) (fun c2 => ?_) (fun c2 => ?_)
    · refine g_aload_n C dX1_kind_36 0 rfl ?_
      refine g_get1 C hin 0 rfl 5 (by decide) lk16 rfl dX1_kind_37 ?_
      refine g_iload_n C dX1_kind_40 1 rfl ?_
      refine g_iald C 3 rfl (bTok_in h1 hc) dX1_kind_41 ?_
      refine g_top (y := ks x.toNatClampNeg) (rfl) ?_
      exact g_iret C F (by unfold mK; rw [if_neg (fun z => c2 z.1)]) (rfl) dX1_kind_42
    · refine g_aload_n C dX1_kind_22 0 rfl ?_
      refine g_iload_n C dX1_kind_23 1 rfl ?_
      refine g_ldcS1 C rfl dX1_kind_24 ?_
      refine g_callVi (n := 2) C (c_X1_among g b tr n fed tx ks fs ts (nI c) pl N 1 s e kW1 x hN (by omega) wf1 (bTok_in h1 hc) hfs hts hse he) gX1_kind_X1_among rfl rfl rfl rfl (by decide) (by decide) rfl (Nat.le_of_ble_eq_true rfl) dX1_kind_26 ?_
      refine g_if_lt C dX1_kind_29 (tgt := 36) (by decide) (fun c3 => ?_) (fun c3 => ?_)
      · refine g_aload_n C dX1_kind_36 0 rfl ?_
        refine g_get1 C hin 0 rfl 5 (by decide) lk16 rfl dX1_kind_37 ?_
        refine g_iload_n C dX1_kind_40 1 rfl ?_
        refine g_iald C 3 rfl (bTok_in h1 hc) dX1_kind_41 ?_
        refine g_top (y := ks x.toNatClampNeg) (rfl) ?_
        have q := k_lt (b := 0) (by decide) c3
        exact g_iret C F (by unfold mK; rw [if_neg (fun z => by omega)]) (rfl) dX1_kind_42
      · refine g_iconst C dX1_kind_32 (v := 4) (by decide) ?_
        refine g_goto C dX1_kind_33 (tgt := 42) (by decide) ?_
        have q := k_nlt (b := 0) (by decide) c3
        exact g_iret C F (by unfold mK; rw [if_pos ⟨c2, q⟩]) (rfl) dX1_kind_42
  · exact absurd c1 (by rw [h1]; decide)
set_option maxHeartbeats 4000000 in
set_option maxRecDepth 100000 in
theorem c_X1_kindN (g : Gl) (b : Nat → Nat) (tr : Nat → Int32) (n fed : Int32) (tx : Nat → Int32) (ks fs ts : Nat → Int32) (pl : Int32) (c N : Nat) (hN : N ≤ 16000) (hc : c ≤ 16000) (x : Int32) (h : bTok c x = false) : Ctr g yX1_kind wsX1_kind ({ frames := 6, cells := 0, slots := 0, locals := 135 }) [.ref (b 0), .int x] (mw g b tr n fed tx (nI N) ks fs ts (nI c) pl) (some (.int 0)) (mw g b tr n fed tx (nI N) ks fs ts (nI c) pl) 0 0 := by
  refine Ctr.start (cc := cX1_kind) (maxL := 2) (ret := (some .int)) (by decide) rfl (Nat.le_of_ble_eq_true rfl) (lv0 := [(0, .ref (b 0)), (1, .int x)]) rfl ?_
  intro X C F
  have C : Ok g X cX1_kind RX1 wsX1_kind ({ frames := 6, cells := 0, slots := 0, locals := 135 }) (some .int) 2 := C
  have hin : ∀ w ∈ wsX10, w ∈ wsX1_kind := fun _ h => List.mem_cons_of_mem _ (List.mem_append_right _ h)
  refine g_aload_n C dX1_kind_0 0 rfl ?_
  refine g_iload_n C dX1_kind_1 1 rfl ?_
  refine g_callVi (n := 1) C (c_X1_isToken g b tr n fed tx (nI N) ks fs ts pl c hc x) gX1_kind_X1_isToken rfl rfl rfl rfl (by decide) (by decide) rfl (Nat.le_of_ble_eq_true rfl) dX1_kind_2 ?_
  refine g_if_ne C dX1_kind_5 (tgt := 12) (by decide) (fun c1 => ?_) (fun c1 => ?_)
  · exact absurd h (by rw [b01_1.mp c1]; decide)
  · refine g_iconst C dX1_kind_8 (v := 0) (by decide) ?_
    refine g_goto C dX1_kind_9 (tgt := 42) (by decide) ?_
    exact g_iret C F (rfl) (rfl) dX1_kind_42
set_option maxHeartbeats 4000000 in
set_option maxRecDepth 100000 in
theorem c_X1_which (g : Gl) (b : Nat → Nat) (tr : Nat → Int32) (n fed : Int32) (tx : Nat → Int32) (ks fs ts : Nat → Int32) (pl : Int32) (c N : Nat) (hN : N ≤ 16000) (hc : c ≤ 16000) (x : Int32) (s e : Nat) (h1 : bTok c x = true) (hfs : fs x.toNatClampNeg = nI s) (hts : ts x.toNatClampNeg = nI e) (hse : s ≤ e) (he : e ≤ 16000) (kv : Int32) (hK : Ctr g yX1_kind wsX1_kind ({ frames := 6, cells := 0, slots := 0, locals := 135 }) [.ref (b 0), .int x] (mw g b tr n fed tx (nI N) ks fs ts (nI c) pl) (some (.int kv)) (mw g b tr n fed tx (nI N) ks fs ts (nI c) pl) 0 0) : Ctr g yX1_which wsX1_which ({ frames := 7, cells := 0, slots := 0, locals := 156 }) [.ref (b 0), .int x] (mw g b tr n fed tx (nI N) ks fs ts (nI c) pl) (some (.int (if kv = 4 then amg (look tx N) s (e - s) 1 kW1 0 else if kv = 5 then amg (look tx N) s (e - s) 0 kW0 0 else -1))) (mw g b tr n fed tx (nI N) ks fs ts (nI c) pl) 0 0 := by
  refine Ctr.start (cc := cX1_which) (maxL := 3) (ret := (some .int)) (by decide) rfl (Nat.le_of_ble_eq_true rfl) (lv0 := [(0, .ref (b 0)), (1, .int x)]) rfl ?_
  intro X C F
  have C : Ok g X cX1_which RX1 wsX1_which ({ frames := 7, cells := 0, slots := 0, locals := 156 }) (some .int) 3 := C
  have hin : ∀ w ∈ wsX10, w ∈ wsX1_which := fun _ h => List.mem_cons_of_mem _ (List.mem_append_right _ h)
  refine g_aload_n C dX1_which_0 0 rfl ?_
  refine g_iload_n C dX1_which_1 1 rfl ?_
  refine g_callVi (n := 1) C (hK) gX1_which_X1_kind rfl rfl rfl rfl (by decide) (by decide) rfl (Nat.le_of_ble_eq_true rfl) dX1_which_2 ?_
  refine g_istore_n (lv' := [(2, .int kv), (0, .ref (b 0)), (1, .int x)]) C dX1_which_5 (by decide) rfl ?_
  refine g_iload_n C dX1_which_6 0 rfl ?_
  refine g_iconst C dX1_which_7 (v := 4) (by decide) ?_
  refine g_icmp_ne C dX1_which_8 (tgt := 21) (by decide) (fun c1 => ?_) (fun c1 => ?_)
  · refine g_iload_n C dX1_which_21 0 rfl ?_
    refine g_iconst C dX1_which_22 (v := 5) (by decide) ?_
    refine g_icmp_ne C dX1_which_23 (tgt := 36) (by decide) (fun c2 => ?_) (fun c2 => ?_)
    · refine g_iconst C dX1_which_36 (v := (-1)) (by decide) ?_
      exact g_iret C F (by rw [if_neg c1, if_neg c2]) (rfl) dX1_which_37
    · refine g_aload_n C dX1_which_26 1 rfl ?_
      refine g_iload_n C dX1_which_27 2 rfl ?_
      refine g_ldcS0 C rfl dX1_which_28 ?_
      refine g_callVi (n := 2) C (c_X1_among g b tr n fed tx ks fs ts (nI c) pl N 0 s e kW0 x hN (by omega) wf0 (bTok_in h1 hc) hfs hts hse he) gX1_which_X1_among rfl rfl rfl rfl (by decide) (by decide) rfl (Nat.le_of_ble_eq_true rfl) dX1_which_30 ?_
      refine g_goto C dX1_which_33 (tgt := 37) (by decide) ?_
      exact g_iret C F (by rw [if_neg c1, if_pos c2]) (rfl) dX1_which_37
  · refine g_aload_n C dX1_which_11 1 rfl ?_
    refine g_iload_n C dX1_which_12 2 rfl ?_
    refine g_ldcS1 C rfl dX1_which_13 ?_
    refine g_callVi (n := 2) C (c_X1_among g b tr n fed tx ks fs ts (nI c) pl N 1 s e kW1 x hN (by omega) wf1 (bTok_in h1 hc) hfs hts hse he) gX1_which_X1_among rfl rfl rfl rfl (by decide) (by decide) rfl (Nat.le_of_ble_eq_true rfl) dX1_which_15 ?_
    refine g_goto C dX1_which_18 (tgt := 37) (by decide) ?_
    exact g_iret C F (by rw [if_pos c1]) (rfl) dX1_which_37
set_option maxHeartbeats 4000000 in
set_option maxRecDepth 100000 in
theorem c_X1_whichN (g : Gl) (b : Nat → Nat) (tr : Nat → Int32) (n fed : Int32) (tx : Nat → Int32) (ks fs ts : Nat → Int32) (pl : Int32) (c N : Nat) (hN : N ≤ 16000) (hc : c ≤ 16000) (x : Int32) (hK : Ctr g yX1_kind wsX1_kind ({ frames := 6, cells := 0, slots := 0, locals := 135 }) [.ref (b 0), .int x] (mw g b tr n fed tx (nI N) ks fs ts (nI c) pl) (some (.int 0)) (mw g b tr n fed tx (nI N) ks fs ts (nI c) pl) 0 0) : Ctr g yX1_which wsX1_which ({ frames := 7, cells := 0, slots := 0, locals := 156 }) [.ref (b 0), .int x] (mw g b tr n fed tx (nI N) ks fs ts (nI c) pl) (some (.int (-1))) (mw g b tr n fed tx (nI N) ks fs ts (nI c) pl) 0 0 := by
  refine Ctr.start (cc := cX1_which) (maxL := 3) (ret := (some .int)) (by decide) rfl (Nat.le_of_ble_eq_true rfl) (lv0 := [(0, .ref (b 0)), (1, .int x)]) rfl ?_
  intro X C F
  have C : Ok g X cX1_which RX1 wsX1_which ({ frames := 7, cells := 0, slots := 0, locals := 156 }) (some .int) 3 := C
  have hin : ∀ w ∈ wsX10, w ∈ wsX1_which := fun _ h => List.mem_cons_of_mem _ (List.mem_append_right _ h)
  refine g_aload_n C dX1_which_0 0 rfl ?_
  refine g_iload_n C dX1_which_1 1 rfl ?_
  refine g_callVi (n := 1) C (hK) gX1_which_X1_kind rfl rfl rfl rfl (by decide) (by decide) rfl (Nat.le_of_ble_eq_true rfl) dX1_which_2 ?_
  refine g_istore_n (lv' := [(2, .int 0), (0, .ref (b 0)), (1, .int x)]) C dX1_which_5 (by decide) rfl ?_
  refine g_iload_n C dX1_which_6 0 rfl ?_
  refine g_iconst C dX1_which_7 (v := 4) (by decide) ?_
  refine g_icmp_ne C dX1_which_8 (tgt := 21) (by decide) (fun c1 => ?_) (fun c1 => ?_)
  · refine g_iload_n C dX1_which_21 0 rfl ?_
    refine g_iconst C dX1_which_22 (v := 5) (by decide) ?_
    refine g_icmp_ne C dX1_which_23 (tgt := 36) (by decide) (fun c2 => ?_) (fun c2 => ?_)
    · refine g_iconst C dX1_which_36 (v := (-1)) (by decide) ?_
      exact g_iret C F (rfl) (rfl) dX1_which_37
    · exact absurd c2 (by decide)
  · exact absurd c1 (by decide)
set_option maxHeartbeats 4000000 in
set_option maxRecDepth 100000 in
theorem c_X1_line (g : Gl) (b : Nat → Nat) (tr : Nat → Int32) (n fed : Int32) (tx : Nat → Int32) (ks fs ts : Nat → Int32) (pl : Int32) (c N : Nat) (hN : N ≤ 16000) (hc : c ≤ 16000) (x : Int32) (s e : Nat) (h1 : bTok c x = true) (hfs : fs x.toNatClampNeg = nI s) (hts : ts x.toNatClampNeg = nI e) (hse : s ≤ e) (he : e ≤ 16000) (hsN : s ≤ N) : Ctr g yX1_line wsX1_line ({ frames := 1, cells := 0, slots := 0, locals := 21 }) [.ref (b 0), .int x] (mw g b tr n fed tx (nI N) ks fs ts (nI c) pl) (some (.int (nI (1 + cntR tx s)))) (mw g b tr n fed tx (nI N) ks fs ts (nI c) pl) 0 0 := by
  refine Ctr.start (cc := cX1_line) (maxL := 4) (ret := (some .int)) (by decide) rfl (Nat.le_of_ble_eq_true rfl) (lv0 := [(0, .ref (b 0)), (1, .int x)]) rfl ?_
  intro X C F
  have C : Ok g X cX1_line RX1 wsX1_line ({ frames := 1, cells := 0, slots := 0, locals := 21 }) (some .int) 4 := C
  have hin : ∀ w ∈ wsX10, w ∈ wsX1_line := fun _ h => List.mem_cons_of_mem _ (List.mem_append_right _ h)
  have lk13 : Cond.fieldLink RX1 13 "TokenRowsModel" "text" "[B" ∈ wsX1_line := by decide +kernel
  have lk20 : Cond.fieldLink RX1 20 "TokenRowsModel" "froms" "[I" ∈ wsX1_line := by decide +kernel
  have loop : ∀ (k0 j : Nat), j ≤ s → s + 1 ≤ j + k0 → G g X (0, 0) (mw g b tr n fed tx (nI N) ks fs ts (nI c) pl) 14 [(3, .int (nI j)), (2, .int (nI (1 + cntR tx j))), (0, .ref (b 0)), (1, .int x)] [] := by
    intro k0
    induction k0 with
    | zero => intro j q1 q2; omega
    | succ k0 ih =>
      intro j q1 q2
      refine g_iload_n C dX1_line_14 0 rfl ?_
      refine g_aload_n C dX1_line_15 2 rfl ?_
      refine g_get1 C hin 0 rfl 6 (by decide) lk20 rfl dX1_line_16 ?_
      refine g_iload_n C dX1_line_19 3 rfl ?_
      refine g_iald C 4 rfl (bTok_in h1 hc) dX1_line_20 ?_
      refine g_top (y := nI s) (hfs) ?_
      refine g_icmp_ge C dX1_line_21 (tgt := 44) (by decide) (fun c1 => ?_) (fun c1 => ?_)
      · have hj := (nI_leI (by omega) (by omega)).mp c1
        have hj : j = s := by omega
        subst hj
        refine g_iload_n C dX1_line_44 1 rfl ?_
        exact g_iret C F (rfl) (rfl) dX1_line_45
      · have hj : j < s := Nat.not_le.mp (fun z => c1 (nI_le z (by omega)))
        refine g_aload_n C dX1_line_24 2 rfl ?_
        refine g_get1 C hin 0 rfl 3 (by decide) lk13 rfl dX1_line_25 ?_
        refine g_iload_n C dX1_line_28 0 rfl ?_
        refine g_bald C 2 rfl (vp_in_nI (by omega) (by omega)) dX1_line_29 ?_
        refine g_top (y := tx j) (by rw [nI_clamp (by omega)]) ?_
        refine g_bipush C dX1_line_30 (v := 10) (by decide) ?_
        refine g_icmp_ne C dX1_line_32 (tgt := 38) (by decide) (fun c2 => ?_) (fun c2 => ?_)
        · refine g_iinc (o := 0) (v := nI (j + 1)) (lv' := [(3, .int (nI (j + 1))), (2, .int (nI (1 + cntR tx j))), (0, .ref (b 0)), (1, .int x)]) C dX1_line_38 rfl (nI_add j 1) (by decide) rfl ?_
          refine g_goto C dX1_line_41 (tgt := 14) (by decide) ?_
          refine g_lv (lv' := [(3, .int (nI (j + 1))), (2, .int (nI (1 + cntR tx (j + 1)))), (0, .ref (b 0)), (1, .int x)]) (by rw [cntR, if_neg c2]; rfl) ?_
          exact ih (j + 1) (by omega) (by omega)
        · refine g_iinc (o := 1) (v := nI (1 + cntR tx j + 1)) (lv' := [(2, .int (nI (1 + cntR tx j + 1))), (3, .int (nI j)), (0, .ref (b 0)), (1, .int x)]) C dX1_line_35 rfl (nI_add (1 + cntR tx j) 1) (by decide) rfl ?_
          refine g_iinc (o := 1) (v := nI (j + 1)) (lv' := [(3, .int (nI (j + 1))), (2, .int (nI (1 + cntR tx j + 1))), (0, .ref (b 0)), (1, .int x)]) C dX1_line_38 rfl (nI_add j 1) (by decide) rfl ?_
          refine g_goto C dX1_line_41 (tgt := 14) (by decide) ?_
          refine g_lv (lv' := [(3, .int (nI (j + 1))), (2, .int (nI (1 + cntR tx (j + 1)))), (0, .ref (b 0)), (1, .int x)]) (by rw [cntR, if_pos c2]; rfl) ?_
          exact ih (j + 1) (by omega) (by omega)
  refine g_aload_n C dX1_line_0 0 rfl ?_
  refine g_iload_n C dX1_line_1 1 rfl ?_
  refine g_callVi (n := 1) C (c_X1_isToken g b tr n fed tx (nI N) ks fs ts pl c hc x) gX1_line_X1_isToken rfl rfl rfl rfl (by decide) (by decide) rfl (Nat.le_of_ble_eq_true rfl) dX1_line_2 ?_
  refine g_if_ne C dX1_line_5 (tgt := 10) (by decide) (fun c3 => ?_) (fun c3 => ?_)
  · refine g_iconst C dX1_line_10 (v := nI 1) (by decide) ?_
    refine g_istore_n (lv' := [(2, .int (nI 1)), (0, .ref (b 0)), (1, .int x)]) C dX1_line_11 (by decide) rfl ?_
    refine g_iconst C dX1_line_12 (v := nI 0) (by decide) ?_
    refine g_istore_n (lv' := [(3, .int (nI 0)), (2, .int (nI 1)), (0, .ref (b 0)), (1, .int x)]) C dX1_line_13 (by decide) rfl ?_
    exact loop (s + 1) 0 (by omega) (by omega)
  · exact absurd c3 (by rw [h1]; decide)
set_option maxHeartbeats 4000000 in
set_option maxRecDepth 100000 in
theorem c_X1_lineN (g : Gl) (b : Nat → Nat) (tr : Nat → Int32) (n fed : Int32) (tx : Nat → Int32) (ks fs ts : Nat → Int32) (pl : Int32) (c N : Nat) (hN : N ≤ 16000) (hc : c ≤ 16000) (x : Int32) (h : bTok c x = false) : Ctr g yX1_line wsX1_line ({ frames := 1, cells := 0, slots := 0, locals := 21 }) [.ref (b 0), .int x] (mw g b tr n fed tx (nI N) ks fs ts (nI c) pl) (some (.int 0)) (mw g b tr n fed tx (nI N) ks fs ts (nI c) pl) 0 0 := by
  refine Ctr.start (cc := cX1_line) (maxL := 4) (ret := (some .int)) (by decide) rfl (Nat.le_of_ble_eq_true rfl) (lv0 := [(0, .ref (b 0)), (1, .int x)]) rfl ?_
  intro X C F
  have C : Ok g X cX1_line RX1 wsX1_line ({ frames := 1, cells := 0, slots := 0, locals := 21 }) (some .int) 4 := C
  have hin : ∀ w ∈ wsX10, w ∈ wsX1_line := fun _ h => List.mem_cons_of_mem _ (List.mem_append_right _ h)
  refine g_aload_n C dX1_line_0 0 rfl ?_
  refine g_iload_n C dX1_line_1 1 rfl ?_
  refine g_callVi (n := 1) C (c_X1_isToken g b tr n fed tx (nI N) ks fs ts pl c hc x) gX1_line_X1_isToken rfl rfl rfl rfl (by decide) (by decide) rfl (Nat.le_of_ble_eq_true rfl) dX1_line_2 ?_
  refine g_if_ne C dX1_line_5 (tgt := 10) (by decide) (fun c1 => ?_) (fun c1 => ?_)
  · exact absurd h (by rw [b01_1.mp c1]; decide)
  · refine g_iconst C dX1_line_8 (v := 0) (by decide) ?_
    exact g_iret C F (rfl) (rfl) dX1_line_9
set_option maxHeartbeats 4000000 in
set_option maxRecDepth 100000 in
theorem c_X1_worth (g : Gl) (b : Nat → Nat) (tr : Nat → Int32) (n fed : Int32) (tx : Nat → Int32) (ks fs ts : Nat → Int32) (pl : Int32) (c N : Nat) (hN : N ≤ 16000) (hc : c ≤ 16000) (x : Int32) (hK : Ctr g yX1_kind wsX1_kind ({ frames := 6, cells := 0, slots := 0, locals := 135 }) [.ref (b 0), .int x] (mw g b tr n fed tx (nI N) ks fs ts (nI c) pl) (some (.int 2)) (mw g b tr n fed tx (nI N) ks fs ts (nI c) pl) 0 0) (s e : Nat) (h1 : bTok c x = true) (hfs : fs x.toNatClampNeg = nI s) (hts : ts x.toNatClampNeg = nI e) (hse : s ≤ e) (he : e ≤ 16000) : Ctr g yX1_worth wsX1_worth ({ frames := 7, cells := 0, slots := 0, locals := 156 }) [.ref (b 0), .int x] (mw g b tr n fed tx (nI N) ks fs ts (nI c) pl) (some (.int (if look tx N s = 39 then mcat (look tx N) (s + 1) else if 2 < e - s ∧ look tx N (s + 1) = 120 then mhv (look tx N) (s + 2) (e - (s + 2)) else mdv (look tx N) s (e - s)))) (mw g b tr n fed tx (nI N) ks fs ts (nI c) pl) 0 0 := by
  refine Ctr.start (cc := cX1_worth) (maxL := 6) (ret := (some .int)) (by decide) rfl (Nat.le_of_ble_eq_true rfl) (lv0 := [(0, .ref (b 0)), (1, .int x)]) rfl ?_
  intro X C F
  have C : Ok g X cX1_worth RX1 wsX1_worth ({ frames := 7, cells := 0, slots := 0, locals := 156 }) (some .int) 6 := C
  have hin : ∀ w ∈ wsX10, w ∈ wsX1_worth := fun _ h => List.mem_cons_of_mem _ (List.mem_append_right _ h)
  have lk20 : Cond.fieldLink RX1 20 "TokenRowsModel" "froms" "[I" ∈ wsX1_worth := by decide +kernel
  have lk23 : Cond.fieldLink RX1 23 "TokenRowsModel" "tos" "[I" ∈ wsX1_worth := by decide +kernel
  have lp1 : ¬ look tx N s = 39 → 2 < e - s ∧ look tx N (s + 1) = 120 → ∀ (k0 j : Nat), s + 2 ≤ j → j ≤ e → e + 1 ≤ j + k0 → G g X (0, 0) (mw g b tr n fed tx (nI N) ks fs ts (nI c) pl) 83 [(5, .int (nI j)), (3, .int (mhv (look tx N) (s + 2) (j - (s + 2)))), (4, .int 1), (2, .int (nI s)), (0, .ref (b 0)), (1, .int x)] [] := by
    intro n39 hx k0
    induction k0 with
    | zero => intro j q1 q2 q3; omega
    | succ k0 ih =>
      intro j q1 q2 q3
      refine g_iload C dX1_worth_83 0 rfl ?_
      refine g_aload_n C dX1_worth_85 4 rfl ?_
      refine g_get1 C hin 0 rfl 7 (by decide) lk23 rfl dX1_worth_86 ?_
      refine g_iload_n C dX1_worth_89 5 rfl ?_
      refine g_iald C 5 rfl (bTok_in h1 hc) dX1_worth_90 ?_
      refine g_top (y := nI e) (hts) ?_
      refine g_icmp_ge C dX1_worth_91 (tgt := 137) (by decide) (fun c1 => ?_) (fun c1 => ?_)
      · have hj := (nI_leI (by omega) (by omega)).mp c1
        have hj : j = e := by omega
        subst hj
        refine g_iload_n C dX1_worth_137 1 rfl ?_
        exact g_iret C F (by rw [if_neg n39, if_pos hx]) (rfl) dX1_worth_138
      · have hj : j < e := Nat.not_le.mp (fun z => c1 (nI_le z (by omega)))
        refine g_iload C dX1_worth_94 2 rfl ?_
        refine g_if_eq C dX1_worth_96 (tgt := 116) (by decide) (fun c2 => ?_) (fun c2 => ?_)
        · exact absurd c2 (by decide)
        · refine g_iload_n C dX1_worth_99 1 rfl ?_
          refine g_bipush C dX1_worth_100 (v := 16) (by decide) ?_
          refine g_imul C dX1_worth_102 ?_
          refine g_aload_n C dX1_worth_103 4 rfl ?_
          refine g_iload C dX1_worth_104 0 rfl ?_
          refine g_callVi (n := 1) C (c_X1_look g b tr n fed tx ks fs ts (nI c) pl N j hN (by omega)) gX1_worth_X1_look rfl rfl rfl rfl (by decide) (by decide) rfl (Nat.le_of_ble_eq_true rfl) dX1_worth_106 ?_
          refine g_callSi (n := 1) C (c_X1_sixteen g (look tx N j)) gX1_worth_X1_sixteen rfl rfl (by decide) (by decide) rfl (Nat.le_of_ble_eq_true rfl) dX1_worth_109 ?_
          refine g_iadd C dX1_worth_112 ?_
          refine g_goto C dX1_worth_113 (tgt := 130) (by decide) ?_
          refine g_top (y := mhv (look tx N) (s + 2) (j + 1 - (s + 2))) (by rw [show j + 1 - (s + 2) = (j - (s + 2)) + 1 by omega, mhv, show s + 2 + (j - (s + 2)) = j by omega]) ?_
          refine g_istore_n (lv' := [(3, .int (mhv (look tx N) (s + 2) (j + 1 - (s + 2)))), (5, .int (nI j)), (4, .int 1), (2, .int (nI s)), (0, .ref (b 0)), (1, .int x)]) C dX1_worth_130 (by decide) rfl ?_
          refine g_iinc (o := 1) (v := nI (j + 1)) (lv' := [(5, .int (nI (j + 1))), (3, .int (mhv (look tx N) (s + 2) (j + 1 - (s + 2)))), (4, .int 1), (2, .int (nI s)), (0, .ref (b 0)), (1, .int x)]) C dX1_worth_131 rfl (nI_add j 1) (by decide) rfl ?_
          refine g_goto C dX1_worth_134 (tgt := 83) (by decide) ?_
          exact ih (j + 1) (by omega) (by omega) (by omega)
  have lp0 : ¬ look tx N s = 39 → ¬ (2 < e - s ∧ look tx N (s + 1) = 120) → ∀ (k0 j : Nat), s ≤ j → j ≤ e → e + 1 ≤ j + k0 → G g X (0, 0) (mw g b tr n fed tx (nI N) ks fs ts (nI c) pl) 83 [(5, .int (nI j)), (3, .int (mdv (look tx N) s (j - s))), (4, .int 0), (2, .int (nI s)), (0, .ref (b 0)), (1, .int x)] [] := by
    intro n39 hx k0
    induction k0 with
    | zero => intro j q1 q2 q3; omega
    | succ k0 ih =>
      intro j q1 q2 q3
      refine g_iload C dX1_worth_83 0 rfl ?_
      refine g_aload_n C dX1_worth_85 4 rfl ?_
      refine g_get1 C hin 0 rfl 7 (by decide) lk23 rfl dX1_worth_86 ?_
      refine g_iload_n C dX1_worth_89 5 rfl ?_
      refine g_iald C 5 rfl (bTok_in h1 hc) dX1_worth_90 ?_
      refine g_top (y := nI e) (hts) ?_
      refine g_icmp_ge C dX1_worth_91 (tgt := 137) (by decide) (fun c3 => ?_) (fun c3 => ?_)
      · have hj := (nI_leI (by omega) (by omega)).mp c3
        have hj : j = e := by omega
        subst hj
        refine g_iload_n C dX1_worth_137 1 rfl ?_
        exact g_iret C F (by rw [if_neg n39, if_neg hx]) (rfl) dX1_worth_138
      · have hj : j < e := Nat.not_le.mp (fun z => c3 (nI_le z (by omega)))
        refine g_iload C dX1_worth_94 2 rfl ?_
        refine g_if_eq C dX1_worth_96 (tgt := 116) (by decide) (fun c4 => ?_) (fun c4 => ?_)
        · refine g_iload_n C dX1_worth_116 1 rfl ?_
          refine g_bipush C dX1_worth_117 (v := 10) (by decide) ?_
          refine g_imul C dX1_worth_119 ?_
          refine g_aload_n C dX1_worth_120 4 rfl ?_
          refine g_iload C dX1_worth_121 0 rfl ?_
          refine g_callVi (n := 1) C (c_X1_look g b tr n fed tx ks fs ts (nI c) pl N j hN (by omega)) gX1_worth_X1_look rfl rfl rfl rfl (by decide) (by decide) rfl (Nat.le_of_ble_eq_true rfl) dX1_worth_123 ?_
          refine g_iadd C dX1_worth_126 ?_
          refine g_bipush C dX1_worth_127 (v := 48) (by decide) ?_
          refine g_isub C dX1_worth_129 ?_
          refine g_top (y := mdv (look tx N) s (j + 1 - s)) (by rw [show j + 1 - s = (j - s) + 1 by omega, mdv, show s + (j - s) = j by omega]) ?_
          refine g_istore_n (lv' := [(3, .int (mdv (look tx N) s (j + 1 - s))), (5, .int (nI j)), (4, .int 0), (2, .int (nI s)), (0, .ref (b 0)), (1, .int x)]) C dX1_worth_130 (by decide) rfl ?_
          refine g_iinc (o := 1) (v := nI (j + 1)) (lv' := [(5, .int (nI (j + 1))), (3, .int (mdv (look tx N) s (j + 1 - s))), (4, .int 0), (2, .int (nI s)), (0, .ref (b 0)), (1, .int x)]) C dX1_worth_131 rfl (nI_add j 1) (by decide) rfl ?_
          refine g_goto C dX1_worth_134 (tgt := 83) (by decide) ?_
          exact ih (j + 1) (by omega) (by omega) (by omega)
        · exact absurd c4 (by decide)
  refine g_aload_n C dX1_worth_0 0 rfl ?_
  refine g_iload_n C dX1_worth_1 1 rfl ?_
  refine g_callVi (n := 1) C (hK) gX1_worth_X1_kind rfl rfl rfl rfl (by decide) (by decide) rfl (Nat.le_of_ble_eq_true rfl) dX1_worth_2 ?_
  refine g_iconst C dX1_worth_5 (v := 2) (by decide) ?_
  refine g_icmp_eq C dX1_worth_6 (tgt := 11) (by decide) (fun c5 => ?_) (fun c5 => ?_)
  · refine g_aload_n C dX1_worth_11 0 rfl ?_
    refine g_get1 C hin 0 rfl 6 (by decide) lk20 rfl dX1_worth_12 ?_
    refine g_iload_n C dX1_worth_15 1 rfl ?_
    refine g_iald C 4 rfl (bTok_in h1 hc) dX1_worth_16 ?_
    refine g_top (y := nI s) (hfs) ?_
    refine g_istore_n (lv' := [(2, .int (nI s)), (0, .ref (b 0)), (1, .int x)]) C dX1_worth_17 (by decide) rfl ?_
    refine g_aload_n C dX1_worth_18 1 rfl ?_
    refine g_iload_n C dX1_worth_19 0 rfl ?_
    refine g_callVi (n := 1) C (c_X1_look g b tr n fed tx ks fs ts (nI c) pl N s hN (by omega)) gX1_worth_X1_look rfl rfl rfl rfl (by decide) (by decide) rfl (Nat.le_of_ble_eq_true rfl) dX1_worth_20 ?_
    refine g_bipush C dX1_worth_23 (v := 39) (by decide) ?_
    refine g_icmp_ne C dX1_worth_25 (tgt := 36) (by decide) (fun c6 => ?_) (fun c6 => ?_)
    · have n39 := c6
      refine g_iconst C dX1_worth_36 (v := 0) (by decide) ?_
      refine g_istore_n (lv' := [(3, .int 0), (2, .int (nI s)), (0, .ref (b 0)), (1, .int x)]) C dX1_worth_37 (by decide) rfl ?_
      refine g_aload_n C dX1_worth_38 2 rfl ?_
      refine g_get1 C hin 0 rfl 7 (by decide) lk23 rfl dX1_worth_39 ?_
      refine g_iload_n C dX1_worth_42 3 rfl ?_
      refine g_iald C 5 rfl (bTok_in h1 hc) dX1_worth_43 ?_
      refine g_top (y := nI e) (hts) ?_
      refine g_iload_n C dX1_worth_44 1 rfl ?_
      refine g_isub C dX1_worth_45 ?_
      refine g_top (y := nI (e - s)) (nI_subI (b := s) (by omega)) ?_
      refine g_iconst C dX1_worth_46 (v := 2) (by decide) ?_
      refine g_icmp_le C dX1_worth_47 (tgt := 66) (by decide) (fun c7 => ?_) (fun c7 => ?_)
      · have h2 := (nI_leI (b := 2) (by omega) (by omega)).mp c7
        have hx : ¬ (2 < e - s ∧ look tx N (s + 1) = 120) := fun z => by omega
        refine g_iconst C dX1_worth_66 (v := 0) (by decide) ?_
        refine g_istore (lv' := [(4, .int 0), (3, .int 0), (2, .int (nI s)), (0, .ref (b 0)), (1, .int x)]) C dX1_worth_67 (by decide) rfl ?_
        refine g_iload C dX1_worth_69 0 rfl ?_
        refine g_if_eq C dX1_worth_71 (tgt := 80) (by decide) (fun c8 => ?_) (fun c8 => ?_)
        · refine g_iload_n C dX1_worth_80 2 rfl ?_
          refine g_istore (lv' := [(5, .int (nI s)), (4, .int 0), (3, .int 0), (2, .int (nI s)), (0, .ref (b 0)), (1, .int x)]) C dX1_worth_81 (by decide) rfl ?_
          refine g_sub [0, 2, 1, 3, 4, 5] rfl ?_
          refine g_lv (lv' := [(5, .int (nI s)), (3, .int (mdv (look tx N) s (s - s))), (4, .int 0), (2, .int (nI s)), (0, .ref (b 0)), (1, .int x)]) (by rw [Nat.sub_self]; rfl) ?_
          exact lp0 n39 hx (e + 1) (s) (by omega) (by omega) (by omega)
        · exact absurd c8 (by decide)
      · have h2 : 2 < e - s := Nat.not_le.mp (fun z => c7 (nI_le (b := 2) z (by omega)))
        refine g_aload_n C dX1_worth_50 2 rfl ?_
        refine g_iload_n C dX1_worth_51 1 rfl ?_
        refine g_iconst C dX1_worth_52 (v := 1) (by decide) ?_
        refine g_iadd C dX1_worth_53 ?_
        refine g_top (nI_add s 1) ?_
        refine g_callVi (n := 1) C (c_X1_look g b tr n fed tx ks fs ts (nI c) pl N (s + 1) hN (by omega)) gX1_worth_X1_look rfl rfl rfl rfl (by decide) (by decide) rfl (Nat.le_of_ble_eq_true rfl) dX1_worth_54 ?_
        refine g_bipush C dX1_worth_57 (v := 120) (by decide) ?_
        refine g_icmp_ne C dX1_worth_59 (tgt := 66) (by decide) (fun c9 => ?_) (fun c9 => ?_)
        · have hx : ¬ (2 < e - s ∧ look tx N (s + 1) = 120) := fun z => c9 z.2
          refine g_iconst C dX1_worth_66 (v := 0) (by decide) ?_
          refine g_istore (lv' := [(4, .int 0), (3, .int 0), (2, .int (nI s)), (0, .ref (b 0)), (1, .int x)]) C dX1_worth_67 (by decide) rfl ?_
          refine g_iload C dX1_worth_69 0 rfl ?_
          refine g_if_eq C dX1_worth_71 (tgt := 80) (by decide) (fun c10 => ?_) (fun c10 => ?_)
          · refine g_iload_n C dX1_worth_80 2 rfl ?_
            refine g_istore (lv' := [(5, .int (nI s)), (4, .int 0), (3, .int 0), (2, .int (nI s)), (0, .ref (b 0)), (1, .int x)]) C dX1_worth_81 (by decide) rfl ?_
            refine g_sub [0, 2, 1, 3, 4, 5] rfl ?_
            refine g_lv (lv' := [(5, .int (nI s)), (3, .int (mdv (look tx N) s (s - s))), (4, .int 0), (2, .int (nI s)), (0, .ref (b 0)), (1, .int x)]) (by rw [Nat.sub_self]; rfl) ?_
            exact lp0 n39 hx (e + 1) (s) (by omega) (by omega) (by omega)
          · exact absurd c10 (by decide)
        · have hx : 2 < e - s ∧ look tx N (s + 1) = 120 := ⟨h2, c9⟩
          refine g_iconst C dX1_worth_62 (v := 1) (by decide) ?_
          refine g_goto C dX1_worth_63 (tgt := 67) (by decide) ?_
          refine g_istore (lv' := [(4, .int 1), (3, .int 0), (2, .int (nI s)), (0, .ref (b 0)), (1, .int x)]) C dX1_worth_67 (by decide) rfl ?_
          refine g_iload C dX1_worth_69 0 rfl ?_
          refine g_if_eq C dX1_worth_71 (tgt := 80) (by decide) (fun c11 => ?_) (fun c11 => ?_)
          · exact absurd c11 (by decide)
          · refine g_iload_n C dX1_worth_74 2 rfl ?_
            refine g_iconst C dX1_worth_75 (v := 2) (by decide) ?_
            refine g_iadd C dX1_worth_76 ?_
            refine g_top (nI_add s 2) ?_
            refine g_goto C dX1_worth_77 (tgt := 81) (by decide) ?_
            refine g_istore (lv' := [(5, .int (nI (s + 2))), (4, .int 1), (3, .int 0), (2, .int (nI s)), (0, .ref (b 0)), (1, .int x)]) C dX1_worth_81 (by decide) rfl ?_
            refine g_sub [0, 2, 1, 3, 4, 5] rfl ?_
            refine g_lv (lv' := [(5, .int (nI (s + 2))), (3, .int (mhv (look tx N) (s + 2) (s + 2 - (s + 2)))), (4, .int 1), (2, .int (nI s)), (0, .ref (b 0)), (1, .int x)]) (by rw [Nat.sub_self]; rfl) ?_
            exact lp1 n39 hx (e + 1) (s + 2) (by omega) (by omega) (by omega)
    · refine g_aload_n C dX1_worth_28 1 rfl ?_
      refine g_iload_n C dX1_worth_29 0 rfl ?_
      refine g_iconst C dX1_worth_30 (v := 1) (by decide) ?_
      refine g_iadd C dX1_worth_31 ?_
      refine g_top (nI_add s 1) ?_
      refine g_callVi (n := 1) C (c_X1_codeAt g b tr n fed tx ks fs ts (nI c) pl N (s + 1) hN (by omega)) gX1_worth_X1_codeAt rfl rfl rfl rfl (by decide) (by decide) rfl (Nat.le_of_ble_eq_true rfl) dX1_worth_32 ?_
      exact g_iret C F (by rw [if_pos c6]) (rfl) dX1_worth_35
  · exact absurd c5 (by decide)
set_option maxHeartbeats 4000000 in
set_option maxRecDepth 100000 in
theorem c_X1_worthN (g : Gl) (b : Nat → Nat) (tr : Nat → Int32) (n fed : Int32) (tx : Nat → Int32) (ks fs ts : Nat → Int32) (pl : Int32) (c N : Nat) (hN : N ≤ 16000) (hc : c ≤ 16000) (x : Int32) (kv : Int32) (hK : Ctr g yX1_kind wsX1_kind ({ frames := 6, cells := 0, slots := 0, locals := 135 }) [.ref (b 0), .int x] (mw g b tr n fed tx (nI N) ks fs ts (nI c) pl) (some (.int kv)) (mw g b tr n fed tx (nI N) ks fs ts (nI c) pl) 0 0) (h : ¬ kv = 2) : Ctr g yX1_worth wsX1_worth ({ frames := 7, cells := 0, slots := 0, locals := 156 }) [.ref (b 0), .int x] (mw g b tr n fed tx (nI N) ks fs ts (nI c) pl) (some (.int 0)) (mw g b tr n fed tx (nI N) ks fs ts (nI c) pl) 0 0 := by
  refine Ctr.start (cc := cX1_worth) (maxL := 6) (ret := (some .int)) (by decide) rfl (Nat.le_of_ble_eq_true rfl) (lv0 := [(0, .ref (b 0)), (1, .int x)]) rfl ?_
  intro X C F
  have C : Ok g X cX1_worth RX1 wsX1_worth ({ frames := 7, cells := 0, slots := 0, locals := 156 }) (some .int) 6 := C
  have hin : ∀ w ∈ wsX10, w ∈ wsX1_worth := fun _ h => List.mem_cons_of_mem _ (List.mem_append_right _ h)
  refine g_aload_n C dX1_worth_0 0 rfl ?_
  refine g_iload_n C dX1_worth_1 1 rfl ?_
  refine g_callVi (n := 1) C (hK) gX1_worth_X1_kind rfl rfl rfl rfl (by decide) (by decide) rfl (Nat.le_of_ble_eq_true rfl) dX1_worth_2 ?_
  refine g_iconst C dX1_worth_5 (v := 2) (by decide) ?_
  refine g_icmp_eq C dX1_worth_6 (tgt := 11) (by decide) (fun c1 => ?_) (fun c1 => ?_)
  · exact absurd c1 h
  · refine g_iconst C dX1_worth_9 (v := 0) (by decide) ?_
    exact g_iret C F (rfl) (rfl) dX1_worth_10
set_option maxHeartbeats 4000000 in
set_option maxRecDepth 100000 in
theorem c_X1_codes (g : Gl) (b : Nat → Nat) (tr : Nat → Int32) (n fed : Int32) (tx : Nat → Int32) (ks fs ts : Nat → Int32) (pl : Int32) (c N : Nat) (hN : N ≤ 16000) (hc : c ≤ 16000) (x : Int32) (hK : Ctr g yX1_kind wsX1_kind ({ frames := 6, cells := 0, slots := 0, locals := 135 }) [.ref (b 0), .int x] (mw g b tr n fed tx (nI N) ks fs ts (nI c) pl) (some (.int 3)) (mw g b tr n fed tx (nI N) ks fs ts (nI c) pl) 0 0) (s e : Nat) (h1 : bTok c x = true) (hfs : fs x.toNatClampNeg = nI s) (hts : ts x.toNatClampNeg = nI e) (hse : s ≤ e) (he : e ≤ 16000) (t : Nat) (hst : ∀ j, j < t → ¬ cwd (look tx N) (cpos (look tx N) (s + 1) j) 34 = 0 ∧ cpos (look tx N) (s + 1) j < e - 1) (hen : cpos (look tx N) (s + 1) t = e - 1) (he1 : 1 ≤ e) (ht : t ≤ 200) : Ctr g yX1_codes wsX1_codes ({ frames := 7, cells := 0, slots := 0, locals := 156 }) [.ref (b 0), .int x] (mw g b tr n fed tx (nI N) ks fs ts (nI c) pl) (some (.int (nI t))) (mw g b tr n fed tx (nI N) ks fs ts (nI c) pl) 0 0 := by
  refine Ctr.start (cc := cX1_codes) (maxL := 4) (ret := (some .int)) (by decide) rfl (Nat.le_of_ble_eq_true rfl) (lv0 := [(0, .ref (b 0)), (1, .int x)]) rfl ?_
  intro X C F
  have C : Ok g X cX1_codes RX1 wsX1_codes ({ frames := 7, cells := 0, slots := 0, locals := 156 }) (some .int) 4 := C
  have hin : ∀ w ∈ wsX10, w ∈ wsX1_codes := fun _ h => List.mem_cons_of_mem _ (List.mem_append_right _ h)
  have lk20 : Cond.fieldLink RX1 20 "TokenRowsModel" "froms" "[I" ∈ wsX1_codes := by decide +kernel
  have lk23 : Cond.fieldLink RX1 23 "TokenRowsModel" "tos" "[I" ∈ wsX1_codes := by decide +kernel
  have loop : ∀ (k0 j : Nat), j ≤ t → t + 1 ≤ j + k0 → G g X (0, 0) (mw g b tr n fed tx (nI N) ks fs ts (nI c) pl) 22 [(3, .int (nI (cpos (look tx N) (s + 1) j))), (2, .int (nI j)), (0, .ref (b 0)), (1, .int x)] [] := by
    intro k0
    induction k0 with
    | zero => intro j q1 q2; have hcp := cpos_le (look tx N) (s + 1) j; omega
    | succ k0 ih =>
      intro j q1 q2; have hcp := cpos_le (look tx N) (s + 1) j
      refine g_iload_n C dX1_codes_22 0 rfl ?_
      refine g_aload_n C dX1_codes_23 2 rfl ?_
      refine g_get1 C hin 0 rfl 7 (by decide) lk23 rfl dX1_codes_24 ?_
      refine g_iload_n C dX1_codes_27 3 rfl ?_
      refine g_iald C 5 rfl (bTok_in h1 hc) dX1_codes_28 ?_
      refine g_top (y := nI e) (hts) ?_
      refine g_iconst C dX1_codes_29 (v := 1) (by decide) ?_
      refine g_isub C dX1_codes_30 ?_
      refine g_top (y := nI (e - 1)) (nI_subI (b := 1) (by omega)) ?_
      refine g_icmp_ge C dX1_codes_31 (tgt := 48) (by decide) (fun c1 => ?_) (fun c1 => ?_)
      · have hge := (nI_leI (by omega) (by omega)).mp c1
        have hj : j = t := by
          rcases Nat.lt_or_ge j t with z | z
          · have := (hst j z).2; omega
          · omega
        refine g_iload_n C dX1_codes_48 1 rfl ?_
        exact g_iret C F (by rw [hj]) (rfl) dX1_codes_49
      · have hlt := Nat.not_le.mp (fun z => c1 (nI_le z (by omega)))
        have hj : j < t := by
          rcases Nat.lt_or_ge j t with z | z
          · exact z
          · have := show j = t by omega
            rw [this] at hlt; omega
        refine g_iinc (o := 1) (v := nI (j + 1)) (lv' := [(2, .int (nI (j + 1))), (3, .int (nI (cpos (look tx N) (s + 1) j))), (0, .ref (b 0)), (1, .int x)]) C dX1_codes_34 rfl (nI_add j 1) (by decide) rfl ?_
        refine g_aload_n C dX1_codes_37 2 rfl ?_
        refine g_iload_n C dX1_codes_38 1 rfl ?_
        refine g_bipush C dX1_codes_39 (v := 34) (by decide) ?_
        refine g_callVi (n := 2) C (c_X1_behind g b tr n fed tx ks fs ts (nI c) pl N (cpos (look tx N) (s + 1) j) hN (by omega) 34) gX1_codes_X1_behind rfl rfl rfl rfl (by decide) (by decide) rfl (Nat.le_of_ble_eq_true rfl) dX1_codes_41 ?_
        refine g_top (y := nI (cpos (look tx N) (s + 1) (j + 1))) (bhd_yes (hst j hj).1) ?_
        refine g_istore_n (lv' := [(3, .int (nI (cpos (look tx N) (s + 1) (j + 1)))), (2, .int (nI (j + 1))), (0, .ref (b 0)), (1, .int x)]) C dX1_codes_44 (by decide) rfl ?_
        refine g_goto C dX1_codes_45 (tgt := 22) (by decide) ?_
        exact ih (j + 1) (by omega) (by omega)
  refine g_aload_n C dX1_codes_0 0 rfl ?_
  refine g_iload_n C dX1_codes_1 1 rfl ?_
  refine g_callVi (n := 1) C (hK) gX1_codes_X1_kind rfl rfl rfl rfl (by decide) (by decide) rfl (Nat.le_of_ble_eq_true rfl) dX1_codes_2 ?_
  refine g_iconst C dX1_codes_5 (v := 3) (by decide) ?_
  refine g_icmp_eq C dX1_codes_6 (tgt := 11) (by decide) (fun c2 => ?_) (fun c2 => ?_)
  · refine g_iconst C dX1_codes_11 (v := nI 0) (by decide) ?_
    refine g_istore_n (lv' := [(2, .int (nI 0)), (0, .ref (b 0)), (1, .int x)]) C dX1_codes_12 (by decide) rfl ?_
    refine g_aload_n C dX1_codes_13 1 rfl ?_
    refine g_get1 C hin 0 rfl 6 (by decide) lk20 rfl dX1_codes_14 ?_
    refine g_iload_n C dX1_codes_17 2 rfl ?_
    refine g_iald C 4 rfl (bTok_in h1 hc) dX1_codes_18 ?_
    refine g_top (y := nI s) (hfs) ?_
    refine g_iconst C dX1_codes_19 (v := 1) (by decide) ?_
    refine g_iadd C dX1_codes_20 ?_
    refine g_top (nI_add s 1) ?_
    refine g_istore_n (lv' := [(3, .int (nI (s + 1))), (2, .int (nI 0)), (0, .ref (b 0)), (1, .int x)]) C dX1_codes_21 (by decide) rfl ?_
    exact loop (t + 1) 0 (by omega) (by omega)
  · exact absurd c2 (by decide)
set_option maxHeartbeats 4000000 in
set_option maxRecDepth 100000 in
theorem c_X1_codesN (g : Gl) (b : Nat → Nat) (tr : Nat → Int32) (n fed : Int32) (tx : Nat → Int32) (ks fs ts : Nat → Int32) (pl : Int32) (c N : Nat) (hN : N ≤ 16000) (hc : c ≤ 16000) (x : Int32) (kv : Int32) (hK : Ctr g yX1_kind wsX1_kind ({ frames := 6, cells := 0, slots := 0, locals := 135 }) [.ref (b 0), .int x] (mw g b tr n fed tx (nI N) ks fs ts (nI c) pl) (some (.int kv)) (mw g b tr n fed tx (nI N) ks fs ts (nI c) pl) 0 0) (h : ¬ kv = 3) : Ctr g yX1_codes wsX1_codes ({ frames := 7, cells := 0, slots := 0, locals := 156 }) [.ref (b 0), .int x] (mw g b tr n fed tx (nI N) ks fs ts (nI c) pl) (some (.int (-1))) (mw g b tr n fed tx (nI N) ks fs ts (nI c) pl) 0 0 := by
  refine Ctr.start (cc := cX1_codes) (maxL := 4) (ret := (some .int)) (by decide) rfl (Nat.le_of_ble_eq_true rfl) (lv0 := [(0, .ref (b 0)), (1, .int x)]) rfl ?_
  intro X C F
  have C : Ok g X cX1_codes RX1 wsX1_codes ({ frames := 7, cells := 0, slots := 0, locals := 156 }) (some .int) 4 := C
  have hin : ∀ w ∈ wsX10, w ∈ wsX1_codes := fun _ h => List.mem_cons_of_mem _ (List.mem_append_right _ h)
  refine g_aload_n C dX1_codes_0 0 rfl ?_
  refine g_iload_n C dX1_codes_1 1 rfl ?_
  refine g_callVi (n := 1) C (hK) gX1_codes_X1_kind rfl rfl rfl rfl (by decide) (by decide) rfl (Nat.le_of_ble_eq_true rfl) dX1_codes_2 ?_
  refine g_iconst C dX1_codes_5 (v := 3) (by decide) ?_
  refine g_icmp_eq C dX1_codes_6 (tgt := 11) (by decide) (fun c1 => ?_) (fun c1 => ?_)
  · exact absurd c1 h
  · refine g_iconst C dX1_codes_9 (v := (-1)) (by decide) ?_
    exact g_iret C F (rfl) (rfl) dX1_codes_10
set_option maxHeartbeats 4000000 in
set_option maxRecDepth 100000 in
theorem c_X1_code (g : Gl) (b : Nat → Nat) (tr : Nat → Int32) (n fed : Int32) (tx : Nat → Int32) (ks fs ts : Nat → Int32) (pl : Int32) (c N : Nat) (hN : N ≤ 16000) (hc : c ≤ 16000) (x : Int32) (s e : Nat) (h1 : bTok c x = true) (hfs : fs x.toNatClampNeg = nI s) (hts : ts x.toNatClampNeg = nI e) (hse : s ≤ e) (he : e ≤ 16000) (t k : Nat) (hC : Ctr g yX1_codes wsX1_codes ({ frames := 7, cells := 0, slots := 0, locals := 156 }) [.ref (b 0), .int x] (mw g b tr n fed tx (nI N) ks fs ts (nI c) pl) (some (.int (nI t))) (mw g b tr n fed tx (nI N) ks fs ts (nI c) pl) 0 0) (hst : ∀ j, j < t → ¬ cwd (look tx N) (cpos (look tx N) (s + 1) j) 34 = 0) (hk : k < t) (ht : t ≤ 200) : Ctr g yX1_code wsX1_code ({ frames := 8, cells := 0, slots := 0, locals := 179 }) [.ref (b 0), .int x, .int (nI k)] (mw g b tr n fed tx (nI N) ks fs ts (nI c) pl) (some (.int (mcat (look tx N) (cpos (look tx N) (s + 1) k)))) (mw g b tr n fed tx (nI N) ks fs ts (nI c) pl) 0 0 := by
  refine Ctr.start (cc := cX1_code) (maxL := 5) (ret := (some .int)) (by decide) rfl (Nat.le_of_ble_eq_true rfl) (lv0 := [(0, .ref (b 0)), (1, .int x), (2, .int (nI k))]) rfl ?_
  intro X C F
  have C : Ok g X cX1_code RX1 wsX1_code ({ frames := 8, cells := 0, slots := 0, locals := 179 }) (some .int) 5 := C
  have hin : ∀ w ∈ wsX10, w ∈ wsX1_code := fun _ h => List.mem_cons_of_mem _ (List.mem_append_right _ h)
  have lk20 : Cond.fieldLink RX1 20 "TokenRowsModel" "froms" "[I" ∈ wsX1_code := by decide +kernel
  have loop : ∀ (k0 j : Nat), j ≤ k → k + 1 ≤ j + k0 → G g X (0, 0) (mw g b tr n fed tx (nI N) ks fs ts (nI c) pl) 27 [(4, .int (nI j)), (3, .int (nI (cpos (look tx N) (s + 1) j))), (0, .ref (b 0)), (1, .int x), (2, .int (nI k))] [] := by
    intro k0
    induction k0 with
    | zero => intro j q1 q2; have hcp := cpos_le (look tx N) (s + 1) j; omega
    | succ k0 ih =>
      intro j q1 q2; have hcp := cpos_le (look tx N) (s + 1) j
      refine g_iload C dX1_code_27 0 rfl ?_
      refine g_iload_n C dX1_code_29 4 rfl ?_
      refine g_icmp_ge C dX1_code_30 (tgt := 47) (by decide) (fun c1 => ?_) (fun c1 => ?_)
      · have hj := (nI_leI (by omega) (by omega)).mp c1
        have hj : j = k := by omega
        subst hj
        refine g_aload_n C dX1_code_47 2 rfl ?_
        refine g_iload_n C dX1_code_48 1 rfl ?_
        refine g_callVi (n := 1) C (c_X1_codeAt g b tr n fed tx ks fs ts (nI c) pl N (cpos (look tx N) (s + 1) j) hN (by omega)) gX1_code_X1_codeAt rfl rfl rfl rfl (by decide) (by decide) rfl (Nat.le_of_ble_eq_true rfl) dX1_code_49 ?_
        exact g_iret C F (rfl) (rfl) dX1_code_52
      · have hj : j < k := Nat.not_le.mp (fun z => c1 (nI_le z (by omega)))
        refine g_aload_n C dX1_code_33 2 rfl ?_
        refine g_iload_n C dX1_code_34 1 rfl ?_
        refine g_bipush C dX1_code_35 (v := 34) (by decide) ?_
        refine g_callVi (n := 2) C (c_X1_behind g b tr n fed tx ks fs ts (nI c) pl N (cpos (look tx N) (s + 1) j) hN (by omega) 34) gX1_code_X1_behind rfl rfl rfl rfl (by decide) (by decide) rfl (Nat.le_of_ble_eq_true rfl) dX1_code_37 ?_
        refine g_top (y := nI (cpos (look tx N) (s + 1) (j + 1))) (bhd_yes (hst j (by omega))) ?_
        refine g_istore_n (lv' := [(3, .int (nI (cpos (look tx N) (s + 1) (j + 1)))), (4, .int (nI j)), (0, .ref (b 0)), (1, .int x), (2, .int (nI k))]) C dX1_code_40 (by decide) rfl ?_
        refine g_iinc (o := 1) (v := nI (j + 1)) (lv' := [(4, .int (nI (j + 1))), (3, .int (nI (cpos (look tx N) (s + 1) (j + 1)))), (0, .ref (b 0)), (1, .int x), (2, .int (nI k))]) C dX1_code_41 rfl (nI_add j 1) (by decide) rfl ?_
        refine g_goto C dX1_code_44 (tgt := 27) (by decide) ?_
        exact ih (j + 1) (by omega) (by omega)
  refine g_iload_n C dX1_code_0 2 rfl ?_
  refine g_if_lt C dX1_code_1 (tgt := 13) (by decide) (fun c2 => ?_) (fun c2 => ?_)
  · exact absurd c2 (nI_pos (by omega))
  · refine g_iload_n C dX1_code_4 2 rfl ?_
    refine g_aload_n C dX1_code_5 0 rfl ?_
    refine g_iload_n C dX1_code_6 1 rfl ?_
    refine g_callVi (n := 1) C (hC) gX1_code_X1_codes rfl rfl rfl rfl (by decide) (by decide) rfl (Nat.le_of_ble_eq_true rfl) dX1_code_7 ?_
    refine g_icmp_lt C dX1_code_10 (tgt := 15) (by decide) (fun c3 => ?_) (fun c3 => ?_)
    · refine g_aload_n C dX1_code_15 0 rfl ?_
      refine g_get1 C hin 0 rfl 6 (by decide) lk20 rfl dX1_code_16 ?_
      refine g_iload_n C dX1_code_19 1 rfl ?_
      refine g_iald C 4 rfl (bTok_in h1 hc) dX1_code_20 ?_
      refine g_top (y := nI s) (hfs) ?_
      refine g_iconst C dX1_code_21 (v := 1) (by decide) ?_
      refine g_iadd C dX1_code_22 ?_
      refine g_top (nI_add s 1) ?_
      refine g_istore_n (lv' := [(3, .int (nI (s + 1))), (0, .ref (b 0)), (1, .int x), (2, .int (nI k))]) C dX1_code_23 (by decide) rfl ?_
      refine g_iconst C dX1_code_24 (v := nI 0) (by decide) ?_
      refine g_istore (lv' := [(4, .int (nI 0)), (3, .int (nI (s + 1))), (0, .ref (b 0)), (1, .int x), (2, .int (nI k))]) C dX1_code_25 (by decide) rfl ?_
      exact loop (k + 1) 0 (by omega) (by omega)
    · exact absurd (nI_lt hk (by omega)) c3
set_option maxHeartbeats 4000000 in
set_option maxRecDepth 100000 in
theorem c_X1_codeN (g : Gl) (b : Nat → Nat) (tr : Nat → Int32) (n fed : Int32) (tx : Nat → Int32) (ks fs ts : Nat → Int32) (pl : Int32) (c N : Nat) (hN : N ≤ 16000) (hc : c ≤ 16000) (x : Int32) (k cv : Int32) (hC : Ctr g yX1_codes wsX1_codes ({ frames := 7, cells := 0, slots := 0, locals := 156 }) [.ref (b 0), .int x] (mw g b tr n fed tx (nI N) ks fs ts (nI c) pl) (some (.int cv)) (mw g b tr n fed tx (nI N) ks fs ts (nI c) pl) 0 0) (h : ¬ (0 ≤ k.toInt ∧ k.toInt < cv.toInt)) : Ctr g yX1_code wsX1_code ({ frames := 8, cells := 0, slots := 0, locals := 179 }) [.ref (b 0), .int x, .int k] (mw g b tr n fed tx (nI N) ks fs ts (nI c) pl) (some (.int (-1))) (mw g b tr n fed tx (nI N) ks fs ts (nI c) pl) 0 0 := by
  refine Ctr.start (cc := cX1_code) (maxL := 5) (ret := (some .int)) (by decide) rfl (Nat.le_of_ble_eq_true rfl) (lv0 := [(0, .ref (b 0)), (1, .int x), (2, .int k)]) rfl ?_
  intro X C F
  have C : Ok g X cX1_code RX1 wsX1_code ({ frames := 8, cells := 0, slots := 0, locals := 179 }) (some .int) 5 := C
  have hin : ∀ w ∈ wsX10, w ∈ wsX1_code := fun _ h => List.mem_cons_of_mem _ (List.mem_append_right _ h)
  refine g_iload_n C dX1_code_0 2 rfl ?_
  refine g_if_lt C dX1_code_1 (tgt := 13) (by decide) (fun c1 => ?_) (fun c1 => ?_)
  · refine g_iconst C dX1_code_13 (v := (-1)) (by decide) ?_
    exact g_iret C F (rfl) (rfl) dX1_code_14
  · refine g_iload_n C dX1_code_4 2 rfl ?_
    refine g_aload_n C dX1_code_5 0 rfl ?_
    refine g_iload_n C dX1_code_6 1 rfl ?_
    refine g_callVi (n := 1) C (hC) gX1_code_X1_codes rfl rfl rfl rfl (by decide) (by decide) rfl (Nat.le_of_ble_eq_true rfl) dX1_code_7 ?_
    refine g_icmp_lt C dX1_code_10 (tgt := 15) (by decide) (fun c2 => ?_) (fun c2 => ?_)
    · exact absurd ⟨k_nlt (b := 0) (by decide) c1, k_lt rfl c2⟩ h
    · refine g_iconst C dX1_code_13 (v := (-1)) (by decide) ?_
      exact g_iret C F (rfl) (rfl) dX1_code_14
set_option maxHeartbeats 4000000 in
set_option maxRecDepth 100000 in
theorem c_X1_same (g : Gl) (b : Nat → Nat) (tr : Nat → Int32) (n fed : Int32) (tx : Nat → Int32) (ks fs ts : Nat → Int32) (pl : Int32) (c N : Nat) (hN : N ≤ 16000) (hc : c ≤ 16000) (x : Int32) (y : Int32) (s t z : Nat) (h1 : bTok c x = true) (h2 : bTok c y = true) (h3 : ts x.toNatClampNeg - fs x.toNatClampNeg = nI z) (h4 : ts y.toNatClampNeg - fs y.toNatClampNeg = nI z) (h5 : fs x.toNatClampNeg = nI s) (h6 : fs y.toNatClampNeg = nI t) (h7 : s + z ≤ 16000 ∧ t + z ≤ 16000) : Ctr g yX1_same wsX1_same ({ frames := 2, cells := 0, slots := 0, locals := 42 }) [.ref (b 0), .int x, .int y] (mw g b tr n fed tx (nI N) ks fs ts (nI c) pl) (some (.int (b01 (allR tx s t z)))) (mw g b tr n fed tx (nI N) ks fs ts (nI c) pl) 0 0 := by
  refine Ctr.start (cc := cX1_same) (maxL := 4) (ret := (some .boolean)) (by decide) rfl (Nat.le_of_ble_eq_true rfl) (lv0 := [(0, .ref (b 0)), (1, .int x), (2, .int y)]) rfl ?_
  intro X C F
  have C : Ok g X cX1_same RX1 wsX1_same ({ frames := 2, cells := 0, slots := 0, locals := 42 }) (some .boolean) 4 := C
  have hin : ∀ w ∈ wsX10, w ∈ wsX1_same := fun _ h => List.mem_cons_of_mem _ (List.mem_append_right _ h)
  have lk13 : Cond.fieldLink RX1 13 "TokenRowsModel" "text" "[B" ∈ wsX1_same := by decide +kernel
  have lk20 : Cond.fieldLink RX1 20 "TokenRowsModel" "froms" "[I" ∈ wsX1_same := by decide +kernel
  have loop : ∀ (k0 j : Nat), j ≤ z → z + 1 ≤ j + k0 → allR tx s t j = true → G g X (0, 0) (mw g b tr n fed tx (nI N) ks fs ts (nI c) pl) 33 [(3, .int (nI j)), (0, .ref (b 0)), (1, .int x), (2, .int y)] [] := by
    intro k0
    induction k0 with
    | zero => intro j q1 q2 q3; omega
    | succ k0 ih =>
      intro j q1 q2 q3
      refine g_iload_n C dX1_same_33 0 rfl ?_
      refine g_aload_n C dX1_same_34 1 rfl ?_
      refine g_iload_n C dX1_same_35 2 rfl ?_
      refine g_callVi (n := 1) C (c_X1_length g b tr n fed tx (nI N) ks fs ts pl c hc x) gX1_same_X1_length rfl rfl rfl rfl (by decide) (by decide) rfl (Nat.le_of_ble_eq_true rfl) dX1_same_36 ?_
      refine g_top (y := nI z) (by rw [if_pos h1, h3]) ?_
      refine g_icmp_ge C dX1_same_39 (tgt := 79) (by decide) (fun c1 => ?_) (fun c1 => ?_)
      · have hj := (nI_leI (by omega) (by omega)).mp c1
        have hj : j = z := by omega
        subst hj
        refine g_iconst C dX1_same_79 (v := 1) (by decide) ?_
        exact g_zret C F (by decide) (by rw [q3]; rfl) (rfl) dX1_same_80
      · have hj : j < z := Nat.not_le.mp (fun q => c1 (nI_le q (by omega)))
        refine g_aload_n C dX1_same_42 1 rfl ?_
        refine g_get1 C hin 0 rfl 3 (by decide) lk13 rfl dX1_same_43 ?_
        refine g_aload_n C dX1_same_46 1 rfl ?_
        refine g_get1 C hin 0 rfl 6 (by decide) lk20 rfl dX1_same_47 ?_
        refine g_iload_n C dX1_same_50 2 rfl ?_
        refine g_iald C 4 rfl (bTok_in h1 hc) dX1_same_51 ?_
        refine g_top (y := nI s) (h5) ?_
        refine g_iload_n C dX1_same_52 0 rfl ?_
        refine g_iadd C dX1_same_53 ?_
        refine g_top (nI_add s j) ?_
        refine g_bald C 2 rfl (vp_in_nI (by omega) (by omega)) dX1_same_54 ?_
        refine g_top (y := tx (s + j)) (by rw [nI_clamp (by omega)]) ?_
        refine g_aload_n C dX1_same_55 1 rfl ?_
        refine g_get1 C hin 0 rfl 3 (by decide) lk13 rfl dX1_same_56 ?_
        refine g_aload_n C dX1_same_59 1 rfl ?_
        refine g_get1 C hin 0 rfl 6 (by decide) lk20 rfl dX1_same_60 ?_
        refine g_iload_n C dX1_same_63 3 rfl ?_
        refine g_iald C 4 rfl (bTok_in h2 hc) dX1_same_64 ?_
        refine g_top (y := nI t) (h6) ?_
        refine g_iload_n C dX1_same_65 0 rfl ?_
        refine g_iadd C dX1_same_66 ?_
        refine g_top (nI_add t j) ?_
        refine g_bald C 2 rfl (vp_in_nI (by omega) (by omega)) dX1_same_67 ?_
        refine g_top (y := tx (t + j)) (by rw [nI_clamp (by omega)]) ?_
        refine g_icmp_eq C dX1_same_68 (tgt := 73) (by decide) (fun c2 => ?_) (fun c2 => ?_)
        · have c_e := c2
          refine g_iinc (o := 0) (v := nI (j + 1)) (lv' := [(3, .int (nI (j + 1))), (0, .ref (b 0)), (1, .int x), (2, .int y)]) C dX1_same_73 rfl (nI_add j 1) (by decide) rfl ?_
          refine g_goto C dX1_same_76 (tgt := 33) (by decide) ?_
          exact ih (j + 1) (by omega) (by omega) (by rw [allR, q3, decide_eq_true c_e]; rfl)
        · have hno := allR_no c2 z hj
          refine g_iconst C dX1_same_71 (v := 0) (by decide) ?_
          exact g_zret C F (by decide) (by rw [hno]; rfl) (rfl) dX1_same_72
  refine g_aload_n C dX1_same_0 0 rfl ?_
  refine g_iload_n C dX1_same_1 1 rfl ?_
  refine g_callVi (n := 1) C (c_X1_isToken g b tr n fed tx (nI N) ks fs ts pl c hc x) gX1_same_X1_isToken rfl rfl rfl rfl (by decide) (by decide) rfl (Nat.le_of_ble_eq_true rfl) dX1_same_2 ?_
  refine g_if_eq C dX1_same_5 (tgt := 29) (by decide) (fun c3 => ?_) (fun c3 => ?_)
  · exact absurd c3 (by rw [h1]; decide)
  · refine g_aload_n C dX1_same_8 0 rfl ?_
    refine g_iload_n C dX1_same_9 2 rfl ?_
    refine g_callVi (n := 1) C (c_X1_isToken g b tr n fed tx (nI N) ks fs ts pl c hc y) gX1_same_X1_isToken rfl rfl rfl rfl (by decide) (by decide) rfl (Nat.le_of_ble_eq_true rfl) dX1_same_10 ?_
    refine g_if_eq C dX1_same_13 (tgt := 29) (by decide) (fun c4 => ?_) (fun c4 => ?_)
    · exact absurd c4 (by rw [h2]; decide)
    · refine g_aload_n C dX1_same_16 0 rfl ?_
      refine g_iload_n C dX1_same_17 1 rfl ?_
      refine g_callVi (n := 1) C (c_X1_length g b tr n fed tx (nI N) ks fs ts pl c hc x) gX1_same_X1_length rfl rfl rfl rfl (by decide) (by decide) rfl (Nat.le_of_ble_eq_true rfl) dX1_same_18 ?_
      refine g_top (y := nI z) (by rw [if_pos h1, h3]) ?_
      refine g_aload_n C dX1_same_21 0 rfl ?_
      refine g_iload_n C dX1_same_22 2 rfl ?_
      refine g_callVi (n := 1) C (c_X1_length g b tr n fed tx (nI N) ks fs ts pl c hc y) gX1_same_X1_length rfl rfl rfl rfl (by decide) (by decide) rfl (Nat.le_of_ble_eq_true rfl) dX1_same_23 ?_
      refine g_top (y := nI z) (by rw [if_pos h2, h4]) ?_
      refine g_icmp_eq C dX1_same_26 (tgt := 31) (by decide) (fun c5 => ?_) (fun c5 => ?_)
      · refine g_iconst C dX1_same_31 (v := nI 0) (by decide) ?_
        refine g_istore_n (lv' := [(3, .int (nI 0)), (0, .ref (b 0)), (1, .int x), (2, .int y)]) C dX1_same_32 (by decide) rfl ?_
        exact loop (z + 1) 0 (by omega) (by omega) rfl
      · exact absurd rfl c5
set_option maxHeartbeats 4000000 in
set_option maxRecDepth 100000 in
theorem c_X1_sameN (g : Gl) (b : Nat → Nat) (tr : Nat → Int32) (n fed : Int32) (tx : Nat → Int32) (ks fs ts : Nat → Int32) (pl : Int32) (c N : Nat) (hN : N ≤ 16000) (hc : c ≤ 16000) (x : Int32) (y : Int32) (h : ¬ (bTok c x = true ∧ bTok c y = true ∧ ts x.toNatClampNeg - fs x.toNatClampNeg = ts y.toNatClampNeg - fs y.toNatClampNeg)) : Ctr g yX1_same wsX1_same ({ frames := 2, cells := 0, slots := 0, locals := 42 }) [.ref (b 0), .int x, .int y] (mw g b tr n fed tx (nI N) ks fs ts (nI c) pl) (some (.int 0)) (mw g b tr n fed tx (nI N) ks fs ts (nI c) pl) 0 0 := by
  refine Ctr.start (cc := cX1_same) (maxL := 4) (ret := (some .boolean)) (by decide) rfl (Nat.le_of_ble_eq_true rfl) (lv0 := [(0, .ref (b 0)), (1, .int x), (2, .int y)]) rfl ?_
  intro X C F
  have C : Ok g X cX1_same RX1 wsX1_same ({ frames := 2, cells := 0, slots := 0, locals := 42 }) (some .boolean) 4 := C
  have hin : ∀ w ∈ wsX10, w ∈ wsX1_same := fun _ h => List.mem_cons_of_mem _ (List.mem_append_right _ h)
  refine g_aload_n C dX1_same_0 0 rfl ?_
  refine g_iload_n C dX1_same_1 1 rfl ?_
  refine g_callVi (n := 1) C (c_X1_isToken g b tr n fed tx (nI N) ks fs ts pl c hc x) gX1_same_X1_isToken rfl rfl rfl rfl (by decide) (by decide) rfl (Nat.le_of_ble_eq_true rfl) dX1_same_2 ?_
  refine g_if_eq C dX1_same_5 (tgt := 29) (by decide) (fun c1 => ?_) (fun c1 => ?_)
  · refine g_iconst C dX1_same_29 (v := 0) (by decide) ?_
    exact g_zret C F (by decide) (rfl) (rfl) dX1_same_30
  · refine g_aload_n C dX1_same_8 0 rfl ?_
    refine g_iload_n C dX1_same_9 2 rfl ?_
    refine g_callVi (n := 1) C (c_X1_isToken g b tr n fed tx (nI N) ks fs ts pl c hc y) gX1_same_X1_isToken rfl rfl rfl rfl (by decide) (by decide) rfl (Nat.le_of_ble_eq_true rfl) dX1_same_10 ?_
    refine g_if_eq C dX1_same_13 (tgt := 29) (by decide) (fun c2 => ?_) (fun c2 => ?_)
    · refine g_iconst C dX1_same_29 (v := 0) (by decide) ?_
      exact g_zret C F (by decide) (rfl) (rfl) dX1_same_30
    · refine g_aload_n C dX1_same_16 0 rfl ?_
      refine g_iload_n C dX1_same_17 1 rfl ?_
      refine g_callVi (n := 1) C (c_X1_length g b tr n fed tx (nI N) ks fs ts pl c hc x) gX1_same_X1_length rfl rfl rfl rfl (by decide) (by decide) rfl (Nat.le_of_ble_eq_true rfl) dX1_same_18 ?_
      refine g_top (y := ts x.toNatClampNeg - fs x.toNatClampNeg) (by rw [if_pos (b01_1.mp c1)]) ?_
      refine g_aload_n C dX1_same_21 0 rfl ?_
      refine g_iload_n C dX1_same_22 2 rfl ?_
      refine g_callVi (n := 1) C (c_X1_length g b tr n fed tx (nI N) ks fs ts pl c hc y) gX1_same_X1_length rfl rfl rfl rfl (by decide) (by decide) rfl (Nat.le_of_ble_eq_true rfl) dX1_same_23 ?_
      refine g_top (y := ts y.toNatClampNeg - fs y.toNatClampNeg) (by rw [if_pos (b01_1.mp c2)]) ?_
      refine g_icmp_eq C dX1_same_26 (tgt := 31) (by decide) (fun c3 => ?_) (fun c3 => ?_)
      · exact absurd ⟨b01_1.mp c1, b01_1.mp c2, c3⟩ h
      · refine g_iconst C dX1_same_29 (v := 0) (by decide) ?_
        exact g_zret C F (by decide) (rfl) (rfl) dX1_same_30
