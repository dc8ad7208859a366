/-- is there a token i -/
def bTok (c : Nat) (x : Int32) : Bool := decide (0 ≤ x.toInt ∧ x.toInt < (c : Int))
theorem bTok_t {c : Nat} {x : Int32} (h : bTok c x = true) : 0 ≤ x.toInt ∧ x.toInt < (c : Int) := of_decide_eq_true h
theorem bTok_f {c : Nat} {x : Int32} (h : bTok c x = false) : ¬ (0 ≤ x.toInt ∧ x.toInt < (c : Int)) := of_decide_eq_false h
theorem bTok_in {c : Nat} {x : Int32} (h : bTok c x = true) (hc : c ≤ 16000) : vp_in x 16000 := vp_in_iff.mpr (by have := bTok_t h; omega)
/-- a token more -/
def tpush (T : TK) (c : Nat) (k t at0 sz ln : Int32) : TK := (upd T.1 c k, upd T.2.1 c at0, upd T.2.2.1 c sz, upd T.2.2.2.1 c ln, upd T.2.2.2.2.1 c t, nI (c + 1))
/-- how many bytes the code at a place has within quotes q, 0 if there is none -/
def cwd (L : Nat → Int32) (i : Nat) (q : Int32) : Nat := if L i = 92 then (if 0 ≤ (escv (L (i + 1))).toInt then 2 else 0) else if 32 ≤ (L i).toInt ∧ (L i).toInt ≤ 126 ∧ ¬ L i = q then 1 else 0
/-- the code at a place -/
def cat (L : Nat → Int32) (i : Nat) : Int32 := if L i = 92 then escv (L (i + 1)) else L i
set_option maxHeartbeats 4000000 in
set_option maxRecDepth 100000 in
theorem c_X0_byteAt (g : Gl) (a : Nat → Nat) (aT aX : Nat) (tr : Nat → Int32) (n fed : Int32) (tx : Nat → Int32) (ln fa : Int32) (T : TK) (N i : Nat) (hN : N ≤ 16000) (hi : i < 2 ^ 30) : Ctr g yX0_byteAt wsX0_byteAt ({ frames := 0, cells := 0, slots := 0, locals := 0 }) [.ref (a 0), .int (nI i)] (tw g a aT aX tr n fed tx (nI N) ln fa T) (some (.int (look tx N i))) (tw g a aT aX tr n fed tx (nI N) ln fa T) 0 0 := by
  refine Ctr.start (cc := cX0_byteAt) (maxL := 2) (ret := (some .int)) (by decide) rfl (Nat.le_of_ble_eq_true rfl) (lv0 := [(0, .ref (a 0)), (1, .int (nI i))]) rfl ?_
  intro X C F
  have C : Ok g X cX0_byteAt RX0 wsX0_byteAt ({ frames := 0, cells := 0, slots := 0, locals := 0 }) (some .int) 2 := C
  have hin : ∀ w ∈ wsX00, w ∈ wsX0_byteAt := fun _ h => List.mem_cons_of_mem _ (List.mem_append_right _ h)
  have lk13 : Cond.fieldLink RX0 13 "TokenRows" "text" "[B" ∈ wsX0_byteAt := by decide +kernel
  have lk39 : Cond.fieldLink RX0 39 "TokenRows" "textSize" "I" ∈ wsX0_byteAt := by decide +kernel
  refine g_iload_n C dX0_byteAt_0 1 rfl ?_
  refine g_if_lt C dX0_byteAt_1 (tgt := 21) (by decide) (fun c1 => ?_) (fun c1 => ?_)
  · exact absurd c1 (nI_pos (by omega))
  · refine g_iload_n C dX0_byteAt_4 1 rfl ?_
    refine g_aload_n C dX0_byteAt_5 0 rfl ?_
    refine g_get0 C hin 0 rfl 4 (by decide) lk39 rfl dX0_byteAt_6 ?_
    refine g_icmp_ge C dX0_byteAt_9 (tgt := 21) (by decide) (fun c2 => ?_) (fun c2 => ?_)
    · have hio : N ≤ i := (nI_leI (by omega) (by omega)).mp c2
      refine g_iconst C dX0_byteAt_21 (v := (-1)) (by decide) ?_
      exact g_iret C F ((look_out hio).symm) (rfl) dX0_byteAt_22
    · have hii : i < N := Nat.not_le.mp (fun z => c2 (nI_le z (by omega)))
      refine g_iload_n C dX0_byteAt_12 1 rfl ?_
      refine g_aload_n C dX0_byteAt_13 0 rfl ?_
      refine g_get0 C hin 0 rfl 3 (by decide) lk13 rfl dX0_byteAt_14 ?_
      refine g_alenB C 2 rfl (v := 16000) (by decide) dX0_byteAt_17 ?_
      refine g_icmp_lt C dX0_byteAt_18 (tgt := 23) (by decide) (fun c3 => ?_) (fun c3 => ?_)
      · refine g_aload_n C dX0_byteAt_23 0 rfl ?_
        refine g_get0 C hin 0 rfl 3 (by decide) lk13 rfl dX0_byteAt_24 ?_
        refine g_iload_n C dX0_byteAt_27 1 rfl ?_
        refine g_bald C 2 rfl (vp_in_nI (by omega) (by omega)) dX0_byteAt_28 ?_
        refine g_top (y := tx i) (by rw [nI_clamp (by omega)]) ?_
        refine g_sipush C dX0_byteAt_29 (v := 255) (by decide) ?_
        refine g_iand C dX0_byteAt_32 ?_
        exact g_iret C F ((look_in hii).symm) (rfl) dX0_byteAt_33
      · exact absurd (nI_lt (a := i) (b := 16000) (by omega) (by omega)) c3
set_option maxHeartbeats 4000000 in
set_option maxRecDepth 100000 in
theorem c_X0_isToken (g : Gl) (a : Nat → Nat) (aT aX : Nat) (tr : Nat → Int32) (n fed : Int32) (tx : Nat → Int32) (m ln fa : Int32) (T : TK) (c : Nat) (hT : T.2.2.2.2.2 = nI c) (hc : c ≤ 16000) (x : Int32) : Ctr g yX0_isToken wsX0_isToken ({ frames := 0, cells := 0, slots := 0, locals := 0 }) [.ref (a 0), .int x] (tw g a aT aX tr n fed tx m ln fa T) (some (.int (b01 (bTok c x)))) (tw g a aT aX tr n fed tx m ln fa T) 0 0 := by
  refine Ctr.start (cc := cX0_isToken) (maxL := 2) (ret := (some .boolean)) (by decide) rfl (Nat.le_of_ble_eq_true rfl) (lv0 := [(0, .ref (a 0)), (1, .int x)]) rfl ?_
  intro X C F
  have C : Ok g X cX0_isToken RX0 wsX0_isToken ({ frames := 0, cells := 0, slots := 0, locals := 0 }) (some .boolean) 2 := C
  have hin : ∀ w ∈ wsX00, w ∈ wsX0_isToken := fun _ h => List.mem_cons_of_mem _ (List.mem_append_right _ h)
  have lk16 : Cond.fieldLink RX0 16 "TokenRows" "kinds" "[I" ∈ wsX0_isToken := by decide +kernel
  have lk48 : Cond.fieldLink RX0 48 "TokenRows" "count" "I" ∈ wsX0_isToken := by decide +kernel
  refine g_iload_n C dX0_isToken_0 1 rfl ?_
  refine g_if_lt C dX0_isToken_1 (tgt := 25) (by decide) (fun c1 => ?_) (fun c1 => ?_)
  · refine g_iconst C dX0_isToken_25 (v := 0) (by decide) ?_
    have c1 := k_lt (b := 0) (by decide) c1
    exact g_zret C F (by decide) ((b01_f (by omega)).symm) (rfl) dX0_isToken_26
  · refine g_iload_n C dX0_isToken_4 1 rfl ?_
    refine g_aload_n C dX0_isToken_5 0 rfl ?_
    refine g_get0 C hin 0 rfl 12 (by decide) lk48 rfl dX0_isToken_6 ?_
    refine g_top hT ?_
    refine g_icmp_ge C dX0_isToken_9 (tgt := 25) (by decide) (fun c2 => ?_) (fun c2 => ?_)
    · refine g_iconst C dX0_isToken_25 (v := 0) (by decide) ?_
      have c1 := k_nlt (b := 0) (by decide) c1
      have c2 := k_ge rfl c2
      have hcc := nI_toInt (n := c) (by omega)
      exact g_zret C F (by decide) ((b01_f (by omega)).symm) (rfl) dX0_isToken_26
    · refine g_iload_n C dX0_isToken_12 1 rfl ?_
      refine g_aload_n C dX0_isToken_13 0 rfl ?_
      refine g_get0 C hin 0 rfl 7 (by decide) lk16 rfl dX0_isToken_14 ?_
      refine g_alenI C 3 rfl (v := 16000) (by decide) dX0_isToken_17 ?_
      refine g_icmp_ge C dX0_isToken_18 (tgt := 25) (by decide) (fun c3 => ?_) (fun c3 => ?_)
      · refine g_iconst C dX0_isToken_25 (v := 0) (by decide) ?_
        have c1 := k_nlt (b := 0) (by decide) c1
        have c2 := k_nge rfl c2
        have c3 := k_ge (b := 16000) (by decide) c3
        have hcc := nI_toInt (n := c) (by omega)
        exact g_zret C F (by decide) ((b01_f (by omega)).symm) (rfl) dX0_isToken_26
      · refine g_iconst C dX0_isToken_21 (v := 1) (by decide) ?_
        refine g_goto C dX0_isToken_22 (tgt := 26) (by decide) ?_
        have c1 := k_nlt (b := 0) (by decide) c1
        have c2 := k_nge rfl c2
        have c3 := k_nge (b := 16000) (by decide) c3
        have hcc := nI_toInt (n := c) (by omega)
        exact g_zret C F (by decide) ((b01_t (by omega)).symm) (rfl) dX0_isToken_26
set_option maxHeartbeats 4000000 in
set_option maxRecDepth 100000 in
theorem c_X0_isOfKind (g : Gl) (a : Nat → Nat) (aT aX : Nat) (tr : Nat → Int32) (n fed : Int32) (tx : Nat → Int32) (m ln fa : Int32) (T : TK) (c : Nat) (hT : T.2.2.2.2.2 = nI c) (hc : c ≤ 16000) (x : Int32) (k : Int32) : Ctr g yX0_isOfKind wsX0_isOfKind ({ frames := 1, cells := 0, slots := 0, locals := 21 }) [.ref (a 0), .int x, .int k] (tw g a aT aX tr n fed tx m ln fa T) (some (.int (b01 (bTok c x && decide (T.1 x.toNatClampNeg = k))))) (tw g a aT aX tr n fed tx m ln fa T) 0 0 := by
  refine Ctr.start (cc := cX0_isOfKind) (maxL := 3) (ret := (some .boolean)) (by decide) rfl (Nat.le_of_ble_eq_true rfl) (lv0 := [(0, .ref (a 0)), (1, .int x), (2, .int k)]) rfl ?_
  intro X C F
  have C : Ok g X cX0_isOfKind RX0 wsX0_isOfKind ({ frames := 1, cells := 0, slots := 0, locals := 21 }) (some .boolean) 3 := C
  have hin : ∀ w ∈ wsX00, w ∈ wsX0_isOfKind := fun _ h => List.mem_cons_of_mem _ (List.mem_append_right _ h)
  have lk16 : Cond.fieldLink RX0 16 "TokenRows" "kinds" "[I" ∈ wsX0_isOfKind := by decide +kernel
  refine g_aload_n C dX0_isOfKind_0 0 rfl ?_
  refine g_iload_n C dX0_isOfKind_1 1 rfl ?_
  refine g_callVi (n := 1) C (c_X0_isToken g a aT aX tr n fed tx m ln fa T c hT hc x) gX0_isOfKind_X0_isToken rfl rfl rfl rfl (by decide) (by decide) rfl (Nat.le_of_ble_eq_true rfl) dX0_isOfKind_2 ?_
  refine g_if_eq C dX0_isOfKind_5 (tgt := 22) (by decide) (fun c1 => ?_) (fun c1 => ?_)
  · refine g_iconst C dX0_isOfKind_22 (v := 0) (by decide) ?_
    exact g_zret C F (by decide) (by rw [b01_0.mp c1]; rfl) (rfl) dX0_isOfKind_23
  · refine g_aload_n C dX0_isOfKind_8 0 rfl ?_
    refine g_get0 C hin 0 rfl 7 (by decide) lk16 rfl dX0_isOfKind_9 ?_
    refine g_iload_n C dX0_isOfKind_12 1 rfl ?_
    refine g_iald C 3 rfl (bTok_in (b01_1.mp c1) hc) dX0_isOfKind_13 ?_
    refine g_top (y := T.1 x.toNatClampNeg) (rfl) ?_
    refine g_iload_n C dX0_isOfKind_14 2 rfl ?_
    refine g_icmp_ne C dX0_isOfKind_15 (tgt := 22) (by decide) (fun c2 => ?_) (fun c2 => ?_)
    · refine g_iconst C dX0_isOfKind_22 (v := 0) (by decide) ?_
      exact g_zret C F (by decide) (by rw [b01_1.mp c1, decide_eq_false c2]; rfl) (rfl) dX0_isOfKind_23
    · refine g_iconst C dX0_isOfKind_18 (v := 1) (by decide) ?_
      refine g_goto C dX0_isOfKind_19 (tgt := 23) (by decide) ?_
      exact g_zret C F (by decide) (by rw [b01_1.mp c1, decide_eq_true c2]; rfl) (rfl) dX0_isOfKind_23
set_option maxHeartbeats 4000000 in
set_option maxRecDepth 100000 in
theorem c_X0_fail (g : Gl) (a : Nat → Nat) (aT aX : Nat) (tr : Nat → Int32) (n fed : Int32) (tx : Nat → Int32) (m ln fa : Int32) (T : TK) (x : Int32) : Ctr g yX0_fail wsX0_fail ({ frames := 0, cells := 0, slots := 0, locals := 0 }) [.ref (a 0), .int x] (tw g a aT aX tr n fed tx m ln fa T) (some (.int x)) (tw g a aT aX tr n fed tx m ln x T) 0 0 := by
  refine Ctr.start (cc := cX0_fail) (maxL := 2) (ret := (some .int)) (by decide) rfl (Nat.le_of_ble_eq_true rfl) (lv0 := [(0, .ref (a 0)), (1, .int x)]) rfl ?_
  intro X C F
  have C : Ok g X cX0_fail RX0 wsX0_fail ({ frames := 0, cells := 0, slots := 0, locals := 0 }) (some .int) 2 := C
  have hin : ∀ w ∈ wsX00, w ∈ wsX0_fail := fun _ h => List.mem_cons_of_mem _ (List.mem_append_right _ h)
  have lk45 : Cond.fieldLink RX0 45 "TokenRows" "fault" "I" ∈ wsX0_fail := by decide +kernel
  refine g_aload_n C dX0_fail_0 0 rfl ?_
  refine g_iload_n C dX0_fail_1 1 rfl ?_
  refine g_put0 (ws' := (tw g a aT aX tr n fed tx m ln x T)) C hin 0 rfl 6 (by decide) lk45 rfl rfl rfl (Nat.le_of_ble_eq_true rfl) rfl dX0_fail_2 ?_
  refine g_iload_n C dX0_fail_5 1 rfl ?_
  exact g_iret C F (rfl) (rfl) dX0_fail_6
set_option maxHeartbeats 4000000 in
set_option maxRecDepth 100000 in
theorem c_X0_countLine (g : Gl) (a : Nat → Nat) (aT aX : Nat) (tr : Nat → Int32) (n fed : Int32) (tx : Nat → Int32) (m ln fa : Int32) (T : TK) (x : Int32) : Ctr g yX0_countLine wsX0_countLine ({ frames := 0, cells := 0, slots := 0, locals := 0 }) [.ref (a 0), .int x] (tw g a aT aX tr n fed tx m ln fa T) (none) (tw g a aT aX tr n fed tx m (if x = 10 then ln + 1 else ln) fa T) 0 0 := by
  refine Ctr.start (cc := cX0_countLine) (maxL := 2) (ret := none) (by decide) rfl (Nat.le_of_ble_eq_true rfl) (lv0 := [(0, .ref (a 0)), (1, .int x)]) rfl ?_
  intro X C F
  have C : Ok g X cX0_countLine RX0 wsX0_countLine ({ frames := 0, cells := 0, slots := 0, locals := 0 }) none 2 := C
  have hin : ∀ w ∈ wsX00, w ∈ wsX0_countLine := fun _ h => List.mem_cons_of_mem _ (List.mem_append_right _ h)
  have lk42 : Cond.fieldLink RX0 42 "TokenRows" "lineNow" "I" ∈ wsX0_countLine := by decide +kernel
  refine g_iload_n C dX0_countLine_0 1 rfl ?_
  refine g_bipush C dX0_countLine_1 (v := 10) (by decide) ?_
  refine g_icmp_ne C dX0_countLine_3 (tgt := 16) (by decide) (fun c1 => ?_) (fun c1 => ?_)
  · exact g_vret C F (by rw [if_neg c1]) dX0_countLine_16
  · refine g_aload_n C dX0_countLine_6 0 rfl ?_
    refine g_dup C dX0_countLine_7 rfl ?_
    refine g_get0 C hin 0 rfl 5 (by decide) lk42 rfl dX0_countLine_8 ?_
    refine g_iconst C dX0_countLine_11 (v := 1) (by decide) ?_
    refine g_iadd C dX0_countLine_12 ?_
    refine g_put0 (ws' := (tw g a aT aX tr n fed tx m (ln + 1) fa T)) C hin 0 rfl 5 (by decide) lk42 rfl rfl rfl (Nat.le_of_ble_eq_true rfl) rfl dX0_countLine_13 ?_
    exact g_vret C F (by rw [if_pos c1]) dX0_countLine_16
set_option maxHeartbeats 4000000 in
set_option maxRecDepth 100000 in
theorem c_X0_keep (g : Gl) (a : Nat → Nat) (aT aX : Nat) (tr : Nat → Int32) (n fed : Int32) (tx : Nat → Int32) (m ln fa : Int32) (T : TK) (c : Nat) (hT : T.2.2.2.2.2 = nI c) (hc : c < 16000) (k t x y : Int32) : Ctr g yX0_keep wsX0_keep ({ frames := 0, cells := 0, slots := 0, locals := 0 }) [.ref (a 0), .int k, .int t, .int x, .int y] (tw g a aT aX tr n fed tx m ln fa T) (some (.int y)) (tw g a aT aX tr n fed tx m ln fa (tpush T c k t x (y - x) ln)) 0 0 := by
  refine Ctr.start (cc := cX0_keep) (maxL := 5) (ret := (some .int)) (by decide) rfl (Nat.le_of_ble_eq_true rfl) (lv0 := [(0, .ref (a 0)), (1, .int k), (2, .int t), (3, .int x), (4, .int y)]) rfl ?_
  intro X C F
  have C : Ok g X cX0_keep RX0 wsX0_keep ({ frames := 0, cells := 0, slots := 0, locals := 0 }) (some .int) 5 := C
  have hin : ∀ w ∈ wsX00, w ∈ wsX0_keep := fun _ h => List.mem_cons_of_mem _ (List.mem_append_right _ h)
  have lk16 : Cond.fieldLink RX0 16 "TokenRows" "kinds" "[I" ∈ wsX0_keep := by decide +kernel
  have lk20 : Cond.fieldLink RX0 20 "TokenRows" "starts" "[I" ∈ wsX0_keep := by decide +kernel
  have lk23 : Cond.fieldLink RX0 23 "TokenRows" "sizes" "[I" ∈ wsX0_keep := by decide +kernel
  have lk26 : Cond.fieldLink RX0 26 "TokenRows" "lines" "[I" ∈ wsX0_keep := by decide +kernel
  have lk29 : Cond.fieldLink RX0 29 "TokenRows" "tells" "[I" ∈ wsX0_keep := by decide +kernel
  have lk42 : Cond.fieldLink RX0 42 "TokenRows" "lineNow" "I" ∈ wsX0_keep := by decide +kernel
  have lk48 : Cond.fieldLink RX0 48 "TokenRows" "count" "I" ∈ wsX0_keep := by decide +kernel
  refine g_aload_n C dX0_keep_0 0 rfl ?_
  refine g_get0 C hin 0 rfl 12 (by decide) lk48 rfl dX0_keep_1 ?_
  refine g_top hT ?_
  refine g_if_lt C dX0_keep_4 (tgt := 85) (by decide) (fun c1 => ?_) (fun c1 => ?_)
  · exact absurd c1 (nI_pos (by omega))
  · refine g_aload_n C dX0_keep_7 0 rfl ?_
    refine g_get0 C hin 0 rfl 12 (by decide) lk48 rfl dX0_keep_8 ?_
    refine g_top hT ?_
    refine g_aload_n C dX0_keep_11 0 rfl ?_
    refine g_get0 C hin 0 rfl 7 (by decide) lk16 rfl dX0_keep_12 ?_
    refine g_alenI C 3 rfl (v := 16000) (by decide) dX0_keep_15 ?_
    refine g_icmp_ge C dX0_keep_16 (tgt := 85) (by decide) (fun c2 => ?_) (fun c2 => ?_)
    · exact absurd (nI_lt (a := c) (b := 16000) hc (by omega)) (Int32.not_lt.mpr c2)
    · refine g_aload_n C dX0_keep_19 0 rfl ?_
      refine g_get0 C hin 0 rfl 7 (by decide) lk16 rfl dX0_keep_20 ?_
      refine g_aload_n C dX0_keep_23 0 rfl ?_
      refine g_get0 C hin 0 rfl 12 (by decide) lk48 rfl dX0_keep_24 ?_
      refine g_top hT ?_
      refine g_iload_n C dX0_keep_27 1 rfl ?_
      refine g_iast (ws' := (tw g a aT aX tr n fed tx m ln fa (upd T.1 c k, T.2.1, T.2.2.1, T.2.2.2.1, T.2.2.2.2.1, T.2.2.2.2.2))) C 3 rfl (vp_in_nI hc (by omega)) (by rw [nI_clamp (by omega)]; rfl) dX0_keep_28 ?_
      refine g_aload_n C dX0_keep_29 0 rfl ?_
      refine g_get0 C hin 0 rfl 11 (by decide) lk29 rfl dX0_keep_30 ?_
      refine g_aload_n C dX0_keep_33 0 rfl ?_
      refine g_get0 C hin 0 rfl 12 (by decide) lk48 rfl dX0_keep_34 ?_
      refine g_top hT ?_
      refine g_iload_n C dX0_keep_37 2 rfl ?_
      refine g_iast (ws' := (tw g a aT aX tr n fed tx m ln fa (upd T.1 c k, T.2.1, T.2.2.1, T.2.2.2.1, upd T.2.2.2.2.1 c t, T.2.2.2.2.2))) C 7 rfl (vp_in_nI hc (by omega)) (by rw [nI_clamp (by omega)]; rfl) dX0_keep_38 ?_
      refine g_aload_n C dX0_keep_39 0 rfl ?_
      refine g_get0 C hin 0 rfl 8 (by decide) lk20 rfl dX0_keep_40 ?_
      refine g_aload_n C dX0_keep_43 0 rfl ?_
      refine g_get0 C hin 0 rfl 12 (by decide) lk48 rfl dX0_keep_44 ?_
      refine g_top hT ?_
      refine g_iload_n C dX0_keep_47 3 rfl ?_
      refine g_iast (ws' := (tw g a aT aX tr n fed tx m ln fa (upd T.1 c k, upd T.2.1 c x, T.2.2.1, T.2.2.2.1, upd T.2.2.2.2.1 c t, T.2.2.2.2.2))) C 4 rfl (vp_in_nI hc (by omega)) (by rw [nI_clamp (by omega)]; rfl) dX0_keep_48 ?_
      refine g_aload_n C dX0_keep_49 0 rfl ?_
      refine g_get0 C hin 0 rfl 9 (by decide) lk23 rfl dX0_keep_50 ?_
      refine g_aload_n C dX0_keep_53 0 rfl ?_
      refine g_get0 C hin 0 rfl 12 (by decide) lk48 rfl dX0_keep_54 ?_
      refine g_top hT ?_
      refine g_iload C dX0_keep_57 4 rfl ?_
      refine g_iload_n C dX0_keep_59 3 rfl ?_
      refine g_isub C dX0_keep_60 ?_
      refine g_iast (ws' := (tw g a aT aX tr n fed tx m ln fa (upd T.1 c k, upd T.2.1 c x, upd T.2.2.1 c (y - x), T.2.2.2.1, upd T.2.2.2.2.1 c t, T.2.2.2.2.2))) C 5 rfl (vp_in_nI hc (by omega)) (by rw [nI_clamp (by omega)]; rfl) dX0_keep_61 ?_
      refine g_aload_n C dX0_keep_62 0 rfl ?_
      refine g_get0 C hin 0 rfl 10 (by decide) lk26 rfl dX0_keep_63 ?_
      refine g_aload_n C dX0_keep_66 0 rfl ?_
      refine g_get0 C hin 0 rfl 12 (by decide) lk48 rfl dX0_keep_67 ?_
      refine g_top hT ?_
      refine g_aload_n C dX0_keep_70 0 rfl ?_
      refine g_get0 C hin 0 rfl 5 (by decide) lk42 rfl dX0_keep_71 ?_
      refine g_iast (ws' := (tw g a aT aX tr n fed tx m ln fa (upd T.1 c k, upd T.2.1 c x, upd T.2.2.1 c (y - x), upd T.2.2.2.1 c ln, upd T.2.2.2.2.1 c t, T.2.2.2.2.2))) C 6 rfl (vp_in_nI hc (by omega)) (by rw [nI_clamp (by omega)]; rfl) dX0_keep_74 ?_
      refine g_aload_n C dX0_keep_75 0 rfl ?_
      refine g_dup C dX0_keep_76 rfl ?_
      refine g_get0 C hin 0 rfl 12 (by decide) lk48 rfl dX0_keep_77 ?_
      refine g_top hT ?_
      refine g_iconst C dX0_keep_80 (v := 1) (by decide) ?_
      refine g_iadd C dX0_keep_81 ?_
      refine g_top (nI_add c 1) ?_
      refine g_put0 (ws' := (tw g a aT aX tr n fed tx m ln fa (upd T.1 c k, upd T.2.1 c x, upd T.2.2.1 c (y - x), upd T.2.2.2.1 c ln, upd T.2.2.2.2.1 c t, nI (c + 1)))) C hin 0 rfl 12 (by decide) lk48 rfl rfl rfl (Nat.le_of_ble_eq_true rfl) rfl dX0_keep_82 ?_
      refine g_iload C dX0_keep_85 4 rfl ?_
      exact g_iret C F (rfl) (rfl) dX0_keep_87
set_option maxHeartbeats 4000000 in
set_option maxRecDepth 100000 in
theorem c_X0_codeWidth (g : Gl) (a : Nat → Nat) (aT aX : Nat) (tr : Nat → Int32) (n fed : Int32) (tx : Nat → Int32) (ln fa : Int32) (T : TK) (N i : Nat) (hN : N ≤ 16000) (hi : i < 2 ^ 29) (q : Int32) : Ctr g yX0_codeWidth wsX0_codeWidth ({ frames := 1, cells := 0, slots := 0, locals := 21 }) [.ref (a 0), .int (nI i), .int q] (tw g a aT aX tr n fed tx (nI N) ln fa T) (some (.int (nI (cwd (look tx N) i q)))) (tw g a aT aX tr n fed tx (nI N) ln fa T) 0 0 := by
  refine Ctr.start (cc := cX0_codeWidth) (maxL := 4) (ret := (some .int)) (by decide) rfl (Nat.le_of_ble_eq_true rfl) (lv0 := [(0, .ref (a 0)), (1, .int (nI i)), (2, .int q)]) rfl ?_
  intro X C F
  have C : Ok g X cX0_codeWidth RX0 wsX0_codeWidth ({ frames := 1, cells := 0, slots := 0, locals := 21 }) (some .int) 4 := C
  have hin : ∀ w ∈ wsX00, w ∈ wsX0_codeWidth := fun _ h => List.mem_cons_of_mem _ (List.mem_append_right _ h)
  refine g_aload_n C dX0_codeWidth_0 0 rfl ?_
  refine g_iload_n C dX0_codeWidth_1 1 rfl ?_
  refine g_callVi (n := 1) C (c_X0_byteAt g a aT aX tr n fed tx ln fa T N i hN (by omega)) gX0_codeWidth_X0_byteAt rfl rfl rfl rfl (by decide) (by decide) rfl (Nat.le_of_ble_eq_true rfl) dX0_codeWidth_2 ?_
  refine g_istore_n (lv' := [(3, .int (look tx N i)), (0, .ref (a 0)), (1, .int (nI i)), (2, .int q)]) C dX0_codeWidth_5 (by decide) rfl ?_
  refine g_iload_n C dX0_codeWidth_6 0 rfl ?_
  refine g_bipush C dX0_codeWidth_7 (v := 92) (by decide) ?_
  refine g_icmp_ne C dX0_codeWidth_9 (tgt := 31) (by decide) (fun c1 => ?_) (fun c1 => ?_)
  · refine g_iload_n C dX0_codeWidth_31 0 rfl ?_
    refine g_bipush C dX0_codeWidth_32 (v := 32) (by decide) ?_
    refine g_icmp_lt C dX0_codeWidth_34 (tgt := 52) (by decide) (fun c2 => ?_) (fun c2 => ?_)
    · refine g_iconst C dX0_codeWidth_52 (v := 0) (by decide) ?_
      have c2 := k_lt (b := 32) (by decide) c2
      exact g_iret C F (by unfold cwd; rw [if_neg c1, if_neg (by omega)]; rfl) (rfl) dX0_codeWidth_53
    · refine g_iload_n C dX0_codeWidth_37 0 rfl ?_
      refine g_bipush C dX0_codeWidth_38 (v := 126) (by decide) ?_
      refine g_icmp_gt C dX0_codeWidth_40 (tgt := 52) (by decide) (fun c3 => ?_) (fun c3 => ?_)
      · refine g_iconst C dX0_codeWidth_52 (v := 0) (by decide) ?_
        have c2 := k_nlt (b := 32) (by decide) c2
        have c3 := k_gt (b := 126) (by decide) c3
        exact g_iret C F (by unfold cwd; rw [if_neg c1, if_neg (by omega)]; rfl) (rfl) dX0_codeWidth_53
      · refine g_iload_n C dX0_codeWidth_43 0 rfl ?_
        refine g_iload_n C dX0_codeWidth_44 3 rfl ?_
        refine g_icmp_eq C dX0_codeWidth_45 (tgt := 52) (by decide) (fun c4 => ?_) (fun c4 => ?_)
        · refine g_iconst C dX0_codeWidth_52 (v := 0) (by decide) ?_
          have c2 := k_nlt (b := 32) (by decide) c2
          have c3 := k_ngt (b := 126) (by decide) c3
          exact g_iret C F (by unfold cwd; rw [if_neg c1, if_neg (fun z => absurd z.2.2 (fun y => y c4))]; rfl) (rfl) dX0_codeWidth_53
        · refine g_iconst C dX0_codeWidth_48 (v := 1) (by decide) ?_
          refine g_goto C dX0_codeWidth_49 (tgt := 53) (by decide) ?_
          have c2 := k_nlt (b := 32) (by decide) c2
          have c3 := k_ngt (b := 126) (by decide) c3
          exact g_iret C F (by unfold cwd; rw [if_neg c1, if_pos (⟨by omega, by omega, c4⟩)]; rfl) (rfl) dX0_codeWidth_53
  · refine g_aload_n C dX0_codeWidth_12 1 rfl ?_
    refine g_iload_n C dX0_codeWidth_13 2 rfl ?_
    refine g_iconst C dX0_codeWidth_14 (v := 1) (by decide) ?_
    refine g_iadd C dX0_codeWidth_15 ?_
    refine g_top (nI_add i 1) ?_
    refine g_callVi (n := 1) C (c_X0_byteAt g a aT aX tr n fed tx ln fa T N (i + 1) hN (by omega)) gX0_codeWidth_X0_byteAt rfl rfl rfl rfl (by decide) (by decide) rfl (Nat.le_of_ble_eq_true rfl) dX0_codeWidth_16 ?_
    refine g_callSi (n := 1) C (c_X0_escapedCode g (look tx N (i + 1))) gX0_codeWidth_X0_escapedCode rfl rfl (by decide) (by decide) rfl (Nat.le_of_ble_eq_true rfl) dX0_codeWidth_19 ?_
    refine g_if_lt C dX0_codeWidth_22 (tgt := 29) (by decide) (fun c5 => ?_) (fun c5 => ?_)
    · refine g_iconst C dX0_codeWidth_29 (v := 0) (by decide) ?_
      have c5 := k_lt (b := 0) (by decide) c5
      exact g_iret C F (by unfold cwd; rw [if_pos c1, if_neg (by omega)]; rfl) (rfl) dX0_codeWidth_30
    · refine g_iconst C dX0_codeWidth_25 (v := 2) (by decide) ?_
      refine g_goto C dX0_codeWidth_26 (tgt := 30) (by decide) ?_
      have c5 := k_nlt (b := 0) (by decide) c5
      exact g_iret C F (by unfold cwd; rw [if_pos c1, if_pos (by omega)]; rfl) (rfl) dX0_codeWidth_30
set_option maxHeartbeats 4000000 in
set_option maxRecDepth 100000 in
theorem c_X0_codeAt (g : Gl) (a : Nat → Nat) (aT aX : Nat) (tr : Nat → Int32) (n fed : Int32) (tx : Nat → Int32) (ln fa : Int32) (T : TK) (N i : Nat) (hN : N ≤ 16000) (hi : i < 2 ^ 29) : Ctr g yX0_codeAt wsX0_codeAt ({ frames := 1, cells := 0, slots := 0, locals := 21 }) [.ref (a 0), .int (nI i)] (tw g a aT aX tr n fed tx (nI N) ln fa T) (some (.int (cat (look tx N) i))) (tw g a aT aX tr n fed tx (nI N) ln fa T) 0 0 := by
  refine Ctr.start (cc := cX0_codeAt) (maxL := 3) (ret := (some .int)) (by decide) rfl (Nat.le_of_ble_eq_true rfl) (lv0 := [(0, .ref (a 0)), (1, .int (nI i))]) rfl ?_
  intro X C F
  have C : Ok g X cX0_codeAt RX0 wsX0_codeAt ({ frames := 1, cells := 0, slots := 0, locals := 21 }) (some .int) 3 := C
  have hin : ∀ w ∈ wsX00, w ∈ wsX0_codeAt := fun _ h => List.mem_cons_of_mem _ (List.mem_append_right _ h)
  refine g_aload_n C dX0_codeAt_0 0 rfl ?_
  refine g_iload_n C dX0_codeAt_1 1 rfl ?_
  refine g_callVi (n := 1) C (c_X0_byteAt g a aT aX tr n fed tx ln fa T N i hN (by omega)) gX0_codeAt_X0_byteAt rfl rfl rfl rfl (by decide) (by decide) rfl (Nat.le_of_ble_eq_true rfl) dX0_codeAt_2 ?_
  refine g_istore_n (lv' := [(2, .int (look tx N i)), (0, .ref (a 0)), (1, .int (nI i))]) C dX0_codeAt_5 (by decide) rfl ?_
  refine g_iload_n C dX0_codeAt_6 0 rfl ?_
  refine g_bipush C dX0_codeAt_7 (v := 92) (by decide) ?_
  refine g_icmp_ne C dX0_codeAt_9 (tgt := 25) (by decide) (fun c1 => ?_) (fun c1 => ?_)
  · refine g_iload_n C dX0_codeAt_25 0 rfl ?_
    exact g_iret C F (by unfold cat; rw [if_neg c1]) (rfl) dX0_codeAt_26
  · refine g_aload_n C dX0_codeAt_12 1 rfl ?_
    refine g_iload_n C dX0_codeAt_13 2 rfl ?_
    refine g_iconst C dX0_codeAt_14 (v := 1) (by decide) ?_
    refine g_iadd C dX0_codeAt_15 ?_
    refine g_top (nI_add i 1) ?_
    refine g_callVi (n := 1) C (c_X0_byteAt g a aT aX tr n fed tx ln fa T N (i + 1) hN (by omega)) gX0_codeAt_X0_byteAt rfl rfl rfl rfl (by decide) (by decide) rfl (Nat.le_of_ble_eq_true rfl) dX0_codeAt_16 ?_
    refine g_callSi (n := 1) C (c_X0_escapedCode g (look tx N (i + 1))) gX0_codeAt_X0_escapedCode rfl rfl (by decide) (by decide) rfl (Nat.le_of_ble_eq_true rfl) dX0_codeAt_19 ?_
    refine g_goto C dX0_codeAt_22 (tgt := 26) (by decide) ?_
    exact g_iret C F (by unfold cat; rw [if_pos c1]) (rfl) dX0_codeAt_26
