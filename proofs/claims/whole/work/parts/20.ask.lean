/-- the four bytes of an int, the highest first, as the class cuts them -/
def cb (x : Int32) : Nat → Int32
  | 0 => (x.toUInt32 >>> (Int32.toUInt32 24 &&& Int32.toUInt32 31)).toInt32.toInt8.toInt32
  | 1 => (x.toUInt32 >>> (Int32.toUInt32 16 &&& Int32.toUInt32 31)).toInt32.toInt8.toInt32
  | 2 => (x.toUInt32 >>> (Int32.toUInt32 8 &&& Int32.toUInt32 31)).toInt32.toInt8.toInt32
  | _ => x.toInt8.toInt32
def put4 (tr : Nat → Int32) (t : Nat) (x : Int32) : Nat → Int32 := upd (upd (upd (upd tr t (cb x 0)) (t + 1) (cb x 1)) (t + 2) (cb x 2)) (t + 3) (cb x 3)
def put20 (tr : Nat → Int32) (t : Nat) (x y z u v : Int32) : Nat → Int32 := put4 (put4 (put4 (put4 (put4 tr t x) (t + 4) y) (t + 8) z) (t + 12) u) (t + 16) v
set_option maxHeartbeats 4000000 in
set_option maxRecDepth 100000 in
theorem c_X0_putByte (g : Gl) (a : Nat → Nat) (aT aX : Nat) (tr : Nat → Int32) (fed : Int32) (tx : Nat → Int32) (m ln fa : Int32) (T : TK) (t : Nat) (ht : t < 16000) (x : Int32) : Ctr g yX0_putByte wsX0_putByte ({ frames := 0, cells := 0, slots := 0, locals := 0 }) [.ref (a 0), .int x] (tw g a aT aX tr (nI t) fed tx m ln fa T) (none) (tw g a aT aX (upd tr t x.toInt8.toInt32) (nI (t + 1)) fed tx m ln fa T) 0 0 := by
  refine Ctr.start (cc := cX0_putByte) (maxL := 2) (ret := none) (by decide) rfl (Nat.le_of_ble_eq_true rfl) (lv0 := [(0, .ref (a 0)), (1, .int x)]) rfl ?_
  intro X C F
  have C : Ok g X cX0_putByte RX0 wsX0_putByte ({ frames := 0, cells := 0, slots := 0, locals := 0 }) none 2 := C
  have hin : ∀ w ∈ wsX00, w ∈ wsX0_putByte := fun _ h => List.mem_cons_of_mem _ (List.mem_append_right _ h)
  have lk32 : Cond.fieldLink RX0 32 "TokenRows" "traySize" "I" ∈ wsX0_putByte := by decide +kernel
  have lk9 : Cond.fieldLink RX0 9 "TokenRows" "tray" "[B" ∈ wsX0_putByte := by decide +kernel
  refine g_aload_n C dX0_putByte_0 0 rfl ?_
  refine g_get0 C hin 0 rfl 1 (by decide) lk32 rfl dX0_putByte_1 ?_
  refine g_if_lt C dX0_putByte_4 (tgt := 40) (by decide) (fun c1 => ?_) (fun c1 => ?_)
  · exact absurd c1 (nI_pos (by omega))
  · refine g_aload_n C dX0_putByte_7 0 rfl ?_
    refine g_get0 C hin 0 rfl 1 (by decide) lk32 rfl dX0_putByte_8 ?_
    refine g_aload_n C dX0_putByte_11 0 rfl ?_
    refine g_get0 C hin 0 rfl 0 (by decide) lk9 rfl dX0_putByte_12 ?_
    refine g_alenB C 1 rfl (v := 16000) (by decide) dX0_putByte_15 ?_
    refine g_icmp_ge C dX0_putByte_16 (tgt := 40) (by decide) (fun c2 => ?_) (fun c2 => ?_)
    · exact absurd (nI_lt (a := t) (b := 16000) ht (by omega)) (Int32.not_lt.mpr c2)
    · refine g_aload_n C dX0_putByte_19 0 rfl ?_
      refine g_get0 C hin 0 rfl 0 (by decide) lk9 rfl dX0_putByte_20 ?_
      refine g_aload_n C dX0_putByte_23 0 rfl ?_
      refine g_get0 C hin 0 rfl 1 (by decide) lk32 rfl dX0_putByte_24 ?_
      refine g_iload_n C dX0_putByte_27 1 rfl ?_
      refine g_i2b C dX0_putByte_28 (v := x.toInt8.toInt32) rfl ?_
      refine g_bast (v := x.toInt8.toInt32) (ws' := (tw g a aT aX (upd tr t x.toInt8.toInt32) (nI t) fed tx m ln fa T)) C 1 rfl (vp_in_nI ht (by omega)) (pk_vb _) (by rw [nI_clamp (by omega)]; rfl) dX0_putByte_29 ?_
      refine g_aload_n C dX0_putByte_30 0 rfl ?_
      refine g_dup C dX0_putByte_31 rfl ?_
      refine g_get0 C hin 0 rfl 1 (by decide) lk32 rfl dX0_putByte_32 ?_
      refine g_iconst C dX0_putByte_35 (v := 1) (by decide) ?_
      refine g_iadd C dX0_putByte_36 ?_
      refine g_top (nI_add t 1) ?_
      refine g_put0 (ws' := (tw g a aT aX (upd tr t x.toInt8.toInt32) (nI (t + 1)) fed tx m ln fa T)) C hin 0 rfl 1 (by decide) lk32 rfl rfl rfl (Nat.le_of_ble_eq_true rfl) rfl dX0_putByte_37 ?_
      exact g_vret C F (rfl) dX0_putByte_40
set_option maxHeartbeats 4000000 in
set_option maxRecDepth 100000 in
theorem c_X0_putInt (g : Gl) (a : Nat → Nat) (aT aX : Nat) (tr : Nat → Int32) (fed : Int32) (tx : Nat → Int32) (m ln fa : Int32) (T : TK) (t : Nat) (ht : t + 4 ≤ 16000) (x : Int32) : Ctr g yX0_putInt wsX0_putInt ({ frames := 1, cells := 0, slots := 0, locals := 21 }) [.ref (a 0), .int x] (tw g a aT aX tr (nI t) fed tx m ln fa T) (none) (tw g a aT aX (put4 tr t x) (nI (t + 4)) fed tx m ln fa T) 0 0 := by
  refine Ctr.start (cc := cX0_putInt) (maxL := 2) (ret := none) (by decide) rfl (Nat.le_of_ble_eq_true rfl) (lv0 := [(0, .ref (a 0)), (1, .int x)]) rfl ?_
  intro X C F
  have C : Ok g X cX0_putInt RX0 wsX0_putInt ({ frames := 1, cells := 0, slots := 0, locals := 21 }) none 2 := C
  have hin : ∀ w ∈ wsX00, w ∈ wsX0_putInt := fun _ h => List.mem_cons_of_mem _ (List.mem_append_right _ h)
  refine g_aload_n C dX0_putInt_0 0 rfl ?_
  refine g_iload_n C dX0_putInt_1 1 rfl ?_
  refine g_bipush C dX0_putInt_2 (v := 24) (by decide) ?_
  refine g_iushr C dX0_putInt_4 (v := (x.toUInt32 >>> (Int32.toUInt32 24 &&& Int32.toUInt32 31)).toInt32) rfl ?_
  refine g_callVv (n := 1) C (c_X0_putByte g a aT aX tr fed tx m ln fa T t (by omega) ((x.toUInt32 >>> (Int32.toUInt32 24 &&& Int32.toUInt32 31)).toInt32)) gX0_putInt_X0_putByte rfl rfl rfl rfl (by decide) (by decide) rfl (Nat.le_of_ble_eq_true rfl) dX0_putInt_5 ?_
  refine g_aload_n C dX0_putInt_8 0 rfl ?_
  refine g_iload_n C dX0_putInt_9 1 rfl ?_
  refine g_bipush C dX0_putInt_10 (v := 16) (by decide) ?_
  refine g_iushr C dX0_putInt_12 (v := (x.toUInt32 >>> (Int32.toUInt32 16 &&& Int32.toUInt32 31)).toInt32) rfl ?_
  refine g_callVv (n := 1) C (c_X0_putByte g a aT aX (upd tr t ((x.toUInt32 >>> (Int32.toUInt32 24 &&& Int32.toUInt32 31)).toInt32).toInt8.toInt32) fed tx m ln fa T (t + 1) (by omega) ((x.toUInt32 >>> (Int32.toUInt32 16 &&& Int32.toUInt32 31)).toInt32)) gX0_putInt_X0_putByte rfl rfl rfl rfl (by decide) (by decide) rfl (Nat.le_of_ble_eq_true rfl) dX0_putInt_13 ?_
  refine g_aload_n C dX0_putInt_16 0 rfl ?_
  refine g_iload_n C dX0_putInt_17 1 rfl ?_
  refine g_bipush C dX0_putInt_18 (v := 8) (by decide) ?_
  refine g_iushr C dX0_putInt_20 (v := (x.toUInt32 >>> (Int32.toUInt32 8 &&& Int32.toUInt32 31)).toInt32) rfl ?_
  refine g_callVv (n := 1) C (c_X0_putByte g a aT aX (upd (upd tr t ((x.toUInt32 >>> (Int32.toUInt32 24 &&& Int32.toUInt32 31)).toInt32).toInt8.toInt32) (t + 1) ((x.toUInt32 >>> (Int32.toUInt32 16 &&& Int32.toUInt32 31)).toInt32).toInt8.toInt32) fed tx m ln fa T (t + 2) (by omega) ((x.toUInt32 >>> (Int32.toUInt32 8 &&& Int32.toUInt32 31)).toInt32)) gX0_putInt_X0_putByte rfl rfl rfl rfl (by decide) (by decide) rfl (Nat.le_of_ble_eq_true rfl) dX0_putInt_21 ?_
  refine g_aload_n C dX0_putInt_24 0 rfl ?_
  refine g_iload_n C dX0_putInt_25 1 rfl ?_
  refine g_callVv (n := 1) C (c_X0_putByte g a aT aX (upd (upd (upd tr t ((x.toUInt32 >>> (Int32.toUInt32 24 &&& Int32.toUInt32 31)).toInt32).toInt8.toInt32) (t + 1) ((x.toUInt32 >>> (Int32.toUInt32 16 &&& Int32.toUInt32 31)).toInt32).toInt8.toInt32) (t + 2) ((x.toUInt32 >>> (Int32.toUInt32 8 &&& Int32.toUInt32 31)).toInt32).toInt8.toInt32) fed tx m ln fa T (t + 3) (by omega) x) gX0_putInt_X0_putByte rfl rfl rfl rfl (by decide) (by decide) rfl (Nat.le_of_ble_eq_true rfl) dX0_putInt_26 ?_
  exact g_vret C F (rfl) dX0_putInt_29
set_option maxHeartbeats 4000000 in
set_option maxRecDepth 100000 in
theorem c_X0_feed (g : Gl) (a : Nat → Nat) (aT aX : Nat) (tr : Nat → Int32)  (tx : Nat → Int32) (m ln fa : Int32) (T : TK) (t f : Nat) (ht : t ≤ 16000) (hf : f ≤ 65536) (x y z u v : Int32) (h : t + 20 ≤ 16000 ∧ f + 20 ≤ 65536) : Ctr g yX0_feed wsX0_feed ({ frames := 2, cells := 0, slots := 0, locals := 42 }) [.ref (a 0), .int x, .int y, .int z, .int u, .int v] (tw g a aT aX tr (nI t) (nI f) tx m ln fa T) (some (.int (nI (t + 20)))) (tw g a aT aX (put20 tr t x y z u v) (nI (t + 20)) (nI (f + 20)) tx m ln fa T) 0 0 := by
  refine Ctr.start (cc := cX0_feed) (maxL := 6) (ret := (some .int)) (by decide) rfl (Nat.le_of_ble_eq_true rfl) (lv0 := [(0, .ref (a 0)), (1, .int x), (2, .int y), (3, .int z), (4, .int u), (5, .int v)]) rfl ?_
  intro X C F
  have C : Ok g X cX0_feed RX0 wsX0_feed ({ frames := 2, cells := 0, slots := 0, locals := 42 }) (some .int) 6 := C
  have hin : ∀ w ∈ wsX00, w ∈ wsX0_feed := fun _ h => List.mem_cons_of_mem _ (List.mem_append_right _ h)
  have lc51 : Cond.constant RX0 51 (65536) ∈ wsX0_feed := by decide +kernel
  have lk32 : Cond.fieldLink RX0 32 "TokenRows" "traySize" "I" ∈ wsX0_feed := by decide +kernel
  have lk36 : Cond.fieldLink RX0 36 "TokenRows" "fedInAll" "I" ∈ wsX0_feed := by decide +kernel
  refine g_aload_n C dX0_feed_0 0 rfl ?_
  refine g_get0 C hin 0 rfl 1 (by decide) lk32 rfl dX0_feed_1 ?_
  refine g_bipush C dX0_feed_4 (v := 20) (by decide) ?_
  refine g_iadd C dX0_feed_6 ?_
  refine g_top (nI_add t 20) ?_
  refine g_sipush C dX0_feed_7 (v := 16000) (by decide) ?_
  refine g_icmp_gt C dX0_feed_10 (tgt := 25) (by decide) (fun c1 => ?_) (fun c1 => ?_)
  · have q1 : 16000 < t + 20 := (nI_ltI (a := 16000) (by omega) (by omega)).mp c1
    omega
  · have q1 : ¬ 16000 < t + 20 := fun z => c1 (nI_lt (a := 16000) z (by omega))
    refine g_aload_n C dX0_feed_13 0 rfl ?_
    refine g_get0 C hin 0 rfl 2 (by decide) lk36 rfl dX0_feed_14 ?_
    refine g_bipush C dX0_feed_17 (v := 20) (by decide) ?_
    refine g_iadd C dX0_feed_19 ?_
    refine g_top (nI_add f 20) ?_
    refine g_ldc C dX0_feed_20 (v := 65536) lc51 ?_
    refine g_icmp_le C dX0_feed_22 (tgt := 27) (by decide) (fun c2 => ?_) (fun c2 => ?_)
    · have q2 : f + 20 ≤ 65536 := (nI_leI (b := 65536) (by omega) (by omega)).mp c2
      refine g_aload_n C dX0_feed_27 0 rfl ?_
      refine g_iload_n C dX0_feed_28 1 rfl ?_
      refine g_callVv (n := 1) C (c_X0_putInt g a aT aX tr (nI f) tx m ln fa T t (by omega) x) gX0_feed_X0_putInt rfl rfl rfl rfl (by decide) (by decide) rfl (Nat.le_of_ble_eq_true rfl) dX0_feed_29 ?_
      refine g_aload_n C dX0_feed_32 0 rfl ?_
      refine g_iload_n C dX0_feed_33 2 rfl ?_
      refine g_callVv (n := 1) C (c_X0_putInt g a aT aX (put4 tr t x) (nI f) tx m ln fa T (t + 4) (by omega) y) gX0_feed_X0_putInt rfl rfl rfl rfl (by decide) (by decide) rfl (Nat.le_of_ble_eq_true rfl) dX0_feed_34 ?_
      refine g_aload_n C dX0_feed_37 0 rfl ?_
      refine g_iload_n C dX0_feed_38 3 rfl ?_
      refine g_callVv (n := 1) C (c_X0_putInt g a aT aX (put4 (put4 tr t x) (t + 4) y) (nI f) tx m ln fa T (t + 8) (by omega) z) gX0_feed_X0_putInt rfl rfl rfl rfl (by decide) (by decide) rfl (Nat.le_of_ble_eq_true rfl) dX0_feed_39 ?_
      refine g_aload_n C dX0_feed_42 0 rfl ?_
      refine g_iload C dX0_feed_43 4 rfl ?_
      refine g_callVv (n := 1) C (c_X0_putInt g a aT aX (put4 (put4 (put4 tr t x) (t + 4) y) (t + 8) z) (nI f) tx m ln fa T (t + 12) (by omega) u) gX0_feed_X0_putInt rfl rfl rfl rfl (by decide) (by decide) rfl (Nat.le_of_ble_eq_true rfl) dX0_feed_45 ?_
      refine g_aload_n C dX0_feed_48 0 rfl ?_
      refine g_iload C dX0_feed_49 5 rfl ?_
      refine g_callVv (n := 1) C (c_X0_putInt g a aT aX (put4 (put4 (put4 (put4 tr t x) (t + 4) y) (t + 8) z) (t + 12) u) (nI f) tx m ln fa T (t + 16) (by omega) v) gX0_feed_X0_putInt rfl rfl rfl rfl (by decide) (by decide) rfl (Nat.le_of_ble_eq_true rfl) dX0_feed_51 ?_
      refine g_aload_n C dX0_feed_54 0 rfl ?_
      refine g_dup C dX0_feed_55 rfl ?_
      refine g_get0 C hin 0 rfl 2 (by decide) lk36 rfl dX0_feed_56 ?_
      refine g_bipush C dX0_feed_59 (v := 20) (by decide) ?_
      refine g_iadd C dX0_feed_61 ?_
      refine g_top (nI_add f 20) ?_
      refine g_put0 (ws' := (tw g a aT aX (put4 (put4 (put4 (put4 (put4 tr t x) (t + 4) y) (t + 8) z) (t + 12) u) (t + 16) v) (nI (t + 20)) (nI (f + 20)) tx m ln fa T)) C hin 0 rfl 2 (by decide) lk36 rfl rfl rfl (Nat.le_of_ble_eq_true rfl) rfl dX0_feed_62 ?_
      refine g_aload_n C dX0_feed_65 0 rfl ?_
      refine g_get0 C hin 0 rfl 1 (by decide) lk32 rfl dX0_feed_66 ?_
      exact g_iret C F (rfl) (rfl) dX0_feed_69
    · have q2 : ¬ f + 20 ≤ 65536 := fun z => c2 (nI_le (b := 65536) z (by omega))
      omega
set_option maxHeartbeats 4000000 in
set_option maxRecDepth 100000 in
theorem c_X0_feedN (g : Gl) (a : Nat → Nat) (aT aX : Nat) (tr : Nat → Int32)  (tx : Nat → Int32) (m ln fa : Int32) (T : TK) (t f : Nat) (ht : t ≤ 16000) (hf : f ≤ 65536) (x y z u v : Int32) (h : ¬ (t + 20 ≤ 16000 ∧ f + 20 ≤ 65536)) : Ctr g yX0_feed wsX0_feed ({ frames := 2, cells := 0, slots := 0, locals := 42 }) [.ref (a 0), .int x, .int y, .int z, .int u, .int v] (tw g a aT aX tr (nI t) (nI f) tx m ln fa T) (some (.int (-1))) (tw g a aT aX tr (nI t) (nI f) tx m ln fa T) 0 0 := by
  refine Ctr.start (cc := cX0_feed) (maxL := 6) (ret := (some .int)) (by decide) rfl (Nat.le_of_ble_eq_true rfl) (lv0 := [(0, .ref (a 0)), (1, .int x), (2, .int y), (3, .int z), (4, .int u), (5, .int v)]) rfl ?_
  intro X C F
  have C : Ok g X cX0_feed RX0 wsX0_feed ({ frames := 2, cells := 0, slots := 0, locals := 42 }) (some .int) 6 := C
  have hin : ∀ w ∈ wsX00, w ∈ wsX0_feed := fun _ h => List.mem_cons_of_mem _ (List.mem_append_right _ h)
  have lc51 : Cond.constant RX0 51 (65536) ∈ wsX0_feed := by decide +kernel
  have lk32 : Cond.fieldLink RX0 32 "TokenRows" "traySize" "I" ∈ wsX0_feed := by decide +kernel
  have lk36 : Cond.fieldLink RX0 36 "TokenRows" "fedInAll" "I" ∈ wsX0_feed := by decide +kernel
  refine g_aload_n C dX0_feed_0 0 rfl ?_
  refine g_get0 C hin 0 rfl 1 (by decide) lk32 rfl dX0_feed_1 ?_
  refine g_bipush C dX0_feed_4 (v := 20) (by decide) ?_
  refine g_iadd C dX0_feed_6 ?_
  refine g_top (nI_add t 20) ?_
  refine g_sipush C dX0_feed_7 (v := 16000) (by decide) ?_
  refine g_icmp_gt C dX0_feed_10 (tgt := 25) (by decide) (fun c1 => ?_) (fun c1 => ?_)
  · refine g_iconst C dX0_feed_25 (v := (-1)) (by decide) ?_
    exact g_iret C F (rfl) (rfl) dX0_feed_26
  · have q1 : ¬ 16000 < t + 20 := fun z => c1 (nI_lt (a := 16000) z (by omega))
    refine g_aload_n C dX0_feed_13 0 rfl ?_
    refine g_get0 C hin 0 rfl 2 (by decide) lk36 rfl dX0_feed_14 ?_
    refine g_bipush C dX0_feed_17 (v := 20) (by decide) ?_
    refine g_iadd C dX0_feed_19 ?_
    refine g_top (nI_add f 20) ?_
    refine g_ldc C dX0_feed_20 (v := 65536) lc51 ?_
    refine g_icmp_le C dX0_feed_22 (tgt := 27) (by decide) (fun c2 => ?_) (fun c2 => ?_)
    · have q2 : f + 20 ≤ 65536 := (nI_leI (b := 65536) (by omega) (by omega)).mp c2
      exact absurd ⟨by omega, q2⟩ h
    · refine g_iconst C dX0_feed_25 (v := (-1)) (by decide) ?_
      exact g_iret C F (rfl) (rfl) dX0_feed_26
set_option maxHeartbeats 4000000 in
set_option maxRecDepth 100000 in
theorem c_X0_end (g : Gl) (a : Nat → Nat) (aT aX : Nat) (tr : Nat → Int32) (fed : Int32) (tx : Nat → Int32) (m ln fa : Int32) (T : TK) (t j : Nat) (ht : t ≤ 16000) (hj : j ≤ t) : Ctr g yX0_end wsX0_end ({ frames := 0, cells := 0, slots := 0, locals := 0 }) [.ref (a 0), .int (nI j)] (tw g a aT aX tr (nI t) fed tx m ln fa T) (some (.int (nI j))) (tw g a aT aX tr (nI j) fed tx m ln fa T) 0 0 := by
  refine Ctr.start (cc := cX0_end) (maxL := 2) (ret := (some .int)) (by decide) rfl (Nat.le_of_ble_eq_true rfl) (lv0 := [(0, .ref (a 0)), (1, .int (nI j))]) rfl ?_
  intro X C F
  have C : Ok g X cX0_end RX0 wsX0_end ({ frames := 0, cells := 0, slots := 0, locals := 0 }) (some .int) 2 := C
  have hin : ∀ w ∈ wsX00, w ∈ wsX0_end := fun _ h => List.mem_cons_of_mem _ (List.mem_append_right _ h)
  have lk32 : Cond.fieldLink RX0 32 "TokenRows" "traySize" "I" ∈ wsX0_end := by decide +kernel
  refine g_iload_n C dX0_end_0 1 rfl ?_
  refine g_if_lt C dX0_end_1 (tgt := 12) (by decide) (fun c1 => ?_) (fun c1 => ?_)
  · exact absurd c1 (nI_pos (by omega))
  · refine g_iload_n C dX0_end_4 1 rfl ?_
    refine g_aload_n C dX0_end_5 0 rfl ?_
    refine g_get0 C hin 0 rfl 1 (by decide) lk32 rfl dX0_end_6 ?_
    refine g_icmp_le C dX0_end_9 (tgt := 14) (by decide) (fun c2 => ?_) (fun c2 => ?_)
    · refine g_aload_n C dX0_end_14 0 rfl ?_
      refine g_iload_n C dX0_end_15 1 rfl ?_
      refine g_put0 (ws' := (tw g a aT aX tr (nI j) fed tx m ln fa T)) C hin 0 rfl 1 (by decide) lk32 rfl rfl rfl (Nat.le_of_ble_eq_true rfl) rfl dX0_end_16 ?_
      refine g_iload_n C dX0_end_19 1 rfl ?_
      exact g_iret C F (rfl) (rfl) dX0_end_20
    · exact absurd (nI_le hj (by omega)) c2
set_option maxHeartbeats 4000000 in
set_option maxRecDepth 100000 in
theorem c_X0_endN (g : Gl) (a : Nat → Nat) (aT aX : Nat) (tr : Nat → Int32) (fed : Int32) (tx : Nat → Int32) (m ln fa : Int32) (T : TK) (t : Nat) (ht : t ≤ 16000) (x : Int32) (h : ¬ (0 ≤ x.toInt ∧ x.toInt ≤ (t : Int))) : Ctr g yX0_end wsX0_end ({ frames := 0, cells := 0, slots := 0, locals := 0 }) [.ref (a 0), .int x] (tw g a aT aX tr (nI t) fed tx m ln fa T) (some (.int (-1))) (tw g a aT aX tr (nI t) fed tx m ln fa T) 0 0 := by
  refine Ctr.start (cc := cX0_end) (maxL := 2) (ret := (some .int)) (by decide) rfl (Nat.le_of_ble_eq_true rfl) (lv0 := [(0, .ref (a 0)), (1, .int x)]) rfl ?_
  intro X C F
  have C : Ok g X cX0_end RX0 wsX0_end ({ frames := 0, cells := 0, slots := 0, locals := 0 }) (some .int) 2 := C
  have hin : ∀ w ∈ wsX00, w ∈ wsX0_end := fun _ h => List.mem_cons_of_mem _ (List.mem_append_right _ h)
  have lk32 : Cond.fieldLink RX0 32 "TokenRows" "traySize" "I" ∈ wsX0_end := by decide +kernel
  refine g_iload_n C dX0_end_0 1 rfl ?_
  refine g_if_lt C dX0_end_1 (tgt := 12) (by decide) (fun c1 => ?_) (fun c1 => ?_)
  · refine g_iconst C dX0_end_12 (v := (-1)) (by decide) ?_
    exact g_iret C F (rfl) (rfl) dX0_end_13
  · refine g_iload_n C dX0_end_4 1 rfl ?_
    refine g_aload_n C dX0_end_5 0 rfl ?_
    refine g_get0 C hin 0 rfl 1 (by decide) lk32 rfl dX0_end_6 ?_
    refine g_icmp_le C dX0_end_9 (tgt := 14) (by decide) (fun c2 => ?_) (fun c2 => ?_)
    · have q := k_le (nI_toInt (n := t) (by omega)) c2
      have q0 := k_nlt (b := 0) (by decide) c1
      omega
    · refine g_iconst C dX0_end_12 (v := (-1)) (by decide) ?_
      exact g_iret C F (rfl) (rfl) dX0_end_13
set_option maxHeartbeats 4000000 in
set_option maxRecDepth 100000 in
theorem c_X0_place (g : Gl) (a : Nat → Nat) (aT aX : Nat) (tr : Nat → Int32) (n fed : Int32) (tx : Nat → Int32) (m ln fa : Int32) (T : TK) : Ctr g yX0_place wsX0_place ({ frames := 0, cells := 0, slots := 0, locals := 0 }) [.ref (a 0)] (tw g a aT aX tr n fed tx m ln fa T) (some (.int fa)) (tw g a aT aX tr n fed tx m ln fa T) 0 0 := by
  refine Ctr.start (cc := cX0_place) (maxL := 1) (ret := (some .int)) (by decide) rfl (Nat.le_of_ble_eq_true rfl) (lv0 := [(0, .ref (a 0))]) rfl ?_
  intro X C F
  have C : Ok g X cX0_place RX0 wsX0_place ({ frames := 0, cells := 0, slots := 0, locals := 0 }) (some .int) 1 := C
  have hin : ∀ w ∈ wsX00, w ∈ wsX0_place := fun _ h => List.mem_cons_of_mem _ (List.mem_append_right _ h)
  have lk45 : Cond.fieldLink RX0 45 "TokenRows" "fault" "I" ∈ wsX0_place := by decide +kernel
  refine g_aload_n C dX0_place_0 0 rfl ?_
  refine g_get0 C hin 0 rfl 6 (by decide) lk45 rfl dX0_place_1 ?_
  exact g_iret C F (rfl) (rfl) dX0_place_4
set_option maxHeartbeats 4000000 in
set_option maxRecDepth 100000 in
theorem c_X0_tokens (g : Gl) (a : Nat → Nat) (aT aX : Nat) (tr : Nat → Int32) (n fed : Int32) (tx : Nat → Int32) (m ln fa : Int32) (T : TK) : Ctr g yX0_tokens wsX0_tokens ({ frames := 0, cells := 0, slots := 0, locals := 0 }) [.ref (a 0)] (tw g a aT aX tr n fed tx m ln fa T) (some (.int T.2.2.2.2.2)) (tw g a aT aX tr n fed tx m ln fa T) 0 0 := by
  refine Ctr.start (cc := cX0_tokens) (maxL := 1) (ret := (some .int)) (by decide) rfl (Nat.le_of_ble_eq_true rfl) (lv0 := [(0, .ref (a 0))]) rfl ?_
  intro X C F
  have C : Ok g X cX0_tokens RX0 wsX0_tokens ({ frames := 0, cells := 0, slots := 0, locals := 0 }) (some .int) 1 := C
  have hin : ∀ w ∈ wsX00, w ∈ wsX0_tokens := fun _ h => List.mem_cons_of_mem _ (List.mem_append_right _ h)
  have lk48 : Cond.fieldLink RX0 48 "TokenRows" "count" "I" ∈ wsX0_tokens := by decide +kernel
  refine g_aload_n C dX0_tokens_0 0 rfl ?_
  refine g_get0 C hin 0 rfl 12 (by decide) lk48 rfl dX0_tokens_1 ?_
  exact g_iret C F (rfl) (rfl) dX0_tokens_4
set_option maxHeartbeats 4000000 in
set_option maxRecDepth 100000 in
theorem c_X0_kind (g : Gl) (a : Nat → Nat) (aT aX : Nat) (tr : Nat → Int32) (n fed : Int32) (tx : Nat → Int32) (m ln fa : Int32) (T : TK) (c : Nat) (hT : T.2.2.2.2.2 = nI c) (hc : c ≤ 16000) (x : Int32) : Ctr g yX0_kind wsX0_kind ({ frames := 1, cells := 0, slots := 0, locals := 21 }) [.ref (a 0), .int x] (tw g a aT aX tr n fed tx m ln fa T) (some (.int (if bTok c x = true then T.1 x.toNatClampNeg else 0))) (tw g a aT aX tr n fed tx m ln fa T) 0 0 := by
  refine Ctr.start (cc := cX0_kind) (maxL := 2) (ret := (some .int)) (by decide) rfl (Nat.le_of_ble_eq_true rfl) (lv0 := [(0, .ref (a 0)), (1, .int x)]) rfl ?_
  intro X C F
  have C : Ok g X cX0_kind RX0 wsX0_kind ({ frames := 1, cells := 0, slots := 0, locals := 21 }) (some .int) 2 := C
  have hin : ∀ w ∈ wsX00, w ∈ wsX0_kind := fun _ h => List.mem_cons_of_mem _ (List.mem_append_right _ h)
  have lk16 : Cond.fieldLink RX0 16 "TokenRows" "kinds" "[I" ∈ wsX0_kind := by decide +kernel
  refine g_aload_n C dX0_kind_0 0 rfl ?_
  refine g_iload_n C dX0_kind_1 1 rfl ?_
  refine g_callVi (n := 1) C (c_X0_isToken g a aT aX tr n fed tx m ln fa T c hT hc x) gX0_kind_X0_isToken rfl rfl rfl rfl (by decide) (by decide) rfl (Nat.le_of_ble_eq_true rfl) dX0_kind_2 ?_
  refine g_if_eq C dX0_kind_5 (tgt := 17) (by decide) (fun c1 => ?_) (fun c1 => ?_)
  · refine g_iconst C dX0_kind_17 (v := 0) (by decide) ?_
    exact g_iret C F (by rw [if_neg (by rw [b01_0.mp c1]; decide)]) (rfl) dX0_kind_18
  · refine g_aload_n C dX0_kind_8 0 rfl ?_
    refine g_get0 C hin 0 rfl 7 (by decide) lk16 rfl dX0_kind_9 ?_
    refine g_iload_n C dX0_kind_12 1 rfl ?_
    refine g_iald C 3 rfl (bTok_in (b01_1.mp c1) hc) dX0_kind_13 ?_
    refine g_top (y := T.1 x.toNatClampNeg) (rfl) ?_
    refine g_goto C dX0_kind_14 (tgt := 18) (by decide) ?_
    exact g_iret C F (by rw [if_pos (b01_1.mp c1)]) (rfl) dX0_kind_18
set_option maxHeartbeats 4000000 in
set_option maxRecDepth 100000 in
theorem c_X0_from (g : Gl) (a : Nat → Nat) (aT aX : Nat) (tr : Nat → Int32) (n fed : Int32) (tx : Nat → Int32) (m ln fa : Int32) (T : TK) (c : Nat) (hT : T.2.2.2.2.2 = nI c) (hc : c ≤ 16000) (x : Int32) : Ctr g yX0_from wsX0_from ({ frames := 1, cells := 0, slots := 0, locals := 21 }) [.ref (a 0), .int x] (tw g a aT aX tr n fed tx m ln fa T) (some (.int (if bTok c x = true then T.2.1 x.toNatClampNeg else -1))) (tw g a aT aX tr n fed tx m ln fa T) 0 0 := by
  refine Ctr.start (cc := cX0_from) (maxL := 2) (ret := (some .int)) (by decide) rfl (Nat.le_of_ble_eq_true rfl) (lv0 := [(0, .ref (a 0)), (1, .int x)]) rfl ?_
  intro X C F
  have C : Ok g X cX0_from RX0 wsX0_from ({ frames := 1, cells := 0, slots := 0, locals := 21 }) (some .int) 2 := C
  have hin : ∀ w ∈ wsX00, w ∈ wsX0_from := fun _ h => List.mem_cons_of_mem _ (List.mem_append_right _ h)
  have lk20 : Cond.fieldLink RX0 20 "TokenRows" "starts" "[I" ∈ wsX0_from := by decide +kernel
  refine g_aload_n C dX0_from_0 0 rfl ?_
  refine g_iload_n C dX0_from_1 1 rfl ?_
  refine g_callVi (n := 1) C (c_X0_isToken g a aT aX tr n fed tx m ln fa T c hT hc x) gX0_from_X0_isToken rfl rfl rfl rfl (by decide) (by decide) rfl (Nat.le_of_ble_eq_true rfl) dX0_from_2 ?_
  refine g_if_eq C dX0_from_5 (tgt := 17) (by decide) (fun c1 => ?_) (fun c1 => ?_)
  · refine g_iconst C dX0_from_17 (v := (-1)) (by decide) ?_
    exact g_iret C F (by rw [if_neg (by rw [b01_0.mp c1]; decide)]) (rfl) dX0_from_18
  · refine g_aload_n C dX0_from_8 0 rfl ?_
    refine g_get0 C hin 0 rfl 8 (by decide) lk20 rfl dX0_from_9 ?_
    refine g_iload_n C dX0_from_12 1 rfl ?_
    refine g_iald C 4 rfl (bTok_in (b01_1.mp c1) hc) dX0_from_13 ?_
    refine g_top (y := T.2.1 x.toNatClampNeg) (rfl) ?_
    refine g_goto C dX0_from_14 (tgt := 18) (by decide) ?_
    exact g_iret C F (by rw [if_pos (b01_1.mp c1)]) (rfl) dX0_from_18
set_option maxHeartbeats 4000000 in
set_option maxRecDepth 100000 in
theorem c_X0_length (g : Gl) (a : Nat → Nat) (aT aX : Nat) (tr : Nat → Int32) (n fed : Int32) (tx : Nat → Int32) (m ln fa : Int32) (T : TK) (c : Nat) (hT : T.2.2.2.2.2 = nI c) (hc : c ≤ 16000) (x : Int32) : Ctr g yX0_length wsX0_length ({ frames := 1, cells := 0, slots := 0, locals := 21 }) [.ref (a 0), .int x] (tw g a aT aX tr n fed tx m ln fa T) (some (.int (if bTok c x = true then T.2.2.1 x.toNatClampNeg else 0))) (tw g a aT aX tr n fed tx m ln fa T) 0 0 := by
  refine Ctr.start (cc := cX0_length) (maxL := 2) (ret := (some .int)) (by decide) rfl (Nat.le_of_ble_eq_true rfl) (lv0 := [(0, .ref (a 0)), (1, .int x)]) rfl ?_
  intro X C F
  have C : Ok g X cX0_length RX0 wsX0_length ({ frames := 1, cells := 0, slots := 0, locals := 21 }) (some .int) 2 := C
  have hin : ∀ w ∈ wsX00, w ∈ wsX0_length := fun _ h => List.mem_cons_of_mem _ (List.mem_append_right _ h)
  have lk23 : Cond.fieldLink RX0 23 "TokenRows" "sizes" "[I" ∈ wsX0_length := by decide +kernel
  refine g_aload_n C dX0_length_0 0 rfl ?_
  refine g_iload_n C dX0_length_1 1 rfl ?_
  refine g_callVi (n := 1) C (c_X0_isToken g a aT aX tr n fed tx m ln fa T c hT hc x) gX0_length_X0_isToken rfl rfl rfl rfl (by decide) (by decide) rfl (Nat.le_of_ble_eq_true rfl) dX0_length_2 ?_
  refine g_if_eq C dX0_length_5 (tgt := 17) (by decide) (fun c1 => ?_) (fun c1 => ?_)
  · refine g_iconst C dX0_length_17 (v := 0) (by decide) ?_
    exact g_iret C F (by rw [if_neg (by rw [b01_0.mp c1]; decide)]) (rfl) dX0_length_18
  · refine g_aload_n C dX0_length_8 0 rfl ?_
    refine g_get0 C hin 0 rfl 9 (by decide) lk23 rfl dX0_length_9 ?_
    refine g_iload_n C dX0_length_12 1 rfl ?_
    refine g_iald C 5 rfl (bTok_in (b01_1.mp c1) hc) dX0_length_13 ?_
    refine g_top (y := T.2.2.1 x.toNatClampNeg) (rfl) ?_
    refine g_goto C dX0_length_14 (tgt := 18) (by decide) ?_
    exact g_iret C F (by rw [if_pos (b01_1.mp c1)]) (rfl) dX0_length_18
set_option maxHeartbeats 4000000 in
set_option maxRecDepth 100000 in
theorem c_X0_line (g : Gl) (a : Nat → Nat) (aT aX : Nat) (tr : Nat → Int32) (n fed : Int32) (tx : Nat → Int32) (m ln fa : Int32) (T : TK) (c : Nat) (hT : T.2.2.2.2.2 = nI c) (hc : c ≤ 16000) (x : Int32) : Ctr g yX0_line wsX0_line ({ frames := 1, cells := 0, slots := 0, locals := 21 }) [.ref (a 0), .int x] (tw g a aT aX tr n fed tx m ln fa T) (some (.int (if bTok c x = true then T.2.2.2.1 x.toNatClampNeg else 0))) (tw g a aT aX tr n fed tx m ln fa T) 0 0 := by
  refine Ctr.start (cc := cX0_line) (maxL := 2) (ret := (some .int)) (by decide) rfl (Nat.le_of_ble_eq_true rfl) (lv0 := [(0, .ref (a 0)), (1, .int x)]) rfl ?_
  intro X C F
  have C : Ok g X cX0_line RX0 wsX0_line ({ frames := 1, cells := 0, slots := 0, locals := 21 }) (some .int) 2 := C
  have hin : ∀ w ∈ wsX00, w ∈ wsX0_line := fun _ h => List.mem_cons_of_mem _ (List.mem_append_right _ h)
  have lk26 : Cond.fieldLink RX0 26 "TokenRows" "lines" "[I" ∈ wsX0_line := by decide +kernel
  refine g_aload_n C dX0_line_0 0 rfl ?_
  refine g_iload_n C dX0_line_1 1 rfl ?_
  refine g_callVi (n := 1) C (c_X0_isToken g a aT aX tr n fed tx m ln fa T c hT hc x) gX0_line_X0_isToken rfl rfl rfl rfl (by decide) (by decide) rfl (Nat.le_of_ble_eq_true rfl) dX0_line_2 ?_
  refine g_if_eq C dX0_line_5 (tgt := 17) (by decide) (fun c1 => ?_) (fun c1 => ?_)
  · refine g_iconst C dX0_line_17 (v := 0) (by decide) ?_
    exact g_iret C F (by rw [if_neg (by rw [b01_0.mp c1]; decide)]) (rfl) dX0_line_18
  · refine g_aload_n C dX0_line_8 0 rfl ?_
    refine g_get0 C hin 0 rfl 10 (by decide) lk26 rfl dX0_line_9 ?_
    refine g_iload_n C dX0_line_12 1 rfl ?_
    refine g_iald C 6 rfl (bTok_in (b01_1.mp c1) hc) dX0_line_13 ?_
    refine g_top (y := T.2.2.2.1 x.toNatClampNeg) (rfl) ?_
    refine g_goto C dX0_line_14 (tgt := 18) (by decide) ?_
    exact g_iret C F (by rw [if_pos (b01_1.mp c1)]) (rfl) dX0_line_18
set_option maxHeartbeats 4000000 in
set_option maxRecDepth 100000 in
theorem c_X0_worth (g : Gl) (a : Nat → Nat) (aT aX : Nat) (tr : Nat → Int32) (n fed : Int32) (tx : Nat → Int32) (m ln fa : Int32) (T : TK) (c : Nat) (hT : T.2.2.2.2.2 = nI c) (hc : c ≤ 16000) (x : Int32) : Ctr g yX0_worth wsX0_worth ({ frames := 2, cells := 0, slots := 0, locals := 43 }) [.ref (a 0), .int x] (tw g a aT aX tr n fed tx m ln fa T) (some (.int (if (bTok c x && decide (T.1 x.toNatClampNeg = 2)) = true then T.2.2.2.2.1 x.toNatClampNeg else 0))) (tw g a aT aX tr n fed tx m ln fa T) 0 0 := by
  refine Ctr.start (cc := cX0_worth) (maxL := 2) (ret := (some .int)) (by decide) rfl (Nat.le_of_ble_eq_true rfl) (lv0 := [(0, .ref (a 0)), (1, .int x)]) rfl ?_
  intro X C F
  have C : Ok g X cX0_worth RX0 wsX0_worth ({ frames := 2, cells := 0, slots := 0, locals := 43 }) (some .int) 2 := C
  have hin : ∀ w ∈ wsX00, w ∈ wsX0_worth := fun _ h => List.mem_cons_of_mem _ (List.mem_append_right _ h)
  have lk29 : Cond.fieldLink RX0 29 "TokenRows" "tells" "[I" ∈ wsX0_worth := by decide +kernel
  refine g_aload_n C dX0_worth_0 0 rfl ?_
  refine g_iload_n C dX0_worth_1 1 rfl ?_
  refine g_iconst C dX0_worth_2 (v := 2) (by decide) ?_
  refine g_callVi (n := 2) C (c_X0_isOfKind g a aT aX tr n fed tx m ln fa T c hT hc x 2) gX0_worth_X0_isOfKind rfl rfl rfl rfl (by decide) (by decide) rfl (Nat.le_of_ble_eq_true rfl) dX0_worth_3 ?_
  refine g_if_eq C dX0_worth_6 (tgt := 18) (by decide) (fun c1 => ?_) (fun c1 => ?_)
  · refine g_iconst C dX0_worth_18 (v := 0) (by decide) ?_
    exact g_iret C F (by rw [if_neg (by rw [b01_0.mp c1]; decide)]) (rfl) dX0_worth_19
  · refine g_aload_n C dX0_worth_9 0 rfl ?_
    refine g_get0 C hin 0 rfl 11 (by decide) lk29 rfl dX0_worth_10 ?_
    refine g_iload_n C dX0_worth_13 1 rfl ?_
    refine g_iald C 7 rfl (bTok_in (Bool.and_eq_true_iff.mp (b01_1.mp c1)).1 hc) dX0_worth_14 ?_
    refine g_top (y := T.2.2.2.2.1 x.toNatClampNeg) (rfl) ?_
    refine g_goto C dX0_worth_15 (tgt := 19) (by decide) ?_
    exact g_iret C F (by rw [if_pos (b01_1.mp c1)]) (rfl) dX0_worth_19
set_option maxHeartbeats 4000000 in
set_option maxRecDepth 100000 in
theorem c_X0_codes (g : Gl) (a : Nat → Nat) (aT aX : Nat) (tr : Nat → Int32) (n fed : Int32) (tx : Nat → Int32) (m ln fa : Int32) (T : TK) (c : Nat) (hT : T.2.2.2.2.2 = nI c) (hc : c ≤ 16000) (x : Int32) : Ctr g yX0_codes wsX0_codes ({ frames := 2, cells := 0, slots := 0, locals := 43 }) [.ref (a 0), .int x] (tw g a aT aX tr n fed tx m ln fa T) (some (.int (if (bTok c x && decide (T.1 x.toNatClampNeg = 3)) = true then T.2.2.2.2.1 x.toNatClampNeg else -1))) (tw g a aT aX tr n fed tx m ln fa T) 0 0 := by
  refine Ctr.start (cc := cX0_codes) (maxL := 2) (ret := (some .int)) (by decide) rfl (Nat.le_of_ble_eq_true rfl) (lv0 := [(0, .ref (a 0)), (1, .int x)]) rfl ?_
  intro X C F
  have C : Ok g X cX0_codes RX0 wsX0_codes ({ frames := 2, cells := 0, slots := 0, locals := 43 }) (some .int) 2 := C
  have hin : ∀ w ∈ wsX00, w ∈ wsX0_codes := fun _ h => List.mem_cons_of_mem _ (List.mem_append_right _ h)
  have lk29 : Cond.fieldLink RX0 29 "TokenRows" "tells" "[I" ∈ wsX0_codes := by decide +kernel
  refine g_aload_n C dX0_codes_0 0 rfl ?_
  refine g_iload_n C dX0_codes_1 1 rfl ?_
  refine g_iconst C dX0_codes_2 (v := 3) (by decide) ?_
  refine g_callVi (n := 2) C (c_X0_isOfKind g a aT aX tr n fed tx m ln fa T c hT hc x 3) gX0_codes_X0_isOfKind rfl rfl rfl rfl (by decide) (by decide) rfl (Nat.le_of_ble_eq_true rfl) dX0_codes_3 ?_
  refine g_if_eq C dX0_codes_6 (tgt := 18) (by decide) (fun c1 => ?_) (fun c1 => ?_)
  · refine g_iconst C dX0_codes_18 (v := (-1)) (by decide) ?_
    exact g_iret C F (by rw [if_neg (by rw [b01_0.mp c1]; decide)]) (rfl) dX0_codes_19
  · refine g_aload_n C dX0_codes_9 0 rfl ?_
    refine g_get0 C hin 0 rfl 11 (by decide) lk29 rfl dX0_codes_10 ?_
    refine g_iload_n C dX0_codes_13 1 rfl ?_
    refine g_iald C 7 rfl (bTok_in (Bool.and_eq_true_iff.mp (b01_1.mp c1)).1 hc) dX0_codes_14 ?_
    refine g_top (y := T.2.2.2.2.1 x.toNatClampNeg) (rfl) ?_
    refine g_goto C dX0_codes_15 (tgt := 19) (by decide) ?_
    exact g_iret C F (by rw [if_pos (b01_1.mp c1)]) (rfl) dX0_codes_19
set_option maxHeartbeats 4000000 in
set_option maxRecDepth 100000 in
theorem c_X0_which (g : Gl) (a : Nat → Nat) (aT aX : Nat) (tr : Nat → Int32) (n fed : Int32) (tx : Nat → Int32) (m ln fa : Int32) (T : TK) (c : Nat) (hT : T.2.2.2.2.2 = nI c) (hc : c ≤ 16000) (x : Int32) : Ctr g yX0_which wsX0_which ({ frames := 2, cells := 0, slots := 0, locals := 43 }) [.ref (a 0), .int x] (tw g a aT aX tr n fed tx m ln fa T) (some (.int (if (bTok c x && decide (T.1 x.toNatClampNeg = 4)) = true ∨ (bTok c x && decide (T.1 x.toNatClampNeg = 5)) = true then T.2.2.2.2.1 x.toNatClampNeg else -1))) (tw g a aT aX tr n fed tx m ln fa T) 0 0 := by
  refine Ctr.start (cc := cX0_which) (maxL := 2) (ret := (some .int)) (by decide) rfl (Nat.le_of_ble_eq_true rfl) (lv0 := [(0, .ref (a 0)), (1, .int x)]) rfl ?_
  intro X C F
  have C : Ok g X cX0_which RX0 wsX0_which ({ frames := 2, cells := 0, slots := 0, locals := 43 }) (some .int) 2 := C
  have hin : ∀ w ∈ wsX00, w ∈ wsX0_which := fun _ h => List.mem_cons_of_mem _ (List.mem_append_right _ h)
  have lk29 : Cond.fieldLink RX0 29 "TokenRows" "tells" "[I" ∈ wsX0_which := by decide +kernel
  refine g_aload_n C dX0_which_0 0 rfl ?_
  refine g_iload_n C dX0_which_1 1 rfl ?_
  refine g_iconst C dX0_which_2 (v := 4) (by decide) ?_
  refine g_callVi (n := 2) C (c_X0_isOfKind g a aT aX tr n fed tx m ln fa T c hT hc x 4) gX0_which_X0_isOfKind rfl rfl rfl rfl (by decide) (by decide) rfl (Nat.le_of_ble_eq_true rfl) dX0_which_3 ?_
  refine g_if_ne C dX0_which_6 (tgt := 18) (by decide) (fun c1 => ?_) (fun c1 => ?_)
  · refine g_aload_n C dX0_which_18 0 rfl ?_
    refine g_get0 C hin 0 rfl 11 (by decide) lk29 rfl dX0_which_19 ?_
    refine g_iload_n C dX0_which_22 1 rfl ?_
    refine g_iald C 7 rfl (bTok_in (Bool.and_eq_true_iff.mp (b01_1.mp c1)).1 hc) dX0_which_23 ?_
    refine g_top (y := T.2.2.2.2.1 x.toNatClampNeg) (rfl) ?_
    refine g_goto C dX0_which_24 (tgt := 28) (by decide) ?_
    exact g_iret C F (by rw [if_pos (Or.inl (b01_1.mp c1))]) (rfl) dX0_which_28
  · refine g_aload_n C dX0_which_9 0 rfl ?_
    refine g_iload_n C dX0_which_10 1 rfl ?_
    refine g_iconst C dX0_which_11 (v := 5) (by decide) ?_
    refine g_callVi (n := 2) C (c_X0_isOfKind g a aT aX tr n fed tx m ln fa T c hT hc x 5) gX0_which_X0_isOfKind rfl rfl rfl rfl (by decide) (by decide) rfl (Nat.le_of_ble_eq_true rfl) dX0_which_12 ?_
    refine g_if_eq C dX0_which_15 (tgt := 27) (by decide) (fun c2 => ?_) (fun c2 => ?_)
    · refine g_iconst C dX0_which_27 (v := (-1)) (by decide) ?_
      exact g_iret C F (by rw [if_neg (fun z => by rw [b01_0.mp c1, b01_0.mp c2] at z; exact absurd z (by decide))]) (rfl) dX0_which_28
    · refine g_aload_n C dX0_which_18 0 rfl ?_
      refine g_get0 C hin 0 rfl 11 (by decide) lk29 rfl dX0_which_19 ?_
      refine g_iload_n C dX0_which_22 1 rfl ?_
      refine g_iald C 7 rfl (bTok_in (Bool.and_eq_true_iff.mp (b01_1.mp c2)).1 hc) dX0_which_23 ?_
      refine g_top (y := T.2.2.2.2.1 x.toNatClampNeg) (rfl) ?_
      refine g_goto C dX0_which_24 (tgt := 28) (by decide) ?_
      exact g_iret C F (by rw [if_pos (Or.inr (b01_1.mp c2))]) (rfl) dX0_which_28
