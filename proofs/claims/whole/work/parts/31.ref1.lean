theorem mb_g (x a b : Int32) (k : Nat) (hk : k ≤ 24) (ha : (a.toBitVec.smod 32).toNat = k) (hb : ((b.toUInt32 &&& Int32.toUInt32 31).toBitVec % 32).toNat = k) : (x >>> a).toInt8 = ((x.toUInt32 >>> (b.toUInt32 &&& Int32.toUInt32 31)).toInt32).toInt8 := by
  apply Int8.toBitVec_inj.mp
  rw [Int32.toBitVec_toInt8, Int32.toBitVec_toInt8]
  apply BitVec.eq_of_getLsbD_eq
  intro i hi
  have h1 : (x >>> a).toBitVec.getLsbD i = x.toBitVec.getLsbD (k + i) := by
    rw [Int32.toBitVec_shiftRight]
    show (x.toBitVec.sshiftRight (a.toBitVec.smod 32).toNat).getLsbD i = _
    rw [ha, BitVec.getLsbD_sshiftRight, if_pos (by omega)]
    simp; omega
  have h2 : ((x.toUInt32 >>> (b.toUInt32 &&& Int32.toUInt32 31)).toInt32).toBitVec.getLsbD i = x.toBitVec.getLsbD (k + i) := by
    show (x.toUInt32 >>> (b.toUInt32 &&& Int32.toUInt32 31)).toBitVec.getLsbD i = x.toUInt32.toBitVec.getLsbD (k + i)
    rw [UInt32.toBitVec_shiftRight]
    show (x.toUInt32.toBitVec >>> ((b.toUInt32 &&& Int32.toUInt32 31).toBitVec % 32).toNat).getLsbD i = _
    rw [hb, BitVec.getLsbD_ushiftRight]
  rw [BitVec.getLsbD_signExtend, BitVec.getLsbD_signExtend, if_pos (by omega), if_pos (by omega), h1, h2]
theorem cb_nar (x : Int32) (k : Nat) : vp_nar .byte (cb x k) = cb x k := by
  match k with
  | 0 => exact pk_vb _
  | 1 => exact pk_vb _
  | 2 => exact pk_vb _
  | k + 3 => exact pk_vb _
theorem mb_0 (x : Int32) : (x >>> (((24 : Int32) - 8 * nI 0) &&& 31)).toInt8.toInt32 = cb x 0 := by
  have h : (x >>> ((24 - 8 * nI 0) &&& 31)).toInt8 = ((x.toUInt32 >>> (Int32.toUInt32 24 &&& Int32.toUInt32 31)).toInt32).toInt8 := mb_g x _ _ 24 (by omega) (by decide) (by decide)
  rw [h]; rfl
theorem mb_1 (x : Int32) : (x >>> (((24 : Int32) - 8 * nI (0 + 1)) &&& 31)).toInt8.toInt32 = cb x 1 := by
  have h : (x >>> ((24 - 8 * nI (0 + 1)) &&& 31)).toInt8 = ((x.toUInt32 >>> (Int32.toUInt32 16 &&& Int32.toUInt32 31)).toInt32).toInt8 := mb_g x _ _ 16 (by omega) (by decide) (by decide)
  rw [h]; rfl
theorem mb_2 (x : Int32) : (x >>> (((24 : Int32) - 8 * nI (0 + 1 + 1)) &&& 31)).toInt8.toInt32 = cb x 2 := by
  have h : (x >>> ((24 - 8 * nI (0 + 1 + 1)) &&& 31)).toInt8 = ((x.toUInt32 >>> (Int32.toUInt32 8 &&& Int32.toUInt32 31)).toInt32).toInt8 := mb_g x _ _ 8 (by omega) (by decide) (by decide)
  rw [h]; rfl
theorem mb_3 (x : Int32) : (x >>> (((24 : Int32) - 8 * nI (0 + 1 + 1 + 1)) &&& 31)).toInt8.toInt32 = cb x 3 := by
  rw [show ((24 : Int32) - 8 * nI (0 + 1 + 1 + 1)) = 0 from by decide, sb_shr0]; rfl
set_option maxHeartbeats 4000000 in
set_option maxRecDepth 100000 in
theorem c_X1_four (g : Gl) (b : Nat → Nat) (tr : Nat → Int32) (fed : Int32) (tx : Nat → Int32) (m : Int32) (ks fs ts : Nat → Int32) (ct pl : Int32) (t : Nat) (ht : t + 4 ≤ 16000) (x : Int32) : Ctr g yX1_four wsX1_four ({ frames := 0, cells := 0, slots := 0, locals := 0 }) [.ref (b 0), .int x] (mw g b tr (nI t) fed tx m ks fs ts ct pl) (none) (mw g b (put4 tr t x) (nI (t + 4)) fed tx m ks fs ts ct pl) 0 0 := by
  refine Ctr.start (cc := cX1_four) (maxL := 3) (ret := none) (by decide) rfl (Nat.le_of_ble_eq_true rfl) (lv0 := [(0, .ref (b 0)), (1, .int x)]) rfl ?_
  intro X C F
  have C : Ok g X cX1_four RX1 wsX1_four ({ frames := 0, cells := 0, slots := 0, locals := 0 }) none 3 := C
  have hin : ∀ w ∈ wsX10, w ∈ wsX1_four := fun _ h => List.mem_cons_of_mem _ (List.mem_append_right _ h)
  have lk30 : Cond.fieldLink RX1 30 "TokenRowsModel" "trayed" "I" ∈ wsX1_four := by decide +kernel
  have lk9 : Cond.fieldLink RX1 9 "TokenRowsModel" "tray" "[B" ∈ wsX1_four := by decide +kernel
  refine g_iconst C dX1_four_0 (v := nI 0) (by decide) ?_
  refine g_istore_n (lv' := [(2, .int (nI 0)), (0, .ref (b 0)), (1, .int x)]) C dX1_four_1 (by decide) rfl ?_
  refine g_iload_n C dX1_four_2 0 rfl ?_
  refine g_iconst C dX1_four_3 (v := 4) (by decide) ?_
  refine g_icmp_ge C dX1_four_4 (tgt := 42) (by decide) (fun c1 => ?_) (fun c1 => ?_)
  · exact absurd c1 (by decide)
  · refine g_aload_n C dX1_four_7 1 rfl ?_
    refine g_get1 C hin 0 rfl 0 (by decide) lk9 rfl dX1_four_8 ?_
    refine g_aload_n C dX1_four_11 1 rfl ?_
    refine g_get1 C hin 0 rfl 1 (by decide) lk30 rfl dX1_four_12 ?_
    refine g_iload_n C dX1_four_15 2 rfl ?_
    refine g_bipush C dX1_four_16 (v := 24) (by decide) ?_
    refine g_bipush C dX1_four_18 (v := 8) (by decide) ?_
    refine g_iload_n C dX1_four_20 0 rfl ?_
    refine g_imul C dX1_four_21 ?_
    refine g_isub C dX1_four_22 ?_
    refine g_ishr C dX1_four_23 ?_
    refine g_i2b C dX1_four_24 (v := cb x 0) (mb_0 x) ?_
    refine g_bast (v := cb x 0) (ws' := (mw g b (upd tr t (cb x 0)) (nI t) fed tx m ks fs ts ct pl)) C 1 rfl (vp_in_nI (by omega) (by omega)) (cb_nar x 0) (by rw [nI_clamp (by omega)]; rfl) dX1_four_25 ?_
    refine g_aload_n C dX1_four_26 1 rfl ?_
    refine g_dup C dX1_four_27 rfl ?_
    refine g_get1 C hin 0 rfl 1 (by decide) lk30 rfl dX1_four_28 ?_
    refine g_iconst C dX1_four_31 (v := 1) (by decide) ?_
    refine g_iadd C dX1_four_32 ?_
    refine g_top (nI_add t 1) ?_
    refine g_top (y := nI (t + 1)) (by congr 1) ?_
    refine g_put1 (ws' := (mw g b (upd tr t (cb x 0)) (nI (t + 1)) fed tx m ks fs ts ct pl)) C hin 0 rfl 1 (by decide) lk30 rfl rfl rfl (Nat.le_of_ble_eq_true rfl) rfl dX1_four_33 ?_
    refine g_iinc (o := 0) (v := nI (0 + 1)) (lv' := [(2, .int (nI (0 + 1))), (0, .ref (b 0)), (1, .int x)]) C dX1_four_36 rfl (nI_add 0 1) (by decide) rfl ?_
    refine g_goto C dX1_four_39 (tgt := 2) (by decide) ?_
    refine g_iload_n C dX1_four_2 0 rfl ?_
    refine g_iconst C dX1_four_3 (v := 4) (by decide) ?_
    refine g_icmp_ge C dX1_four_4 (tgt := 42) (by decide) (fun c2 => ?_) (fun c2 => ?_)
    · exact absurd c2 (by decide)
    · refine g_aload_n C dX1_four_7 1 rfl ?_
      refine g_get1 C hin 0 rfl 0 (by decide) lk9 rfl dX1_four_8 ?_
      refine g_aload_n C dX1_four_11 1 rfl ?_
      refine g_get1 C hin 0 rfl 1 (by decide) lk30 rfl dX1_four_12 ?_
      refine g_iload_n C dX1_four_15 2 rfl ?_
      refine g_bipush C dX1_four_16 (v := 24) (by decide) ?_
      refine g_bipush C dX1_four_18 (v := 8) (by decide) ?_
      refine g_iload_n C dX1_four_20 0 rfl ?_
      refine g_imul C dX1_four_21 ?_
      refine g_isub C dX1_four_22 ?_
      refine g_ishr C dX1_four_23 ?_
      refine g_i2b C dX1_four_24 (v := cb x 1) (mb_1 x) ?_
      refine g_bast (v := cb x 1) (ws' := (mw g b (upd (upd tr t (cb x 0)) (t + 1) (cb x 1)) (nI (t + 1)) fed tx m ks fs ts ct pl)) C 1 rfl (vp_in_nI (by omega) (by omega)) (cb_nar x 1) (by rw [nI_clamp (by omega)]; rfl) dX1_four_25 ?_
      refine g_aload_n C dX1_four_26 1 rfl ?_
      refine g_dup C dX1_four_27 rfl ?_
      refine g_get1 C hin 0 rfl 1 (by decide) lk30 rfl dX1_four_28 ?_
      refine g_iconst C dX1_four_31 (v := 1) (by decide) ?_
      refine g_iadd C dX1_four_32 ?_
      refine g_top (nI_add (t + 1) 1) ?_
      refine g_top (y := nI (t + 2)) (by congr 1) ?_
      refine g_put1 (ws' := (mw g b (upd (upd tr t (cb x 0)) (t + 1) (cb x 1)) (nI (t + 2)) fed tx m ks fs ts ct pl)) C hin 0 rfl 1 (by decide) lk30 rfl rfl rfl (Nat.le_of_ble_eq_true rfl) rfl dX1_four_33 ?_
      refine g_iinc (o := 0) (v := nI (0 + 1 + 1)) (lv' := [(2, .int (nI (0 + 1 + 1))), (0, .ref (b 0)), (1, .int x)]) C dX1_four_36 rfl (nI_add (0 + 1) 1) (by decide) rfl ?_
      refine g_goto C dX1_four_39 (tgt := 2) (by decide) ?_
      refine g_iload_n C dX1_four_2 0 rfl ?_
      refine g_iconst C dX1_four_3 (v := 4) (by decide) ?_
      refine g_icmp_ge C dX1_four_4 (tgt := 42) (by decide) (fun c3 => ?_) (fun c3 => ?_)
      · exact absurd c3 (by decide)
      · refine g_aload_n C dX1_four_7 1 rfl ?_
        refine g_get1 C hin 0 rfl 0 (by decide) lk9 rfl dX1_four_8 ?_
        refine g_aload_n C dX1_four_11 1 rfl ?_
        refine g_get1 C hin 0 rfl 1 (by decide) lk30 rfl dX1_four_12 ?_
        refine g_iload_n C dX1_four_15 2 rfl ?_
        refine g_bipush C dX1_four_16 (v := 24) (by decide) ?_
        refine g_bipush C dX1_four_18 (v := 8) (by decide) ?_
        refine g_iload_n C dX1_four_20 0 rfl ?_
        refine g_imul C dX1_four_21 ?_
        refine g_isub C dX1_four_22 ?_
        refine g_ishr C dX1_four_23 ?_
        refine g_i2b C dX1_four_24 (v := cb x 2) (mb_2 x) ?_
        refine g_bast (v := cb x 2) (ws' := (mw g b (upd (upd (upd tr t (cb x 0)) (t + 1) (cb x 1)) (t + 2) (cb x 2)) (nI (t + 2)) fed tx m ks fs ts ct pl)) C 1 rfl (vp_in_nI (by omega) (by omega)) (cb_nar x 2) (by rw [nI_clamp (by omega)]; rfl) dX1_four_25 ?_
        refine g_aload_n C dX1_four_26 1 rfl ?_
        refine g_dup C dX1_four_27 rfl ?_
        refine g_get1 C hin 0 rfl 1 (by decide) lk30 rfl dX1_four_28 ?_
        refine g_iconst C dX1_four_31 (v := 1) (by decide) ?_
        refine g_iadd C dX1_four_32 ?_
        refine g_top (nI_add (t + 2) 1) ?_
        refine g_top (y := nI (t + 3)) (by congr 1) ?_
        refine g_put1 (ws' := (mw g b (upd (upd (upd tr t (cb x 0)) (t + 1) (cb x 1)) (t + 2) (cb x 2)) (nI (t + 3)) fed tx m ks fs ts ct pl)) C hin 0 rfl 1 (by decide) lk30 rfl rfl rfl (Nat.le_of_ble_eq_true rfl) rfl dX1_four_33 ?_
        refine g_iinc (o := 0) (v := nI (0 + 1 + 1 + 1)) (lv' := [(2, .int (nI (0 + 1 + 1 + 1))), (0, .ref (b 0)), (1, .int x)]) C dX1_four_36 rfl (nI_add (0 + 1 + 1) 1) (by decide) rfl ?_
        refine g_goto C dX1_four_39 (tgt := 2) (by decide) ?_
        refine g_iload_n C dX1_four_2 0 rfl ?_
        refine g_iconst C dX1_four_3 (v := 4) (by decide) ?_
        refine g_icmp_ge C dX1_four_4 (tgt := 42) (by decide) (fun c4 => ?_) (fun c4 => ?_)
        · exact absurd c4 (by decide)
        · refine g_aload_n C dX1_four_7 1 rfl ?_
          refine g_get1 C hin 0 rfl 0 (by decide) lk9 rfl dX1_four_8 ?_
          refine g_aload_n C dX1_four_11 1 rfl ?_
          refine g_get1 C hin 0 rfl 1 (by decide) lk30 rfl dX1_four_12 ?_
          refine g_iload_n C dX1_four_15 2 rfl ?_
          refine g_bipush C dX1_four_16 (v := 24) (by decide) ?_
          refine g_bipush C dX1_four_18 (v := 8) (by decide) ?_
          refine g_iload_n C dX1_four_20 0 rfl ?_
          refine g_imul C dX1_four_21 ?_
          refine g_isub C dX1_four_22 ?_
          refine g_ishr C dX1_four_23 ?_
          refine g_i2b C dX1_four_24 (v := cb x 3) (mb_3 x) ?_
          refine g_bast (v := cb x 3) (ws' := (mw g b (upd (upd (upd (upd tr t (cb x 0)) (t + 1) (cb x 1)) (t + 2) (cb x 2)) (t + 3) (cb x 3)) (nI (t + 3)) fed tx m ks fs ts ct pl)) C 1 rfl (vp_in_nI (by omega) (by omega)) (cb_nar x 3) (by rw [nI_clamp (by omega)]; rfl) dX1_four_25 ?_
          refine g_aload_n C dX1_four_26 1 rfl ?_
          refine g_dup C dX1_four_27 rfl ?_
          refine g_get1 C hin 0 rfl 1 (by decide) lk30 rfl dX1_four_28 ?_
          refine g_iconst C dX1_four_31 (v := 1) (by decide) ?_
          refine g_iadd C dX1_four_32 ?_
          refine g_top (nI_add (t + 3) 1) ?_
          refine g_top (y := nI (t + 4)) (by congr 1) ?_
          refine g_put1 (ws' := (mw g b (upd (upd (upd (upd tr t (cb x 0)) (t + 1) (cb x 1)) (t + 2) (cb x 2)) (t + 3) (cb x 3)) (nI (t + 4)) fed tx m ks fs ts ct pl)) C hin 0 rfl 1 (by decide) lk30 rfl rfl rfl (Nat.le_of_ble_eq_true rfl) rfl dX1_four_33 ?_
          refine g_iinc (o := 0) (v := nI (0 + 1 + 1 + 1 + 1)) (lv' := [(2, .int (nI (0 + 1 + 1 + 1 + 1))), (0, .ref (b 0)), (1, .int x)]) C dX1_four_36 rfl (nI_add (0 + 1 + 1 + 1) 1) (by decide) rfl ?_
          refine g_goto C dX1_four_39 (tgt := 2) (by decide) ?_
          refine g_iload_n C dX1_four_2 0 rfl ?_
          refine g_iconst C dX1_four_3 (v := 4) (by decide) ?_
          refine g_icmp_ge C dX1_four_4 (tgt := 42) (by decide) (fun c5 => ?_) (fun c5 => ?_)
          · exact g_vret C F (rfl) dX1_four_42
          · exact absurd (by decide) c5
set_option maxHeartbeats 4000000 in
set_option maxRecDepth 100000 in
theorem c_X1_feed (g : Gl) (b : Nat → Nat) (tr : Nat → Int32) (tx : Nat → Int32) (m : Int32) (ks fs ts : Nat → Int32) (ct pl : Int32) (t f : Nat) (ht : t ≤ 16000) (hf : f ≤ 65536) (x y z u v : Int32) (h : t + 20 ≤ 16000 ∧ f + 20 ≤ 65536) : Ctr g yX1_feed wsX1_feed ({ frames := 1, cells := 0, slots := 0, locals := 22 }) [.ref (b 0), .int x, .int y, .int z, .int u, .int v] (mw g b tr (nI t) (nI f) tx m ks fs ts ct pl) (some (.int (nI (t + 20)))) (mw g b (put20 tr t x y z u v) (nI (t + 20)) (nI (f + 20)) tx m ks fs ts ct pl) 0 0 := by
  refine Ctr.start (cc := cX1_feed) (maxL := 6) (ret := (some .int)) (by decide) rfl (Nat.le_of_ble_eq_true rfl) (lv0 := [(0, .ref (b 0)), (1, .int x), (2, .int y), (3, .int z), (4, .int u), (5, .int v)]) rfl ?_
  intro X C F
  have C : Ok g X cX1_feed RX1 wsX1_feed ({ frames := 1, cells := 0, slots := 0, locals := 22 }) (some .int) 6 := C
  have hin : ∀ w ∈ wsX10, w ∈ wsX1_feed := fun _ h => List.mem_cons_of_mem _ (List.mem_append_right _ h)
  have lc36 : Cond.constant RX1 36 (65536) ∈ wsX1_feed := by decide +kernel
  have lk30 : Cond.fieldLink RX1 30 "TokenRowsModel" "trayed" "I" ∈ wsX1_feed := by decide +kernel
  have lk33 : Cond.fieldLink RX1 33 "TokenRowsModel" "fed" "I" ∈ wsX1_feed := by decide +kernel
  refine g_aload_n C dX1_feed_0 0 rfl ?_
  refine g_get1 C hin 0 rfl 1 (by decide) lk30 rfl dX1_feed_1 ?_
  refine g_bipush C dX1_feed_4 (v := 20) (by decide) ?_
  refine g_iadd C dX1_feed_6 ?_
  refine g_top (nI_add t 20) ?_
  refine g_sipush C dX1_feed_7 (v := 16000) (by decide) ?_
  refine g_icmp_gt C dX1_feed_10 (tgt := 25) (by decide) (fun c1 => ?_) (fun c1 => ?_)
  · have q1 : 16000 < t + 20 := (nI_ltI (a := 16000) (by omega) (by omega)).mp c1
    omega
  · have q1 : ¬ 16000 < t + 20 := fun z => c1 (nI_lt (a := 16000) z (by omega))
    refine g_aload_n C dX1_feed_13 0 rfl ?_
    refine g_get1 C hin 0 rfl 2 (by decide) lk33 rfl dX1_feed_14 ?_
    refine g_bipush C dX1_feed_17 (v := 20) (by decide) ?_
    refine g_iadd C dX1_feed_19 ?_
    refine g_top (nI_add f 20) ?_
    refine g_ldc C dX1_feed_20 (v := 65536) lc36 ?_
    refine g_icmp_le C dX1_feed_22 (tgt := 27) (by decide) (fun c2 => ?_) (fun c2 => ?_)
    · have q2 : f + 20 ≤ 65536 := (nI_leI (b := 65536) (by omega) (by omega)).mp c2
      refine g_aload_n C dX1_feed_27 0 rfl ?_
      refine g_iload_n C dX1_feed_28 1 rfl ?_
      refine g_callVv (n := 1) C (c_X1_four g b tr (nI f) tx m ks fs ts ct pl t (by omega) x) gX1_feed_X1_four rfl rfl rfl rfl (by decide) (by decide) rfl (Nat.le_of_ble_eq_true rfl) dX1_feed_29 ?_
      refine g_aload_n C dX1_feed_32 0 rfl ?_
      refine g_iload_n C dX1_feed_33 2 rfl ?_
      refine g_callVv (n := 1) C (c_X1_four g b (put4 tr t x) (nI f) tx m ks fs ts ct pl (t + 4) (by omega) y) gX1_feed_X1_four rfl rfl rfl rfl (by decide) (by decide) rfl (Nat.le_of_ble_eq_true rfl) dX1_feed_34 ?_
      refine g_aload_n C dX1_feed_37 0 rfl ?_
      refine g_iload_n C dX1_feed_38 3 rfl ?_
      refine g_callVv (n := 1) C (c_X1_four g b (put4 (put4 tr t x) (t + 4) y) (nI f) tx m ks fs ts ct pl (t + 8) (by omega) z) gX1_feed_X1_four rfl rfl rfl rfl (by decide) (by decide) rfl (Nat.le_of_ble_eq_true rfl) dX1_feed_39 ?_
      refine g_aload_n C dX1_feed_42 0 rfl ?_
      refine g_iload C dX1_feed_43 4 rfl ?_
      refine g_callVv (n := 1) C (c_X1_four g b (put4 (put4 (put4 tr t x) (t + 4) y) (t + 8) z) (nI f) tx m ks fs ts ct pl (t + 12) (by omega) u) gX1_feed_X1_four rfl rfl rfl rfl (by decide) (by decide) rfl (Nat.le_of_ble_eq_true rfl) dX1_feed_45 ?_
      refine g_aload_n C dX1_feed_48 0 rfl ?_
      refine g_iload C dX1_feed_49 5 rfl ?_
      refine g_callVv (n := 1) C (c_X1_four g b (put4 (put4 (put4 (put4 tr t x) (t + 4) y) (t + 8) z) (t + 12) u) (nI f) tx m ks fs ts ct pl (t + 16) (by omega) v) gX1_feed_X1_four rfl rfl rfl rfl (by decide) (by decide) rfl (Nat.le_of_ble_eq_true rfl) dX1_feed_51 ?_
      refine g_aload_n C dX1_feed_54 0 rfl ?_
      refine g_dup C dX1_feed_55 rfl ?_
      refine g_get1 C hin 0 rfl 2 (by decide) lk33 rfl dX1_feed_56 ?_
      refine g_bipush C dX1_feed_59 (v := 20) (by decide) ?_
      refine g_iadd C dX1_feed_61 ?_
      refine g_top (nI_add f 20) ?_
      refine g_put1 (ws' := (mw g b (put4 (put4 (put4 (put4 (put4 tr t x) (t + 4) y) (t + 8) z) (t + 12) u) (t + 16) v) (nI (t + 20)) (nI (f + 20)) tx m ks fs ts ct pl)) C hin 0 rfl 2 (by decide) lk33 rfl rfl rfl (Nat.le_of_ble_eq_true rfl) rfl dX1_feed_62 ?_
      refine g_aload_n C dX1_feed_65 0 rfl ?_
      refine g_get1 C hin 0 rfl 1 (by decide) lk30 rfl dX1_feed_66 ?_
      exact g_iret C F (rfl) (rfl) dX1_feed_69
    · have q2 : ¬ f + 20 ≤ 65536 := fun z => c2 (nI_le (b := 65536) z (by omega))
      omega
set_option maxHeartbeats 4000000 in
set_option maxRecDepth 100000 in
theorem c_X1_feedN (g : Gl) (b : Nat → Nat) (tr : Nat → Int32) (tx : Nat → Int32) (m : Int32) (ks fs ts : Nat → Int32) (ct pl : Int32) (t f : Nat) (ht : t ≤ 16000) (hf : f ≤ 65536) (x y z u v : Int32) (h : ¬ (t + 20 ≤ 16000 ∧ f + 20 ≤ 65536)) : Ctr g yX1_feed wsX1_feed ({ frames := 1, cells := 0, slots := 0, locals := 22 }) [.ref (b 0), .int x, .int y, .int z, .int u, .int v] (mw g b tr (nI t) (nI f) tx m ks fs ts ct pl) (some (.int (-1))) (mw g b tr (nI t) (nI f) tx m ks fs ts ct pl) 0 0 := by
  refine Ctr.start (cc := cX1_feed) (maxL := 6) (ret := (some .int)) (by decide) rfl (Nat.le_of_ble_eq_true rfl) (lv0 := [(0, .ref (b 0)), (1, .int x), (2, .int y), (3, .int z), (4, .int u), (5, .int v)]) rfl ?_
  intro X C F
  have C : Ok g X cX1_feed RX1 wsX1_feed ({ frames := 1, cells := 0, slots := 0, locals := 22 }) (some .int) 6 := C
  have hin : ∀ w ∈ wsX10, w ∈ wsX1_feed := fun _ h => List.mem_cons_of_mem _ (List.mem_append_right _ h)
  have lc36 : Cond.constant RX1 36 (65536) ∈ wsX1_feed := by decide +kernel
  have lk30 : Cond.fieldLink RX1 30 "TokenRowsModel" "trayed" "I" ∈ wsX1_feed := by decide +kernel
  have lk33 : Cond.fieldLink RX1 33 "TokenRowsModel" "fed" "I" ∈ wsX1_feed := by decide +kernel
  refine g_aload_n C dX1_feed_0 0 rfl ?_
  refine g_get1 C hin 0 rfl 1 (by decide) lk30 rfl dX1_feed_1 ?_
  refine g_bipush C dX1_feed_4 (v := 20) (by decide) ?_
  refine g_iadd C dX1_feed_6 ?_
  refine g_top (nI_add t 20) ?_
  refine g_sipush C dX1_feed_7 (v := 16000) (by decide) ?_
  refine g_icmp_gt C dX1_feed_10 (tgt := 25) (by decide) (fun c1 => ?_) (fun c1 => ?_)
  · refine g_iconst C dX1_feed_25 (v := (-1)) (by decide) ?_
    exact g_iret C F (rfl) (rfl) dX1_feed_26
  · have q1 : ¬ 16000 < t + 20 := fun z => c1 (nI_lt (a := 16000) z (by omega))
    refine g_aload_n C dX1_feed_13 0 rfl ?_
    refine g_get1 C hin 0 rfl 2 (by decide) lk33 rfl dX1_feed_14 ?_
    refine g_bipush C dX1_feed_17 (v := 20) (by decide) ?_
    refine g_iadd C dX1_feed_19 ?_
    refine g_top (nI_add f 20) ?_
    refine g_ldc C dX1_feed_20 (v := 65536) lc36 ?_
    refine g_icmp_le C dX1_feed_22 (tgt := 27) (by decide) (fun c2 => ?_) (fun c2 => ?_)
    · have q2 : f + 20 ≤ 65536 := (nI_leI (b := 65536) (by omega) (by omega)).mp c2
      exact absurd ⟨by omega, q2⟩ h
    · refine g_iconst C dX1_feed_25 (v := (-1)) (by decide) ?_
      exact g_iret C F (rfl) (rfl) dX1_feed_26
set_option maxHeartbeats 4000000 in
set_option maxRecDepth 100000 in
theorem c_X1_end (g : Gl) (b : Nat → Nat) (tr : Nat → Int32) (fed : Int32) (tx : Nat → Int32) (m : Int32) (ks fs ts : Nat → Int32) (ct pl : Int32) (t j : Nat) (ht : t ≤ 16000) (hj : j ≤ t) : Ctr g yX1_end wsX1_end ({ frames := 0, cells := 0, slots := 0, locals := 0 }) [.ref (b 0), .int (nI j)] (mw g b tr (nI t) fed tx m ks fs ts ct pl) (some (.int (nI j))) (mw g b tr (nI j) fed tx m ks fs ts ct pl) 0 0 := by
  refine Ctr.start (cc := cX1_end) (maxL := 2) (ret := (some .int)) (by decide) rfl (Nat.le_of_ble_eq_true rfl) (lv0 := [(0, .ref (b 0)), (1, .int (nI j))]) rfl ?_
  intro X C F
  have C : Ok g X cX1_end RX1 wsX1_end ({ frames := 0, cells := 0, slots := 0, locals := 0 }) (some .int) 2 := C
  have hin : ∀ w ∈ wsX10, w ∈ wsX1_end := fun _ h => List.mem_cons_of_mem _ (List.mem_append_right _ h)
  have lk30 : Cond.fieldLink RX1 30 "TokenRowsModel" "trayed" "I" ∈ wsX1_end := by decide +kernel
  refine g_iload_n C dX1_end_0 1 rfl ?_
  refine g_if_lt C dX1_end_1 (tgt := 12) (by decide) (fun c1 => ?_) (fun c1 => ?_)
  · exact absurd c1 (nI_pos (by omega))
  · refine g_iload_n C dX1_end_4 1 rfl ?_
    refine g_aload_n C dX1_end_5 0 rfl ?_
    refine g_get1 C hin 0 rfl 1 (by decide) lk30 rfl dX1_end_6 ?_
    refine g_icmp_le C dX1_end_9 (tgt := 14) (by decide) (fun c2 => ?_) (fun c2 => ?_)
    · refine g_aload_n C dX1_end_14 0 rfl ?_
      refine g_iload_n C dX1_end_15 1 rfl ?_
      refine g_put1 (ws' := (mw g b tr (nI j) fed tx m ks fs ts ct pl)) C hin 0 rfl 1 (by decide) lk30 rfl rfl rfl (Nat.le_of_ble_eq_true rfl) rfl dX1_end_16 ?_
      refine g_iload_n C dX1_end_19 1 rfl ?_
      exact g_iret C F (rfl) (rfl) dX1_end_20
    · exact absurd (nI_le hj (by omega)) c2
set_option maxHeartbeats 4000000 in
set_option maxRecDepth 100000 in
theorem c_X1_endN (g : Gl) (b : Nat → Nat) (tr : Nat → Int32) (fed : Int32) (tx : Nat → Int32) (m : Int32) (ks fs ts : Nat → Int32) (ct pl : Int32) (t : Nat) (ht : t ≤ 16000) (x : Int32) (h : ¬ (0 ≤ x.toInt ∧ x.toInt ≤ (t : Int))) : Ctr g yX1_end wsX1_end ({ frames := 0, cells := 0, slots := 0, locals := 0 }) [.ref (b 0), .int x] (mw g b tr (nI t) fed tx m ks fs ts ct pl) (some (.int (-1))) (mw g b tr (nI t) fed tx m ks fs ts ct pl) 0 0 := by
  refine Ctr.start (cc := cX1_end) (maxL := 2) (ret := (some .int)) (by decide) rfl (Nat.le_of_ble_eq_true rfl) (lv0 := [(0, .ref (b 0)), (1, .int x)]) rfl ?_
  intro X C F
  have C : Ok g X cX1_end RX1 wsX1_end ({ frames := 0, cells := 0, slots := 0, locals := 0 }) (some .int) 2 := C
  have hin : ∀ w ∈ wsX10, w ∈ wsX1_end := fun _ h => List.mem_cons_of_mem _ (List.mem_append_right _ h)
  have lk30 : Cond.fieldLink RX1 30 "TokenRowsModel" "trayed" "I" ∈ wsX1_end := by decide +kernel
  refine g_iload_n C dX1_end_0 1 rfl ?_
  refine g_if_lt C dX1_end_1 (tgt := 12) (by decide) (fun c1 => ?_) (fun c1 => ?_)
  · refine g_iconst C dX1_end_12 (v := (-1)) (by decide) ?_
    exact g_iret C F (rfl) (rfl) dX1_end_13
  · refine g_iload_n C dX1_end_4 1 rfl ?_
    refine g_aload_n C dX1_end_5 0 rfl ?_
    refine g_get1 C hin 0 rfl 1 (by decide) lk30 rfl dX1_end_6 ?_
    refine g_icmp_le C dX1_end_9 (tgt := 14) (by decide) (fun c2 => ?_) (fun c2 => ?_)
    · have q := k_le (nI_toInt (n := t) (by omega)) c2
      have q0 := k_nlt (b := 0) (by decide) c1
      omega
    · refine g_iconst C dX1_end_12 (v := (-1)) (by decide) ?_
      exact g_iret C F (rfl) (rfl) dX1_end_13
set_option maxHeartbeats 4000000 in
set_option maxRecDepth 100000 in
theorem c_X1_look (g : Gl) (b : Nat → Nat) (tr : Nat → Int32) (n fed : Int32) (tx : Nat → Int32) (ks fs ts : Nat → Int32) (ct pl : Int32) (N i : Nat) (hN : N ≤ 16000) (hi : i < 2 ^ 30) : Ctr g yX1_look wsX1_look ({ frames := 0, cells := 0, slots := 0, locals := 0 }) [.ref (b 0), .int (nI i)] (mw g b tr n fed tx (nI N) ks fs ts ct pl) (some (.int (look tx N i))) (mw g b tr n fed tx (nI N) ks fs ts ct pl) 0 0 := by
  refine Ctr.start (cc := cX1_look) (maxL := 2) (ret := (some .int)) (by decide) rfl (Nat.le_of_ble_eq_true rfl) (lv0 := [(0, .ref (b 0)), (1, .int (nI i))]) rfl ?_
  intro X C F
  have C : Ok g X cX1_look RX1 wsX1_look ({ frames := 0, cells := 0, slots := 0, locals := 0 }) (some .int) 2 := C
  have hin : ∀ w ∈ wsX10, w ∈ wsX1_look := fun _ h => List.mem_cons_of_mem _ (List.mem_append_right _ h)
  have lk13 : Cond.fieldLink RX1 13 "TokenRowsModel" "text" "[B" ∈ wsX1_look := by decide +kernel
  have lk41 : Cond.fieldLink RX1 41 "TokenRowsModel" "size" "I" ∈ wsX1_look := by decide +kernel
  refine g_iload_n C dX1_look_0 1 rfl ?_
  refine g_if_lt C dX1_look_1 (tgt := 25) (by decide) (fun c1 => ?_) (fun c1 => ?_)
  · exact absurd c1 (nI_pos (by omega))
  · refine g_iload_n C dX1_look_4 1 rfl ?_
    refine g_aload_n C dX1_look_5 0 rfl ?_
    refine g_get1 C hin 0 rfl 4 (by decide) lk41 rfl dX1_look_6 ?_
    refine g_icmp_ge C dX1_look_9 (tgt := 25) (by decide) (fun c2 => ?_) (fun c2 => ?_)
    · have hio : N ≤ i := (nI_leI (by omega) (by omega)).mp c2
      refine g_iconst C dX1_look_25 (v := (-1)) (by decide) ?_
      exact g_iret C F ((look_out hio).symm) (rfl) dX1_look_26
    · have hii : i < N := Nat.not_le.mp (fun z => c2 (nI_le z (by omega)))
      refine g_aload_n C dX1_look_12 0 rfl ?_
      refine g_get1 C hin 0 rfl 3 (by decide) lk13 rfl dX1_look_13 ?_
      refine g_iload_n C dX1_look_16 1 rfl ?_
      refine g_bald C 2 rfl (vp_in_nI (by omega) (by omega)) dX1_look_17 ?_
      refine g_top (y := tx i) (by rw [nI_clamp (by omega)]) ?_
      refine g_sipush C dX1_look_18 (v := 255) (by decide) ?_
      refine g_iand C dX1_look_21 ?_
      refine g_goto C dX1_look_22 (tgt := 26) (by decide) ?_
      exact g_iret C F ((look_in hii).symm) (rfl) dX1_look_26
set_option maxHeartbeats 4000000 in
set_option maxRecDepth 100000 in
theorem c_X1_place (g : Gl) (b : Nat → Nat) (tr : Nat → Int32) (n fed : Int32) (tx : Nat → Int32) (m : Int32) (ks fs ts : Nat → Int32) (ct pl : Int32) : Ctr g yX1_place wsX1_place ({ frames := 0, cells := 0, slots := 0, locals := 0 }) [.ref (b 0)] (mw g b tr n fed tx m ks fs ts ct pl) (some (.int pl)) (mw g b tr n fed tx m ks fs ts ct pl) 0 0 := by
  refine Ctr.start (cc := cX1_place) (maxL := 1) (ret := (some .int)) (by decide) rfl (Nat.le_of_ble_eq_true rfl) (lv0 := [(0, .ref (b 0))]) rfl ?_
  intro X C F
  have C : Ok g X cX1_place RX1 wsX1_place ({ frames := 0, cells := 0, slots := 0, locals := 0 }) (some .int) 1 := C
  have hin : ∀ w ∈ wsX10, w ∈ wsX1_place := fun _ h => List.mem_cons_of_mem _ (List.mem_append_right _ h)
  have lk26 : Cond.fieldLink RX1 26 "TokenRowsModel" "place" "I" ∈ wsX1_place := by decide +kernel
  refine g_aload_n C dX1_place_0 0 rfl ?_
  refine g_get1 C hin 0 rfl 9 (by decide) lk26 rfl dX1_place_1 ?_
  exact g_iret C F (rfl) (rfl) dX1_place_4
set_option maxHeartbeats 4000000 in
set_option maxRecDepth 100000 in
theorem c_X1_tokens (g : Gl) (b : Nat → Nat) (tr : Nat → Int32) (n fed : Int32) (tx : Nat → Int32) (m : Int32) (ks fs ts : Nat → Int32) (ct pl : Int32) : Ctr g yX1_tokens wsX1_tokens ({ frames := 0, cells := 0, slots := 0, locals := 0 }) [.ref (b 0)] (mw g b tr n fed tx m ks fs ts ct pl) (some (.int ct)) (mw g b tr n fed tx m ks fs ts ct pl) 0 0 := by
  refine Ctr.start (cc := cX1_tokens) (maxL := 1) (ret := (some .int)) (by decide) rfl (Nat.le_of_ble_eq_true rfl) (lv0 := [(0, .ref (b 0))]) rfl ?_
  intro X C F
  have C : Ok g X cX1_tokens RX1 wsX1_tokens ({ frames := 0, cells := 0, slots := 0, locals := 0 }) (some .int) 1 := C
  have hin : ∀ w ∈ wsX10, w ∈ wsX1_tokens := fun _ h => List.mem_cons_of_mem _ (List.mem_append_right _ h)
  have lk58 : Cond.fieldLink RX1 58 "TokenRowsModel" "tokens" "I" ∈ wsX1_tokens := by decide +kernel
  refine g_aload_n C dX1_tokens_0 0 rfl ?_
  refine g_get1 C hin 0 rfl 8 (by decide) lk58 rfl dX1_tokens_1 ?_
  exact g_iret C F (rfl) (rfl) dX1_tokens_4
set_option maxHeartbeats 4000000 in
set_option maxRecDepth 100000 in
theorem c_X1_isToken (g : Gl) (b : Nat → Nat) (tr : Nat → Int32) (n fed : Int32) (tx : Nat → Int32) (m : Int32) (ks fs ts : Nat → Int32) (pl : Int32) (c : Nat) (hc : c ≤ 16000) (x : Int32) : Ctr g yX1_isToken wsX1_isToken ({ frames := 0, cells := 0, slots := 0, locals := 0 }) [.ref (b 0), .int x] (mw g b tr n fed tx m ks fs ts (nI c) pl) (some (.int (b01 (bTok c x)))) (mw g b tr n fed tx m ks fs ts (nI c) pl) 0 0 := by
  refine Ctr.start (cc := cX1_isToken) (maxL := 2) (ret := (some .boolean)) (by decide) rfl (Nat.le_of_ble_eq_true rfl) (lv0 := [(0, .ref (b 0)), (1, .int x)]) rfl ?_
  intro X C F
  have C : Ok g X cX1_isToken RX1 wsX1_isToken ({ frames := 0, cells := 0, slots := 0, locals := 0 }) (some .boolean) 2 := C
  have hin : ∀ w ∈ wsX10, w ∈ wsX1_isToken := fun _ h => List.mem_cons_of_mem _ (List.mem_append_right _ h)
  have lk58 : Cond.fieldLink RX1 58 "TokenRowsModel" "tokens" "I" ∈ wsX1_isToken := by decide +kernel
  refine g_iload_n C dX1_isToken_0 1 rfl ?_
  refine g_if_lt C dX1_isToken_1 (tgt := 16) (by decide) (fun c1 => ?_) (fun c1 => ?_)
  · refine g_iconst C dX1_isToken_16 (v := 0) (by decide) ?_
    have c1 := k_lt (b := 0) (by decide) c1
    exact g_zret C F (by decide) ((b01_f (by omega)).symm) (rfl) dX1_isToken_17
  · refine g_iload_n C dX1_isToken_4 1 rfl ?_
    refine g_aload_n C dX1_isToken_5 0 rfl ?_
    refine g_get1 C hin 0 rfl 8 (by decide) lk58 rfl dX1_isToken_6 ?_
    refine g_icmp_ge C dX1_isToken_9 (tgt := 16) (by decide) (fun c2 => ?_) (fun c2 => ?_)
    · refine g_iconst C dX1_isToken_16 (v := 0) (by decide) ?_
      have c1 := k_nlt (b := 0) (by decide) c1
      have c2 := k_ge rfl c2
      have hcc := nI_toInt (n := c) (by omega)
      exact g_zret C F (by decide) ((b01_f (by omega)).symm) (rfl) dX1_isToken_17
    · refine g_iconst C dX1_isToken_12 (v := 1) (by decide) ?_
      refine g_goto C dX1_isToken_13 (tgt := 17) (by decide) ?_
      have c1 := k_nlt (b := 0) (by decide) c1
      have c2 := k_nge rfl c2
      have hcc := nI_toInt (n := c) (by omega)
      exact g_zret C F (by decide) ((b01_t (by omega)).symm) (rfl) dX1_isToken_17
set_option maxHeartbeats 4000000 in
set_option maxRecDepth 100000 in
theorem c_X1_from (g : Gl) (b : Nat → Nat) (tr : Nat → Int32) (n fed : Int32) (tx : Nat → Int32) (m : Int32) (ks fs ts : Nat → Int32) (pl : Int32) (c : Nat) (hc : c ≤ 16000) (x : Int32) : Ctr g yX1_from wsX1_from ({ frames := 1, cells := 0, slots := 0, locals := 21 }) [.ref (b 0), .int x] (mw g b tr n fed tx m ks fs ts (nI c) pl) (some (.int (if bTok c x = true then fs x.toNatClampNeg else -1))) (mw g b tr n fed tx m ks fs ts (nI c) pl) 0 0 := by
  refine Ctr.start (cc := cX1_from) (maxL := 2) (ret := (some .int)) (by decide) rfl (Nat.le_of_ble_eq_true rfl) (lv0 := [(0, .ref (b 0)), (1, .int x)]) rfl ?_
  intro X C F
  have C : Ok g X cX1_from RX1 wsX1_from ({ frames := 1, cells := 0, slots := 0, locals := 21 }) (some .int) 2 := C
  have hin : ∀ w ∈ wsX10, w ∈ wsX1_from := fun _ h => List.mem_cons_of_mem _ (List.mem_append_right _ h)
  have lk20 : Cond.fieldLink RX1 20 "TokenRowsModel" "froms" "[I" ∈ wsX1_from := by decide +kernel
  refine g_aload_n C dX1_from_0 0 rfl ?_
  refine g_iload_n C dX1_from_1 1 rfl ?_
  refine g_callVi (n := 1) C (c_X1_isToken g b tr n fed tx m ks fs ts pl c hc x) gX1_from_X1_isToken rfl rfl rfl rfl (by decide) (by decide) rfl (Nat.le_of_ble_eq_true rfl) dX1_from_2 ?_
  refine g_if_eq C dX1_from_5 (tgt := 17) (by decide) (fun c1 => ?_) (fun c1 => ?_)
  · refine g_iconst C dX1_from_17 (v := (-1)) (by decide) ?_
    exact g_iret C F (by rw [if_neg (by rw [b01_0.mp c1]; decide)]) (rfl) dX1_from_18
  · refine g_aload_n C dX1_from_8 0 rfl ?_
    refine g_get1 C hin 0 rfl 6 (by decide) lk20 rfl dX1_from_9 ?_
    refine g_iload_n C dX1_from_12 1 rfl ?_
    refine g_iald C 4 rfl (bTok_in (b01_1.mp c1) hc) dX1_from_13 ?_
    refine g_top (y := fs x.toNatClampNeg) (rfl) ?_
    refine g_goto C dX1_from_14 (tgt := 18) (by decide) ?_
    exact g_iret C F (by rw [if_pos (b01_1.mp c1)]) (rfl) dX1_from_18
set_option maxHeartbeats 4000000 in
set_option maxRecDepth 100000 in
theorem c_X1_length (g : Gl) (b : Nat → Nat) (tr : Nat → Int32) (n fed : Int32) (tx : Nat → Int32) (m : Int32) (ks fs ts : Nat → Int32) (pl : Int32) (c : Nat) (hc : c ≤ 16000) (x : Int32) : Ctr g yX1_length wsX1_length ({ frames := 1, cells := 0, slots := 0, locals := 21 }) [.ref (b 0), .int x] (mw g b tr n fed tx m ks fs ts (nI c) pl) (some (.int (if bTok c x = true then ts x.toNatClampNeg - fs x.toNatClampNeg else 0))) (mw g b tr n fed tx m ks fs ts (nI c) pl) 0 0 := by
  refine Ctr.start (cc := cX1_length) (maxL := 2) (ret := (some .int)) (by decide) rfl (Nat.le_of_ble_eq_true rfl) (lv0 := [(0, .ref (b 0)), (1, .int x)]) rfl ?_
  intro X C F
  have C : Ok g X cX1_length RX1 wsX1_length ({ frames := 1, cells := 0, slots := 0, locals := 21 }) (some .int) 2 := C
  have hin : ∀ w ∈ wsX10, w ∈ wsX1_length := fun _ h => List.mem_cons_of_mem _ (List.mem_append_right _ h)
  have lk20 : Cond.fieldLink RX1 20 "TokenRowsModel" "froms" "[I" ∈ wsX1_length := by decide +kernel
  have lk23 : Cond.fieldLink RX1 23 "TokenRowsModel" "tos" "[I" ∈ wsX1_length := by decide +kernel
  refine g_aload_n C dX1_length_0 0 rfl ?_
  refine g_iload_n C dX1_length_1 1 rfl ?_
  refine g_callVi (n := 1) C (c_X1_isToken g b tr n fed tx m ks fs ts pl c hc x) gX1_length_X1_isToken rfl rfl rfl rfl (by decide) (by decide) rfl (Nat.le_of_ble_eq_true rfl) dX1_length_2 ?_
  refine g_if_eq C dX1_length_5 (tgt := 24) (by decide) (fun c1 => ?_) (fun c1 => ?_)
  · refine g_iconst C dX1_length_24 (v := 0) (by decide) ?_
    exact g_iret C F (by rw [if_neg (by rw [b01_0.mp c1]; decide)]) (rfl) dX1_length_25
  · refine g_aload_n C dX1_length_8 0 rfl ?_
    refine g_get1 C hin 0 rfl 7 (by decide) lk23 rfl dX1_length_9 ?_
    refine g_iload_n C dX1_length_12 1 rfl ?_
    refine g_iald C 5 rfl (bTok_in (b01_1.mp c1) hc) dX1_length_13 ?_
    refine g_top (y := ts x.toNatClampNeg) (rfl) ?_
    refine g_aload_n C dX1_length_14 0 rfl ?_
    refine g_get1 C hin 0 rfl 6 (by decide) lk20 rfl dX1_length_15 ?_
    refine g_iload_n C dX1_length_18 1 rfl ?_
    refine g_iald C 4 rfl (bTok_in (b01_1.mp c1) hc) dX1_length_19 ?_
    refine g_top (y := fs x.toNatClampNeg) (rfl) ?_
    refine g_isub C dX1_length_20 ?_
    refine g_goto C dX1_length_21 (tgt := 25) (by decide) ?_
    exact g_iret C F (by rw [if_pos (b01_1.mp c1)]) (rfl) dX1_length_25
/-- the place behind a code, -1 if there is none -/
def bhd (L : Nat → Int32) (i : Nat) (q : Int32) : Int32 := if cwd L i q = 0 then -1 else nI (i + cwd L i q)
theorem esc_t {x : Int32} (h : x = 110 ∨ x = 48 ∨ x = 92 ∨ x = 39 ∨ x = 34) : 0 ≤ (escv x).toInt := by
  rcases h with rfl | rfl | rfl | rfl | rfl <;> decide
theorem esc_f {x : Int32} (h1 : ¬ x = 110) (h2 : ¬ x = 48) (h3 : ¬ x = 92) (h4 : ¬ x = 39) (h5 : ¬ x = 34) : ¬ 0 ≤ (escv x).toInt := by
  unfold escv
  rw [if_neg h1, if_neg h2, if_neg h3, if_neg h4, if_neg h5]
  decide
theorem bhd_2 {L : Nat → Int32} {i : Nat} {q : Int32} (h : L i = 92) (h2 : 0 ≤ (escv (L (i + 1))).toInt) : bhd L i q = nI (i + 2) := by
  have e : cwd L i q = 2 := by unfold cwd; rw [if_pos h, if_pos h2]
  unfold bhd; rw [e]; rfl
theorem bhd_2n {L : Nat → Int32} {i : Nat} {q : Int32} (h : L i = 92) (h2 : ¬ 0 ≤ (escv (L (i + 1))).toInt) : bhd L i q = -1 := by
  have e : cwd L i q = 0 := by unfold cwd; rw [if_pos h, if_neg h2]
  unfold bhd; rw [e]; rfl
theorem bhd_1 {L : Nat → Int32} {i : Nat} {q : Int32} (h : ¬ L i = 92) (h2 : 32 ≤ (L i).toInt ∧ (L i).toInt ≤ 126 ∧ ¬ L i = q) : bhd L i q = nI (i + 1) := by
  have e : cwd L i q = 1 := by unfold cwd; rw [if_neg h, if_pos h2]
  unfold bhd; rw [e]; rfl
theorem bhd_1n {L : Nat → Int32} {i : Nat} {q : Int32} (h : ¬ L i = 92) (h2 : ¬ (32 ≤ (L i).toInt ∧ (L i).toInt ≤ 126 ∧ ¬ L i = q)) : bhd L i q = -1 := by
  have e : cwd L i q = 0 := by unfold cwd; rw [if_neg h, if_neg h2]
  unfold bhd; rw [e]; rfl
/-- the reference's code at a place -/
def mcat (L : Nat → Int32) (i : Nat) : Int32 := if L i = 92 then (if L (i + 1) = 110 then 10 else if L (i + 1) = 48 then 0 else L (i + 1)) else L i
set_option maxHeartbeats 4000000 in
set_option maxRecDepth 100000 in
theorem c_X1_behind (g : Gl) (b : Nat → Nat) (tr : Nat → Int32) (n fed : Int32) (tx : Nat → Int32) (ks fs ts : Nat → Int32) (ct pl : Int32) (N i : Nat) (hN : N ≤ 16000) (hi : i < 2 ^ 29) (q : Int32) : Ctr g yX1_behind wsX1_behind ({ frames := 1, cells := 0, slots := 0, locals := 21 }) [.ref (b 0), .int (nI i), .int q] (mw g b tr n fed tx (nI N) ks fs ts ct pl) (some (.int (bhd (look tx N) i q))) (mw g b tr n fed tx (nI N) ks fs ts ct pl) 0 0 := by
  refine Ctr.start (cc := cX1_behind) (maxL := 5) (ret := (some .int)) (by decide) rfl (Nat.le_of_ble_eq_true rfl) (lv0 := [(0, .ref (b 0)), (1, .int (nI i)), (2, .int q)]) rfl ?_
  intro X C F
  have C : Ok g X cX1_behind RX1 wsX1_behind ({ frames := 1, cells := 0, slots := 0, locals := 21 }) (some .int) 5 := C
  have hin : ∀ w ∈ wsX10, w ∈ wsX1_behind := fun _ h => List.mem_cons_of_mem _ (List.mem_append_right _ h)
  refine g_aload_n C dX1_behind_0 0 rfl ?_
  refine g_iload_n C dX1_behind_1 1 rfl ?_
  refine g_callVi (n := 1) C (c_X1_look g b tr n fed tx ks fs ts ct pl N i hN (by omega)) gX1_behind_X1_look rfl rfl rfl rfl (by decide) (by decide) rfl (Nat.le_of_ble_eq_true rfl) dX1_behind_2 ?_
  refine g_istore_n (lv' := [(3, .int (look tx N i)), (0, .ref (b 0)), (1, .int (nI i)), (2, .int q)]) C dX1_behind_5 (by decide) rfl ?_
  refine g_iload_n C dX1_behind_6 0 rfl ?_
  refine g_bipush C dX1_behind_7 (v := 92) (by decide) ?_
  refine g_icmp_ne C dX1_behind_9 (tgt := 64) (by decide) (fun c1 => ?_) (fun c1 => ?_)
  · refine g_iload_n C dX1_behind_64 0 rfl ?_
    refine g_bipush C dX1_behind_65 (v := 32) (by decide) ?_
    refine g_icmp_lt C dX1_behind_67 (tgt := 87) (by decide) (fun c2 => ?_) (fun c2 => ?_)
    · refine g_iconst C dX1_behind_87 (v := (-1)) (by decide) ?_
      have c2 := k_lt (b := 32) (by decide) c2
      exact g_iret C F ((bhd_1n c1 (by omega)).symm) (rfl) dX1_behind_88
    · refine g_iload_n C dX1_behind_70 0 rfl ?_
      refine g_bipush C dX1_behind_71 (v := 126) (by decide) ?_
      refine g_icmp_gt C dX1_behind_73 (tgt := 87) (by decide) (fun c3 => ?_) (fun c3 => ?_)
      · refine g_iconst C dX1_behind_87 (v := (-1)) (by decide) ?_
        have c2 := k_nlt (b := 32) (by decide) c2
        have c3 := k_gt (b := 126) (by decide) c3
        exact g_iret C F ((bhd_1n c1 (by omega)).symm) (rfl) dX1_behind_88
      · refine g_iload_n C dX1_behind_76 0 rfl ?_
        refine g_iload_n C dX1_behind_77 3 rfl ?_
        refine g_icmp_eq C dX1_behind_78 (tgt := 87) (by decide) (fun c4 => ?_) (fun c4 => ?_)
        · refine g_iconst C dX1_behind_87 (v := (-1)) (by decide) ?_
          have c2 := k_nlt (b := 32) (by decide) c2
          have c3 := k_ngt (b := 126) (by decide) c3
          exact g_iret C F ((bhd_1n c1 (fun z => z.2.2 c4)).symm) (rfl) dX1_behind_88
        · refine g_iload_n C dX1_behind_81 2 rfl ?_
          refine g_iconst C dX1_behind_82 (v := 1) (by decide) ?_
          refine g_iadd C dX1_behind_83 ?_
          refine g_top (nI_add i 1) ?_
          refine g_goto C dX1_behind_84 (tgt := 88) (by decide) ?_
          have c2 := k_nlt (b := 32) (by decide) c2
          have c3 := k_ngt (b := 126) (by decide) c3
          exact g_iret C F ((bhd_1 c1 ⟨by omega, by omega, c4⟩).symm) (rfl) dX1_behind_88
  · refine g_aload_n C dX1_behind_12 1 rfl ?_
    refine g_iload_n C dX1_behind_13 2 rfl ?_
    refine g_iconst C dX1_behind_14 (v := 1) (by decide) ?_
    refine g_iadd C dX1_behind_15 ?_
    refine g_top (nI_add i 1) ?_
    refine g_callVi (n := 1) C (c_X1_look g b tr n fed tx ks fs ts ct pl N (i + 1) hN (by omega)) gX1_behind_X1_look rfl rfl rfl rfl (by decide) (by decide) rfl (Nat.le_of_ble_eq_true rfl) dX1_behind_16 ?_
    refine g_istore (lv' := [(4, .int (look tx N (i + 1))), (3, .int (look tx N i)), (0, .ref (b 0)), (1, .int (nI i)), (2, .int q)]) C dX1_behind_19 (by decide) rfl ?_
    refine g_iload C dX1_behind_21 0 rfl ?_
    refine g_bipush C dX1_behind_23 (v := 110) (by decide) ?_
    refine g_icmp_eq C dX1_behind_25 (tgt := 56) (by decide) (fun c5 => ?_) (fun c5 => ?_)
    · refine g_iload_n C dX1_behind_56 3 rfl ?_
      refine g_iconst C dX1_behind_57 (v := 2) (by decide) ?_
      refine g_iadd C dX1_behind_58 ?_
      refine g_top (nI_add i 2) ?_
      refine g_goto C dX1_behind_59 (tgt := 63) (by decide) ?_
      exact g_iret C F ((bhd_2 c1 (esc_t (Or.inl c5))).symm) (rfl) dX1_behind_63
    · refine g_iload C dX1_behind_28 0 rfl ?_
      refine g_bipush C dX1_behind_30 (v := 48) (by decide) ?_
      refine g_icmp_eq C dX1_behind_32 (tgt := 56) (by decide) (fun c6 => ?_) (fun c6 => ?_)
      · refine g_iload_n C dX1_behind_56 3 rfl ?_
        refine g_iconst C dX1_behind_57 (v := 2) (by decide) ?_
        refine g_iadd C dX1_behind_58 ?_
        refine g_top (nI_add i 2) ?_
        refine g_goto C dX1_behind_59 (tgt := 63) (by decide) ?_
        exact g_iret C F ((bhd_2 c1 (esc_t (Or.inr (Or.inl c6)))).symm) (rfl) dX1_behind_63
      · refine g_iload C dX1_behind_35 0 rfl ?_
        refine g_bipush C dX1_behind_37 (v := 92) (by decide) ?_
        refine g_icmp_eq C dX1_behind_39 (tgt := 56) (by decide) (fun c7 => ?_) (fun c7 => ?_)
        · refine g_iload_n C dX1_behind_56 3 rfl ?_
          refine g_iconst C dX1_behind_57 (v := 2) (by decide) ?_
          refine g_iadd C dX1_behind_58 ?_
          refine g_top (nI_add i 2) ?_
          refine g_goto C dX1_behind_59 (tgt := 63) (by decide) ?_
          exact g_iret C F ((bhd_2 c1 (esc_t (Or.inr (Or.inr (Or.inl c7))))).symm) (rfl) dX1_behind_63
        · refine g_iload C dX1_behind_42 0 rfl ?_
          refine g_bipush C dX1_behind_44 (v := 39) (by decide) ?_
          refine g_icmp_eq C dX1_behind_46 (tgt := 56) (by decide) (fun c8 => ?_) (fun c8 => ?_)
          · refine g_iload_n C dX1_behind_56 3 rfl ?_
            refine g_iconst C dX1_behind_57 (v := 2) (by decide) ?_
            refine g_iadd C dX1_behind_58 ?_
            refine g_top (nI_add i 2) ?_
            refine g_goto C dX1_behind_59 (tgt := 63) (by decide) ?_
            exact g_iret C F ((bhd_2 c1 (esc_t (Or.inr (Or.inr (Or.inr (Or.inl c8)))))).symm) (rfl) dX1_behind_63
          · refine g_iload C dX1_behind_49 0 rfl ?_
            refine g_bipush C dX1_behind_51 (v := 34) (by decide) ?_
            refine g_icmp_ne C dX1_behind_53 (tgt := 62) (by decide) (fun c9 => ?_) (fun c9 => ?_)
            · refine g_iconst C dX1_behind_62 (v := (-1)) (by decide) ?_
              exact g_iret C F ((bhd_2n c1 (esc_f c5 c6 c7 c8 c9)).symm) (rfl) dX1_behind_63
            · refine g_iload_n C dX1_behind_56 3 rfl ?_
              refine g_iconst C dX1_behind_57 (v := 2) (by decide) ?_
              refine g_iadd C dX1_behind_58 ?_
              refine g_top (nI_add i 2) ?_
              refine g_goto C dX1_behind_59 (tgt := 63) (by decide) ?_
              exact g_iret C F ((bhd_2 c1 (esc_t (Or.inr (Or.inr (Or.inr (Or.inr c9)))))).symm) (rfl) dX1_behind_63
set_option maxHeartbeats 4000000 in
set_option maxRecDepth 100000 in
theorem c_X1_codeAt (g : Gl) (b : Nat → Nat) (tr : Nat → Int32) (n fed : Int32) (tx : Nat → Int32) (ks fs ts : Nat → Int32) (ct pl : Int32) (N i : Nat) (hN : N ≤ 16000) (hi : i < 2 ^ 29) : Ctr g yX1_codeAt wsX1_codeAt ({ frames := 1, cells := 0, slots := 0, locals := 21 }) [.ref (b 0), .int (nI i)] (mw g b tr n fed tx (nI N) ks fs ts ct pl) (some (.int (mcat (look tx N) i))) (mw g b tr n fed tx (nI N) ks fs ts ct pl) 0 0 := by
  refine Ctr.start (cc := cX1_codeAt) (maxL := 3) (ret := (some .int)) (by decide) rfl (Nat.le_of_ble_eq_true rfl) (lv0 := [(0, .ref (b 0)), (1, .int (nI i))]) rfl ?_
  intro X C F
  have C : Ok g X cX1_codeAt RX1 wsX1_codeAt ({ frames := 1, cells := 0, slots := 0, locals := 21 }) (some .int) 3 := C
  have hin : ∀ w ∈ wsX10, w ∈ wsX1_codeAt := fun _ h => List.mem_cons_of_mem _ (List.mem_append_right _ h)
  refine g_aload_n C dX1_codeAt_0 0 rfl ?_
  refine g_iload_n C dX1_codeAt_1 1 rfl ?_
  refine g_callVi (n := 1) C (c_X1_look g b tr n fed tx ks fs ts ct pl N i hN (by omega)) gX1_codeAt_X1_look rfl rfl rfl rfl (by decide) (by decide) rfl (Nat.le_of_ble_eq_true rfl) dX1_codeAt_2 ?_
  refine g_bipush C dX1_codeAt_5 (v := 92) (by decide) ?_
  refine g_icmp_eq C dX1_codeAt_7 (tgt := 16) (by decide) (fun c1 => ?_) (fun c1 => ?_)
  · refine g_aload_n C dX1_codeAt_16 0 rfl ?_
    refine g_iload_n C dX1_codeAt_17 1 rfl ?_
    refine g_iconst C dX1_codeAt_18 (v := 1) (by decide) ?_
    refine g_iadd C dX1_codeAt_19 ?_
    refine g_top (nI_add i 1) ?_
    refine g_callVi (n := 1) C (c_X1_look g b tr n fed tx ks fs ts ct pl N (i + 1) hN (by omega)) gX1_codeAt_X1_look rfl rfl rfl rfl (by decide) (by decide) rfl (Nat.le_of_ble_eq_true rfl) dX1_codeAt_20 ?_
    refine g_istore_n (lv' := [(2, .int (look tx N (i + 1))), (0, .ref (b 0)), (1, .int (nI i))]) C dX1_codeAt_23 (by decide) rfl ?_
    refine g_iload_n C dX1_codeAt_24 0 rfl ?_
    refine g_bipush C dX1_codeAt_25 (v := 110) (by decide) ?_
    refine g_icmp_ne C dX1_codeAt_27 (tgt := 35) (by decide) (fun c2 => ?_) (fun c2 => ?_)
    · refine g_iload_n C dX1_codeAt_35 0 rfl ?_
      refine g_bipush C dX1_codeAt_36 (v := 48) (by decide) ?_
      refine g_icmp_ne C dX1_codeAt_38 (tgt := 45) (by decide) (fun c3 => ?_) (fun c3 => ?_)
      · refine g_iload_n C dX1_codeAt_45 0 rfl ?_
        exact g_iret C F (by unfold mcat; rw [if_pos c1, if_neg c2, if_neg c3]) (rfl) dX1_codeAt_46
      · refine g_iconst C dX1_codeAt_41 (v := 0) (by decide) ?_
        refine g_goto C dX1_codeAt_42 (tgt := 46) (by decide) ?_
        exact g_iret C F (by unfold mcat; rw [if_pos c1, if_neg c2, if_pos c3]) (rfl) dX1_codeAt_46
    · refine g_bipush C dX1_codeAt_30 (v := 10) (by decide) ?_
      refine g_goto C dX1_codeAt_32 (tgt := 46) (by decide) ?_
      exact g_iret C F (by unfold mcat; rw [if_pos c1, if_pos c2]) (rfl) dX1_codeAt_46
  · refine g_aload_n C dX1_codeAt_10 0 rfl ?_
    refine g_iload_n C dX1_codeAt_11 1 rfl ?_
    refine g_callVi (n := 1) C (c_X1_look g b tr n fed tx ks fs ts ct pl N i hN (by omega)) gX1_codeAt_X1_look rfl rfl rfl rfl (by decide) (by decide) rfl (Nat.le_of_ble_eq_true rfl) dX1_codeAt_12 ?_
    exact g_iret C F (by unfold mcat; rw [if_neg c1]) (rfl) dX1_codeAt_15
def tkE (o : Tok) : Int32 := match o with
  | none => -1
  | some q => nI q.2.2
theorem bhd_no {L : Nat → Int32} {i : Nat} {q : Int32} (h : cwd L i q = 0) : bhd L i q = -1 := if_pos h
theorem bhd_yes {L : Nat → Int32} {i : Nat} {q : Int32} (h : ¬ cwd L i q = 0) : bhd L i q = nI (i + cwd L i q) := if_neg h
set_option maxHeartbeats 4000000 in
set_option maxRecDepth 100000 in
theorem c_X1_stringEnd (g : Gl) (b : Nat → Nat) (tr : Nat → Int32) (n fed : Int32) (tx : Nat → Int32) (ks fs ts : Nat → Int32) (ct pl : Int32) (N i : Nat) (hN : N ≤ 16000) (hi : i < N) : Ctr g yX1_stringEnd wsX1_stringEnd ({ frames := 2, cells := 0, slots := 0, locals := 45 }) [.ref (b 0), .int (nI i)] (mw g b tr n fed tx (nI N) ks fs ts ct pl) (some (.int (tkE (tokStr (look tx N) i)))) (mw g b tr n fed tx (nI N) ks fs ts ct pl) 0 0 := by
  refine Ctr.start (cc := cX1_stringEnd) (maxL := 4) (ret := (some .int)) (by decide) rfl (Nat.le_of_ble_eq_true rfl) (lv0 := [(0, .ref (b 0)), (1, .int (nI i))]) rfl ?_
  intro X C F
  have C : Ok g X cX1_stringEnd RX1 wsX1_stringEnd ({ frames := 2, cells := 0, slots := 0, locals := 45 }) (some .int) 4 := C
  have hin : ∀ w ∈ wsX10, w ∈ wsX1_stringEnd := fun _ h => List.mem_cons_of_mem _ (List.mem_append_right _ h)
  obtain ⟨o, ho⟩ : ∃ o, o = tokStr (look tx N) i := ⟨_, rfl⟩
  rw [← ho] at F
  have exN : o = none → ∀ x3 : Int32, G g X (0, 0) (mw g b tr n fed tx (nI N) ks fs ts ct pl) 6 [(3, .int x3), (2, .int (-1)), (0, .ref (b 0)), (1, .int (nI i))] [] := by
    intro hn x3
    refine g_iload_n C dX1_stringEnd_6 1 rfl ?_
    refine g_if_le C dX1_stringEnd_7 (tgt := 45) (by decide) (fun c1 => ?_) (fun c1 => ?_)
    · refine g_iload_n C dX1_stringEnd_45 1 rfl ?_
      refine g_if_le C dX1_stringEnd_46 (tgt := 55) (by decide) (fun c2 => ?_) (fun c2 => ?_)
      · refine g_iconst C dX1_stringEnd_55 (v := (-1)) (by decide) ?_
        exact g_iret C F (by rw [hn]; rfl) (rfl) dX1_stringEnd_56
      · exact absurd (by decide) c2
    · exact absurd (by decide) c1
  have loop : ∀ (f k p : Nat), k + f = 200 → 0 < p → p ≤ i + 1 + 2 * k → sgo (look tx N) (f + 1) k p = o → G g X (0, 0) (mw g b tr n fed tx (nI N) ks fs ts ct pl) 6 [(3, .int (nI k)), (2, .int (nI p)), (0, .ref (b 0)), (1, .int (nI i))] [] := by
    intro f
    induction f with
    | zero =>
      intro k p h1 h0 h2 h3
      refine g_iload_n C dX1_stringEnd_6 1 rfl ?_
      refine g_if_le C dX1_stringEnd_7 (tgt := 45) (by decide) (fun c3 => ?_) (fun c3 => ?_)
      · exact absurd c3 (nI_nle h0 (by omega))
      · refine g_aload_n C dX1_stringEnd_10 2 rfl ?_
        refine g_iload_n C dX1_stringEnd_11 1 rfl ?_
        refine g_callVi (n := 1) C (c_X1_look g b tr n fed tx ks fs ts ct pl N p hN (by omega)) gX1_stringEnd_X1_look rfl rfl rfl rfl (by decide) (by decide) rfl (Nat.le_of_ble_eq_true rfl) dX1_stringEnd_12 ?_
        refine g_bipush C dX1_stringEnd_15 (v := 34) (by decide) ?_
        refine g_icmp_eq C dX1_stringEnd_17 (tgt := 45) (by decide) (fun c4 => ?_) (fun c4 => ?_)
        · rw [sgo, if_pos c4] at h3
          refine g_iload_n C dX1_stringEnd_45 1 rfl ?_
          refine g_if_le C dX1_stringEnd_46 (tgt := 55) (by decide) (fun c5 => ?_) (fun c5 => ?_)
          · exact absurd c5 (nI_nle h0 (by omega))
          · refine g_iload_n C dX1_stringEnd_49 1 rfl ?_
            refine g_iconst C dX1_stringEnd_50 (v := 1) (by decide) ?_
            refine g_iadd C dX1_stringEnd_51 ?_
            refine g_top (nI_add p 1) ?_
            refine g_goto C dX1_stringEnd_52 (tgt := 56) (by decide) ?_
            exact g_iret C F (by rw [← h3]; rfl) (rfl) dX1_stringEnd_56
        · rw [sgo, if_neg c4] at h3
          refine g_iload_n C dX1_stringEnd_20 0 rfl ?_
          refine g_sipush C dX1_stringEnd_21 (v := 200) (by decide) ?_
          refine g_icmp_ne C dX1_stringEnd_24 (tgt := 31) (by decide) (fun c6 => ?_) (fun c6 => ?_)
          · exact absurd (by rw [show k = 200 by omega]; rfl) c6
          · have hn : o = none := by rw [← h3]; split <;> rfl
            refine g_iconst C dX1_stringEnd_27 (v := (-1)) (by decide) ?_
            refine g_goto C dX1_stringEnd_28 (tgt := 38) (by decide) ?_
            refine g_istore_n (lv' := [(2, .int (-1)), (3, .int (nI k)), (0, .ref (b 0)), (1, .int (nI i))]) C dX1_stringEnd_38 (by decide) rfl ?_
            refine g_iinc (o := 1) (v := nI (k + 1)) (lv' := [(3, .int (nI (k + 1))), (2, .int (-1)), (0, .ref (b 0)), (1, .int (nI i))]) C dX1_stringEnd_39 rfl (nI_add k 1) (by decide) rfl ?_
            refine g_goto C dX1_stringEnd_42 (tgt := 6) (by decide) ?_
            exact exN hn _
    | succ f ih =>
      intro k p h1 h0 h2 h3
      refine g_iload_n C dX1_stringEnd_6 1 rfl ?_
      refine g_if_le C dX1_stringEnd_7 (tgt := 45) (by decide) (fun c7 => ?_) (fun c7 => ?_)
      · exact absurd c7 (nI_nle h0 (by omega))
      · refine g_aload_n C dX1_stringEnd_10 2 rfl ?_
        refine g_iload_n C dX1_stringEnd_11 1 rfl ?_
        refine g_callVi (n := 1) C (c_X1_look g b tr n fed tx ks fs ts ct pl N p hN (by omega)) gX1_stringEnd_X1_look rfl rfl rfl rfl (by decide) (by decide) rfl (Nat.le_of_ble_eq_true rfl) dX1_stringEnd_12 ?_
        refine g_bipush C dX1_stringEnd_15 (v := 34) (by decide) ?_
        refine g_icmp_eq C dX1_stringEnd_17 (tgt := 45) (by decide) (fun c8 => ?_) (fun c8 => ?_)
        · rw [sgo, if_pos c8] at h3
          refine g_iload_n C dX1_stringEnd_45 1 rfl ?_
          refine g_if_le C dX1_stringEnd_46 (tgt := 55) (by decide) (fun c9 => ?_) (fun c9 => ?_)
          · exact absurd c9 (nI_nle h0 (by omega))
          · refine g_iload_n C dX1_stringEnd_49 1 rfl ?_
            refine g_iconst C dX1_stringEnd_50 (v := 1) (by decide) ?_
            refine g_iadd C dX1_stringEnd_51 ?_
            refine g_top (nI_add p 1) ?_
            refine g_goto C dX1_stringEnd_52 (tgt := 56) (by decide) ?_
            exact g_iret C F (by rw [← h3]; rfl) (rfl) dX1_stringEnd_56
        · rw [sgo, if_neg c8] at h3
          refine g_iload_n C dX1_stringEnd_20 0 rfl ?_
          refine g_sipush C dX1_stringEnd_21 (v := 200) (by decide) ?_
          refine g_icmp_ne C dX1_stringEnd_24 (tgt := 31) (by decide) (fun c10 => ?_) (fun c10 => ?_)
          · by_cases hw : cwd (look tx N) p 34 = 0
            · rw [if_pos hw] at h3
              refine g_aload_n C dX1_stringEnd_31 2 rfl ?_
              refine g_iload_n C dX1_stringEnd_32 1 rfl ?_
              refine g_bipush C dX1_stringEnd_33 (v := 34) (by decide) ?_
              refine g_callVi (n := 2) C (c_X1_behind g b tr n fed tx ks fs ts ct pl N p hN (by omega) 34) gX1_stringEnd_X1_behind rfl rfl rfl rfl (by decide) (by decide) rfl (Nat.le_of_ble_eq_true rfl) dX1_stringEnd_35 ?_
              refine g_top (bhd_no hw) ?_
              refine g_istore_n (lv' := [(2, .int (-1)), (3, .int (nI k)), (0, .ref (b 0)), (1, .int (nI i))]) C dX1_stringEnd_38 (by decide) rfl ?_
              refine g_iinc (o := 1) (v := nI (k + 1)) (lv' := [(3, .int (nI (k + 1))), (2, .int (-1)), (0, .ref (b 0)), (1, .int (nI i))]) C dX1_stringEnd_39 rfl (nI_add k 1) (by decide) rfl ?_
              refine g_goto C dX1_stringEnd_42 (tgt := 6) (by decide) ?_
              exact exN h3.symm _
            · rw [if_neg hw] at h3
              refine g_aload_n C dX1_stringEnd_31 2 rfl ?_
              refine g_iload_n C dX1_stringEnd_32 1 rfl ?_
              refine g_bipush C dX1_stringEnd_33 (v := 34) (by decide) ?_
              refine g_callVi (n := 2) C (c_X1_behind g b tr n fed tx ks fs ts ct pl N p hN (by omega) 34) gX1_stringEnd_X1_behind rfl rfl rfl rfl (by decide) (by decide) rfl (Nat.le_of_ble_eq_true rfl) dX1_stringEnd_35 ?_
              refine g_top (bhd_yes hw) ?_
              refine g_istore_n (lv' := [(2, .int (nI (p + cwd (look tx N) p 34))), (3, .int (nI k)), (0, .ref (b 0)), (1, .int (nI i))]) C dX1_stringEnd_38 (by decide) rfl ?_
              refine g_iinc (o := 1) (v := nI (k + 1)) (lv' := [(3, .int (nI (k + 1))), (2, .int (nI (p + cwd (look tx N) p 34))), (0, .ref (b 0)), (1, .int (nI i))]) C dX1_stringEnd_39 rfl (nI_add k 1) (by decide) rfl ?_
              refine g_goto C dX1_stringEnd_42 (tgt := 6) (by decide) ?_
              have hw2 := cwd_le (look tx N) p 34
              exact ih (k + 1) (p + cwd (look tx N) p 34) (by omega) (by omega) (by omega) h3
          · exact absurd c10 (fun z => by have z2 := (nI_eq (b := 200) (by omega) (by omega)).mp z; omega)
  refine g_iload_n C dX1_stringEnd_0 1 rfl ?_
  refine g_iconst C dX1_stringEnd_1 (v := 1) (by decide) ?_
  refine g_iadd C dX1_stringEnd_2 ?_
  refine g_top (nI_add i 1) ?_
  refine g_istore_n (lv' := [(2, .int (nI (i + 1))), (0, .ref (b 0)), (1, .int (nI i))]) C dX1_stringEnd_3 (by decide) rfl ?_
  refine g_iconst C dX1_stringEnd_4 (v := 0) (by decide) ?_
  refine g_istore_n (lv' := [(3, .int 0), (2, .int (nI (i + 1))), (0, .ref (b 0)), (1, .int (nI i))]) C dX1_stringEnd_5 (by decide) rfl ?_
  exact loop 200 0 (i + 1) (by omega) (by omega) (by omega) ho.symm
