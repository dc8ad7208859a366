set_option maxHeartbeats 4000000 in
set_option maxRecDepth 100000 in
theorem c_X0_isDigit (g : Gl) (x : Int32) : Ctr g yX0_isDigit wsX0_isDigit ({ frames := 0, cells := 0, slots := 0, locals := 0 }) [.int x] [] (some (.int (b01 (bDig x)))) [] 0 0 := by
  refine Ctr.start (cc := cX0_isDigit) (maxL := 1) (ret := (some .boolean)) (by decide) rfl (Nat.le_of_ble_eq_true rfl) (lv0 := [(0, .int x)]) rfl ?_
  intro X C F
  have C : Ok g X cX0_isDigit RX0 wsX0_isDigit ({ frames := 0, cells := 0, slots := 0, locals := 0 }) (some .boolean) 1 := C
  refine g_iload_n C dX0_isDigit_0 0 rfl ?_
  refine g_bipush C dX0_isDigit_1 (v := 48) (by decide) ?_
  refine g_icmp_lt C dX0_isDigit_3 (tgt := 16) (by decide) (fun c1 => ?_) (fun c1 => ?_)
  · refine g_iconst C dX0_isDigit_16 (v := 0) (by decide) ?_
    have c1 := k_lt (b := 48) (by decide) c1
    exact g_zret C F (by decide) ((b01_f (by omega)).symm) (rfl) dX0_isDigit_17
  · refine g_iload_n C dX0_isDigit_6 0 rfl ?_
    refine g_bipush C dX0_isDigit_7 (v := 57) (by decide) ?_
    refine g_icmp_gt C dX0_isDigit_9 (tgt := 16) (by decide) (fun c2 => ?_) (fun c2 => ?_)
    · refine g_iconst C dX0_isDigit_16 (v := 0) (by decide) ?_
      have c1 := k_nlt (b := 48) (by decide) c1
      have c2 := k_gt (b := 57) (by decide) c2
      exact g_zret C F (by decide) ((b01_f (by omega)).symm) (rfl) dX0_isDigit_17
    · refine g_iconst C dX0_isDigit_12 (v := 1) (by decide) ?_
      refine g_goto C dX0_isDigit_13 (tgt := 17) (by decide) ?_
      have c1 := k_nlt (b := 48) (by decide) c1
      have c2 := k_ngt (b := 57) (by decide) c2
      exact g_zret C F (by decide) ((b01_t (by omega)).symm) (rfl) dX0_isDigit_17
set_option maxHeartbeats 4000000 in
set_option maxRecDepth 100000 in
theorem c_X0_isLetter (g : Gl) (x : Int32) : Ctr g yX0_isLetter wsX0_isLetter ({ frames := 0, cells := 0, slots := 0, locals := 0 }) [.int x] [] (some (.int (b01 (bLet x)))) [] 0 0 := by
  refine Ctr.start (cc := cX0_isLetter) (maxL := 1) (ret := (some .boolean)) (by decide) rfl (Nat.le_of_ble_eq_true rfl) (lv0 := [(0, .int x)]) rfl ?_
  intro X C F
  have C : Ok g X cX0_isLetter RX0 wsX0_isLetter ({ frames := 0, cells := 0, slots := 0, locals := 0 }) (some .boolean) 1 := C
  refine g_iload_n C dX0_isLetter_0 0 rfl ?_
  refine g_bipush C dX0_isLetter_1 (v := 97) (by decide) ?_
  refine g_icmp_lt C dX0_isLetter_3 (tgt := 12) (by decide) (fun c1 => ?_) (fun c1 => ?_)
  · refine g_iload_n C dX0_isLetter_12 0 rfl ?_
    refine g_bipush C dX0_isLetter_13 (v := 65) (by decide) ?_
    refine g_icmp_lt C dX0_isLetter_15 (tgt := 24) (by decide) (fun c2 => ?_) (fun c2 => ?_)
    · refine g_iload_n C dX0_isLetter_24 0 rfl ?_
      refine g_bipush C dX0_isLetter_25 (v := 95) (by decide) ?_
      refine g_icmp_ne C dX0_isLetter_27 (tgt := 34) (by decide) (fun c3 => ?_) (fun c3 => ?_)
      · refine g_iconst C dX0_isLetter_34 (v := 0) (by decide) ?_
        have c1 := k_lt (b := 97) (by decide) c1
        have c2 := k_lt (b := 65) (by decide) c2
        have c3 := k_ne (b := 95) (by decide) c3
        exact g_zret C F (by decide) ((b01_f (by omega)).symm) (rfl) dX0_isLetter_35
      · refine g_iconst C dX0_isLetter_30 (v := 1) (by decide) ?_
        refine g_goto C dX0_isLetter_31 (tgt := 35) (by decide) ?_
        have c1 := k_lt (b := 97) (by decide) c1
        have c2 := k_lt (b := 65) (by decide) c2
        have c3 := k_eq (b := 95) (by decide) c3
        exact g_zret C F (by decide) ((b01_t (by omega)).symm) (rfl) dX0_isLetter_35
    · refine g_iload_n C dX0_isLetter_18 0 rfl ?_
      refine g_bipush C dX0_isLetter_19 (v := 90) (by decide) ?_
      refine g_icmp_le C dX0_isLetter_21 (tgt := 30) (by decide) (fun c4 => ?_) (fun c4 => ?_)
      · refine g_iconst C dX0_isLetter_30 (v := 1) (by decide) ?_
        refine g_goto C dX0_isLetter_31 (tgt := 35) (by decide) ?_
        have c1 := k_lt (b := 97) (by decide) c1
        have c2 := k_nlt (b := 65) (by decide) c2
        have c4 := k_le (b := 90) (by decide) c4
        exact g_zret C F (by decide) ((b01_t (by omega)).symm) (rfl) dX0_isLetter_35
      · refine g_iload_n C dX0_isLetter_24 0 rfl ?_
        refine g_bipush C dX0_isLetter_25 (v := 95) (by decide) ?_
        refine g_icmp_ne C dX0_isLetter_27 (tgt := 34) (by decide) (fun c5 => ?_) (fun c5 => ?_)
        · refine g_iconst C dX0_isLetter_34 (v := 0) (by decide) ?_
          have c1 := k_lt (b := 97) (by decide) c1
          have c2 := k_nlt (b := 65) (by decide) c2
          have c4 := k_nle (b := 90) (by decide) c4
          have c5 := k_ne (b := 95) (by decide) c5
          exact g_zret C F (by decide) ((b01_f (by omega)).symm) (rfl) dX0_isLetter_35
        · refine g_iconst C dX0_isLetter_30 (v := 1) (by decide) ?_
          refine g_goto C dX0_isLetter_31 (tgt := 35) (by decide) ?_
          have c1 := k_lt (b := 97) (by decide) c1
          have c2 := k_nlt (b := 65) (by decide) c2
          have c4 := k_nle (b := 90) (by decide) c4
          have c5 := k_eq (b := 95) (by decide) c5
          exact g_zret C F (by decide) ((b01_t (by omega)).symm) (rfl) dX0_isLetter_35
  · refine g_iload_n C dX0_isLetter_6 0 rfl ?_
    refine g_bipush C dX0_isLetter_7 (v := 122) (by decide) ?_
    refine g_icmp_le C dX0_isLetter_9 (tgt := 30) (by decide) (fun c6 => ?_) (fun c6 => ?_)
    · refine g_iconst C dX0_isLetter_30 (v := 1) (by decide) ?_
      refine g_goto C dX0_isLetter_31 (tgt := 35) (by decide) ?_
      have c1 := k_nlt (b := 97) (by decide) c1
      have c6 := k_le (b := 122) (by decide) c6
      exact g_zret C F (by decide) ((b01_t (by omega)).symm) (rfl) dX0_isLetter_35
    · refine g_iload_n C dX0_isLetter_12 0 rfl ?_
      refine g_bipush C dX0_isLetter_13 (v := 65) (by decide) ?_
      refine g_icmp_lt C dX0_isLetter_15 (tgt := 24) (by decide) (fun c7 => ?_) (fun c7 => ?_)
      · refine g_iload_n C dX0_isLetter_24 0 rfl ?_
        refine g_bipush C dX0_isLetter_25 (v := 95) (by decide) ?_
        refine g_icmp_ne C dX0_isLetter_27 (tgt := 34) (by decide) (fun c8 => ?_) (fun c8 => ?_)
        · refine g_iconst C dX0_isLetter_34 (v := 0) (by decide) ?_
          have c1 := k_nlt (b := 97) (by decide) c1
          have c6 := k_nle (b := 122) (by decide) c6
          have c7 := k_lt (b := 65) (by decide) c7
          have c8 := k_ne (b := 95) (by decide) c8
          exact g_zret C F (by decide) ((b01_f (by omega)).symm) (rfl) dX0_isLetter_35
        · refine g_iconst C dX0_isLetter_30 (v := 1) (by decide) ?_
          refine g_goto C dX0_isLetter_31 (tgt := 35) (by decide) ?_
          have c1 := k_nlt (b := 97) (by decide) c1
          have c6 := k_nle (b := 122) (by decide) c6
          have c7 := k_lt (b := 65) (by decide) c7
          have c8 := k_eq (b := 95) (by decide) c8
          exact g_zret C F (by decide) ((b01_t (by omega)).symm) (rfl) dX0_isLetter_35
      · refine g_iload_n C dX0_isLetter_18 0 rfl ?_
        refine g_bipush C dX0_isLetter_19 (v := 90) (by decide) ?_
        refine g_icmp_le C dX0_isLetter_21 (tgt := 30) (by decide) (fun c9 => ?_) (fun c9 => ?_)
        · refine g_iconst C dX0_isLetter_30 (v := 1) (by decide) ?_
          refine g_goto C dX0_isLetter_31 (tgt := 35) (by decide) ?_
          have c1 := k_nlt (b := 97) (by decide) c1
          have c6 := k_nle (b := 122) (by decide) c6
          have c7 := k_nlt (b := 65) (by decide) c7
          have c9 := k_le (b := 90) (by decide) c9
          exact g_zret C F (by decide) ((b01_t (by omega)).symm) (rfl) dX0_isLetter_35
        · refine g_iload_n C dX0_isLetter_24 0 rfl ?_
          refine g_bipush C dX0_isLetter_25 (v := 95) (by decide) ?_
          refine g_icmp_ne C dX0_isLetter_27 (tgt := 34) (by decide) (fun c10 => ?_) (fun c10 => ?_)
          · refine g_iconst C dX0_isLetter_34 (v := 0) (by decide) ?_
            have c1 := k_nlt (b := 97) (by decide) c1
            have c6 := k_nle (b := 122) (by decide) c6
            have c7 := k_nlt (b := 65) (by decide) c7
            have c9 := k_nle (b := 90) (by decide) c9
            have c10 := k_ne (b := 95) (by decide) c10
            exact g_zret C F (by decide) ((b01_f (by omega)).symm) (rfl) dX0_isLetter_35
          · refine g_iconst C dX0_isLetter_30 (v := 1) (by decide) ?_
            refine g_goto C dX0_isLetter_31 (tgt := 35) (by decide) ?_
            have c1 := k_nlt (b := 97) (by decide) c1
            have c6 := k_nle (b := 122) (by decide) c6
            have c7 := k_nlt (b := 65) (by decide) c7
            have c9 := k_nle (b := 90) (by decide) c9
            have c10 := k_eq (b := 95) (by decide) c10
            exact g_zret C F (by decide) ((b01_t (by omega)).symm) (rfl) dX0_isLetter_35
set_option maxHeartbeats 4000000 in
set_option maxRecDepth 100000 in
theorem c_X0_isBlankByte (g : Gl) (x : Int32) : Ctr g yX0_isBlankByte wsX0_isBlankByte ({ frames := 0, cells := 0, slots := 0, locals := 0 }) [.int x] [] (some (.int (b01 (bBlk x)))) [] 0 0 := by
  refine Ctr.start (cc := cX0_isBlankByte) (maxL := 1) (ret := (some .boolean)) (by decide) rfl (Nat.le_of_ble_eq_true rfl) (lv0 := [(0, .int x)]) rfl ?_
  intro X C F
  have C : Ok g X cX0_isBlankByte RX0 wsX0_isBlankByte ({ frames := 0, cells := 0, slots := 0, locals := 0 }) (some .boolean) 1 := C
  refine g_iload_n C dX0_isBlankByte_0 0 rfl ?_
  refine g_bipush C dX0_isBlankByte_1 (v := 9) (by decide) ?_
  refine g_icmp_eq C dX0_isBlankByte_3 (tgt := 24) (by decide) (fun c1 => ?_) (fun c1 => ?_)
  · refine g_iconst C dX0_isBlankByte_24 (v := 1) (by decide) ?_
    refine g_goto C dX0_isBlankByte_25 (tgt := 29) (by decide) ?_
    have c1 := k_eq (b := 9) (by decide) c1
    exact g_zret C F (by decide) ((b01_t (by omega)).symm) (rfl) dX0_isBlankByte_29
  · refine g_iload_n C dX0_isBlankByte_6 0 rfl ?_
    refine g_bipush C dX0_isBlankByte_7 (v := 10) (by decide) ?_
    refine g_icmp_eq C dX0_isBlankByte_9 (tgt := 24) (by decide) (fun c2 => ?_) (fun c2 => ?_)
    · refine g_iconst C dX0_isBlankByte_24 (v := 1) (by decide) ?_
      refine g_goto C dX0_isBlankByte_25 (tgt := 29) (by decide) ?_
      have c1 := k_ne (b := 9) (by decide) c1
      have c2 := k_eq (b := 10) (by decide) c2
      exact g_zret C F (by decide) ((b01_t (by omega)).symm) (rfl) dX0_isBlankByte_29
    · refine g_iload_n C dX0_isBlankByte_12 0 rfl ?_
      refine g_bipush C dX0_isBlankByte_13 (v := 13) (by decide) ?_
      refine g_icmp_eq C dX0_isBlankByte_15 (tgt := 24) (by decide) (fun c3 => ?_) (fun c3 => ?_)
      · refine g_iconst C dX0_isBlankByte_24 (v := 1) (by decide) ?_
        refine g_goto C dX0_isBlankByte_25 (tgt := 29) (by decide) ?_
        have c1 := k_ne (b := 9) (by decide) c1
        have c2 := k_ne (b := 10) (by decide) c2
        have c3 := k_eq (b := 13) (by decide) c3
        exact g_zret C F (by decide) ((b01_t (by omega)).symm) (rfl) dX0_isBlankByte_29
      · refine g_iload_n C dX0_isBlankByte_18 0 rfl ?_
        refine g_bipush C dX0_isBlankByte_19 (v := 32) (by decide) ?_
        refine g_icmp_ne C dX0_isBlankByte_21 (tgt := 28) (by decide) (fun c4 => ?_) (fun c4 => ?_)
        · refine g_iconst C dX0_isBlankByte_28 (v := 0) (by decide) ?_
          have c1 := k_ne (b := 9) (by decide) c1
          have c2 := k_ne (b := 10) (by decide) c2
          have c3 := k_ne (b := 13) (by decide) c3
          have c4 := k_ne (b := 32) (by decide) c4
          exact g_zret C F (by decide) ((b01_f (by omega)).symm) (rfl) dX0_isBlankByte_29
        · refine g_iconst C dX0_isBlankByte_24 (v := 1) (by decide) ?_
          refine g_goto C dX0_isBlankByte_25 (tgt := 29) (by decide) ?_
          have c1 := k_ne (b := 9) (by decide) c1
          have c2 := k_ne (b := 10) (by decide) c2
          have c3 := k_ne (b := 13) (by decide) c3
          have c4 := k_eq (b := 32) (by decide) c4
          exact g_zret C F (by decide) ((b01_t (by omega)).symm) (rfl) dX0_isBlankByte_29
set_option maxHeartbeats 4000000 in
set_option maxRecDepth 100000 in
theorem c_X0_isNamePart (g : Gl) (x : Int32) : Ctr g yX0_isNamePart wsX0_isNamePart ({ frames := 1, cells := 0, slots := 0, locals := 20 }) [.int x] [] (some (.int (b01 (bNam x)))) [] 0 0 := by
  refine Ctr.start (cc := cX0_isNamePart) (maxL := 1) (ret := (some .boolean)) (by decide) rfl (Nat.le_of_ble_eq_true rfl) (lv0 := [(0, .int x)]) rfl ?_
  intro X C F
  have C : Ok g X cX0_isNamePart RX0 wsX0_isNamePart ({ frames := 1, cells := 0, slots := 0, locals := 20 }) (some .boolean) 1 := C
  refine g_iload_n C dX0_isNamePart_0 0 rfl ?_
  refine g_callSi (n := 1) C (c_X0_isLetter g x) gX0_isNamePart_X0_isLetter rfl rfl (by decide) (by decide) rfl (Nat.le_of_ble_eq_true rfl) dX0_isNamePart_1 ?_
  refine g_if_ne C dX0_isNamePart_4 (tgt := 14) (by decide) (fun c1 => ?_) (fun c1 => ?_)
  · refine g_iconst C dX0_isNamePart_14 (v := 1) (by decide) ?_
    refine g_goto C dX0_isNamePart_15 (tgt := 19) (by decide) ?_
    have c1 := bLet_t (b01_1.mp c1)
    exact g_zret C F (by decide) ((b01_t (by omega)).symm) (rfl) dX0_isNamePart_19
  · refine g_iload_n C dX0_isNamePart_7 0 rfl ?_
    refine g_callSi (n := 1) C (c_X0_isDigit g x) gX0_isNamePart_X0_isDigit rfl rfl (by decide) (by decide) rfl (Nat.le_of_ble_eq_true rfl) dX0_isNamePart_8 ?_
    refine g_if_eq C dX0_isNamePart_11 (tgt := 18) (by decide) (fun c2 => ?_) (fun c2 => ?_)
    · refine g_iconst C dX0_isNamePart_18 (v := 0) (by decide) ?_
      have c1 := bLet_f (b01_0.mp c1)
      have c2 := bDig_f (b01_0.mp c2)
      exact g_zret C F (by decide) ((b01_f (by omega)).symm) (rfl) dX0_isNamePart_19
    · refine g_iconst C dX0_isNamePart_14 (v := 1) (by decide) ?_
      refine g_goto C dX0_isNamePart_15 (tgt := 19) (by decide) ?_
      have c1 := bLet_f (b01_0.mp c1)
      have c2 := bDig_t (b01_1.mp c2)
      exact g_zret C F (by decide) ((b01_t (by omega)).symm) (rfl) dX0_isNamePart_19
set_option maxHeartbeats 4000000 in
set_option maxRecDepth 100000 in
theorem c_X0_mayOccur (g : Gl) (x : Int32) : Ctr g yX0_mayOccur wsX0_mayOccur ({ frames := 1, cells := 0, slots := 0, locals := 20 }) [.int x] [] (some (.int (b01 (bMay x)))) [] 0 0 := by
  refine Ctr.start (cc := cX0_mayOccur) (maxL := 1) (ret := (some .boolean)) (by decide) rfl (Nat.le_of_ble_eq_true rfl) (lv0 := [(0, .int x)]) rfl ?_
  intro X C F
  have C : Ok g X cX0_mayOccur RX0 wsX0_mayOccur ({ frames := 1, cells := 0, slots := 0, locals := 20 }) (some .boolean) 1 := C
  refine g_iload_n C dX0_mayOccur_0 0 rfl ?_
  refine g_bipush C dX0_mayOccur_1 (v := 32) (by decide) ?_
  refine g_icmp_lt C dX0_mayOccur_3 (tgt := 12) (by decide) (fun c1 => ?_) (fun c1 => ?_)
  · refine g_iload_n C dX0_mayOccur_12 0 rfl ?_
    refine g_callSi (n := 1) C (c_X0_isBlankByte g x) gX0_mayOccur_X0_isBlankByte rfl rfl (by decide) (by decide) rfl (Nat.le_of_ble_eq_true rfl) dX0_mayOccur_13 ?_
    refine g_if_eq C dX0_mayOccur_16 (tgt := 23) (by decide) (fun c2 => ?_) (fun c2 => ?_)
    · refine g_iconst C dX0_mayOccur_23 (v := 0) (by decide) ?_
      have c1 := k_lt (b := 32) (by decide) c1
      have c2 := bBlk_f (b01_0.mp c2)
      exact g_zret C F (by decide) ((b01_f (by omega)).symm) (rfl) dX0_mayOccur_24
    · refine g_iconst C dX0_mayOccur_19 (v := 1) (by decide) ?_
      refine g_goto C dX0_mayOccur_20 (tgt := 24) (by decide) ?_
      have c1 := k_lt (b := 32) (by decide) c1
      have c2 := bBlk_t (b01_1.mp c2)
      exact g_zret C F (by decide) ((b01_t (by omega)).symm) (rfl) dX0_mayOccur_24
  · refine g_iload_n C dX0_mayOccur_6 0 rfl ?_
    refine g_bipush C dX0_mayOccur_7 (v := 126) (by decide) ?_
    refine g_icmp_le C dX0_mayOccur_9 (tgt := 19) (by decide) (fun c3 => ?_) (fun c3 => ?_)
    · refine g_iconst C dX0_mayOccur_19 (v := 1) (by decide) ?_
      refine g_goto C dX0_mayOccur_20 (tgt := 24) (by decide) ?_
      have c1 := k_nlt (b := 32) (by decide) c1
      have c3 := k_le (b := 126) (by decide) c3
      exact g_zret C F (by decide) ((b01_t (by omega)).symm) (rfl) dX0_mayOccur_24
    · refine g_iload_n C dX0_mayOccur_12 0 rfl ?_
      refine g_callSi (n := 1) C (c_X0_isBlankByte g x) gX0_mayOccur_X0_isBlankByte rfl rfl (by decide) (by decide) rfl (Nat.le_of_ble_eq_true rfl) dX0_mayOccur_13 ?_
      refine g_if_eq C dX0_mayOccur_16 (tgt := 23) (by decide) (fun c4 => ?_) (fun c4 => ?_)
      · refine g_iconst C dX0_mayOccur_23 (v := 0) (by decide) ?_
        have c1 := k_nlt (b := 32) (by decide) c1
        have c3 := k_nle (b := 126) (by decide) c3
        have c4 := bBlk_f (b01_0.mp c4)
        exact g_zret C F (by decide) ((b01_f (by omega)).symm) (rfl) dX0_mayOccur_24
      · refine g_iconst C dX0_mayOccur_19 (v := 1) (by decide) ?_
        refine g_goto C dX0_mayOccur_20 (tgt := 24) (by decide) ?_
        have c1 := k_nlt (b := 32) (by decide) c1
        have c3 := k_nle (b := 126) (by decide) c3
        have c4 := bBlk_t (b01_1.mp c4)
        exact g_zret C F (by decide) ((b01_t (by omega)).symm) (rfl) dX0_mayOccur_24
set_option maxHeartbeats 4000000 in
set_option maxRecDepth 100000 in
theorem c_X1_isDigit (g : Gl) (x : Int32) : Ctr g yX1_isDigit wsX1_isDigit ({ frames := 0, cells := 0, slots := 0, locals := 0 }) [.int x] [] (some (.int (b01 (bDig x)))) [] 0 0 := by
  refine Ctr.start (cc := cX1_isDigit) (maxL := 1) (ret := (some .boolean)) (by decide) rfl (Nat.le_of_ble_eq_true rfl) (lv0 := [(0, .int x)]) rfl ?_
  intro X C F
  have C : Ok g X cX1_isDigit RX1 wsX1_isDigit ({ frames := 0, cells := 0, slots := 0, locals := 0 }) (some .boolean) 1 := C
  refine g_iload_n C dX1_isDigit_0 0 rfl ?_
  refine g_bipush C dX1_isDigit_1 (v := 48) (by decide) ?_
  refine g_icmp_lt C dX1_isDigit_3 (tgt := 16) (by decide) (fun c1 => ?_) (fun c1 => ?_)
  · refine g_iconst C dX1_isDigit_16 (v := 0) (by decide) ?_
    have c1 := k_lt (b := 48) (by decide) c1
    exact g_zret C F (by decide) ((b01_f (by omega)).symm) (rfl) dX1_isDigit_17
  · refine g_iload_n C dX1_isDigit_6 0 rfl ?_
    refine g_bipush C dX1_isDigit_7 (v := 57) (by decide) ?_
    refine g_icmp_gt C dX1_isDigit_9 (tgt := 16) (by decide) (fun c2 => ?_) (fun c2 => ?_)
    · refine g_iconst C dX1_isDigit_16 (v := 0) (by decide) ?_
      have c1 := k_nlt (b := 48) (by decide) c1
      have c2 := k_gt (b := 57) (by decide) c2
      exact g_zret C F (by decide) ((b01_f (by omega)).symm) (rfl) dX1_isDigit_17
    · refine g_iconst C dX1_isDigit_12 (v := 1) (by decide) ?_
      refine g_goto C dX1_isDigit_13 (tgt := 17) (by decide) ?_
      have c1 := k_nlt (b := 48) (by decide) c1
      have c2 := k_ngt (b := 57) (by decide) c2
      exact g_zret C F (by decide) ((b01_t (by omega)).symm) (rfl) dX1_isDigit_17
set_option maxHeartbeats 4000000 in
set_option maxRecDepth 100000 in
theorem c_X1_isBlank (g : Gl) (x : Int32) : Ctr g yX1_isBlank wsX1_isBlank ({ frames := 0, cells := 0, slots := 0, locals := 0 }) [.int x] [] (some (.int (b01 (bBlk x)))) [] 0 0 := by
  refine Ctr.start (cc := cX1_isBlank) (maxL := 1) (ret := (some .boolean)) (by decide) rfl (Nat.le_of_ble_eq_true rfl) (lv0 := [(0, .int x)]) rfl ?_
  intro X C F
  have C : Ok g X cX1_isBlank RX1 wsX1_isBlank ({ frames := 0, cells := 0, slots := 0, locals := 0 }) (some .boolean) 1 := C
  refine g_iload_n C dX1_isBlank_0 0 rfl ?_
  refine g_bipush C dX1_isBlank_1 (v := 9) (by decide) ?_
  refine g_icmp_eq C dX1_isBlank_3 (tgt := 24) (by decide) (fun c1 => ?_) (fun c1 => ?_)
  · refine g_iconst C dX1_isBlank_24 (v := 1) (by decide) ?_
    refine g_goto C dX1_isBlank_25 (tgt := 29) (by decide) ?_
    have c1 := k_eq (b := 9) (by decide) c1
    exact g_zret C F (by decide) ((b01_t (by omega)).symm) (rfl) dX1_isBlank_29
  · refine g_iload_n C dX1_isBlank_6 0 rfl ?_
    refine g_bipush C dX1_isBlank_7 (v := 10) (by decide) ?_
    refine g_icmp_eq C dX1_isBlank_9 (tgt := 24) (by decide) (fun c2 => ?_) (fun c2 => ?_)
    · refine g_iconst C dX1_isBlank_24 (v := 1) (by decide) ?_
      refine g_goto C dX1_isBlank_25 (tgt := 29) (by decide) ?_
      have c1 := k_ne (b := 9) (by decide) c1
      have c2 := k_eq (b := 10) (by decide) c2
      exact g_zret C F (by decide) ((b01_t (by omega)).symm) (rfl) dX1_isBlank_29
    · refine g_iload_n C dX1_isBlank_12 0 rfl ?_
      refine g_bipush C dX1_isBlank_13 (v := 13) (by decide) ?_
      refine g_icmp_eq C dX1_isBlank_15 (tgt := 24) (by decide) (fun c3 => ?_) (fun c3 => ?_)
      · refine g_iconst C dX1_isBlank_24 (v := 1) (by decide) ?_
        refine g_goto C dX1_isBlank_25 (tgt := 29) (by decide) ?_
        have c1 := k_ne (b := 9) (by decide) c1
        have c2 := k_ne (b := 10) (by decide) c2
        have c3 := k_eq (b := 13) (by decide) c3
        exact g_zret C F (by decide) ((b01_t (by omega)).symm) (rfl) dX1_isBlank_29
      · refine g_iload_n C dX1_isBlank_18 0 rfl ?_
        refine g_bipush C dX1_isBlank_19 (v := 32) (by decide) ?_
        refine g_icmp_ne C dX1_isBlank_21 (tgt := 28) (by decide) (fun c4 => ?_) (fun c4 => ?_)
        · refine g_iconst C dX1_isBlank_28 (v := 0) (by decide) ?_
          have c1 := k_ne (b := 9) (by decide) c1
          have c2 := k_ne (b := 10) (by decide) c2
          have c3 := k_ne (b := 13) (by decide) c3
          have c4 := k_ne (b := 32) (by decide) c4
          exact g_zret C F (by decide) ((b01_f (by omega)).symm) (rfl) dX1_isBlank_29
        · refine g_iconst C dX1_isBlank_24 (v := 1) (by decide) ?_
          refine g_goto C dX1_isBlank_25 (tgt := 29) (by decide) ?_
          have c1 := k_ne (b := 9) (by decide) c1
          have c2 := k_ne (b := 10) (by decide) c2
          have c3 := k_ne (b := 13) (by decide) c3
          have c4 := k_eq (b := 32) (by decide) c4
          exact g_zret C F (by decide) ((b01_t (by omega)).symm) (rfl) dX1_isBlank_29
set_option maxHeartbeats 4000000 in
set_option maxRecDepth 100000 in
theorem c_X1_isInName (g : Gl) (x : Int32) : Ctr g yX1_isInName wsX1_isInName ({ frames := 1, cells := 0, slots := 0, locals := 20 }) [.int x] [] (some (.int (b01 (bNam x)))) [] 0 0 := by
  refine Ctr.start (cc := cX1_isInName) (maxL := 1) (ret := (some .boolean)) (by decide) rfl (Nat.le_of_ble_eq_true rfl) (lv0 := [(0, .int x)]) rfl ?_
  intro X C F
  have C : Ok g X cX1_isInName RX1 wsX1_isInName ({ frames := 1, cells := 0, slots := 0, locals := 20 }) (some .boolean) 1 := C
  refine g_iload_n C dX1_isInName_0 0 rfl ?_
  refine g_callSi (n := 1) C (c_X1_isDigit g x) gX1_isInName_X1_isDigit rfl rfl (by decide) (by decide) rfl (Nat.le_of_ble_eq_true rfl) dX1_isInName_1 ?_
  refine g_if_ne C dX1_isInName_4 (tgt := 37) (by decide) (fun c1 => ?_) (fun c1 => ?_)
  · refine g_iconst C dX1_isInName_37 (v := 1) (by decide) ?_
    refine g_goto C dX1_isInName_38 (tgt := 42) (by decide) ?_
    have c1 := bDig_t (b01_1.mp c1)
    exact g_zret C F (by decide) ((b01_t (by omega)).symm) (rfl) dX1_isInName_42
  · refine g_iload_n C dX1_isInName_7 0 rfl ?_
    refine g_bipush C dX1_isInName_8 (v := 95) (by decide) ?_
    refine g_icmp_eq C dX1_isInName_10 (tgt := 37) (by decide) (fun c2 => ?_) (fun c2 => ?_)
    · refine g_iconst C dX1_isInName_37 (v := 1) (by decide) ?_
      refine g_goto C dX1_isInName_38 (tgt := 42) (by decide) ?_
      have c1 := bDig_f (b01_0.mp c1)
      have c2 := k_eq (b := 95) (by decide) c2
      exact g_zret C F (by decide) ((b01_t (by omega)).symm) (rfl) dX1_isInName_42
    · refine g_iload_n C dX1_isInName_13 0 rfl ?_
      refine g_bipush C dX1_isInName_14 (v := 97) (by decide) ?_
      refine g_icmp_lt C dX1_isInName_16 (tgt := 25) (by decide) (fun c3 => ?_) (fun c3 => ?_)
      · refine g_iload_n C dX1_isInName_25 0 rfl ?_
        refine g_bipush C dX1_isInName_26 (v := 65) (by decide) ?_
        refine g_icmp_lt C dX1_isInName_28 (tgt := 41) (by decide) (fun c4 => ?_) (fun c4 => ?_)
        · refine g_iconst C dX1_isInName_41 (v := 0) (by decide) ?_
          have c1 := bDig_f (b01_0.mp c1)
          have c2 := k_ne (b := 95) (by decide) c2
          have c3 := k_lt (b := 97) (by decide) c3
          have c4 := k_lt (b := 65) (by decide) c4
          exact g_zret C F (by decide) ((b01_f (by omega)).symm) (rfl) dX1_isInName_42
        · refine g_iload_n C dX1_isInName_31 0 rfl ?_
          refine g_bipush C dX1_isInName_32 (v := 90) (by decide) ?_
          refine g_icmp_gt C dX1_isInName_34 (tgt := 41) (by decide) (fun c5 => ?_) (fun c5 => ?_)
          · refine g_iconst C dX1_isInName_41 (v := 0) (by decide) ?_
            have c1 := bDig_f (b01_0.mp c1)
            have c2 := k_ne (b := 95) (by decide) c2
            have c3 := k_lt (b := 97) (by decide) c3
            have c4 := k_nlt (b := 65) (by decide) c4
            have c5 := k_gt (b := 90) (by decide) c5
            exact g_zret C F (by decide) ((b01_f (by omega)).symm) (rfl) dX1_isInName_42
          · refine g_iconst C dX1_isInName_37 (v := 1) (by decide) ?_
            refine g_goto C dX1_isInName_38 (tgt := 42) (by decide) ?_
            have c1 := bDig_f (b01_0.mp c1)
            have c2 := k_ne (b := 95) (by decide) c2
            have c3 := k_lt (b := 97) (by decide) c3
            have c4 := k_nlt (b := 65) (by decide) c4
            have c5 := k_ngt (b := 90) (by decide) c5
            exact g_zret C F (by decide) ((b01_t (by omega)).symm) (rfl) dX1_isInName_42
      · refine g_iload_n C dX1_isInName_19 0 rfl ?_
        refine g_bipush C dX1_isInName_20 (v := 122) (by decide) ?_
        refine g_icmp_le C dX1_isInName_22 (tgt := 37) (by decide) (fun c6 => ?_) (fun c6 => ?_)
        · refine g_iconst C dX1_isInName_37 (v := 1) (by decide) ?_
          refine g_goto C dX1_isInName_38 (tgt := 42) (by decide) ?_
          have c1 := bDig_f (b01_0.mp c1)
          have c2 := k_ne (b := 95) (by decide) c2
          have c3 := k_nlt (b := 97) (by decide) c3
          have c6 := k_le (b := 122) (by decide) c6
          exact g_zret C F (by decide) ((b01_t (by omega)).symm) (rfl) dX1_isInName_42
        · refine g_iload_n C dX1_isInName_25 0 rfl ?_
          refine g_bipush C dX1_isInName_26 (v := 65) (by decide) ?_
          refine g_icmp_lt C dX1_isInName_28 (tgt := 41) (by decide) (fun c7 => ?_) (fun c7 => ?_)
          · refine g_iconst C dX1_isInName_41 (v := 0) (by decide) ?_
            have c1 := bDig_f (b01_0.mp c1)
            have c2 := k_ne (b := 95) (by decide) c2
            have c3 := k_nlt (b := 97) (by decide) c3
            have c6 := k_nle (b := 122) (by decide) c6
            have c7 := k_lt (b := 65) (by decide) c7
            exact g_zret C F (by decide) ((b01_f (by omega)).symm) (rfl) dX1_isInName_42
          · refine g_iload_n C dX1_isInName_31 0 rfl ?_
            refine g_bipush C dX1_isInName_32 (v := 90) (by decide) ?_
            refine g_icmp_gt C dX1_isInName_34 (tgt := 41) (by decide) (fun c8 => ?_) (fun c8 => ?_)
            · refine g_iconst C dX1_isInName_41 (v := 0) (by decide) ?_
              have c1 := bDig_f (b01_0.mp c1)
              have c2 := k_ne (b := 95) (by decide) c2
              have c3 := k_nlt (b := 97) (by decide) c3
              have c6 := k_nle (b := 122) (by decide) c6
              have c7 := k_nlt (b := 65) (by decide) c7
              have c8 := k_gt (b := 90) (by decide) c8
              exact g_zret C F (by decide) ((b01_f (by omega)).symm) (rfl) dX1_isInName_42
            · refine g_iconst C dX1_isInName_37 (v := 1) (by decide) ?_
              refine g_goto C dX1_isInName_38 (tgt := 42) (by decide) ?_
              have c1 := bDig_f (b01_0.mp c1)
              have c2 := k_ne (b := 95) (by decide) c2
              have c3 := k_nlt (b := 97) (by decide) c3
              have c6 := k_nle (b := 122) (by decide) c6
              have c7 := k_nlt (b := 65) (by decide) c7
              have c8 := k_ngt (b := 90) (by decide) c8
              exact g_zret C F (by decide) ((b01_t (by omega)).symm) (rfl) dX1_isInName_42
set_option maxHeartbeats 4000000 in
set_option maxRecDepth 100000 in
theorem c_X1_isAllowed (g : Gl) (x : Int32) : Ctr g yX1_isAllowed wsX1_isAllowed ({ frames := 1, cells := 0, slots := 0, locals := 20 }) [.int x] [] (some (.int (b01 (bMay x)))) [] 0 0 := by
  refine Ctr.start (cc := cX1_isAllowed) (maxL := 1) (ret := (some .boolean)) (by decide) rfl (Nat.le_of_ble_eq_true rfl) (lv0 := [(0, .int x)]) rfl ?_
  intro X C F
  have C : Ok g X cX1_isAllowed RX1 wsX1_isAllowed ({ frames := 1, cells := 0, slots := 0, locals := 20 }) (some .boolean) 1 := C
  refine g_iload_n C dX1_isAllowed_0 0 rfl ?_
  refine g_callSi (n := 1) C (c_X1_isBlank g x) gX1_isAllowed_X1_isBlank rfl rfl (by decide) (by decide) rfl (Nat.le_of_ble_eq_true rfl) dX1_isAllowed_1 ?_
  refine g_if_ne C dX1_isAllowed_4 (tgt := 19) (by decide) (fun c1 => ?_) (fun c1 => ?_)
  · refine g_iconst C dX1_isAllowed_19 (v := 1) (by decide) ?_
    refine g_goto C dX1_isAllowed_20 (tgt := 24) (by decide) ?_
    have c1 := bBlk_t (b01_1.mp c1)
    exact g_zret C F (by decide) ((b01_t (by omega)).symm) (rfl) dX1_isAllowed_24
  · refine g_iload_n C dX1_isAllowed_7 0 rfl ?_
    refine g_bipush C dX1_isAllowed_8 (v := 32) (by decide) ?_
    refine g_icmp_lt C dX1_isAllowed_10 (tgt := 23) (by decide) (fun c2 => ?_) (fun c2 => ?_)
    · refine g_iconst C dX1_isAllowed_23 (v := 0) (by decide) ?_
      have c1 := bBlk_f (b01_0.mp c1)
      have c2 := k_lt (b := 32) (by decide) c2
      exact g_zret C F (by decide) ((b01_f (by omega)).symm) (rfl) dX1_isAllowed_24
    · refine g_iload_n C dX1_isAllowed_13 0 rfl ?_
      refine g_bipush C dX1_isAllowed_14 (v := 126) (by decide) ?_
      refine g_icmp_gt C dX1_isAllowed_16 (tgt := 23) (by decide) (fun c3 => ?_) (fun c3 => ?_)
      · refine g_iconst C dX1_isAllowed_23 (v := 0) (by decide) ?_
        have c1 := bBlk_f (b01_0.mp c1)
        have c2 := k_nlt (b := 32) (by decide) c2
        have c3 := k_gt (b := 126) (by decide) c3
        exact g_zret C F (by decide) ((b01_f (by omega)).symm) (rfl) dX1_isAllowed_24
      · refine g_iconst C dX1_isAllowed_19 (v := 1) (by decide) ?_
        refine g_goto C dX1_isAllowed_20 (tgt := 24) (by decide) ?_
        have c1 := bBlk_f (b01_0.mp c1)
        have c2 := k_nlt (b := 32) (by decide) c2
        have c3 := k_ngt (b := 126) (by decide) c3
        exact g_zret C F (by decide) ((b01_t (by omega)).symm) (rfl) dX1_isAllowed_24
theorem hx_a (x : Int32) : x - 97 + 10 = x - 87 := by
  rw [Int32.sub_eq_add_neg, Int32.add_assoc, Int32.sub_eq_add_neg]; rfl
theorem hx_b (x : Int32) : x - 65 + 10 = x - 55 := by
  rw [Int32.sub_eq_add_neg, Int32.add_assoc, Int32.sub_eq_add_neg]; rfl
set_option maxHeartbeats 4000000 in
set_option maxRecDepth 100000 in
theorem c_X0_hexDigit (g : Gl) (x : Int32) : Ctr g yX0_hexDigit wsX0_hexDigit ({ frames := 1, cells := 0, slots := 0, locals := 20 }) [.int x] [] (some (.int (hexv x))) [] 0 0 := by
  refine Ctr.start (cc := cX0_hexDigit) (maxL := 1) (ret := (some .int)) (by decide) rfl (Nat.le_of_ble_eq_true rfl) (lv0 := [(0, .int x)]) rfl ?_
  intro X C F
  have C : Ok g X cX0_hexDigit RX0 wsX0_hexDigit ({ frames := 1, cells := 0, slots := 0, locals := 20 }) (some .int) 1 := C
  refine g_iload_n C dX0_hexDigit_0 0 rfl ?_
  refine g_callSi (n := 1) C (c_X0_isDigit g x) gX0_hexDigit_X0_isDigit rfl rfl (by decide) (by decide) rfl (Nat.le_of_ble_eq_true rfl) dX0_hexDigit_1 ?_
  refine g_if_eq C dX0_hexDigit_4 (tgt := 12) (by decide) (fun c1 => ?_) (fun c1 => ?_)
  · refine g_iload_n C dX0_hexDigit_12 0 rfl ?_
    refine g_bipush C dX0_hexDigit_13 (v := 97) (by decide) ?_
    refine g_icmp_lt C dX0_hexDigit_15 (tgt := 32) (by decide) (fun c2 => ?_) (fun c2 => ?_)
    · refine g_iload_n C dX0_hexDigit_32 0 rfl ?_
      refine g_bipush C dX0_hexDigit_33 (v := 65) (by decide) ?_
      refine g_icmp_lt C dX0_hexDigit_35 (tgt := 54) (by decide) (fun c3 => ?_) (fun c3 => ?_)
      · refine g_iconst C dX0_hexDigit_54 (v := (-1)) (by decide) ?_
        have c1 := bDig_f (b01_0.mp c1)
        have c2 := k_lt (b := 97) (by decide) c2
        have c3 := k_lt (b := 65) (by decide) c3
        exact g_iret C F (by unfold hexv; first | (rw [if_pos (by omega)]; done) | (rw [if_neg (by omega), if_pos (by omega)]; exact hx_a x) | (rw [if_neg (by omega), if_pos (by omega)]; done) | (rw [if_neg (by omega), if_neg (by omega), if_pos (by omega)]; exact hx_b x) | (rw [if_neg (by omega), if_neg (by omega), if_pos (by omega)]; done) | (rw [if_neg (by omega), if_neg (by omega), if_neg (by omega)]; done)) (rfl) dX0_hexDigit_55
      · refine g_iload_n C dX0_hexDigit_38 0 rfl ?_
        refine g_bipush C dX0_hexDigit_39 (v := 70) (by decide) ?_
        refine g_icmp_gt C dX0_hexDigit_41 (tgt := 54) (by decide) (fun c4 => ?_) (fun c4 => ?_)
        · refine g_iconst C dX0_hexDigit_54 (v := (-1)) (by decide) ?_
          have c1 := bDig_f (b01_0.mp c1)
          have c2 := k_lt (b := 97) (by decide) c2
          have c3 := k_nlt (b := 65) (by decide) c3
          have c4 := k_gt (b := 70) (by decide) c4
          exact g_iret C F (by unfold hexv; first | (rw [if_pos (by omega)]; done) | (rw [if_neg (by omega), if_pos (by omega)]; exact hx_a x) | (rw [if_neg (by omega), if_pos (by omega)]; done) | (rw [if_neg (by omega), if_neg (by omega), if_pos (by omega)]; exact hx_b x) | (rw [if_neg (by omega), if_neg (by omega), if_pos (by omega)]; done) | (rw [if_neg (by omega), if_neg (by omega), if_neg (by omega)]; done)) (rfl) dX0_hexDigit_55
        · refine g_iload_n C dX0_hexDigit_44 0 rfl ?_
          refine g_bipush C dX0_hexDigit_45 (v := 65) (by decide) ?_
          refine g_isub C dX0_hexDigit_47 ?_
          refine g_bipush C dX0_hexDigit_48 (v := 10) (by decide) ?_
          refine g_iadd C dX0_hexDigit_50 ?_
          refine g_goto C dX0_hexDigit_51 (tgt := 55) (by decide) ?_
          have c1 := bDig_f (b01_0.mp c1)
          have c2 := k_lt (b := 97) (by decide) c2
          have c3 := k_nlt (b := 65) (by decide) c3
          have c4 := k_ngt (b := 70) (by decide) c4
          exact g_iret C F (by unfold hexv; first | (rw [if_pos (by omega)]; done) | (rw [if_neg (by omega), if_pos (by omega)]; exact hx_a x) | (rw [if_neg (by omega), if_pos (by omega)]; done) | (rw [if_neg (by omega), if_neg (by omega), if_pos (by omega)]; exact hx_b x) | (rw [if_neg (by omega), if_neg (by omega), if_pos (by omega)]; done) | (rw [if_neg (by omega), if_neg (by omega), if_neg (by omega)]; done)) (rfl) dX0_hexDigit_55
    · refine g_iload_n C dX0_hexDigit_18 0 rfl ?_
      refine g_bipush C dX0_hexDigit_19 (v := 102) (by decide) ?_
      refine g_icmp_gt C dX0_hexDigit_21 (tgt := 32) (by decide) (fun c5 => ?_) (fun c5 => ?_)
      · refine g_iload_n C dX0_hexDigit_32 0 rfl ?_
        refine g_bipush C dX0_hexDigit_33 (v := 65) (by decide) ?_
        refine g_icmp_lt C dX0_hexDigit_35 (tgt := 54) (by decide) (fun c6 => ?_) (fun c6 => ?_)
        · refine g_iconst C dX0_hexDigit_54 (v := (-1)) (by decide) ?_
          have c1 := bDig_f (b01_0.mp c1)
          have c2 := k_nlt (b := 97) (by decide) c2
          have c5 := k_gt (b := 102) (by decide) c5
          have c6 := k_lt (b := 65) (by decide) c6
          exact g_iret C F (by unfold hexv; first | (rw [if_pos (by omega)]; done) | (rw [if_neg (by omega), if_pos (by omega)]; exact hx_a x) | (rw [if_neg (by omega), if_pos (by omega)]; done) | (rw [if_neg (by omega), if_neg (by omega), if_pos (by omega)]; exact hx_b x) | (rw [if_neg (by omega), if_neg (by omega), if_pos (by omega)]; done) | (rw [if_neg (by omega), if_neg (by omega), if_neg (by omega)]; done)) (rfl) dX0_hexDigit_55
        · refine g_iload_n C dX0_hexDigit_38 0 rfl ?_
          refine g_bipush C dX0_hexDigit_39 (v := 70) (by decide) ?_
          refine g_icmp_gt C dX0_hexDigit_41 (tgt := 54) (by decide) (fun c7 => ?_) (fun c7 => ?_)
          · refine g_iconst C dX0_hexDigit_54 (v := (-1)) (by decide) ?_
            have c1 := bDig_f (b01_0.mp c1)
            have c2 := k_nlt (b := 97) (by decide) c2
            have c5 := k_gt (b := 102) (by decide) c5
            have c6 := k_nlt (b := 65) (by decide) c6
            have c7 := k_gt (b := 70) (by decide) c7
            exact g_iret C F (by unfold hexv; first | (rw [if_pos (by omega)]; done) | (rw [if_neg (by omega), if_pos (by omega)]; exact hx_a x) | (rw [if_neg (by omega), if_pos (by omega)]; done) | (rw [if_neg (by omega), if_neg (by omega), if_pos (by omega)]; exact hx_b x) | (rw [if_neg (by omega), if_neg (by omega), if_pos (by omega)]; done) | (rw [if_neg (by omega), if_neg (by omega), if_neg (by omega)]; done)) (rfl) dX0_hexDigit_55
          · refine g_iload_n C dX0_hexDigit_44 0 rfl ?_
            refine g_bipush C dX0_hexDigit_45 (v := 65) (by decide) ?_
            refine g_isub C dX0_hexDigit_47 ?_
            refine g_bipush C dX0_hexDigit_48 (v := 10) (by decide) ?_
            refine g_iadd C dX0_hexDigit_50 ?_
            refine g_goto C dX0_hexDigit_51 (tgt := 55) (by decide) ?_
            have c1 := bDig_f (b01_0.mp c1)
            have c2 := k_nlt (b := 97) (by decide) c2
            have c5 := k_gt (b := 102) (by decide) c5
            have c6 := k_nlt (b := 65) (by decide) c6
            have c7 := k_ngt (b := 70) (by decide) c7
            exact g_iret C F (by unfold hexv; first | (rw [if_pos (by omega)]; done) | (rw [if_neg (by omega), if_pos (by omega)]; exact hx_a x) | (rw [if_neg (by omega), if_pos (by omega)]; done) | (rw [if_neg (by omega), if_neg (by omega), if_pos (by omega)]; exact hx_b x) | (rw [if_neg (by omega), if_neg (by omega), if_pos (by omega)]; done) | (rw [if_neg (by omega), if_neg (by omega), if_neg (by omega)]; done)) (rfl) dX0_hexDigit_55
      · refine g_iload_n C dX0_hexDigit_24 0 rfl ?_
        refine g_bipush C dX0_hexDigit_25 (v := 97) (by decide) ?_
        refine g_isub C dX0_hexDigit_27 ?_
        refine g_bipush C dX0_hexDigit_28 (v := 10) (by decide) ?_
        refine g_iadd C dX0_hexDigit_30 ?_
        have c1 := bDig_f (b01_0.mp c1)
        have c2 := k_nlt (b := 97) (by decide) c2
        have c5 := k_ngt (b := 102) (by decide) c5
        exact g_iret C F (by unfold hexv; first | (rw [if_pos (by omega)]; done) | (rw [if_neg (by omega), if_pos (by omega)]; exact hx_a x) | (rw [if_neg (by omega), if_pos (by omega)]; done) | (rw [if_neg (by omega), if_neg (by omega), if_pos (by omega)]; exact hx_b x) | (rw [if_neg (by omega), if_neg (by omega), if_pos (by omega)]; done) | (rw [if_neg (by omega), if_neg (by omega), if_neg (by omega)]; done)) (rfl) dX0_hexDigit_31
  · refine g_iload_n C dX0_hexDigit_7 0 rfl ?_
    refine g_bipush C dX0_hexDigit_8 (v := 48) (by decide) ?_
    refine g_isub C dX0_hexDigit_10 ?_
    have c1 := bDig_t (b01_1.mp c1)
    exact g_iret C F (by unfold hexv; first | (rw [if_pos (by omega)]; done) | (rw [if_neg (by omega), if_pos (by omega)]; exact hx_a x) | (rw [if_neg (by omega), if_pos (by omega)]; done) | (rw [if_neg (by omega), if_neg (by omega), if_pos (by omega)]; exact hx_b x) | (rw [if_neg (by omega), if_neg (by omega), if_pos (by omega)]; done) | (rw [if_neg (by omega), if_neg (by omega), if_neg (by omega)]; done)) (rfl) dX0_hexDigit_11
set_option maxHeartbeats 4000000 in
set_option maxRecDepth 100000 in
theorem c_X1_sixteen (g : Gl) (x : Int32) : Ctr g yX1_sixteen wsX1_sixteen ({ frames := 1, cells := 0, slots := 0, locals := 20 }) [.int x] [] (some (.int (hexv x))) [] 0 0 := by
  refine Ctr.start (cc := cX1_sixteen) (maxL := 1) (ret := (some .int)) (by decide) rfl (Nat.le_of_ble_eq_true rfl) (lv0 := [(0, .int x)]) rfl ?_
  intro X C F
  have C : Ok g X cX1_sixteen RX1 wsX1_sixteen ({ frames := 1, cells := 0, slots := 0, locals := 20 }) (some .int) 1 := C
  refine g_iload_n C dX1_sixteen_0 0 rfl ?_
  refine g_callSi (n := 1) C (c_X1_isDigit g x) gX1_sixteen_X1_isDigit rfl rfl (by decide) (by decide) rfl (Nat.le_of_ble_eq_true rfl) dX1_sixteen_1 ?_
  refine g_if_eq C dX1_sixteen_4 (tgt := 14) (by decide) (fun c1 => ?_) (fun c1 => ?_)
  · refine g_iload_n C dX1_sixteen_14 0 rfl ?_
    refine g_bipush C dX1_sixteen_15 (v := 97) (by decide) ?_
    refine g_icmp_lt C dX1_sixteen_17 (tgt := 33) (by decide) (fun c2 => ?_) (fun c2 => ?_)
    · refine g_iload_n C dX1_sixteen_33 0 rfl ?_
      refine g_bipush C dX1_sixteen_34 (v := 65) (by decide) ?_
      refine g_icmp_lt C dX1_sixteen_36 (tgt := 52) (by decide) (fun c3 => ?_) (fun c3 => ?_)
      · refine g_iconst C dX1_sixteen_52 (v := (-1)) (by decide) ?_
        have c1 := bDig_f (b01_0.mp c1)
        have c2 := k_lt (b := 97) (by decide) c2
        have c3 := k_lt (b := 65) (by decide) c3
        exact g_iret C F (by unfold hexv; first | (rw [if_pos (by omega)]; done) | (rw [if_neg (by omega), if_pos (by omega)]; exact hx_a x) | (rw [if_neg (by omega), if_pos (by omega)]; done) | (rw [if_neg (by omega), if_neg (by omega), if_pos (by omega)]; exact hx_b x) | (rw [if_neg (by omega), if_neg (by omega), if_pos (by omega)]; done) | (rw [if_neg (by omega), if_neg (by omega), if_neg (by omega)]; done)) (rfl) dX1_sixteen_53
      · refine g_iload_n C dX1_sixteen_39 0 rfl ?_
        refine g_bipush C dX1_sixteen_40 (v := 70) (by decide) ?_
        refine g_icmp_gt C dX1_sixteen_42 (tgt := 52) (by decide) (fun c4 => ?_) (fun c4 => ?_)
        · refine g_iconst C dX1_sixteen_52 (v := (-1)) (by decide) ?_
          have c1 := bDig_f (b01_0.mp c1)
          have c2 := k_lt (b := 97) (by decide) c2
          have c3 := k_nlt (b := 65) (by decide) c3
          have c4 := k_gt (b := 70) (by decide) c4
          exact g_iret C F (by unfold hexv; first | (rw [if_pos (by omega)]; done) | (rw [if_neg (by omega), if_pos (by omega)]; exact hx_a x) | (rw [if_neg (by omega), if_pos (by omega)]; done) | (rw [if_neg (by omega), if_neg (by omega), if_pos (by omega)]; exact hx_b x) | (rw [if_neg (by omega), if_neg (by omega), if_pos (by omega)]; done) | (rw [if_neg (by omega), if_neg (by omega), if_neg (by omega)]; done)) (rfl) dX1_sixteen_53
        · refine g_iload_n C dX1_sixteen_45 0 rfl ?_
          refine g_bipush C dX1_sixteen_46 (v := 55) (by decide) ?_
          refine g_isub C dX1_sixteen_48 ?_
          refine g_goto C dX1_sixteen_49 (tgt := 53) (by decide) ?_
          have c1 := bDig_f (b01_0.mp c1)
          have c2 := k_lt (b := 97) (by decide) c2
          have c3 := k_nlt (b := 65) (by decide) c3
          have c4 := k_ngt (b := 70) (by decide) c4
          exact g_iret C F (by unfold hexv; first | (rw [if_pos (by omega)]; done) | (rw [if_neg (by omega), if_pos (by omega)]; exact hx_a x) | (rw [if_neg (by omega), if_pos (by omega)]; done) | (rw [if_neg (by omega), if_neg (by omega), if_pos (by omega)]; exact hx_b x) | (rw [if_neg (by omega), if_neg (by omega), if_pos (by omega)]; done) | (rw [if_neg (by omega), if_neg (by omega), if_neg (by omega)]; done)) (rfl) dX1_sixteen_53
    · refine g_iload_n C dX1_sixteen_20 0 rfl ?_
      refine g_bipush C dX1_sixteen_21 (v := 102) (by decide) ?_
      refine g_icmp_gt C dX1_sixteen_23 (tgt := 33) (by decide) (fun c5 => ?_) (fun c5 => ?_)
      · refine g_iload_n C dX1_sixteen_33 0 rfl ?_
        refine g_bipush C dX1_sixteen_34 (v := 65) (by decide) ?_
        refine g_icmp_lt C dX1_sixteen_36 (tgt := 52) (by decide) (fun c6 => ?_) (fun c6 => ?_)
        · refine g_iconst C dX1_sixteen_52 (v := (-1)) (by decide) ?_
          have c1 := bDig_f (b01_0.mp c1)
          have c2 := k_nlt (b := 97) (by decide) c2
          have c5 := k_gt (b := 102) (by decide) c5
          have c6 := k_lt (b := 65) (by decide) c6
          exact g_iret C F (by unfold hexv; first | (rw [if_pos (by omega)]; done) | (rw [if_neg (by omega), if_pos (by omega)]; exact hx_a x) | (rw [if_neg (by omega), if_pos (by omega)]; done) | (rw [if_neg (by omega), if_neg (by omega), if_pos (by omega)]; exact hx_b x) | (rw [if_neg (by omega), if_neg (by omega), if_pos (by omega)]; done) | (rw [if_neg (by omega), if_neg (by omega), if_neg (by omega)]; done)) (rfl) dX1_sixteen_53
        · refine g_iload_n C dX1_sixteen_39 0 rfl ?_
          refine g_bipush C dX1_sixteen_40 (v := 70) (by decide) ?_
          refine g_icmp_gt C dX1_sixteen_42 (tgt := 52) (by decide) (fun c7 => ?_) (fun c7 => ?_)
          · refine g_iconst C dX1_sixteen_52 (v := (-1)) (by decide) ?_
            have c1 := bDig_f (b01_0.mp c1)
            have c2 := k_nlt (b := 97) (by decide) c2
            have c5 := k_gt (b := 102) (by decide) c5
            have c6 := k_nlt (b := 65) (by decide) c6
            have c7 := k_gt (b := 70) (by decide) c7
            exact g_iret C F (by unfold hexv; first | (rw [if_pos (by omega)]; done) | (rw [if_neg (by omega), if_pos (by omega)]; exact hx_a x) | (rw [if_neg (by omega), if_pos (by omega)]; done) | (rw [if_neg (by omega), if_neg (by omega), if_pos (by omega)]; exact hx_b x) | (rw [if_neg (by omega), if_neg (by omega), if_pos (by omega)]; done) | (rw [if_neg (by omega), if_neg (by omega), if_neg (by omega)]; done)) (rfl) dX1_sixteen_53
          · refine g_iload_n C dX1_sixteen_45 0 rfl ?_
            refine g_bipush C dX1_sixteen_46 (v := 55) (by decide) ?_
            refine g_isub C dX1_sixteen_48 ?_
            refine g_goto C dX1_sixteen_49 (tgt := 53) (by decide) ?_
            have c1 := bDig_f (b01_0.mp c1)
            have c2 := k_nlt (b := 97) (by decide) c2
            have c5 := k_gt (b := 102) (by decide) c5
            have c6 := k_nlt (b := 65) (by decide) c6
            have c7 := k_ngt (b := 70) (by decide) c7
            exact g_iret C F (by unfold hexv; first | (rw [if_pos (by omega)]; done) | (rw [if_neg (by omega), if_pos (by omega)]; exact hx_a x) | (rw [if_neg (by omega), if_pos (by omega)]; done) | (rw [if_neg (by omega), if_neg (by omega), if_pos (by omega)]; exact hx_b x) | (rw [if_neg (by omega), if_neg (by omega), if_pos (by omega)]; done) | (rw [if_neg (by omega), if_neg (by omega), if_neg (by omega)]; done)) (rfl) dX1_sixteen_53
      · refine g_iload_n C dX1_sixteen_26 0 rfl ?_
        refine g_bipush C dX1_sixteen_27 (v := 87) (by decide) ?_
        refine g_isub C dX1_sixteen_29 ?_
        refine g_goto C dX1_sixteen_30 (tgt := 53) (by decide) ?_
        have c1 := bDig_f (b01_0.mp c1)
        have c2 := k_nlt (b := 97) (by decide) c2
        have c5 := k_ngt (b := 102) (by decide) c5
        exact g_iret C F (by unfold hexv; first | (rw [if_pos (by omega)]; done) | (rw [if_neg (by omega), if_pos (by omega)]; exact hx_a x) | (rw [if_neg (by omega), if_pos (by omega)]; done) | (rw [if_neg (by omega), if_neg (by omega), if_pos (by omega)]; exact hx_b x) | (rw [if_neg (by omega), if_neg (by omega), if_pos (by omega)]; done) | (rw [if_neg (by omega), if_neg (by omega), if_neg (by omega)]; done)) (rfl) dX1_sixteen_53
  · refine g_iload_n C dX1_sixteen_7 0 rfl ?_
    refine g_bipush C dX1_sixteen_8 (v := 48) (by decide) ?_
    refine g_isub C dX1_sixteen_10 ?_
    refine g_goto C dX1_sixteen_11 (tgt := 53) (by decide) ?_
    have c1 := bDig_t (b01_1.mp c1)
    exact g_iret C F (by unfold hexv; first | (rw [if_pos (by omega)]; done) | (rw [if_neg (by omega), if_pos (by omega)]; exact hx_a x) | (rw [if_neg (by omega), if_pos (by omega)]; done) | (rw [if_neg (by omega), if_neg (by omega), if_pos (by omega)]; exact hx_b x) | (rw [if_neg (by omega), if_neg (by omega), if_pos (by omega)]; done) | (rw [if_neg (by omega), if_neg (by omega), if_neg (by omega)]; done)) (rfl) dX1_sixteen_53
