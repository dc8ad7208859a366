/-- the byte k of the text j -/
def kch (j k : Nat) : Int32 := (kByt.getD j []).getD k 0 &&& 255
theorem kLen_lt (j : Nat) : kLen.getD j 0 < 110 := by
  match j with
  | 0 => show 109 < 110; omega
  | 1 => show 67 < 110; omega
  | j + 2 => show 0 < 110; omega
set_option maxHeartbeats 4000000 in
set_option maxRecDepth 100000 in
theorem c_J0_coder_7d493 (g : Gl) (j : Nat) (hj : j < 2) : Ctr g yJ0_coder_7d493 wsJ0_coder_7d493 ({ frames := 0, cells := 0, slots := 0, locals := 0 }) [.ref (gK g j)] [] (some (.int 0)) [] 0 0 := by
  refine Ctr.start (cc := cJ0_coder_7d493) (maxL := 1) (ret := (some .byte)) (by decide) rfl (Nat.le_of_ble_eq_true rfl) (lv0 := [(0, .ref (gK g j))]) rfl ?_
  intro X C F
  have C : Ok g X cJ0_coder_7d493 RJ0 wsJ0_coder_7d493 ({ frames := 0, cells := 0, slots := 0, locals := 0 }) (some .byte) 1 := C
  have lk15 : Cond.fieldLink RJ0 15 "java/lang/String" "coder" "B" ∈ wsJ0_coder_7d493 := by decide +kernel
  have lk38 : Cond.fieldLink RJ0 38 "java/lang/String" "COMPACT_STRINGS" "Z" ∈ wsJ0_coder_7d493 := by decide +kernel
  refine g_getsC C lk38 dJ0_coder_7d493_0 ?_
  refine g_if_eq C dJ0_coder_7d493_3 (tgt := 13) (by decide) (fun c1 => ?_) (fun c1 => ?_)
  · exact absurd c1 (by decide)
  · refine g_aload_n C dJ0_coder_7d493_6 0 rfl ?_
    refine g_getfC C hj lk15 dJ0_coder_7d493_7 ?_
    refine g_goto C dJ0_coder_7d493_10 (tgt := 14) (by decide) ?_
    exact g_zret C F (by decide) (rfl) (rfl) dJ0_coder_7d493_14
set_option maxHeartbeats 4000000 in
set_option maxRecDepth 100000 in
theorem c_J0_isLatin1_aae02 (g : Gl) (j : Nat) (hj : j < 2) : Ctr g yJ0_isLatin1_aae02 wsJ0_isLatin1_aae02 ({ frames := 0, cells := 0, slots := 0, locals := 0 }) [.ref (gK g j)] [] (some (.int 1)) [] 0 0 := by
  refine Ctr.start (cc := cJ0_isLatin1_aae02) (maxL := 1) (ret := (some .boolean)) (by decide) rfl (Nat.le_of_ble_eq_true rfl) (lv0 := [(0, .ref (gK g j))]) rfl ?_
  intro X C F
  have C : Ok g X cJ0_isLatin1_aae02 RJ0 wsJ0_isLatin1_aae02 ({ frames := 0, cells := 0, slots := 0, locals := 0 }) (some .boolean) 1 := C
  have lk15 : Cond.fieldLink RJ0 15 "java/lang/String" "coder" "B" ∈ wsJ0_isLatin1_aae02 := by decide +kernel
  have lk38 : Cond.fieldLink RJ0 38 "java/lang/String" "COMPACT_STRINGS" "Z" ∈ wsJ0_isLatin1_aae02 := by decide +kernel
  refine g_getsC C lk38 dJ0_isLatin1_aae02_0 ?_
  refine g_if_eq C dJ0_isLatin1_aae02_3 (tgt := 17) (by decide) (fun c1 => ?_) (fun c1 => ?_)
  · exact absurd c1 (by decide)
  · refine g_aload_n C dJ0_isLatin1_aae02_6 0 rfl ?_
    refine g_getfC C hj lk15 dJ0_isLatin1_aae02_7 ?_
    refine g_if_ne C dJ0_isLatin1_aae02_10 (tgt := 17) (by decide) (fun c2 => ?_) (fun c2 => ?_)
    · exact absurd c2 (by decide)
    · refine g_iconst C dJ0_isLatin1_aae02_13 (v := 1) (by decide) ?_
      refine g_goto C dJ0_isLatin1_aae02_14 (tgt := 18) (by decide) ?_
      exact g_zret C F (by decide) (rfl) (rfl) dJ0_isLatin1_aae02_18
set_option maxHeartbeats 4000000 in
set_option maxRecDepth 100000 in
theorem c_J0_length_8abf5 (g : Gl) (j : Nat) (hj : j < 2) : Ctr g yJ0_length_8abf5 wsJ0_length_8abf5 ({ frames := 1, cells := 0, slots := 0, locals := 20 }) [.ref (gK g j)] [] (some (.int (nI (kLen.getD j 0)))) [] 0 0 := by
  refine Ctr.start (cc := cJ0_length_8abf5) (maxL := 1) (ret := (some .int)) (by decide) rfl (Nat.le_of_ble_eq_true rfl) (lv0 := [(0, .ref (gK g j))]) rfl ?_
  intro X C F
  have C : Ok g X cJ0_length_8abf5 RJ0 wsJ0_length_8abf5 ({ frames := 1, cells := 0, slots := 0, locals := 20 }) (some .int) 1 := C
  have lk9 : Cond.fieldLink RJ0 9 "java/lang/String" "value" "[B" ∈ wsJ0_length_8abf5 := by decide +kernel
  refine g_aload_n C dJ0_length_8abf5_0 0 rfl ?_
  refine g_getfV C hj lk9 dJ0_length_8abf5_1 ?_
  refine g_alenV C hj (v := nI (kLen.getD j 0)) rfl dJ0_length_8abf5_4 ?_
  refine g_aload_n C dJ0_length_8abf5_5 0 rfl ?_
  refine g_callK (n := 0) C hj (c_J0_coder_7d493 g j hj) gJ0_length_8abf5_J0_coder_7d493 rfl rfl (by decide) (by decide) rfl (Nat.le_of_ble_eq_true rfl) dJ0_length_8abf5_6 ?_
  refine g_ishr C dJ0_length_8abf5_9 ?_
  exact g_iret C F (sc_shr0 (by have := kLen_lt j; omega)) (rfl) dJ0_length_8abf5_10
set_option maxHeartbeats 4000000 in
set_option maxRecDepth 100000 in
theorem c_J3_checkIndex_8e157 (g : Gl) (k n : Nat) (v : Value) (hv : v = .null ∨ ∃ t : Nat, v = .ref t) (hk : k < n) (hn : n < 2 ^ 31) : Ctr g yJ3_checkIndex_8e157 wsJ3_checkIndex_8e157 ({ frames := 0, cells := 0, slots := 0, locals := 0 }) [.int (nI k), .int (nI n), v] [] (some (.int (nI k))) [] 0 0 := by
  have h3 : (lg_sl [.int (nI k), .int (nI n), v]).length ≤ 3 ∧ lv_args 0 [.int (nI k), .int (nI n), v] = [(0, .int (nI k)), (1, .int (nI n)), (2, v)] := by
    rcases hv with rfl | ⟨t, rfl⟩ <;> exact ⟨Nat.le_of_ble_eq_true rfl, rfl⟩
  refine Ctr.start (cc := cJ3_checkIndex_8e157) (maxL := 3) (ret := (some .int)) (by decide) rfl h3.1 (lv0 := [(0, .int (nI k)), (1, .int (nI n)), (2, v)]) rfl ?_
  intro X C F
  have C : Ok g X cJ3_checkIndex_8e157 RJ3 wsJ3_checkIndex_8e157 ({ frames := 0, cells := 0, slots := 0, locals := 0 }) (some .int) 3 := C
  refine g_iload_n C dJ3_checkIndex_8e157_0 0 rfl ?_
  refine g_if_lt C dJ3_checkIndex_8e157_1 (tgt := 9) (by decide) (fun c1 => ?_) (fun c1 => ?_)
  · exact absurd c1 (nI_pos (by omega))
  · refine g_iload_n C dJ3_checkIndex_8e157_4 0 rfl ?_
    refine g_iload_n C dJ3_checkIndex_8e157_5 1 rfl ?_
    refine g_icmp_lt C dJ3_checkIndex_8e157_6 (tgt := 16) (by decide) (fun c2 => ?_) (fun c2 => ?_)
    · refine g_iload_n C dJ3_checkIndex_8e157_16 0 rfl ?_
      exact g_iret C F (rfl) (rfl) dJ3_checkIndex_8e157_17
    · exact absurd (nI_lt hk hn) c2
set_option maxHeartbeats 4000000 in
set_option maxRecDepth 100000 in
theorem c_J0_checkIndex_df160 (g : Gl) (k n : Nat) (hk : k < n) (hn : n < 2 ^ 31) : Ctr g yJ0_checkIndex_df160 wsJ0_checkIndex_df160 ({ frames := 1, cells := 0, slots := 0, locals := 22 }) [.int (nI k), .int (nI n)] [] (none) [] 0 0 := by
  refine Ctr.start (cc := cJ0_checkIndex_df160) (maxL := 2) (ret := none) (by decide) rfl (Nat.le_of_ble_eq_true rfl) (lv0 := [(0, .int (nI k)), (1, .int (nI n))]) rfl ?_
  intro X C F
  have C : Ok g X cJ0_checkIndex_df160 RJ0 wsJ0_checkIndex_df160 ({ frames := 1, cells := 0, slots := 0, locals := 22 }) none 2 := C
  have lk1053 : Cond.fieldLink RJ0 1053 "jdk/internal/util/Preconditions" "SIOOBE_FORMATTER" "Ljava/util/function/BiFunction;" ∈ wsJ0_checkIndex_df160 := by decide +kernel
  refine g_iload_n C dJ0_checkIndex_df160_0 0 rfl ?_
  refine g_iload_n C dJ0_checkIndex_df160_1 1 rfl ?_
  refine g_getsF C lk1053 dJ0_checkIndex_df160_2 (fun v hv => ?_)
  refine g_callSi (n := 3) C (c_J3_checkIndex_8e157 g k n v hv hk hn) gJ0_checkIndex_df160_J3_checkIndex_8e157 rfl rfl (by decide) (by decide) rfl (Nat.le_of_ble_eq_true rfl) dJ0_checkIndex_df160_5 ?_
  refine g_pop C dJ0_checkIndex_df160_8 rfl ?_
  exact g_vret C F (rfl) dJ0_checkIndex_df160_9
set_option maxHeartbeats 4000000 in
set_option maxRecDepth 100000 in
theorem c_J1_charAt_3b067 (g : Gl) (j k : Nat) (hj : j < 2) (hk : k < kLen.getD j 0) : Ctr g yJ1_charAt_3b067 wsJ1_charAt_3b067 ({ frames := 2, cells := 0, slots := 0, locals := 43 }) [.ref (gV g j), .int (nI k)] [] (some (.int (kch j k))) [] 0 0 := by
  refine Ctr.start (cc := cJ1_charAt_3b067) (maxL := 2) (ret := (some .char)) (by decide) rfl (Nat.le_of_ble_eq_true rfl) (lv0 := [(0, .ref (gV g j)), (1, .int (nI k))]) rfl ?_
  intro X C F
  have C : Ok g X cJ1_charAt_3b067 RJ1 wsJ1_charAt_3b067 ({ frames := 2, cells := 0, slots := 0, locals := 43 }) (some .char) 2 := C
  have hlen := kLen_lt j
  refine g_iload_n C dJ1_charAt_3b067_0 1 rfl ?_
  refine g_aload_n C dJ1_charAt_3b067_1 0 rfl ?_
  refine g_alenV C hj (v := nI (kLen.getD j 0)) rfl dJ1_charAt_3b067_2 ?_
  refine g_callSv (n := 2) C (c_J0_checkIndex_df160 g k (kLen.getD j 0) hk (by omega)) gJ1_charAt_3b067_J0_checkIndex_df160 rfl rfl (by decide) (by decide) rfl (Nat.le_of_ble_eq_true rfl) dJ1_charAt_3b067_3 ?_
  refine g_aload_n C dJ1_charAt_3b067_6 0 rfl ?_
  refine g_iload_n C dJ1_charAt_3b067_7 1 rfl ?_
  refine g_baldV C hj (v := (kByt.getD j []).getD k 0) (vp_in_nI hk (by omega)) (by rw [nI_clamp (by omega)]) dJ1_charAt_3b067_8 ?_
  refine g_sipush C dJ1_charAt_3b067_9 (v := 255) (by decide) ?_
  refine g_iand C dJ1_charAt_3b067_12 ?_
  refine g_i2c C dJ1_charAt_3b067_13 (v := kch j k) (sc_c2 _) ?_
  exact g_zret C F (sc_nar _) (rfl) (rfl) dJ1_charAt_3b067_14
set_option maxHeartbeats 4000000 in
set_option maxRecDepth 100000 in
theorem c_J0_charAt_5068e (g : Gl) (j k : Nat) (hj : j < 2) (hk : k < kLen.getD j 0) : Ctr g yJ0_charAt_5068e wsJ0_charAt_5068e ({ frames := 3, cells := 0, slots := 0, locals := 64 }) [.ref (gK g j), .int (nI k)] [] (some (.int (kch j k))) [] 0 0 := by
  refine Ctr.start (cc := cJ0_charAt_5068e) (maxL := 2) (ret := (some .char)) (by decide) rfl (Nat.le_of_ble_eq_true rfl) (lv0 := [(0, .ref (gK g j)), (1, .int (nI k))]) rfl ?_
  intro X C F
  have C : Ok g X cJ0_charAt_5068e RJ0 wsJ0_charAt_5068e ({ frames := 3, cells := 0, slots := 0, locals := 64 }) (some .char) 2 := C
  have lk9 : Cond.fieldLink RJ0 9 "java/lang/String" "value" "[B" ∈ wsJ0_charAt_5068e := by decide +kernel
  refine g_aload_n C dJ0_charAt_5068e_0 0 rfl ?_
  refine g_callK (n := 0) C hj (c_J0_isLatin1_aae02 g j hj) gJ0_charAt_5068e_J0_isLatin1_aae02 rfl rfl (by decide) (by decide) rfl (Nat.le_of_ble_eq_true rfl) dJ0_charAt_5068e_1 ?_
  refine g_if_eq C dJ0_charAt_5068e_4 (tgt := 16) (by decide) (fun c1 => ?_) (fun c1 => ?_)
  · exact absurd c1 (by decide)
  · refine g_aload_n C dJ0_charAt_5068e_7 0 rfl ?_
    refine g_getfV C hj lk9 dJ0_charAt_5068e_8 ?_
    refine g_iload_n C dJ0_charAt_5068e_11 1 rfl ?_
    refine g_callSi (n := 2) C (c_J1_charAt_3b067 g j k hj hk) gJ0_charAt_5068e_J1_charAt_3b067 rfl rfl (by decide) (by decide) rfl (Nat.le_of_ble_eq_true rfl) dJ0_charAt_5068e_12 ?_
    exact g_zret C F (sc_nar _) (rfl) (rfl) dJ0_charAt_5068e_15
