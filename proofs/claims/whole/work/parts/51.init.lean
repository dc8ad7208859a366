-- TokenRows()
set_option maxHeartbeats 4000000 in
set_option maxRecDepth 100000 in
theorem c_X0_init (g : Gl) (h0 : Nat) : CtrN g yX0_init wsX0_init ({ frames := 1, cells := 7, slots := 112000, locals := 12 }) [.ref h0] [(h0, .inr (0, [.null, .int 0, .int 0, .null, .int 0, .int 0, .int 0, .null, .null, .null, .null, .null, .int 0]))] (fun ad => tw g (fun k => if k = 0 then h0 else ad k) (ad 1) (ad 2) (fun _ => 0) 0 0 (fun _ => 0) 0 1 (-1) ((fun _ => 0), (fun _ => 0), (fun _ => 0), (fun _ => 0), (fun _ => 0), 0)) 7 112000 := by
  refine CtrN.start (cc := cX0_init) (maxL := 1) (by decide) rfl rfl (Nat.le_of_ble_eq_true rfl) (lv0 := [(0, .ref h0)]) rfl ?_
  intro X C F
  have C : Ok g X cX0_init RX0 wsX0_init ({ frames := 1, cells := 7, slots := 112000, locals := 12 }) none 1 := C
  have hin : ∀ w ∈ wsX00, w ∈ wsX0_init := fun _ h => List.mem_cons_of_mem _ (List.mem_append_right _ h)
  have lk13 : Cond.fieldLink RX0 13 "TokenRows" "text" "[B" ∈ wsX0_init := by decide +kernel
  have lk16 : Cond.fieldLink RX0 16 "TokenRows" "kinds" "[I" ∈ wsX0_init := by decide +kernel
  have lk20 : Cond.fieldLink RX0 20 "TokenRows" "starts" "[I" ∈ wsX0_init := by decide +kernel
  have lk23 : Cond.fieldLink RX0 23 "TokenRows" "sizes" "[I" ∈ wsX0_init := by decide +kernel
  have lk26 : Cond.fieldLink RX0 26 "TokenRows" "lines" "[I" ∈ wsX0_init := by decide +kernel
  have lk29 : Cond.fieldLink RX0 29 "TokenRows" "tells" "[I" ∈ wsX0_init := by decide +kernel
  have lk32 : Cond.fieldLink RX0 32 "TokenRows" "traySize" "I" ∈ wsX0_init := by decide +kernel
  have lk36 : Cond.fieldLink RX0 36 "TokenRows" "fedInAll" "I" ∈ wsX0_init := by decide +kernel
  have lk39 : Cond.fieldLink RX0 39 "TokenRows" "textSize" "I" ∈ wsX0_init := by decide +kernel
  have lk42 : Cond.fieldLink RX0 42 "TokenRows" "lineNow" "I" ∈ wsX0_init := by decide +kernel
  have lk45 : Cond.fieldLink RX0 45 "TokenRows" "fault" "I" ∈ wsX0_init := by decide +kernel
  have lk48 : Cond.fieldLink RX0 48 "TokenRows" "count" "I" ∈ wsX0_init := by decide +kernel
  have lk9 : Cond.fieldLink RX0 9 "TokenRows" "tray" "[B" ∈ wsX0_init := by decide +kernel
  have lo1 : Cond.methodLink RX0 1 objectInit ∈ wsX0_init := by decide +kernel
  have lo2 : Cond.instanceMethod objectInit ∈ wsX0_init := by decide +kernel
  have lo3 : Cond.code objectInit ⟨#[0xb1]⟩ 1 none ∈ wsX0_init := by decide +kernel
  have lab : Cond.arrayClass .byte ∈ wsX0_init := by decide +kernel
  have lai : Cond.arrayClass .int ∈ wsX0_init := by decide +kernel
  refine g_aload_n C dX0_init_0 0 rfl ?_
  refine g_objInit C lo1 lo2 lo3 (by decide) dX0_init_1 ?_
  refine g_aload_n C dX0_init_4 0 rfl ?_
  refine g_sipush C dX0_init_5 (v := 16000) (by decide) ?_
  refine g_newaB C lab (by decide) dX0_init_8 (fun q1 => ?_)
  refine g_put0 (ws' := [(h0, .inr (0, [.ref q1, .int 0, .int 0, .null, .int 0, .int 0, .int 0, .null, .null, .null, .null, .null, .int 0])), (q1, .inl (gB g, 16000, .inl (fun _ => 0)))]) C hin 0 rfl 0 (by decide) lk9 rfl rfl rfl (Nat.le_of_ble_eq_true rfl) rfl dX0_init_10 ?_
  refine g_aload_n C dX0_init_13 0 rfl ?_
  refine g_sipush C dX0_init_14 (v := 16000) (by decide) ?_
  refine g_newaB C lab (by decide) dX0_init_17 (fun q2 => ?_)
  refine g_put0 (ws' := [(h0, .inr (0, [.ref q1, .int 0, .int 0, .ref q2, .int 0, .int 0, .int 0, .null, .null, .null, .null, .null, .int 0])), (q1, .inl (gB g, 16000, .inl (fun _ => 0))), (q2, .inl (gB g, 16000, .inl (fun _ => 0)))]) C hin 0 rfl 3 (by decide) lk13 rfl rfl rfl (Nat.le_of_ble_eq_true rfl) rfl dX0_init_19 ?_
  refine g_aload_n C dX0_init_22 0 rfl ?_
  refine g_sipush C dX0_init_23 (v := 16000) (by decide) ?_
  refine g_newaI C lai (by decide) dX0_init_26 (fun q3 => ?_)
  refine g_putF0 (ws' := [(h0, .inr (0, [.ref q1, .int 0, .int 0, .ref q2, .int 0, .int 0, .int 0, .ref q3, .null, .null, .null, .null, .int 0])), (q1, .inl (gB g, 16000, .inl (fun _ => 0))), (q2, .inl (gB g, 16000, .inl (fun _ => 0))), (q3, .inl (gI g, 16000, .inl (fun _ => 0)))]) C F hin 0 rfl 7 (by decide) lk16 rfl rfl rfl rfl (Nat.le_of_ble_eq_true rfl) rfl dX0_init_28 ?_
  refine g_aload_n C dX0_init_31 0 rfl ?_
  refine g_sipush C dX0_init_32 (v := 16000) (by decide) ?_
  refine g_newaI C lai (by decide) dX0_init_35 (fun q4 => ?_)
  refine g_putF0 (ws' := [(h0, .inr (0, [.ref q1, .int 0, .int 0, .ref q2, .int 0, .int 0, .int 0, .ref q3, .ref q4, .null, .null, .null, .int 0])), (q1, .inl (gB g, 16000, .inl (fun _ => 0))), (q2, .inl (gB g, 16000, .inl (fun _ => 0))), (q3, .inl (gI g, 16000, .inl (fun _ => 0))), (q4, .inl (gI g, 16000, .inl (fun _ => 0)))]) C F hin 0 rfl 8 (by decide) lk20 rfl rfl rfl rfl (Nat.le_of_ble_eq_true rfl) rfl dX0_init_37 ?_
  refine g_aload_n C dX0_init_40 0 rfl ?_
  refine g_sipush C dX0_init_41 (v := 16000) (by decide) ?_
  refine g_newaI C lai (by decide) dX0_init_44 (fun q5 => ?_)
  refine g_putF0 (ws' := [(h0, .inr (0, [.ref q1, .int 0, .int 0, .ref q2, .int 0, .int 0, .int 0, .ref q3, .ref q4, .ref q5, .null, .null, .int 0])), (q1, .inl (gB g, 16000, .inl (fun _ => 0))), (q2, .inl (gB g, 16000, .inl (fun _ => 0))), (q3, .inl (gI g, 16000, .inl (fun _ => 0))), (q4, .inl (gI g, 16000, .inl (fun _ => 0))), (q5, .inl (gI g, 16000, .inl (fun _ => 0)))]) C F hin 0 rfl 9 (by decide) lk23 rfl rfl rfl rfl (Nat.le_of_ble_eq_true rfl) rfl dX0_init_46 ?_
  refine g_aload_n C dX0_init_49 0 rfl ?_
  refine g_sipush C dX0_init_50 (v := 16000) (by decide) ?_
  refine g_newaI C lai (by decide) dX0_init_53 (fun q6 => ?_)
  refine g_putF0 (ws' := [(h0, .inr (0, [.ref q1, .int 0, .int 0, .ref q2, .int 0, .int 0, .int 0, .ref q3, .ref q4, .ref q5, .ref q6, .null, .int 0])), (q1, .inl (gB g, 16000, .inl (fun _ => 0))), (q2, .inl (gB g, 16000, .inl (fun _ => 0))), (q3, .inl (gI g, 16000, .inl (fun _ => 0))), (q4, .inl (gI g, 16000, .inl (fun _ => 0))), (q5, .inl (gI g, 16000, .inl (fun _ => 0))), (q6, .inl (gI g, 16000, .inl (fun _ => 0)))]) C F hin 0 rfl 10 (by decide) lk26 rfl rfl rfl rfl (Nat.le_of_ble_eq_true rfl) rfl dX0_init_55 ?_
  refine g_aload_n C dX0_init_58 0 rfl ?_
  refine g_sipush C dX0_init_59 (v := 16000) (by decide) ?_
  refine g_newaI C lai (by decide) dX0_init_62 (fun q7 => ?_)
  refine g_putF0 (ws' := [(h0, .inr (0, [.ref q1, .int 0, .int 0, .ref q2, .int 0, .int 0, .int 0, .ref q3, .ref q4, .ref q5, .ref q6, .ref q7, .int 0])), (q1, .inl (gB g, 16000, .inl (fun _ => 0))), (q2, .inl (gB g, 16000, .inl (fun _ => 0))), (q3, .inl (gI g, 16000, .inl (fun _ => 0))), (q4, .inl (gI g, 16000, .inl (fun _ => 0))), (q5, .inl (gI g, 16000, .inl (fun _ => 0))), (q6, .inl (gI g, 16000, .inl (fun _ => 0))), (q7, .inl (gI g, 16000, .inl (fun _ => 0)))]) C F hin 0 rfl 11 (by decide) lk29 rfl rfl rfl rfl (Nat.le_of_ble_eq_true rfl) rfl dX0_init_64 ?_
  refine g_aload_n C dX0_init_67 0 rfl ?_
  refine g_iconst C dX0_init_68 (v := 0) (by decide) ?_
  refine g_put0 (ws' := [(h0, .inr (0, [.ref q1, .int 0, .int 0, .ref q2, .int 0, .int 0, .int 0, .ref q3, .ref q4, .ref q5, .ref q6, .ref q7, .int 0])), (q1, .inl (gB g, 16000, .inl (fun _ => 0))), (q2, .inl (gB g, 16000, .inl (fun _ => 0))), (q3, .inl (gI g, 16000, .inl (fun _ => 0))), (q4, .inl (gI g, 16000, .inl (fun _ => 0))), (q5, .inl (gI g, 16000, .inl (fun _ => 0))), (q6, .inl (gI g, 16000, .inl (fun _ => 0))), (q7, .inl (gI g, 16000, .inl (fun _ => 0)))]) C hin 0 rfl 1 (by decide) lk32 rfl rfl rfl (Nat.le_of_ble_eq_true rfl) rfl dX0_init_69 ?_
  refine g_aload_n C dX0_init_72 0 rfl ?_
  refine g_iconst C dX0_init_73 (v := 0) (by decide) ?_
  refine g_put0 (ws' := [(h0, .inr (0, [.ref q1, .int 0, .int 0, .ref q2, .int 0, .int 0, .int 0, .ref q3, .ref q4, .ref q5, .ref q6, .ref q7, .int 0])), (q1, .inl (gB g, 16000, .inl (fun _ => 0))), (q2, .inl (gB g, 16000, .inl (fun _ => 0))), (q3, .inl (gI g, 16000, .inl (fun _ => 0))), (q4, .inl (gI g, 16000, .inl (fun _ => 0))), (q5, .inl (gI g, 16000, .inl (fun _ => 0))), (q6, .inl (gI g, 16000, .inl (fun _ => 0))), (q7, .inl (gI g, 16000, .inl (fun _ => 0)))]) C hin 0 rfl 2 (by decide) lk36 rfl rfl rfl (Nat.le_of_ble_eq_true rfl) rfl dX0_init_74 ?_
  refine g_aload_n C dX0_init_77 0 rfl ?_
  refine g_iconst C dX0_init_78 (v := 0) (by decide) ?_
  refine g_put0 (ws' := [(h0, .inr (0, [.ref q1, .int 0, .int 0, .ref q2, .int 0, .int 0, .int 0, .ref q3, .ref q4, .ref q5, .ref q6, .ref q7, .int 0])), (q1, .inl (gB g, 16000, .inl (fun _ => 0))), (q2, .inl (gB g, 16000, .inl (fun _ => 0))), (q3, .inl (gI g, 16000, .inl (fun _ => 0))), (q4, .inl (gI g, 16000, .inl (fun _ => 0))), (q5, .inl (gI g, 16000, .inl (fun _ => 0))), (q6, .inl (gI g, 16000, .inl (fun _ => 0))), (q7, .inl (gI g, 16000, .inl (fun _ => 0)))]) C hin 0 rfl 4 (by decide) lk39 rfl rfl rfl (Nat.le_of_ble_eq_true rfl) rfl dX0_init_79 ?_
  refine g_aload_n C dX0_init_82 0 rfl ?_
  refine g_iconst C dX0_init_83 (v := 1) (by decide) ?_
  refine g_put0 (ws' := [(h0, .inr (0, [.ref q1, .int 0, .int 0, .ref q2, .int 0, .int 1, .int 0, .ref q3, .ref q4, .ref q5, .ref q6, .ref q7, .int 0])), (q1, .inl (gB g, 16000, .inl (fun _ => 0))), (q2, .inl (gB g, 16000, .inl (fun _ => 0))), (q3, .inl (gI g, 16000, .inl (fun _ => 0))), (q4, .inl (gI g, 16000, .inl (fun _ => 0))), (q5, .inl (gI g, 16000, .inl (fun _ => 0))), (q6, .inl (gI g, 16000, .inl (fun _ => 0))), (q7, .inl (gI g, 16000, .inl (fun _ => 0)))]) C hin 0 rfl 5 (by decide) lk42 rfl rfl rfl (Nat.le_of_ble_eq_true rfl) rfl dX0_init_84 ?_
  refine g_aload_n C dX0_init_87 0 rfl ?_
  refine g_iconst C dX0_init_88 (v := (-1)) (by decide) ?_
  refine g_put0 (ws' := [(h0, .inr (0, [.ref q1, .int 0, .int 0, .ref q2, .int 0, .int 1, .int (-1), .ref q3, .ref q4, .ref q5, .ref q6, .ref q7, .int 0])), (q1, .inl (gB g, 16000, .inl (fun _ => 0))), (q2, .inl (gB g, 16000, .inl (fun _ => 0))), (q3, .inl (gI g, 16000, .inl (fun _ => 0))), (q4, .inl (gI g, 16000, .inl (fun _ => 0))), (q5, .inl (gI g, 16000, .inl (fun _ => 0))), (q6, .inl (gI g, 16000, .inl (fun _ => 0))), (q7, .inl (gI g, 16000, .inl (fun _ => 0)))]) C hin 0 rfl 6 (by decide) lk45 rfl rfl rfl (Nat.le_of_ble_eq_true rfl) rfl dX0_init_89 ?_
  refine g_aload_n C dX0_init_92 0 rfl ?_
  refine g_iconst C dX0_init_93 (v := 0) (by decide) ?_
  refine g_put0 (ws' := [(h0, .inr (0, [.ref q1, .int 0, .int 0, .ref q2, .int 0, .int 1, .int (-1), .ref q3, .ref q4, .ref q5, .ref q6, .ref q7, .int 0])), (q1, .inl (gB g, 16000, .inl (fun _ => 0))), (q2, .inl (gB g, 16000, .inl (fun _ => 0))), (q3, .inl (gI g, 16000, .inl (fun _ => 0))), (q4, .inl (gI g, 16000, .inl (fun _ => 0))), (q5, .inl (gI g, 16000, .inl (fun _ => 0))), (q6, .inl (gI g, 16000, .inl (fun _ => 0))), (q7, .inl (gI g, 16000, .inl (fun _ => 0)))]) C hin 0 rfl 12 (by decide) lk48 rfl rfl rfl (Nat.le_of_ble_eq_true rfl) rfl dX0_init_94 ?_
  exact g_vretN C F (fun k => [h0, q1, q2, q3, q4, q5, q6, q7].getD k 0) rfl dX0_init_97
-- TokenRowsModel()
set_option maxHeartbeats 4000000 in
set_option maxRecDepth 100000 in
theorem c_X1_init (g : Gl) (h0 : Nat) : CtrN g yX1_init wsX1_init ({ frames := 1, cells := 5, slots := 80000, locals := 12 }) [.ref h0] [(h0, .inr (1, [.null, .int 0, .int 0, .null, .int 0, .null, .null, .null, .int 0, .int 0]))] (fun ad => mw g (fun k => if k = 0 then h0 else ad k) (fun _ => 0) 0 0 (fun _ => 0) 0 (fun _ => 0) (fun _ => 0) (fun _ => 0) 0 (-1)) 5 80000 := by
  refine CtrN.start (cc := cX1_init) (maxL := 1) (by decide) rfl rfl (Nat.le_of_ble_eq_true rfl) (lv0 := [(0, .ref h0)]) rfl ?_
  intro X C F
  have C : Ok g X cX1_init RX1 wsX1_init ({ frames := 1, cells := 5, slots := 80000, locals := 12 }) none 1 := C
  have hin : ∀ w ∈ wsX10, w ∈ wsX1_init := fun _ h => List.mem_cons_of_mem _ (List.mem_append_right _ h)
  have lk13 : Cond.fieldLink RX1 13 "TokenRowsModel" "text" "[B" ∈ wsX1_init := by decide +kernel
  have lk16 : Cond.fieldLink RX1 16 "TokenRowsModel" "kinds" "[I" ∈ wsX1_init := by decide +kernel
  have lk20 : Cond.fieldLink RX1 20 "TokenRowsModel" "froms" "[I" ∈ wsX1_init := by decide +kernel
  have lk23 : Cond.fieldLink RX1 23 "TokenRowsModel" "tos" "[I" ∈ wsX1_init := by decide +kernel
  have lk26 : Cond.fieldLink RX1 26 "TokenRowsModel" "place" "I" ∈ wsX1_init := by decide +kernel
  have lk9 : Cond.fieldLink RX1 9 "TokenRowsModel" "tray" "[B" ∈ wsX1_init := by decide +kernel
  have lo1 : Cond.methodLink RX1 1 objectInit ∈ wsX1_init := by decide +kernel
  have lo2 : Cond.instanceMethod objectInit ∈ wsX1_init := by decide +kernel
  have lo3 : Cond.code objectInit ⟨#[0xb1]⟩ 1 none ∈ wsX1_init := by decide +kernel
  have lab : Cond.arrayClass .byte ∈ wsX1_init := by decide +kernel
  have lai : Cond.arrayClass .int ∈ wsX1_init := by decide +kernel
  refine g_aload_n C dX1_init_0 0 rfl ?_
  refine g_objInit C lo1 lo2 lo3 (by decide) dX1_init_1 ?_
  refine g_aload_n C dX1_init_4 0 rfl ?_
  refine g_sipush C dX1_init_5 (v := 16000) (by decide) ?_
  refine g_newaB C lab (by decide) dX1_init_8 (fun q1 => ?_)
  refine g_putF1 (ws' := [(h0, .inr (1, [.ref q1, .int 0, .int 0, .null, .int 0, .null, .null, .null, .int 0, .int 0])), (q1, .inl (gB g, 16000, .inl (fun _ => 0)))]) C F hin 0 rfl 0 (by decide) lk9 rfl rfl rfl rfl (Nat.le_of_ble_eq_true rfl) rfl dX1_init_10 ?_
  refine g_aload_n C dX1_init_13 0 rfl ?_
  refine g_sipush C dX1_init_14 (v := 16000) (by decide) ?_
  refine g_newaB C lab (by decide) dX1_init_17 (fun q2 => ?_)
  refine g_putF1 (ws' := [(h0, .inr (1, [.ref q1, .int 0, .int 0, .ref q2, .int 0, .null, .null, .null, .int 0, .int 0])), (q1, .inl (gB g, 16000, .inl (fun _ => 0))), (q2, .inl (gB g, 16000, .inl (fun _ => 0)))]) C F hin 0 rfl 3 (by decide) lk13 rfl rfl rfl rfl (Nat.le_of_ble_eq_true rfl) rfl dX1_init_19 ?_
  refine g_aload_n C dX1_init_22 0 rfl ?_
  refine g_sipush C dX1_init_23 (v := 16000) (by decide) ?_
  refine g_newaI C lai (by decide) dX1_init_26 (fun q3 => ?_)
  refine g_putF1 (ws' := [(h0, .inr (1, [.ref q1, .int 0, .int 0, .ref q2, .int 0, .ref q3, .null, .null, .int 0, .int 0])), (q1, .inl (gB g, 16000, .inl (fun _ => 0))), (q2, .inl (gB g, 16000, .inl (fun _ => 0))), (q3, .inl (gI g, 16000, .inl (fun _ => 0)))]) C F hin 0 rfl 5 (by decide) lk16 rfl rfl rfl rfl (Nat.le_of_ble_eq_true rfl) rfl dX1_init_28 ?_
  refine g_aload_n C dX1_init_31 0 rfl ?_
  refine g_sipush C dX1_init_32 (v := 16000) (by decide) ?_
  refine g_newaI C lai (by decide) dX1_init_35 (fun q4 => ?_)
  refine g_putF1 (ws' := [(h0, .inr (1, [.ref q1, .int 0, .int 0, .ref q2, .int 0, .ref q3, .ref q4, .null, .int 0, .int 0])), (q1, .inl (gB g, 16000, .inl (fun _ => 0))), (q2, .inl (gB g, 16000, .inl (fun _ => 0))), (q3, .inl (gI g, 16000, .inl (fun _ => 0))), (q4, .inl (gI g, 16000, .inl (fun _ => 0)))]) C F hin 0 rfl 6 (by decide) lk20 rfl rfl rfl rfl (Nat.le_of_ble_eq_true rfl) rfl dX1_init_37 ?_
  refine g_aload_n C dX1_init_40 0 rfl ?_
  refine g_sipush C dX1_init_41 (v := 16000) (by decide) ?_
  refine g_newaI C lai (by decide) dX1_init_44 (fun q5 => ?_)
  refine g_putF1 (ws' := [(h0, .inr (1, [.ref q1, .int 0, .int 0, .ref q2, .int 0, .ref q3, .ref q4, .ref q5, .int 0, .int 0])), (q1, .inl (gB g, 16000, .inl (fun _ => 0))), (q2, .inl (gB g, 16000, .inl (fun _ => 0))), (q3, .inl (gI g, 16000, .inl (fun _ => 0))), (q4, .inl (gI g, 16000, .inl (fun _ => 0))), (q5, .inl (gI g, 16000, .inl (fun _ => 0)))]) C F hin 0 rfl 7 (by decide) lk23 rfl rfl rfl rfl (Nat.le_of_ble_eq_true rfl) rfl dX1_init_46 ?_
  refine g_aload_n C dX1_init_49 0 rfl ?_
  refine g_iconst C dX1_init_50 (v := (-1)) (by decide) ?_
  refine g_put1 (ws' := [(h0, .inr (1, [.ref q1, .int 0, .int 0, .ref q2, .int 0, .ref q3, .ref q4, .ref q5, .int 0, .int (-1)])), (q1, .inl (gB g, 16000, .inl (fun _ => 0))), (q2, .inl (gB g, 16000, .inl (fun _ => 0))), (q3, .inl (gI g, 16000, .inl (fun _ => 0))), (q4, .inl (gI g, 16000, .inl (fun _ => 0))), (q5, .inl (gI g, 16000, .inl (fun _ => 0)))]) C hin 0 rfl 9 (by decide) lk26 rfl rfl rfl (Nat.le_of_ble_eq_true rfl) rfl dX1_init_51 ?_
  exact g_vretN C F (fun k => [h0, q1, q2, q3, q4, q5].getD k 0) rfl dX1_init_54
