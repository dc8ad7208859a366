/-- the number of a sign of one byte, -1 of others -/
def sg1 (x : Int32) : Int32 := if x = 33 then 39 else if x = 37 then 38 else if x = 38 then 25 else if x = 40 then 0 else if x = 41 then 1 else if x = 42 then 36 else if x = 43 then 34 else if x = 44 then 6 else if x = 45 then 35 else if x = 47 then 37 else if x = 58 then 9 else if x = 59 then 7 else if x = 60 then 28 else if x = 61 then 10 else if x = 62 then 29 else if x = 63 then 8 else if x = 91 then 4 else if x = 93 then 5 else if x = 94 then 24 else if x = 123 then 2 else if x = 124 then 23 else if x = 125 then 3 else if x = 126 then 40 else -1
/-- the number of a sign of a byte and the equal sign -/
def sgE (x : Int32) : Int32 := if x = 33 then 27 else if x = 37 then 15 else if x = 38 then 16 else if x = 42 then 13 else if x = 43 then 11 else if x = 45 then 12 else if x = 47 then 14 else if x = 60 then 30 else if x = 61 then 26 else if x = 62 then 31 else if x = 94 then 18 else if x = 124 then 17 else -1
/-- the number of a sign of the same byte twice, the equal sign apart -/
def sgT (x : Int32) : Int32 := if x = 38 then 22 else if x = 43 then 41 else if x = 45 then 42 else if x = 60 then 32 else if x = 62 then 33 else if x = 124 then 21 else -1
def sg2 (x y : Int32) : Int32 := if y = 61 then sgE x else if y = x then sgT x else -1
def sg3 (x y z : Int32) : Int32 := if x = y ∧ z = 61 then (if x = 60 then 19 else if x = 62 then 20 else -1) else -1
theorem tab_dflt {offs : Array Int} {d : Int} {n : Nat} (ks : List Nat) (h : (List.range n).all (fun j => decide (j ∈ ks) || decide (offs[j]? = some d)) = true) {j : Nat} (hj : j < n) (hk : j ∉ ks) : offs[j]? = some d := by
  have h1 := List.all_eq_true.mp h j (List.mem_range.mpr hj)
  rcases Bool.or_eq_true_iff.mp h1 with h2 | h2
  · exact absurd (of_decide_eq_true h2) hk
  · exact of_decide_eq_true h2
set_option maxHeartbeats 4000000 in
set_option maxRecDepth 100000 in
theorem c_X0_escapedCode (g : Gl) (x : Int32) : Ctr g yX0_escapedCode wsX0_escapedCode ({ frames := 0, cells := 0, slots := 0, locals := 0 }) [.int x] [] (some (.int (escv x))) [] 0 0 := by
  refine Ctr.start (cc := cX0_escapedCode) (maxL := 1) (ret := (some .int)) (by decide) rfl (Nat.le_of_ble_eq_true rfl) (lv0 := [(0, .int x)]) rfl ?_
  intro X C F
  have C : Ok g X cX0_escapedCode RX0 wsX0_escapedCode ({ frames := 0, cells := 0, slots := 0, locals := 0 }) (some .int) 1 := C
  refine g_iload_n C dX0_escapedCode_0 0 rfl ?_
  by_cases e34 : x = 34
  · subst e34
    refine g_lookup C dX0_escapedCode_1 (by decide) (off := 62) (by decide) (tgt := 63) (by decide) ?_
    refine g_bipush C dX0_escapedCode_63 (v := 34) (by decide) ?_
    exact g_iret C F (by decide) (rfl) dX0_escapedCode_65
  by_cases e39 : x = 39
  · subst e39
    refine g_lookup C dX0_escapedCode_1 (by decide) (off := 59) (by decide) (tgt := 60) (by decide) ?_
    refine g_bipush C dX0_escapedCode_60 (v := 39) (by decide) ?_
    exact g_iret C F (by decide) (rfl) dX0_escapedCode_62
  by_cases e48 : x = 48
  · subst e48
    refine g_lookup C dX0_escapedCode_1 (by decide) (off := 54) (by decide) (tgt := 55) (by decide) ?_
    refine g_iconst C dX0_escapedCode_55 (v := 0) (by decide) ?_
    exact g_iret C F (by decide) (rfl) dX0_escapedCode_56
  by_cases e92 : x = 92
  · subst e92
    refine g_lookup C dX0_escapedCode_1 (by decide) (off := 56) (by decide) (tgt := 57) (by decide) ?_
    refine g_bipush C dX0_escapedCode_57 (v := 92) (by decide) ?_
    exact g_iret C F (by decide) (rfl) dX0_escapedCode_59
  by_cases e110 : x = 110
  · subst e110
    refine g_lookup C dX0_escapedCode_1 (by decide) (off := 51) (by decide) (tgt := 52) (by decide) ?_
    refine g_bipush C dX0_escapedCode_52 (v := 10) (by decide) ?_
    exact g_iret C F (by decide) (rfl) dX0_escapedCode_54
  refine g_lookup C dX0_escapedCode_1 (by decide) (off := 65) ((lv_osw e34 (by decide)).trans ((lv_osw e39 (by decide)).trans ((lv_osw e48 (by decide)).trans ((lv_osw e92 (by decide)).trans ((lv_osw e110 (by decide)).trans (rfl)))))) (tgt := 66) (by decide) ?_
  refine g_iconst C dX0_escapedCode_66 (v := (-1)) (by decide) ?_
  exact g_iret C F (by unfold escv; rw [if_neg e110, if_neg e48, if_neg e92, if_neg e39, if_neg e34]) (rfl) dX0_escapedCode_67
set_option maxHeartbeats 4000000 in
set_option maxRecDepth 100000 in
theorem c_X0_signWithEqual (g : Gl) (x : Int32) : Ctr g yX0_signWithEqual wsX0_signWithEqual ({ frames := 0, cells := 0, slots := 0, locals := 0 }) [.int x] [] (some (.int (sgE x))) [] 0 0 := by
  refine Ctr.start (cc := cX0_signWithEqual) (maxL := 1) (ret := (some .int)) (by decide) rfl (Nat.le_of_ble_eq_true rfl) (lv0 := [(0, .int x)]) rfl ?_
  intro X C F
  have C : Ok g X cX0_signWithEqual RX0 wsX0_signWithEqual ({ frames := 0, cells := 0, slots := 0, locals := 0 }) (some .int) 1 := C
  refine g_iload_n C dX0_signWithEqual_0 0 rfl ?_
  by_cases e33 : x = 33
  · subst e33
    refine g_lookup C dX0_signWithEqual_1 (by decide) (off := 134) (by decide) (tgt := 135) (by decide) ?_
    refine g_bipush C dX0_signWithEqual_135 (v := 27) (by decide) ?_
    exact g_iret C F (by decide) (rfl) dX0_signWithEqual_137
  by_cases e37 : x = 37
  · subst e37
    refine g_lookup C dX0_signWithEqual_1 (by decide) (off := 119) (by decide) (tgt := 120) (by decide) ?_
    refine g_bipush C dX0_signWithEqual_120 (v := 15) (by decide) ?_
    exact g_iret C F (by decide) (rfl) dX0_signWithEqual_122
  by_cases e38 : x = 38
  · subst e38
    refine g_lookup C dX0_signWithEqual_1 (by decide) (off := 122) (by decide) (tgt := 123) (by decide) ?_
    refine g_bipush C dX0_signWithEqual_123 (v := 16) (by decide) ?_
    exact g_iret C F (by decide) (rfl) dX0_signWithEqual_125
  by_cases e42 : x = 42
  · subst e42
    refine g_lookup C dX0_signWithEqual_1 (by decide) (off := 113) (by decide) (tgt := 114) (by decide) ?_
    refine g_bipush C dX0_signWithEqual_114 (v := 13) (by decide) ?_
    exact g_iret C F (by decide) (rfl) dX0_signWithEqual_116
  by_cases e43 : x = 43
  · subst e43
    refine g_lookup C dX0_signWithEqual_1 (by decide) (off := 107) (by decide) (tgt := 108) (by decide) ?_
    refine g_bipush C dX0_signWithEqual_108 (v := 11) (by decide) ?_
    exact g_iret C F (by decide) (rfl) dX0_signWithEqual_110
  by_cases e45 : x = 45
  · subst e45
    refine g_lookup C dX0_signWithEqual_1 (by decide) (off := 110) (by decide) (tgt := 111) (by decide) ?_
    refine g_bipush C dX0_signWithEqual_111 (v := 12) (by decide) ?_
    exact g_iret C F (by decide) (rfl) dX0_signWithEqual_113
  by_cases e47 : x = 47
  · subst e47
    refine g_lookup C dX0_signWithEqual_1 (by decide) (off := 116) (by decide) (tgt := 117) (by decide) ?_
    refine g_bipush C dX0_signWithEqual_117 (v := 14) (by decide) ?_
    exact g_iret C F (by decide) (rfl) dX0_signWithEqual_119
  by_cases e60 : x = 60
  · subst e60
    refine g_lookup C dX0_signWithEqual_1 (by decide) (off := 137) (by decide) (tgt := 138) (by decide) ?_
    refine g_bipush C dX0_signWithEqual_138 (v := 30) (by decide) ?_
    exact g_iret C F (by decide) (rfl) dX0_signWithEqual_140
  by_cases e61 : x = 61
  · subst e61
    refine g_lookup C dX0_signWithEqual_1 (by decide) (off := 131) (by decide) (tgt := 132) (by decide) ?_
    refine g_bipush C dX0_signWithEqual_132 (v := 26) (by decide) ?_
    exact g_iret C F (by decide) (rfl) dX0_signWithEqual_134
  by_cases e62 : x = 62
  · subst e62
    refine g_lookup C dX0_signWithEqual_1 (by decide) (off := 140) (by decide) (tgt := 141) (by decide) ?_
    refine g_bipush C dX0_signWithEqual_141 (v := 31) (by decide) ?_
    exact g_iret C F (by decide) (rfl) dX0_signWithEqual_143
  by_cases e94 : x = 94
  · subst e94
    refine g_lookup C dX0_signWithEqual_1 (by decide) (off := 128) (by decide) (tgt := 129) (by decide) ?_
    refine g_bipush C dX0_signWithEqual_129 (v := 18) (by decide) ?_
    exact g_iret C F (by decide) (rfl) dX0_signWithEqual_131
  by_cases e124 : x = 124
  · subst e124
    refine g_lookup C dX0_signWithEqual_1 (by decide) (off := 125) (by decide) (tgt := 126) (by decide) ?_
    refine g_bipush C dX0_signWithEqual_126 (v := 17) (by decide) ?_
    exact g_iret C F (by decide) (rfl) dX0_signWithEqual_128
  refine g_lookup C dX0_signWithEqual_1 (by decide) (off := 143) ((lv_osw e33 (by decide)).trans ((lv_osw e37 (by decide)).trans ((lv_osw e38 (by decide)).trans ((lv_osw e42 (by decide)).trans ((lv_osw e43 (by decide)).trans ((lv_osw e45 (by decide)).trans ((lv_osw e47 (by decide)).trans ((lv_osw e60 (by decide)).trans ((lv_osw e61 (by decide)).trans ((lv_osw e62 (by decide)).trans ((lv_osw e94 (by decide)).trans ((lv_osw e124 (by decide)).trans (rfl))))))))))))) (tgt := 144) (by decide) ?_
  refine g_iconst C dX0_signWithEqual_144 (v := (-1)) (by decide) ?_
  exact g_iret C F (by unfold sgE; rw [if_neg e33, if_neg e37, if_neg e38, if_neg e42, if_neg e43, if_neg e45, if_neg e47, if_neg e60, if_neg e61, if_neg e62, if_neg e94, if_neg e124]) (rfl) dX0_signWithEqual_145
set_option maxHeartbeats 4000000 in
set_option maxRecDepth 100000 in
theorem c_X0_signOfTwins (g : Gl) (x : Int32) : Ctr g yX0_signOfTwins wsX0_signOfTwins ({ frames := 0, cells := 0, slots := 0, locals := 0 }) [.int x] [] (some (.int (sgT x))) [] 0 0 := by
  refine Ctr.start (cc := cX0_signOfTwins) (maxL := 1) (ret := (some .int)) (by decide) rfl (Nat.le_of_ble_eq_true rfl) (lv0 := [(0, .int x)]) rfl ?_
  intro X C F
  have C : Ok g X cX0_signOfTwins RX0 wsX0_signOfTwins ({ frames := 0, cells := 0, slots := 0, locals := 0 }) (some .int) 1 := C
  refine g_iload_n C dX0_signOfTwins_0 0 rfl ?_
  by_cases e38 : x = 38
  · subst e38
    refine g_lookup C dX0_signOfTwins_1 (by decide) (off := 62) (by decide) (tgt := 63) (by decide) ?_
    refine g_bipush C dX0_signOfTwins_63 (v := 22) (by decide) ?_
    exact g_iret C F (by decide) (rfl) dX0_signOfTwins_65
  by_cases e43 : x = 43
  · subst e43
    refine g_lookup C dX0_signOfTwins_1 (by decide) (off := 71) (by decide) (tgt := 72) (by decide) ?_
    refine g_bipush C dX0_signOfTwins_72 (v := 41) (by decide) ?_
    exact g_iret C F (by decide) (rfl) dX0_signOfTwins_74
  by_cases e45 : x = 45
  · subst e45
    refine g_lookup C dX0_signOfTwins_1 (by decide) (off := 74) (by decide) (tgt := 75) (by decide) ?_
    refine g_bipush C dX0_signOfTwins_75 (v := 42) (by decide) ?_
    exact g_iret C F (by decide) (rfl) dX0_signOfTwins_77
  by_cases e60 : x = 60
  · subst e60
    refine g_lookup C dX0_signOfTwins_1 (by decide) (off := 65) (by decide) (tgt := 66) (by decide) ?_
    refine g_bipush C dX0_signOfTwins_66 (v := 32) (by decide) ?_
    exact g_iret C F (by decide) (rfl) dX0_signOfTwins_68
  by_cases e62 : x = 62
  · subst e62
    refine g_lookup C dX0_signOfTwins_1 (by decide) (off := 68) (by decide) (tgt := 69) (by decide) ?_
    refine g_bipush C dX0_signOfTwins_69 (v := 33) (by decide) ?_
    exact g_iret C F (by decide) (rfl) dX0_signOfTwins_71
  by_cases e124 : x = 124
  · subst e124
    refine g_lookup C dX0_signOfTwins_1 (by decide) (off := 59) (by decide) (tgt := 60) (by decide) ?_
    refine g_bipush C dX0_signOfTwins_60 (v := 21) (by decide) ?_
    exact g_iret C F (by decide) (rfl) dX0_signOfTwins_62
  refine g_lookup C dX0_signOfTwins_1 (by decide) (off := 77) ((lv_osw e38 (by decide)).trans ((lv_osw e43 (by decide)).trans ((lv_osw e45 (by decide)).trans ((lv_osw e60 (by decide)).trans ((lv_osw e62 (by decide)).trans ((lv_osw e124 (by decide)).trans (rfl))))))) (tgt := 78) (by decide) ?_
  refine g_iconst C dX0_signOfTwins_78 (v := (-1)) (by decide) ?_
  exact g_iret C F (by unfold sgT; rw [if_neg e38, if_neg e43, if_neg e45, if_neg e60, if_neg e62, if_neg e124]) (rfl) dX0_signOfTwins_79
set_option maxHeartbeats 4000000 in
set_option maxRecDepth 100000 in
theorem c_X0_signOfOne (g : Gl) (x : Int32) : Ctr g yX0_signOfOne wsX0_signOfOne ({ frames := 0, cells := 0, slots := 0, locals := 0 }) [.int x] [] (some (.int (sg1 x))) [] 0 0 := by
  refine Ctr.start (cc := cX0_signOfOne) (maxL := 1) (ret := (some .int)) (by decide) rfl (Nat.le_of_ble_eq_true rfl) (lv0 := [(0, .int x)]) rfl ?_
  intro X C F
  have C : Ok g X cX0_signOfOne RX0 wsX0_signOfOne ({ frames := 0, cells := 0, slots := 0, locals := 0 }) (some .int) 1 := C
  refine g_iload_n C dX0_signOfOne_0 0 rfl ?_
  by_cases e33 : x = 33
  · subst e33
    refine g_tableIn C dX0_signOfOne_1 (by decide) (by decide) (off := 448) (by decide) (tgt := 449) (by decide) ?_
    refine g_bipush C dX0_signOfOne_449 (v := 39) (by decide) ?_
    exact g_iret C F (by decide) (rfl) dX0_signOfOne_451
  by_cases e37 : x = 37
  · subst e37
    refine g_tableIn C dX0_signOfOne_1 (by decide) (by decide) (off := 445) (by decide) (tgt := 446) (by decide) ?_
    refine g_bipush C dX0_signOfOne_446 (v := 38) (by decide) ?_
    exact g_iret C F (by decide) (rfl) dX0_signOfOne_448
  by_cases e38 : x = 38
  · subst e38
    refine g_tableIn C dX0_signOfOne_1 (by decide) (by decide) (off := 424) (by decide) (tgt := 425) (by decide) ?_
    refine g_bipush C dX0_signOfOne_425 (v := 25) (by decide) ?_
    exact g_iret C F (by decide) (rfl) dX0_signOfOne_427
  by_cases e40 : x = 40
  · subst e40
    refine g_tableIn C dX0_signOfOne_1 (by decide) (by decide) (off := 391) (by decide) (tgt := 392) (by decide) ?_
    refine g_iconst C dX0_signOfOne_392 (v := 0) (by decide) ?_
    exact g_iret C F (by decide) (rfl) dX0_signOfOne_393
  by_cases e41 : x = 41
  · subst e41
    refine g_tableIn C dX0_signOfOne_1 (by decide) (by decide) (off := 393) (by decide) (tgt := 394) (by decide) ?_
    refine g_iconst C dX0_signOfOne_394 (v := 1) (by decide) ?_
    exact g_iret C F (by decide) (rfl) dX0_signOfOne_395
  by_cases e42 : x = 42
  · subst e42
    refine g_tableIn C dX0_signOfOne_1 (by decide) (by decide) (off := 439) (by decide) (tgt := 440) (by decide) ?_
    refine g_bipush C dX0_signOfOne_440 (v := 36) (by decide) ?_
    exact g_iret C F (by decide) (rfl) dX0_signOfOne_442
  by_cases e43 : x = 43
  · subst e43
    refine g_tableIn C dX0_signOfOne_1 (by decide) (by decide) (off := 433) (by decide) (tgt := 434) (by decide) ?_
    refine g_bipush C dX0_signOfOne_434 (v := 34) (by decide) ?_
    exact g_iret C F (by decide) (rfl) dX0_signOfOne_436
  by_cases e44 : x = 44
  · subst e44
    refine g_tableIn C dX0_signOfOne_1 (by decide) (by decide) (off := 403) (by decide) (tgt := 404) (by decide) ?_
    refine g_bipush C dX0_signOfOne_404 (v := 6) (by decide) ?_
    exact g_iret C F (by decide) (rfl) dX0_signOfOne_406
  by_cases e45 : x = 45
  · subst e45
    refine g_tableIn C dX0_signOfOne_1 (by decide) (by decide) (off := 436) (by decide) (tgt := 437) (by decide) ?_
    refine g_bipush C dX0_signOfOne_437 (v := 35) (by decide) ?_
    exact g_iret C F (by decide) (rfl) dX0_signOfOne_439
  by_cases e47 : x = 47
  · subst e47
    refine g_tableIn C dX0_signOfOne_1 (by decide) (by decide) (off := 442) (by decide) (tgt := 443) (by decide) ?_
    refine g_bipush C dX0_signOfOne_443 (v := 37) (by decide) ?_
    exact g_iret C F (by decide) (rfl) dX0_signOfOne_445
  by_cases e58 : x = 58
  · subst e58
    refine g_tableIn C dX0_signOfOne_1 (by decide) (by decide) (off := 412) (by decide) (tgt := 413) (by decide) ?_
    refine g_bipush C dX0_signOfOne_413 (v := 9) (by decide) ?_
    exact g_iret C F (by decide) (rfl) dX0_signOfOne_415
  by_cases e59 : x = 59
  · subst e59
    refine g_tableIn C dX0_signOfOne_1 (by decide) (by decide) (off := 406) (by decide) (tgt := 407) (by decide) ?_
    refine g_bipush C dX0_signOfOne_407 (v := 7) (by decide) ?_
    exact g_iret C F (by decide) (rfl) dX0_signOfOne_409
  by_cases e60 : x = 60
  · subst e60
    refine g_tableIn C dX0_signOfOne_1 (by decide) (by decide) (off := 427) (by decide) (tgt := 428) (by decide) ?_
    refine g_bipush C dX0_signOfOne_428 (v := 28) (by decide) ?_
    exact g_iret C F (by decide) (rfl) dX0_signOfOne_430
  by_cases e61 : x = 61
  · subst e61
    refine g_tableIn C dX0_signOfOne_1 (by decide) (by decide) (off := 415) (by decide) (tgt := 416) (by decide) ?_
    refine g_bipush C dX0_signOfOne_416 (v := 10) (by decide) ?_
    exact g_iret C F (by decide) (rfl) dX0_signOfOne_418
  by_cases e62 : x = 62
  · subst e62
    refine g_tableIn C dX0_signOfOne_1 (by decide) (by decide) (off := 430) (by decide) (tgt := 431) (by decide) ?_
    refine g_bipush C dX0_signOfOne_431 (v := 29) (by decide) ?_
    exact g_iret C F (by decide) (rfl) dX0_signOfOne_433
  by_cases e63 : x = 63
  · subst e63
    refine g_tableIn C dX0_signOfOne_1 (by decide) (by decide) (off := 409) (by decide) (tgt := 410) (by decide) ?_
    refine g_bipush C dX0_signOfOne_410 (v := 8) (by decide) ?_
    exact g_iret C F (by decide) (rfl) dX0_signOfOne_412
  by_cases e91 : x = 91
  · subst e91
    refine g_tableIn C dX0_signOfOne_1 (by decide) (by decide) (off := 399) (by decide) (tgt := 400) (by decide) ?_
    refine g_iconst C dX0_signOfOne_400 (v := 4) (by decide) ?_
    exact g_iret C F (by decide) (rfl) dX0_signOfOne_401
  by_cases e93 : x = 93
  · subst e93
    refine g_tableIn C dX0_signOfOne_1 (by decide) (by decide) (off := 401) (by decide) (tgt := 402) (by decide) ?_
    refine g_iconst C dX0_signOfOne_402 (v := 5) (by decide) ?_
    exact g_iret C F (by decide) (rfl) dX0_signOfOne_403
  by_cases e94 : x = 94
  · subst e94
    refine g_tableIn C dX0_signOfOne_1 (by decide) (by decide) (off := 421) (by decide) (tgt := 422) (by decide) ?_
    refine g_bipush C dX0_signOfOne_422 (v := 24) (by decide) ?_
    exact g_iret C F (by decide) (rfl) dX0_signOfOne_424
  by_cases e123 : x = 123
  · subst e123
    refine g_tableIn C dX0_signOfOne_1 (by decide) (by decide) (off := 395) (by decide) (tgt := 396) (by decide) ?_
    refine g_iconst C dX0_signOfOne_396 (v := 2) (by decide) ?_
    exact g_iret C F (by decide) (rfl) dX0_signOfOne_397
  by_cases e124 : x = 124
  · subst e124
    refine g_tableIn C dX0_signOfOne_1 (by decide) (by decide) (off := 418) (by decide) (tgt := 419) (by decide) ?_
    refine g_bipush C dX0_signOfOne_419 (v := 23) (by decide) ?_
    exact g_iret C F (by decide) (rfl) dX0_signOfOne_421
  by_cases e125 : x = 125
  · subst e125
    refine g_tableIn C dX0_signOfOne_1 (by decide) (by decide) (off := 397) (by decide) (tgt := 398) (by decide) ?_
    refine g_iconst C dX0_signOfOne_398 (v := 3) (by decide) ?_
    exact g_iret C F (by decide) (rfl) dX0_signOfOne_399
  by_cases e126 : x = 126
  · subst e126
    refine g_tableIn C dX0_signOfOne_1 (by decide) (by decide) (off := 451) (by decide) (tgt := 452) (by decide) ?_
    refine g_bipush C dX0_signOfOne_452 (v := 40) (by decide) ?_
    exact g_iret C F (by decide) (rfl) dX0_signOfOne_454
  have n33 := k_ne (b := 33) (by decide) e33
  have n37 := k_ne (b := 37) (by decide) e37
  have n38 := k_ne (b := 38) (by decide) e38
  have n40 := k_ne (b := 40) (by decide) e40
  have n41 := k_ne (b := 41) (by decide) e41
  have n42 := k_ne (b := 42) (by decide) e42
  have n43 := k_ne (b := 43) (by decide) e43
  have n44 := k_ne (b := 44) (by decide) e44
  have n45 := k_ne (b := 45) (by decide) e45
  have n47 := k_ne (b := 47) (by decide) e47
  have n58 := k_ne (b := 58) (by decide) e58
  have n59 := k_ne (b := 59) (by decide) e59
  have n60 := k_ne (b := 60) (by decide) e60
  have n61 := k_ne (b := 61) (by decide) e61
  have n62 := k_ne (b := 62) (by decide) e62
  have n63 := k_ne (b := 63) (by decide) e63
  have n91 := k_ne (b := 91) (by decide) e91
  have n93 := k_ne (b := 93) (by decide) e93
  have n94 := k_ne (b := 94) (by decide) e94
  have n123 := k_ne (b := 123) (by decide) e123
  have n124 := k_ne (b := 124) (by decide) e124
  have n125 := k_ne (b := 125) (by decide) e125
  have n126 := k_ne (b := 126) (by decide) e126
  by_cases hlo : x.toInt < 33 ∨ 126 < x.toInt
  · refine g_tableOut C dX0_signOfOne_1 hlo (tgt := 455) (by decide) ?_
    refine g_iconst C dX0_signOfOne_455 (v := (-1)) (by decide) ?_
    exact g_iret C F (by unfold sg1; rw [if_neg e33, if_neg e37, if_neg e38, if_neg e40, if_neg e41, if_neg e42, if_neg e43, if_neg e44, if_neg e45, if_neg e47, if_neg e58, if_neg e59, if_neg e60, if_neg e61, if_neg e62, if_neg e63, if_neg e91, if_neg e93, if_neg e94, if_neg e123, if_neg e124, if_neg e125, if_neg e126]) (rfl) dX0_signOfOne_456
  · refine g_tableIn C dX0_signOfOne_1 (by omega) (by omega) (off := 454) (tab_dflt [0, 4, 5, 7, 8, 9, 10, 11, 12, 14, 25, 26, 27, 28, 29, 30, 58, 60, 61, 90, 91, 92, 93] (n := 94) (by decide +kernel) (by omega) (by simp only [List.mem_cons, List.not_mem_nil, or_false, not_or]; omega)) (tgt := 455) (by decide) ?_
    refine g_iconst C dX0_signOfOne_455 (v := (-1)) (by decide) ?_
    exact g_iret C F (by unfold sg1; rw [if_neg e33, if_neg e37, if_neg e38, if_neg e40, if_neg e41, if_neg e42, if_neg e43, if_neg e44, if_neg e45, if_neg e47, if_neg e58, if_neg e59, if_neg e60, if_neg e61, if_neg e62, if_neg e63, if_neg e91, if_neg e93, if_neg e94, if_neg e123, if_neg e124, if_neg e125, if_neg e126]) (rfl) dX0_signOfOne_456
set_option maxHeartbeats 4000000 in
set_option maxRecDepth 100000 in
theorem c_X0_signOfThree (g : Gl) (x y z : Int32) : Ctr g yX0_signOfThree wsX0_signOfThree ({ frames := 0, cells := 0, slots := 0, locals := 0 }) [.int x, .int y, .int z] [] (some (.int (sg3 x y z))) [] 0 0 := by
  refine Ctr.start (cc := cX0_signOfThree) (maxL := 3) (ret := (some .int)) (by decide) rfl (Nat.le_of_ble_eq_true rfl) (lv0 := [(0, .int x), (1, .int y), (2, .int z)]) rfl ?_
  intro X C F
  have C : Ok g X cX0_signOfThree RX0 wsX0_signOfThree ({ frames := 0, cells := 0, slots := 0, locals := 0 }) (some .int) 3 := C
  refine g_iload_n C dX0_signOfThree_0 0 rfl ?_
  refine g_iload_n C dX0_signOfThree_1 1 rfl ?_
  refine g_icmp_ne C dX0_signOfThree_2 (tgt := 11) (by decide) (fun c1 => ?_) (fun c1 => ?_)
  · refine g_iconst C dX0_signOfThree_11 (v := (-1)) (by decide) ?_
    exact g_iret C F (by unfold sg3; rw [if_neg (fun h => c1 h.1)]) (rfl) dX0_signOfThree_12
  · refine g_iload_n C dX0_signOfThree_5 2 rfl ?_
    refine g_bipush C dX0_signOfThree_6 (v := 61) (by decide) ?_
    refine g_icmp_eq C dX0_signOfThree_8 (tgt := 13) (by decide) (fun c2 => ?_) (fun c2 => ?_)
    · refine g_iload_n C dX0_signOfThree_13 0 rfl ?_
      refine g_bipush C dX0_signOfThree_14 (v := 60) (by decide) ?_
      refine g_icmp_ne C dX0_signOfThree_16 (tgt := 24) (by decide) (fun c3 => ?_) (fun c3 => ?_)
      · refine g_iload_n C dX0_signOfThree_24 0 rfl ?_
        refine g_bipush C dX0_signOfThree_25 (v := 62) (by decide) ?_
        refine g_icmp_ne C dX0_signOfThree_27 (tgt := 35) (by decide) (fun c4 => ?_) (fun c4 => ?_)
        · refine g_iconst C dX0_signOfThree_35 (v := (-1)) (by decide) ?_
          exact g_iret C F (by unfold sg3; rw [if_pos ⟨c1, c2⟩, if_neg c3, if_neg c4]) (rfl) dX0_signOfThree_36
        · refine g_bipush C dX0_signOfThree_30 (v := 20) (by decide) ?_
          refine g_goto C dX0_signOfThree_32 (tgt := 36) (by decide) ?_
          exact g_iret C F (by unfold sg3; rw [if_pos ⟨c1, c2⟩, if_neg c3, if_pos c4]) (rfl) dX0_signOfThree_36
      · refine g_bipush C dX0_signOfThree_19 (v := 19) (by decide) ?_
        refine g_goto C dX0_signOfThree_21 (tgt := 36) (by decide) ?_
        exact g_iret C F (by unfold sg3; rw [if_pos ⟨c1, c2⟩, if_pos c3]) (rfl) dX0_signOfThree_36
    · refine g_iconst C dX0_signOfThree_11 (v := (-1)) (by decide) ?_
      exact g_iret C F (by unfold sg3; rw [if_neg (fun h => c2 h.2)]) (rfl) dX0_signOfThree_12
set_option maxHeartbeats 4000000 in
set_option maxRecDepth 100000 in
theorem c_X0_signOfTwo (g : Gl) (x y : Int32) : Ctr g yX0_signOfTwo wsX0_signOfTwo ({ frames := 1, cells := 0, slots := 0, locals := 20 }) [.int x, .int y] [] (some (.int (sg2 x y))) [] 0 0 := by
  refine Ctr.start (cc := cX0_signOfTwo) (maxL := 2) (ret := (some .int)) (by decide) rfl (Nat.le_of_ble_eq_true rfl) (lv0 := [(0, .int x), (1, .int y)]) rfl ?_
  intro X C F
  have C : Ok g X cX0_signOfTwo RX0 wsX0_signOfTwo ({ frames := 1, cells := 0, slots := 0, locals := 20 }) (some .int) 2 := C
  refine g_iload_n C dX0_signOfTwo_0 1 rfl ?_
  refine g_bipush C dX0_signOfTwo_1 (v := 61) (by decide) ?_
  refine g_icmp_ne C dX0_signOfTwo_3 (tgt := 11) (by decide) (fun c1 => ?_) (fun c1 => ?_)
  · refine g_iload_n C dX0_signOfTwo_11 1 rfl ?_
    refine g_iload_n C dX0_signOfTwo_12 0 rfl ?_
    refine g_icmp_ne C dX0_signOfTwo_13 (tgt := 23) (by decide) (fun c2 => ?_) (fun c2 => ?_)
    · refine g_iconst C dX0_signOfTwo_23 (v := (-1)) (by decide) ?_
      exact g_iret C F (by unfold sg2; rw [if_neg c1, if_neg c2]) (rfl) dX0_signOfTwo_24
    · refine g_iload_n C dX0_signOfTwo_16 0 rfl ?_
      refine g_callSi (n := 1) C (c_X0_signOfTwins g x) gX0_signOfTwo_X0_signOfTwins rfl rfl (by decide) (by decide) rfl (Nat.le_of_ble_eq_true rfl) dX0_signOfTwo_17 ?_
      refine g_goto C dX0_signOfTwo_20 (tgt := 24) (by decide) ?_
      exact g_iret C F (by unfold sg2; rw [if_neg c1, if_pos c2]) (rfl) dX0_signOfTwo_24
  · refine g_iload_n C dX0_signOfTwo_6 0 rfl ?_
    refine g_callSi (n := 1) C (c_X0_signWithEqual g x) gX0_signOfTwo_X0_signWithEqual rfl rfl (by decide) (by decide) rfl (Nat.le_of_ble_eq_true rfl) dX0_signOfTwo_7 ?_
    exact g_iret C F (by unfold sg2; rw [if_pos c1]) (rfl) dX0_signOfTwo_10
