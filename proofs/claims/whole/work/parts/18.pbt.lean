set_option maxHeartbeats 4000000 in
set_option maxRecDepth 100000 in
theorem c_X0_pastBlankOrToken (g : Gl) (a : Nat → Nat) (aT aX : Nat) (tr : Nat → Int32) (n fed : Int32) (tx : Nat → Int32) (ln fa : Int32) (T : TK) (N c i : Nat) (hN : N ≤ 16000) (hi : i < N) (hT : T.2.2.2.2.2 = nI c) (hc : c < 16000) : Ctr g yX0_pastBlankOrToken wsX0_pastBlankOrToken ({ frames := 3, cells := 0, slots := 0, locals := 69 }) [.ref (a 0), .int (nI i)] (tw g a aT aX tr n fed tx (nI N) ln fa T) (some (.int (nI (stp (look tx N) N i).1))) (tw g a aT aX tr n fed tx (nI N) (ln + nI (stp (look tx N) N i).2.2.1) (stF (stp (look tx N) N i).2.1 fa) (tkT (stp (look tx N) N i).2.2.2 T c i ln)) 0 0 := by
  refine Ctr.start (cc := cX0_pastBlankOrToken) (maxL := 3) (ret := (some .int)) (by decide) rfl (Nat.le_of_ble_eq_true rfl) (lv0 := [(0, .ref (a 0)), (1, .int (nI i))]) rfl ?_
  intro X C F
  have C : Ok g X cX0_pastBlankOrToken RX0 wsX0_pastBlankOrToken ({ frames := 3, cells := 0, slots := 0, locals := 69 }) (some .int) 3 := C
  have hin : ∀ w ∈ wsX00, w ∈ wsX0_pastBlankOrToken := fun _ h => List.mem_cons_of_mem _ (List.mem_append_right _ h)
  have tkn : bBlk (look tx N i) = false → ¬ (look tx N i = 47 ∧ look tx N (i + 1) = 47) → ¬ (look tx N i = 47 ∧ look tx N (i + 1) = 42) → G g X (0, 0) (tw g a aT aX tr n fed tx (nI N) ln fa T) 70 [(2, .int (look tx N i)), (0, .ref (a 0)), (1, .int (nI i))] [] := by
    intro hb hn1 hn2
    refine g_iload_n C dX0_pastBlankOrToken_70 0 rfl ?_
    refine g_callSi (n := 1) C (c_X0_isLetter g (look tx N i)) gX0_pastBlankOrToken_X0_isLetter rfl rfl (by decide) (by decide) rfl (Nat.le_of_ble_eq_true rfl) dX0_pastBlankOrToken_71 ?_
    refine g_if_eq C dX0_pastBlankOrToken_74 (tgt := 83) (by decide) (fun c1 => ?_) (fun c1 => ?_)
    · refine g_iload_n C dX0_pastBlankOrToken_83 0 rfl ?_
      refine g_callSi (n := 1) C (c_X0_isDigit g (look tx N i)) gX0_pastBlankOrToken_X0_isDigit rfl rfl (by decide) (by decide) rfl (Nat.le_of_ble_eq_true rfl) dX0_pastBlankOrToken_84 ?_
      refine g_if_eq C dX0_pastBlankOrToken_87 (tgt := 112) (by decide) (fun c2 => ?_) (fun c2 => ?_)
      · refine g_iload_n C dX0_pastBlankOrToken_112 0 rfl ?_
        refine g_bipush C dX0_pastBlankOrToken_113 (v := 39) (by decide) ?_
        refine g_icmp_ne C dX0_pastBlankOrToken_115 (tgt := 124) (by decide) (fun c3 => ?_) (fun c3 => ?_)
        · refine g_iload_n C dX0_pastBlankOrToken_124 0 rfl ?_
          refine g_bipush C dX0_pastBlankOrToken_125 (v := 34) (by decide) ?_
          refine g_icmp_ne C dX0_pastBlankOrToken_127 (tgt := 136) (by decide) (fun c4 => ?_) (fun c4 => ?_)
          · refine g_aload_n C dX0_pastBlankOrToken_136 1 rfl ?_
            refine g_iload_n C dX0_pastBlankOrToken_137 2 rfl ?_
            refine g_callVi (n := 1) C (c_X0_pastSign g a aT aX tr n fed tx ln fa T N c i hN hi hT hc) gX0_pastBlankOrToken_X0_pastSign rfl rfl rfl rfl (by decide) (by decide) rfl (Nat.le_of_ble_eq_true rfl) dX0_pastBlankOrToken_138 ?_
            have ht : tok (look tx N) N i = tokSgn (look tx N) i := by unfold tok; rw [if_neg (by rw [b01_0.mp c1]; decide), if_neg (by rw [b01_0.mp c2]; decide), if_neg c3, if_neg c4]
            have hs : stp (look tx N) N i = stpTok (tokSgn (look tx N) i) i := by unfold stp; rw [if_neg (by rw [hb]; decide), if_neg hn1, if_neg hn2, ht]
            exact g_iret C F (by rw [hs, stpTok_r]) (by rw [hs, stpTok_f, stpTok_l, stpTok_t]) dX0_pastBlankOrToken_141
          · refine g_aload_n C dX0_pastBlankOrToken_130 1 rfl ?_
            refine g_iload_n C dX0_pastBlankOrToken_131 2 rfl ?_
            refine g_callVi (n := 1) C (c_X0_pastString g a aT aX tr n fed tx ln fa T N c i hN hi hT hc) gX0_pastBlankOrToken_X0_pastString rfl rfl rfl rfl (by decide) (by decide) rfl (Nat.le_of_ble_eq_true rfl) dX0_pastBlankOrToken_132 ?_
            have ht : tok (look tx N) N i = tokStr (look tx N) i := by unfold tok; rw [if_neg (by rw [b01_0.mp c1]; decide), if_neg (by rw [b01_0.mp c2]; decide), if_neg c3, if_pos c4]
            have hs : stp (look tx N) N i = stpTok (tokStr (look tx N) i) i := by unfold stp; rw [if_neg (by rw [hb]; decide), if_neg hn1, if_neg hn2, ht]
            exact g_iret C F (by rw [hs, stpTok_r]) (by rw [hs, stpTok_f, stpTok_l, stpTok_t]) dX0_pastBlankOrToken_135
        · refine g_aload_n C dX0_pastBlankOrToken_118 1 rfl ?_
          refine g_iload_n C dX0_pastBlankOrToken_119 2 rfl ?_
          refine g_callVi (n := 1) C (c_X0_pastQuotedCode g a aT aX tr n fed tx ln fa T N c i hN hi hT hc) gX0_pastBlankOrToken_X0_pastQuotedCode rfl rfl rfl rfl (by decide) (by decide) rfl (Nat.le_of_ble_eq_true rfl) dX0_pastBlankOrToken_120 ?_
          have ht : tok (look tx N) N i = tokQuo (look tx N) i := by unfold tok; rw [if_neg (by rw [b01_0.mp c1]; decide), if_neg (by rw [b01_0.mp c2]; decide), if_pos c3]
          have hs : stp (look tx N) N i = stpTok (tokQuo (look tx N) i) i := by unfold stp; rw [if_neg (by rw [hb]; decide), if_neg hn1, if_neg hn2, ht]
          exact g_iret C F (by rw [hs, stpTok_r]) (by rw [hs, stpTok_f, stpTok_l, stpTok_t]) dX0_pastBlankOrToken_123
      · refine g_aload_n C dX0_pastBlankOrToken_90 1 rfl ?_
        refine g_iload_n C dX0_pastBlankOrToken_91 2 rfl ?_
        refine g_callVi (n := 1) C (c_X0_isHexNumber g a aT aX tr n fed tx ln fa T N i hN (by omega)) gX0_pastBlankOrToken_X0_isHexNumber rfl rfl rfl rfl (by decide) (by decide) rfl (Nat.le_of_ble_eq_true rfl) dX0_pastBlankOrToken_92 ?_
        refine g_if_eq C dX0_pastBlankOrToken_95 (tgt := 106) (by decide) (fun c5 => ?_) (fun c5 => ?_)
        · refine g_aload_n C dX0_pastBlankOrToken_106 1 rfl ?_
          refine g_iload_n C dX0_pastBlankOrToken_107 2 rfl ?_
          refine g_callVi (n := 1) C (c_X0_pastDigits g a aT aX tr n fed tx ln fa T N c i hN hi hT hc) gX0_pastBlankOrToken_X0_pastDigits rfl rfl rfl rfl (by decide) (by decide) rfl (Nat.le_of_ble_eq_true rfl) dX0_pastBlankOrToken_108 ?_
          have ht : tok (look tx N) N i = tokDig (look tx N) N i := by unfold tok; rw [if_neg (by rw [b01_0.mp c1]; decide), if_pos (b01_1.mp c2), if_neg (by rw [b01_0.mp c5]; decide)]
          have hs : stp (look tx N) N i = stpTok (tokDig (look tx N) N i) i := by unfold stp; rw [if_neg (by rw [hb]; decide), if_neg hn1, if_neg hn2, ht]
          exact g_iret C F (by rw [hs, stpTok_r]) (by rw [hs, stpTok_f, stpTok_l, stpTok_t]) dX0_pastBlankOrToken_111
        · have hx9 := b01_1.mp c5
          refine g_aload_n C dX0_pastBlankOrToken_98 1 rfl ?_
          refine g_iload_n C dX0_pastBlankOrToken_99 2 rfl ?_
          refine g_callVi (n := 1) C (c_X0_pastHexNumber g a aT aX tr n fed tx ln fa T N c i hN hi hT hc (by have h9 := of_decide_eq_true hx9; have h8 := look_ltN h9.2.1 (by decide); omega)) gX0_pastBlankOrToken_X0_pastHexNumber rfl rfl rfl rfl (by decide) (by decide) rfl (Nat.le_of_ble_eq_true rfl) dX0_pastBlankOrToken_100 ?_
          have ht : tok (look tx N) N i = tokHex (look tx N) N i := by unfold tok; rw [if_neg (by rw [b01_0.mp c1]; decide), if_pos (b01_1.mp c2), if_pos (b01_1.mp c5)]
          have hs : stp (look tx N) N i = stpTok (tokHex (look tx N) N i) i := by unfold stp; rw [if_neg (by rw [hb]; decide), if_neg hn1, if_neg hn2, ht]
          refine g_goto C dX0_pastBlankOrToken_103 (tgt := 111) (by decide) ?_
          exact g_iret C F (by rw [hs, stpTok_r]) (by rw [hs, stpTok_f, stpTok_l, stpTok_t]) dX0_pastBlankOrToken_111
    · refine g_aload_n C dX0_pastBlankOrToken_77 1 rfl ?_
      refine g_iload_n C dX0_pastBlankOrToken_78 2 rfl ?_
      refine g_callVi (n := 1) C (c_X0_pastName g a aT aX tr n fed tx ln fa T N c i hN hi hT hc) gX0_pastBlankOrToken_X0_pastName rfl rfl rfl rfl (by decide) (by decide) rfl (Nat.le_of_ble_eq_true rfl) dX0_pastBlankOrToken_79 ?_
      have ht : tok (look tx N) N i = tokName (look tx N) N i := by unfold tok; rw [if_pos (b01_1.mp c1)]
      have hs : stp (look tx N) N i = stpTok (tokName (look tx N) N i) i := by unfold stp; rw [if_neg (by rw [hb]; decide), if_neg hn1, if_neg hn2, ht]
      exact g_iret C F (by rw [hs, stpTok_r]) (by rw [hs, stpTok_f, stpTok_l, stpTok_t]) dX0_pastBlankOrToken_82
  refine g_aload_n C dX0_pastBlankOrToken_0 0 rfl ?_
  refine g_iload_n C dX0_pastBlankOrToken_1 1 rfl ?_
  refine g_callVi (n := 1) C (c_X0_byteAt g a aT aX tr n fed tx ln fa T N i hN (by omega)) gX0_pastBlankOrToken_X0_byteAt rfl rfl rfl rfl (by decide) (by decide) rfl (Nat.le_of_ble_eq_true rfl) dX0_pastBlankOrToken_2 ?_
  refine g_istore_n (lv' := [(2, .int (look tx N i)), (0, .ref (a 0)), (1, .int (nI i))]) C dX0_pastBlankOrToken_5 (by decide) rfl ?_
  refine g_iload_n C dX0_pastBlankOrToken_6 0 rfl ?_
  refine g_callSi (n := 1) C (c_X0_isBlankByte g (look tx N i)) gX0_pastBlankOrToken_X0_isBlankByte rfl rfl (by decide) (by decide) rfl (Nat.le_of_ble_eq_true rfl) dX0_pastBlankOrToken_7 ?_
  refine g_if_eq C dX0_pastBlankOrToken_10 (tgt := 22) (by decide) (fun c6 => ?_) (fun c6 => ?_)
  · have hb := b01_0.mp c6
    refine g_iload_n C dX0_pastBlankOrToken_22 0 rfl ?_
    refine g_bipush C dX0_pastBlankOrToken_23 (v := 47) (by decide) ?_
    refine g_icmp_ne C dX0_pastBlankOrToken_25 (tgt := 46) (by decide) (fun c7 => ?_) (fun c7 => ?_)
    · refine g_iload_n C dX0_pastBlankOrToken_46 0 rfl ?_
      refine g_bipush C dX0_pastBlankOrToken_47 (v := 47) (by decide) ?_
      refine g_icmp_ne C dX0_pastBlankOrToken_49 (tgt := 70) (by decide) (fun c8 => ?_) (fun c8 => ?_)
      · exact tkn hb (fun z => c7 z.1) (fun z => c8 z.1)
      · exact absurd c8 c7
    · refine g_aload_n C dX0_pastBlankOrToken_28 1 rfl ?_
      refine g_iload_n C dX0_pastBlankOrToken_29 2 rfl ?_
      refine g_iconst C dX0_pastBlankOrToken_30 (v := 1) (by decide) ?_
      refine g_iadd C dX0_pastBlankOrToken_31 ?_
      refine g_top (nI_add i 1) ?_
      refine g_callVi (n := 1) C (c_X0_byteAt g a aT aX tr n fed tx ln fa T N (i + 1) hN (by omega)) gX0_pastBlankOrToken_X0_byteAt rfl rfl rfl rfl (by decide) (by decide) rfl (Nat.le_of_ble_eq_true rfl) dX0_pastBlankOrToken_32 ?_
      refine g_bipush C dX0_pastBlankOrToken_35 (v := 47) (by decide) ?_
      refine g_icmp_ne C dX0_pastBlankOrToken_37 (tgt := 46) (by decide) (fun c9 => ?_) (fun c9 => ?_)
      · refine g_iload_n C dX0_pastBlankOrToken_46 0 rfl ?_
        refine g_bipush C dX0_pastBlankOrToken_47 (v := 47) (by decide) ?_
        refine g_icmp_ne C dX0_pastBlankOrToken_49 (tgt := 70) (by decide) (fun c10 => ?_) (fun c10 => ?_)
        · exact absurd c7 c10
        · refine g_aload_n C dX0_pastBlankOrToken_52 1 rfl ?_
          refine g_iload_n C dX0_pastBlankOrToken_53 2 rfl ?_
          refine g_iconst C dX0_pastBlankOrToken_54 (v := 1) (by decide) ?_
          refine g_iadd C dX0_pastBlankOrToken_55 ?_
          refine g_top (nI_add i 1) ?_
          refine g_callVi (n := 1) C (c_X0_byteAt g a aT aX tr n fed tx ln fa T N (i + 1) hN (by omega)) gX0_pastBlankOrToken_X0_byteAt rfl rfl rfl rfl (by decide) (by decide) rfl (Nat.le_of_ble_eq_true rfl) dX0_pastBlankOrToken_56 ?_
          refine g_bipush C dX0_pastBlankOrToken_59 (v := 42) (by decide) ?_
          refine g_icmp_ne C dX0_pastBlankOrToken_61 (tgt := 70) (by decide) (fun c11 => ?_) (fun c11 => ?_)
          · exact tkn hb (fun z => c9 z.2) (fun z => c11 z.2)
          · refine g_aload_n C dX0_pastBlankOrToken_64 1 rfl ?_
            refine g_iload_n C dX0_pastBlankOrToken_65 2 rfl ?_
            have hcm : look tx N i = 47 ∧ look tx N (i + 1) = 42 := ⟨c10, c11⟩
            have hl := look_ltN hcm.2 (by decide)
            refine g_callVi (n := 1) C (c_X0_pastStarComment g a aT aX tr n fed tx ln fa T N i hN (by omega)) gX0_pastBlankOrToken_X0_pastStarComment rfl rfl rfl rfl (by decide) (by decide) rfl (Nat.le_of_ble_eq_true rfl) dX0_pastBlankOrToken_66 ?_
            have hs : stp (look tx N) N i = stpStar (look tx N) N i := by unfold stp; rw [if_neg (by rw [hb]; decide), if_neg (fun z => absurd (z.2.symm.trans hcm.2) (by decide)), if_pos hcm]
            exact g_iret C F (by rw [hs]; unfold stpStar; dsimp only; split <;> (try split) <;> rfl) (by rw [hs]; unfold stpStar; dsimp only; congr 1; split <;> (try split) <;> rfl) dX0_pastBlankOrToken_69
      · refine g_aload_n C dX0_pastBlankOrToken_40 1 rfl ?_
        refine g_iload_n C dX0_pastBlankOrToken_41 2 rfl ?_
        have hcm : look tx N i = 47 ∧ look tx N (i + 1) = 47 := ⟨c7, c9⟩
        have hl := look_ltN hcm.2 (by decide)
        refine g_callVi (n := 1) C (c_X0_pastLineComment g a aT aX tr n fed tx ln fa T N i hN (by omega)) gX0_pastBlankOrToken_X0_pastLineComment rfl rfl rfl rfl (by decide) (by decide) rfl (Nat.le_of_ble_eq_true rfl) dX0_pastBlankOrToken_42 ?_
        have hs : stp (look tx N) N i = stpLin (look tx N) N i := by unfold stp; rw [if_neg (by rw [hb]; decide), if_pos hcm]
        exact g_iret C F (by rw [hs]; rfl) (by rw [hs]; unfold stpLin; dsimp only; rw [nI_0, Int32.add_zero]; congr 1; split <;> rfl) dX0_pastBlankOrToken_45
  · have hb := b01_1.mp c6
    have hs : stp (look tx N) N i = (i + 1, none, (if look tx N i = 10 then 1 else 0), none) := by unfold stp; rw [if_pos hb]
    refine g_aload_n C dX0_pastBlankOrToken_13 1 rfl ?_
    refine g_iload_n C dX0_pastBlankOrToken_14 0 rfl ?_
    refine g_callVv (n := 1) C (c_X0_countLine g a aT aX tr n fed tx (nI N) ln fa T (look tx N i)) gX0_pastBlankOrToken_X0_countLine rfl rfl rfl rfl (by decide) (by decide) rfl (Nat.le_of_ble_eq_true rfl) dX0_pastBlankOrToken_15 ?_
    refine g_iload_n C dX0_pastBlankOrToken_18 2 rfl ?_
    refine g_iconst C dX0_pastBlankOrToken_19 (v := 1) (by decide) ?_
    refine g_iadd C dX0_pastBlankOrToken_20 ?_
    refine g_top (nI_add i 1) ?_
    exact g_iret C F (by rw [hs]) (by rw [hs]; dsimp only; congr 1; by_cases h10 : look tx N i = 10; (rw [if_pos h10, if_pos h10]; rfl); (rw [if_neg h10, if_neg h10]; exact (Int32.add_zero ln).symm)) dX0_pastBlankOrToken_21
