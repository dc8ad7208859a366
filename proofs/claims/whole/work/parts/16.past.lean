set_option maxHeartbeats 4000000 in
set_option maxRecDepth 100000 in
theorem c_X0_wordNumber (g : Gl) (a : Nat → Nat) (aT aX : Nat) (tr : Nat → Int32) (n fed : Int32) (tx : Nat → Int32) (ln fa : Int32) (T : TK) (N i z : Nat) (hN : N ≤ 16000) (hi : i < 2 ^ 28) (hz : z < 2 ^ 28) : Ctr g yX0_wordNumber wsX0_wordNumber ({ frames := 1, cells := 0, slots := 0, locals := 21 }) [.ref (a 0), .int (nI i), .int (nI z)] (tw g a aT aX tr n fed tx (nI N) ln fa T) (some (.int (wnum (look tx N) i z))) (tw g a aT aX tr n fed tx (nI N) ln fa T) 0 0 := by
  refine Ctr.start (cc := cX0_wordNumber) (maxL := 6) (ret := (some .int)) (by decide) rfl (Nat.le_of_ble_eq_true rfl) (lv0 := [(0, .ref (a 0)), (1, .int (nI i)), (2, .int (nI z))]) rfl ?_
  intro X C F
  have C : Ok g X cX0_wordNumber RX0 wsX0_wordNumber ({ frames := 1, cells := 0, slots := 0, locals := 21 }) (some .int) 6 := C
  have hin : ∀ w ∈ wsX00, w ∈ wsX0_wordNumber := fun _ h => List.mem_cons_of_mem _ (List.mem_append_right _ h)
  have lk167 : Cond.fieldLink RX0 167 "TokenRows" "WORDS" "[C" ∈ wsX0_wordNumber := by decide +kernel
  obtain ⟨res, hres⟩ : ∃ r, r = wnum (look tx N) i z := ⟨_, rfl⟩
  rw [← hres] at F
  have loop : ∀ (k0 k w : Nat) (ag : Int32), k ≤ 66 → 67 ≤ k + k0 → w ≤ k → (ag = -1 ∨ ∃ m, m ≤ z ∧ ag = nI m) → wgo (look tx N) i z (wWd.drop k) w ag = res → G g X (0, 0) (tw g a aT aX tr n fed tx (nI N) ln fa T) 8 [(5, .int (nI k)), (4, .int ag), (3, .int (nI w)), (0, .ref (a 0)), (1, .int (nI i)), (2, .int (nI z))] [] := by
    intro k0
    induction k0 with
    | zero => intro k w ag h1 h2 h3 hag hw; omega
    | succ k0 ih =>
      intro k w ag h1 h2 h3 hag hw
      refine g_iload C dX0_wordNumber_8 0 rfl ?_
      refine g_getsW C lk167 dX0_wordNumber_10 ?_
      refine g_alenW C dX0_wordNumber_13 ?_
      refine g_icmp_ge C dX0_wordNumber_14 (tgt := 88) (by decide) (fun c1 => ?_) (fun c1 => ?_)
      · have hk := (nI_leI (a := 66) (by omega) (by omega)).mp c1
        have hk : k = 66 := by omega
        subst hk
        have hw : -1 = res := hw
        refine g_iconst C dX0_wordNumber_88 (v := (-1)) (by decide) ?_
        exact g_iret C F (hw) (rfl) dX0_wordNumber_89
      · have hk : k < 66 := Nat.not_le.mp (fun q => c1 (nI_le (a := 66) q (by omega)))
        have hd := drop_getD (l := wWd) (k := k) hk
        have hw9 := wWd_lt k
        refine g_getsW C lk167 dX0_wordNumber_17 ?_
        refine g_iload C dX0_wordNumber_20 0 rfl ?_
        refine g_caldW C (v := nI (wWd.getD k 0)) (vp_in_nI hk (by omega)) (by rw [nI_clamp (by omega)]) dX0_wordNumber_22 ?_
        refine g_bipush C dX0_wordNumber_23 (v := 32) (by decide) ?_
        refine g_icmp_ne C dX0_wordNumber_25 (tgt := 45) (by decide) (fun c2 => ?_) (fun c2 => ?_)
        · have hc : ¬ wWd.getD k 0 = 32 := fun q => c2 (by rw [q]; rfl)
          refine g_iload C dX0_wordNumber_45 1 rfl ?_
          refine g_if_lt C dX0_wordNumber_47 (tgt := 79) (by decide) (fun c3 => ?_) (fun c3 => ?_)
          · have hq := k_lt (b := 0) (by decide) c3
            rw [hd, wgo, if_neg hc, if_neg (fun q => by omega)] at hw
            refine g_iconst C dX0_wordNumber_79 (v := (-1)) (by decide) ?_
            refine g_istore (lv' := [(4, .int (-1)), (5, .int (nI k)), (3, .int (nI w)), (0, .ref (a 0)), (1, .int (nI i)), (2, .int (nI z))]) C dX0_wordNumber_80 (by decide) rfl ?_
            refine g_iinc (o := 1) (v := nI (k + 1)) (lv' := [(5, .int (nI (k + 1))), (4, .int (-1)), (3, .int (nI w)), (0, .ref (a 0)), (1, .int (nI i)), (2, .int (nI z))]) C dX0_wordNumber_82 rfl (nI_add k 1) (by decide) rfl ?_
            refine g_goto C dX0_wordNumber_85 (tgt := 8) (by decide) ?_
            exact ih (k + 1) w (-1) (by omega) (by omega) (by omega) (Or.inl rfl) hw
          · obtain ⟨m, hm, rfl⟩ : ∃ m, m ≤ z ∧ ag = nI m := by
              rcases hag with q | q
              · exact absurd (by rw [q]; decide) c3
              · exact q
            refine g_iload C dX0_wordNumber_50 1 rfl ?_
            refine g_iload_n C dX0_wordNumber_52 5 rfl ?_
            refine g_icmp_ge C dX0_wordNumber_53 (tgt := 79) (by decide) (fun c4 => ?_) (fun c4 => ?_)
            · have hq := (nI_leI (by omega) (by omega)).mp c4
              rw [hd, wgo, if_neg hc, if_neg (fun q => by rw [nI_toInt (by omega)] at q; omega)] at hw
              refine g_iconst C dX0_wordNumber_79 (v := (-1)) (by decide) ?_
              refine g_istore (lv' := [(4, .int (-1)), (5, .int (nI k)), (3, .int (nI w)), (0, .ref (a 0)), (1, .int (nI i)), (2, .int (nI z))]) C dX0_wordNumber_80 (by decide) rfl ?_
              refine g_iinc (o := 1) (v := nI (k + 1)) (lv' := [(5, .int (nI (k + 1))), (4, .int (-1)), (3, .int (nI w)), (0, .ref (a 0)), (1, .int (nI i)), (2, .int (nI z))]) C dX0_wordNumber_82 rfl (nI_add k 1) (by decide) rfl ?_
              refine g_goto C dX0_wordNumber_85 (tgt := 8) (by decide) ?_
              exact ih (k + 1) w (-1) (by omega) (by omega) (by omega) (Or.inl rfl) hw
            · have hmz : m < z := Nat.not_le.mp (fun q => c4 (nI_le q (by omega)))
              refine g_aload_n C dX0_wordNumber_56 3 rfl ?_
              refine g_iload_n C dX0_wordNumber_57 4 rfl ?_
              refine g_iload C dX0_wordNumber_58 1 rfl ?_
              refine g_iadd C dX0_wordNumber_60 ?_
              refine g_top (nI_add i m) ?_
              refine g_callVi (n := 1) C (c_X0_byteAt g a aT aX tr n fed tx ln fa T N (i + m) hN (by omega)) gX0_wordNumber_X0_byteAt rfl rfl rfl rfl (by decide) (by decide) rfl (Nat.le_of_ble_eq_true rfl) dX0_wordNumber_61 ?_
              refine g_getsW C lk167 dX0_wordNumber_64 ?_
              refine g_iload C dX0_wordNumber_67 0 rfl ?_
              refine g_caldW C (v := nI (wWd.getD k 0)) (vp_in_nI hk (by omega)) (by rw [nI_clamp (by omega)]) dX0_wordNumber_69 ?_
              refine g_icmp_ne C dX0_wordNumber_70 (tgt := 79) (by decide) (fun c5 => ?_) (fun c5 => ?_)
              · rw [hd, wgo, if_neg hc, if_neg (fun q => c5 (by have q2 := q.2.2; rw [nI_clamp (by omega)] at q2; exact q2))] at hw
                refine g_iconst C dX0_wordNumber_79 (v := (-1)) (by decide) ?_
                refine g_istore (lv' := [(4, .int (-1)), (5, .int (nI k)), (3, .int (nI w)), (0, .ref (a 0)), (1, .int (nI i)), (2, .int (nI z))]) C dX0_wordNumber_80 (by decide) rfl ?_
                refine g_iinc (o := 1) (v := nI (k + 1)) (lv' := [(5, .int (nI (k + 1))), (4, .int (-1)), (3, .int (nI w)), (0, .ref (a 0)), (1, .int (nI i)), (2, .int (nI z))]) C dX0_wordNumber_82 rfl (nI_add k 1) (by decide) rfl ?_
                refine g_goto C dX0_wordNumber_85 (tgt := 8) (by decide) ?_
                exact ih (k + 1) w (-1) (by omega) (by omega) (by omega) (Or.inl rfl) hw
              · rw [hd, wgo, if_neg hc, if_pos ⟨by rw [nI_toInt (by omega)]; omega, by rw [nI_toInt (by omega)]; omega, by rw [nI_clamp (by omega)]; exact c5⟩, nI_1] at hw
                refine g_iinc (o := 1) (v := nI (m + 1)) (lv' := [(4, .int (nI (m + 1))), (5, .int (nI k)), (3, .int (nI w)), (0, .ref (a 0)), (1, .int (nI i)), (2, .int (nI z))]) C dX0_wordNumber_73 rfl (nI_add m 1) (by decide) rfl ?_
                refine g_goto C dX0_wordNumber_76 (tgt := 82) (by decide) ?_
                refine g_iinc (o := 1) (v := nI (k + 1)) (lv' := [(5, .int (nI (k + 1))), (4, .int (nI (m + 1))), (3, .int (nI w)), (0, .ref (a 0)), (1, .int (nI i)), (2, .int (nI z))]) C dX0_wordNumber_82 rfl (nI_add k 1) (by decide) rfl ?_
                refine g_goto C dX0_wordNumber_85 (tgt := 8) (by decide) ?_
                exact ih (k + 1) w (nI (m + 1)) (by omega) (by omega) (by omega) (Or.inr ⟨m + 1, by omega, rfl⟩) hw
        · have hc : wWd.getD k 0 = 32 := (nI_eq (by omega) (by omega)).mp c2
          refine g_iload C dX0_wordNumber_28 1 rfl ?_
          refine g_iload_n C dX0_wordNumber_30 5 rfl ?_
          refine g_icmp_ne C dX0_wordNumber_31 (tgt := 36) (by decide) (fun c6 => ?_) (fun c6 => ?_)
          · rw [hd, wgo, if_pos hc, if_neg c6] at hw
            refine g_iinc (o := 2) (v := nI (w + 1)) (lv' := [(3, .int (nI (w + 1))), (5, .int (nI k)), (4, .int ag), (0, .ref (a 0)), (1, .int (nI i)), (2, .int (nI z))]) C dX0_wordNumber_36 rfl (nI_add w 1) (by decide) rfl ?_
            refine g_iconst C dX0_wordNumber_39 (v := 0) (by decide) ?_
            refine g_istore (lv' := [(4, .int 0), (3, .int (nI (w + 1))), (5, .int (nI k)), (0, .ref (a 0)), (1, .int (nI i)), (2, .int (nI z))]) C dX0_wordNumber_40 (by decide) rfl ?_
            refine g_goto C dX0_wordNumber_42 (tgt := 82) (by decide) ?_
            refine g_iinc (o := 2) (v := nI (k + 1)) (lv' := [(5, .int (nI (k + 1))), (4, .int 0), (3, .int (nI (w + 1))), (0, .ref (a 0)), (1, .int (nI i)), (2, .int (nI z))]) C dX0_wordNumber_82 rfl (nI_add k 1) (by decide) rfl ?_
            refine g_goto C dX0_wordNumber_85 (tgt := 8) (by decide) ?_
            exact ih (k + 1) (w + 1) 0 (by omega) (by omega) (by omega) (Or.inr ⟨0, by omega, rfl⟩) hw
          · rw [hd, wgo, if_pos hc, if_pos c6] at hw
            refine g_iload_n C dX0_wordNumber_34 2 rfl ?_
            exact g_iret C F (hw) (rfl) dX0_wordNumber_35
  refine g_iconst C dX0_wordNumber_0 (v := 0) (by decide) ?_
  refine g_istore_n (lv' := [(3, .int 0), (0, .ref (a 0)), (1, .int (nI i)), (2, .int (nI z))]) C dX0_wordNumber_1 (by decide) rfl ?_
  refine g_iconst C dX0_wordNumber_2 (v := 0) (by decide) ?_
  refine g_istore (lv' := [(4, .int 0), (3, .int 0), (0, .ref (a 0)), (1, .int (nI i)), (2, .int (nI z))]) C dX0_wordNumber_3 (by decide) rfl ?_
  refine g_iconst C dX0_wordNumber_5 (v := 0) (by decide) ?_
  refine g_istore (lv' := [(5, .int 0), (4, .int 0), (3, .int 0), (0, .ref (a 0)), (1, .int (nI i)), (2, .int (nI z))]) C dX0_wordNumber_6 (by decide) rfl ?_
  exact loop 67 0 0 0 (by omega) (by omega) (by omega) (Or.inr ⟨0, by omega, rfl⟩) hres.symm
set_option maxHeartbeats 4000000 in
set_option maxRecDepth 100000 in
theorem c_X0_pastName (g : Gl) (a : Nat → Nat) (aT aX : Nat) (tr : Nat → Int32) (n fed : Int32) (tx : Nat → Int32) (ln fa : Int32) (T : TK) (N c i : Nat) (hN : N ≤ 16000) (hi : i < N) (hT : T.2.2.2.2.2 = nI c) (hc : c < 16000) : Ctr g yX0_pastName wsX0_pastName ({ frames := 2, cells := 0, slots := 0, locals := 46 }) [.ref (a 0), .int (nI i)] (tw g a aT aX tr n fed tx (nI N) ln fa T) (some (.int (tkR (tokName (look tx N) N i) i))) (tw g a aT aX tr n fed tx (nI N) ln (tkF (tokName (look tx N) N i) fa i) (tkT (tokName (look tx N) N i) T c i ln)) 0 0 := by
  refine Ctr.start (cc := cX0_pastName) (maxL := 4) (ret := (some .int)) (by decide) rfl (Nat.le_of_ble_eq_true rfl) (lv0 := [(0, .ref (a 0)), (1, .int (nI i))]) rfl ?_
  intro X C F
  have C : Ok g X cX0_pastName RX0 wsX0_pastName ({ frames := 2, cells := 0, slots := 0, locals := 46 }) (some .int) 4 := C
  have hin : ∀ w ∈ wsX00, w ∈ wsX0_pastName := fun _ h => List.mem_cons_of_mem _ (List.mem_append_right _ h)
  have lk39 : Cond.fieldLink RX0 39 "TokenRows" "textSize" "I" ∈ wsX0_pastName := by decide +kernel
  obtain ⟨e, he⟩ : ∃ e, e = scan (pNam (look tx N)) N (i + 1) := ⟨_, rfl⟩
  have he1 : i + 1 ≤ e := by rw [he]; exact scan_ge _ _ _
  have he2 : e ≤ N := by rw [he]; exact scan_le (by omega)
  have hs : tokName (look tx N) N i = if 24 < e - i then none else if 0 ≤ (wnum (look tx N) i (e - i)).toInt then some (4, wnum (look tx N) i (e - i), e) else some (1, 0, e) := by rw [he]; rfl
  have ex : G g X (0, 0) (tw g a aT aX tr n fed tx (nI N) ln fa T) 29 [(2, .int (nI e)), (0, .ref (a 0)), (1, .int (nI i))] [] := by
    refine g_iload_n C dX0_pastName_29 0 rfl ?_
    refine g_iload_n C dX0_pastName_30 2 rfl ?_
    refine g_isub C dX0_pastName_31 ?_
    refine g_top (y := nI (e - i)) (nI_subI (b := i) (by omega)) ?_
    refine g_bipush C dX0_pastName_32 (v := 24) (by decide) ?_
    refine g_icmp_le C dX0_pastName_34 (tgt := 43) (by decide) (fun c1 => ?_) (fun c1 => ?_)
    · have hz : e - i ≤ 24 := (nI_leI (b := 24) (by omega) (by omega)).mp c1
      refine g_aload_n C dX0_pastName_43 1 rfl ?_
      refine g_iload_n C dX0_pastName_44 2 rfl ?_
      refine g_iload_n C dX0_pastName_45 0 rfl ?_
      refine g_iload_n C dX0_pastName_46 2 rfl ?_
      refine g_isub C dX0_pastName_47 ?_
      refine g_top (y := nI (e - i)) (nI_subI (b := i) (by omega)) ?_
      refine g_callVi (n := 2) C (c_X0_wordNumber g a aT aX tr n fed tx ln fa T N i (e - i) hN (by omega) (by omega)) gX0_pastName_X0_wordNumber rfl rfl rfl rfl (by decide) (by decide) rfl (Nat.le_of_ble_eq_true rfl) dX0_pastName_48 ?_
      refine g_istore_n (lv' := [(3, .int (wnum (look tx N) i (e - i))), (2, .int (nI e)), (0, .ref (a 0)), (1, .int (nI i))]) C dX0_pastName_51 (by decide) rfl ?_
      refine g_iload_n C dX0_pastName_52 0 rfl ?_
      refine g_if_lt C dX0_pastName_53 (tgt := 67) (by decide) (fun c2 => ?_) (fun c2 => ?_)
      · have hq := k_lt (b := 0) (by decide) c2
        refine g_aload_n C dX0_pastName_67 2 rfl ?_
        refine g_iconst C dX0_pastName_68 (v := 1) (by decide) ?_
        refine g_iconst C dX0_pastName_69 (v := 0) (by decide) ?_
        refine g_iload_n C dX0_pastName_70 3 rfl ?_
        refine g_iload_n C dX0_pastName_71 1 rfl ?_
        refine g_callVi (n := 4) C (c_X0_keep g a aT aX tr n fed tx (nI N) ln fa T c hT hc 1 0 (nI i) (nI e)) gX0_pastName_X0_keep rfl rfl rfl rfl (by decide) (by decide) rfl (Nat.le_of_ble_eq_true rfl) dX0_pastName_72 ?_
        exact g_iret C F (by rw [hs, if_neg (by omega), if_neg (by omega)]; rfl) (by rw [hs, if_neg (by omega), if_neg (by omega)]; rfl) dX0_pastName_75
      · have hq := k_nlt (b := 0) (by decide) c2
        refine g_aload_n C dX0_pastName_56 2 rfl ?_
        refine g_iconst C dX0_pastName_57 (v := 4) (by decide) ?_
        refine g_iload_n C dX0_pastName_58 0 rfl ?_
        refine g_iload_n C dX0_pastName_59 3 rfl ?_
        refine g_iload_n C dX0_pastName_60 1 rfl ?_
        refine g_callVi (n := 4) C (c_X0_keep g a aT aX tr n fed tx (nI N) ln fa T c hT hc 4 (wnum (look tx N) i (e - i)) (nI i) (nI e)) gX0_pastName_X0_keep rfl rfl rfl rfl (by decide) (by decide) rfl (Nat.le_of_ble_eq_true rfl) dX0_pastName_61 ?_
        refine g_goto C dX0_pastName_64 (tgt := 75) (by decide) ?_
        exact g_iret C F (by rw [hs, if_neg (by omega), if_pos (by omega)]; rfl) (by rw [hs, if_neg (by omega), if_pos (by omega)]; rfl) dX0_pastName_75
    · have hz : 24 < e - i := Nat.not_le.mp (fun z => c1 (nI_le (b := 24) z (by omega)))
      refine g_aload_n C dX0_pastName_37 1 rfl ?_
      refine g_iload_n C dX0_pastName_38 2 rfl ?_
      refine g_callVi (n := 1) C (c_X0_fail g a aT aX tr n fed tx (nI N) ln fa T (nI i)) gX0_pastName_X0_fail rfl rfl rfl rfl (by decide) (by decide) rfl (Nat.le_of_ble_eq_true rfl) dX0_pastName_39 ?_
      exact g_iret C F (by rw [hs, if_pos hz]; rfl) (by rw [hs, if_pos hz]; rfl) dX0_pastName_42
  have loop : ∀ (k j : Nat), j ≤ N → N + 1 ≤ j + k → scan (pNam (look tx N)) N j = e → G g X (0, 0) (tw g a aT aX tr n fed tx (nI N) ln fa T) 4 [(2, .int (nI j)), (0, .ref (a 0)), (1, .int (nI i))] [] := by
    intro k
    induction k with
    | zero => intro j h1 h2 h3; omega
    | succ k ih =>
      intro j h1 h2 h3
      refine g_iload_n C dX0_pastName_4 0 rfl ?_
      refine g_aload_n C dX0_pastName_5 1 rfl ?_
      refine g_get0 C hin 0 rfl 4 (by decide) lk39 rfl dX0_pastName_6 ?_
      refine g_icmp_ge C dX0_pastName_9 (tgt := 29) (by decide) (fun c3 => ?_) (fun c3 => ?_)
      · have hj := (nI_leI (by omega) (by omega)).mp c3
        rw [scan_end hj] at h3
        subst h3
        exact ex
      · have hj : j < N := Nat.not_le.mp (fun z => c3 (nI_le z (by omega)))
        refine g_aload_n C dX0_pastName_12 1 rfl ?_
        refine g_iload_n C dX0_pastName_13 0 rfl ?_
        refine g_callVi (n := 1) C (c_X0_byteAt g a aT aX tr n fed tx ln fa T N j hN (by omega)) gX0_pastName_X0_byteAt rfl rfl rfl rfl (by decide) (by decide) rfl (Nat.le_of_ble_eq_true rfl) dX0_pastName_14 ?_
        refine g_callSi (n := 1) C (c_X0_isNamePart g (look tx N j)) gX0_pastName_X0_isNamePart rfl rfl (by decide) (by decide) rfl (Nat.le_of_ble_eq_true rfl) dX0_pastName_17 ?_
        refine g_if_eq C dX0_pastName_20 (tgt := 29) (by decide) (fun c4 => ?_) (fun c4 => ?_)
        · rw [scan_stop (show pNam (look tx N) j = false from b01_0.mp c4)] at h3
          subst h3
          exact ex
        · rw [scan_step hj (show pNam (look tx N) j = true from b01_1.mp c4)] at h3
          refine g_iinc (o := 0) (v := nI (j + 1)) (lv' := [(2, .int (nI (j + 1))), (0, .ref (a 0)), (1, .int (nI i))]) C dX0_pastName_23 rfl (nI_add j 1) (by decide) rfl ?_
          refine g_goto C dX0_pastName_26 (tgt := 4) (by decide) ?_
          exact ih (j + 1) (by omega) (by omega) h3
  refine g_iload_n C dX0_pastName_0 1 rfl ?_
  refine g_iconst C dX0_pastName_1 (v := 1) (by decide) ?_
  refine g_iadd C dX0_pastName_2 ?_
  refine g_top (nI_add i 1) ?_
  refine g_istore_n (lv' := [(2, .int (nI (i + 1))), (0, .ref (a 0)), (1, .int (nI i))]) C dX0_pastName_3 (by decide) rfl ?_
  exact loop (N + 1) (i + 1) (by omega) (by omega) he.symm
set_option maxHeartbeats 4000000 in
set_option maxRecDepth 100000 in
theorem c_X0_pastDigits (g : Gl) (a : Nat → Nat) (aT aX : Nat) (tr : Nat → Int32) (n fed : Int32) (tx : Nat → Int32) (ln fa : Int32) (T : TK) (N c i : Nat) (hN : N ≤ 16000) (hi : i < N) (hT : T.2.2.2.2.2 = nI c) (hc : c < 16000) : Ctr g yX0_pastDigits wsX0_pastDigits ({ frames := 1, cells := 0, slots := 0, locals := 24 }) [.ref (a 0), .int (nI i)] (tw g a aT aX tr n fed tx (nI N) ln fa T) (some (.int (tkR (tokDig (look tx N) N i) i))) (tw g a aT aX tr n fed tx (nI N) ln (tkF (tokDig (look tx N) N i) fa i) (tkT (tokDig (look tx N) N i) T c i ln)) 0 0 := by
  refine Ctr.start (cc := cX0_pastDigits) (maxL := 5) (ret := (some .int)) (by decide) rfl (Nat.le_of_ble_eq_true rfl) (lv0 := [(0, .ref (a 0)), (1, .int (nI i))]) rfl ?_
  intro X C F
  have C : Ok g X cX0_pastDigits RX0 wsX0_pastDigits ({ frames := 1, cells := 0, slots := 0, locals := 24 }) (some .int) 5 := C
  have hin : ∀ w ∈ wsX00, w ∈ wsX0_pastDigits := fun _ h => List.mem_cons_of_mem _ (List.mem_append_right _ h)
  have lc139 : Cond.constantLong RX0 139 (10) ∈ wsX0_pastDigits := by decide +kernel
  have lc141 : Cond.constantLong RX0 141 (2147483648) ∈ wsX0_pastDigits := by decide +kernel
  have lc149 : Cond.constantLong RX0 149 (2147483647) ∈ wsX0_pastDigits := by decide +kernel
  have lk39 : Cond.fieldLink RX0 39 "TokenRows" "textSize" "I" ∈ wsX0_pastDigits := by decide +kernel
  obtain ⟨e, he⟩ : ∃ e, e = scan (pDig (look tx N)) N i := ⟨_, rfl⟩
  have he1 : i ≤ e := by rw [he]; exact scan_ge _ _ _
  have he2 : e ≤ N := by rw [he]; exact scan_le (by omega)
  have hs : tokDig (look tx N) N i = if 2147483647 < dval (look tx N) i (e - i) then none else some (2, nI (dval (look tx N) i (e - i)), e) := by rw [he]; rfl
  have hcp := cap_le (dval (look tx N) i (e - i))
  have ex : G g X (0, 0) (tw g a aT aX tr n fed tx (nI N) ln fa T) 55 [(4, .int (nI e)), (2, .long (lN (cap (dval (look tx N) i (e - i))))), (0, .ref (a 0)), (1, .int (nI i))] [] := by
    refine g_lload_n C dX0_pastDigits_55 1 rfl ?_
    refine g_ldc2 C dX0_pastDigits_56 (v := 2147483647) lc149 ?_
    refine g_lcmp C dX0_pastDigits_59 ?_
    refine g_if_le C dX0_pastDigits_60 (tgt := 71) (by decide) (fun c1 => ?_) (fun c1 => ?_)
    · have hv := (cmp_le (by omega)).mp c1
      have hz : dval (look tx N) i (e - i) ≤ 2147483647 := by unfold cap at hv; split at hv <;> omega
      have hcv : cap (dval (look tx N) i (e - i)) = dval (look tx N) i (e - i) := if_pos (by omega)
      refine g_aload_n C dX0_pastDigits_71 2 rfl ?_
      refine g_iconst C dX0_pastDigits_72 (v := 2) (by decide) ?_
      refine g_lload_n C dX0_pastDigits_73 1 rfl ?_
      refine g_l2i C dX0_pastDigits_74 (v := nI (dval (look tx N) i (e - i))) (by rw [hcv, lN_i]) ?_
      refine g_iload_n C dX0_pastDigits_75 3 rfl ?_
      refine g_iload C dX0_pastDigits_76 0 rfl ?_
      refine g_callVi (n := 4) C (c_X0_keep g a aT aX tr n fed tx (nI N) ln fa T c hT hc 2 (nI (dval (look tx N) i (e - i))) (nI i) (nI e)) gX0_pastDigits_X0_keep rfl rfl rfl rfl (by decide) (by decide) rfl (Nat.le_of_ble_eq_true rfl) dX0_pastDigits_78 ?_
      exact g_iret C F (by rw [hs, if_neg (by omega)]; rfl) (by rw [hs, if_neg (by omega)]; rfl) dX0_pastDigits_81
    · have hv : ¬ cap (dval (look tx N) i (e - i)) ≤ 2147483647 := fun z => c1 ((cmp_le (by omega)).mpr z)
      have hz : 2147483647 < dval (look tx N) i (e - i) := by unfold cap at hv; split at hv <;> omega
      refine g_aload_n C dX0_pastDigits_63 2 rfl ?_
      refine g_iload_n C dX0_pastDigits_64 3 rfl ?_
      refine g_callVi (n := 1) C (c_X0_fail g a aT aX tr n fed tx (nI N) ln fa T (nI i)) gX0_pastDigits_X0_fail rfl rfl rfl rfl (by decide) (by decide) rfl (Nat.le_of_ble_eq_true rfl) dX0_pastDigits_65 ?_
      refine g_goto C dX0_pastDigits_68 (tgt := 81) (by decide) ?_
      exact g_iret C F (by rw [hs, if_pos hz]; rfl) (by rw [hs, if_pos hz]; rfl) dX0_pastDigits_81
  have loop : ∀ (k j : Nat), i ≤ j → j ≤ N → N + 1 ≤ j + k → scan (pDig (look tx N)) N j = e → G g X (0, 0) (tw g a aT aX tr n fed tx (nI N) ln fa T) 5 [(4, .int (nI j)), (2, .long (lN (cap (dval (look tx N) i (j - i))))), (0, .ref (a 0)), (1, .int (nI i))] [] := by
    intro k
    induction k with
    | zero => intro j h0 h1 h2 h3; omega
    | succ k ih =>
      intro j h0 h1 h2 h3
      refine g_iload C dX0_pastDigits_5 0 rfl ?_
      refine g_aload_n C dX0_pastDigits_7 2 rfl ?_
      refine g_get0 C hin 0 rfl 4 (by decide) lk39 rfl dX0_pastDigits_8 ?_
      refine g_icmp_ge C dX0_pastDigits_11 (tgt := 55) (by decide) (fun c2 => ?_) (fun c2 => ?_)
      · have hj := (nI_leI (by omega) (by omega)).mp c2
        rw [scan_end hj] at h3
        subst h3
        exact ex
      · have hj : j < N := Nat.not_le.mp (fun z => c2 (nI_le z (by omega)))
        refine g_aload_n C dX0_pastDigits_14 2 rfl ?_
        refine g_iload C dX0_pastDigits_15 0 rfl ?_
        refine g_callVi (n := 1) C (c_X0_byteAt g a aT aX tr n fed tx ln fa T N j hN (by omega)) gX0_pastDigits_X0_byteAt rfl rfl rfl rfl (by decide) (by decide) rfl (Nat.le_of_ble_eq_true rfl) dX0_pastDigits_17 ?_
        refine g_callSi (n := 1) C (c_X0_isDigit g (look tx N j)) gX0_pastDigits_X0_isDigit rfl rfl (by decide) (by decide) rfl (Nat.le_of_ble_eq_true rfl) dX0_pastDigits_20 ?_
        refine g_if_eq C dX0_pastDigits_23 (tgt := 55) (by decide) (fun c3 => ?_) (fun c3 => ?_)
        · rw [scan_stop (show pDig (look tx N) j = false from b01_0.mp c3)] at h3
          subst h3
          exact ex
        · have hdg := b01_1.mp c3
          rw [scan_step hj (show pDig (look tx N) j = true from hdg)] at h3
          refine g_lload_n C dX0_pastDigits_26 1 rfl ?_
          refine g_ldc2 C dX0_pastDigits_27 (v := 10) lc139 ?_
          refine g_lmul C dX0_pastDigits_30 ?_
          refine g_aload_n C dX0_pastDigits_31 2 rfl ?_
          refine g_iload C dX0_pastDigits_32 0 rfl ?_
          refine g_callVi (n := 1) C (c_X0_byteAt g a aT aX tr n fed tx ln fa T N j hN (by omega)) gX0_pastDigits_X0_byteAt rfl rfl rfl rfl (by decide) (by decide) rfl (Nat.le_of_ble_eq_true rfl) dX0_pastDigits_34 ?_
          refine g_bipush C dX0_pastDigits_37 (v := 48) (by decide) ?_
          refine g_isub C dX0_pastDigits_39 ?_
          refine g_i2l C dX0_pastDigits_40 (v := Int32.toInt64 ((look tx N j) - 48)) rfl ?_
          refine g_ladd C dX0_pastDigits_41 ?_
          refine g_ldc2 C dX0_pastDigits_42 (v := 2147483648) lc141 ?_
          refine g_minl (v := lN (cap (dval (look tx N) i (j + 1 - i)))) C (by decide +kernel) (by decide) (dig_step hdg h0) dX0_pastDigits_45 ?_
          refine g_lstore_n (lv' := [(2, .long (lN (cap (dval (look tx N) i (j + 1 - i))))), (4, .int (nI j)), (0, .ref (a 0)), (1, .int (nI i))]) C dX0_pastDigits_48 (by decide) rfl ?_
          refine g_iinc (o := 1) (v := nI (j + 1)) (lv' := [(4, .int (nI (j + 1))), (2, .long (lN (cap (dval (look tx N) i (j + 1 - i))))), (0, .ref (a 0)), (1, .int (nI i))]) C dX0_pastDigits_49 rfl (nI_add j 1) (by decide) rfl ?_
          refine g_goto C dX0_pastDigits_52 (tgt := 5) (by decide) ?_
          exact ih (j + 1) (by omega) (by omega) (by omega) h3
  refine g_lconst C dX0_pastDigits_0 (v := 0) (by decide) ?_
  refine g_lstore_n (lv' := [(2, .long 0), (0, .ref (a 0)), (1, .int (nI i))]) C dX0_pastDigits_1 (by decide) rfl ?_
  refine g_iload_n C dX0_pastDigits_2 2 rfl ?_
  refine g_istore (lv' := [(4, .int (nI i)), (2, .long 0), (0, .ref (a 0)), (1, .int (nI i))]) C dX0_pastDigits_3 (by decide) rfl ?_
  refine g_lv (lv' := [(4, .int (nI i)), (2, .long (lN (cap (dval (look tx N) i (i - i))))), (0, .ref (a 0)), (1, .int (nI i))]) (by rw [Nat.sub_self]; rfl) ?_
  exact loop (N + 1) i (by omega) (by omega) (by omega) he.symm
set_option maxHeartbeats 4000000 in
set_option maxRecDepth 100000 in
theorem c_X0_isHexNumber (g : Gl) (a : Nat → Nat) (aT aX : Nat) (tr : Nat → Int32) (n fed : Int32) (tx : Nat → Int32) (ln fa : Int32) (T : TK) (N i : Nat) (hN : N ≤ 16000) (hi : i < 2 ^ 28) : Ctr g yX0_isHexNumber wsX0_isHexNumber ({ frames := 2, cells := 0, slots := 0, locals := 40 }) [.ref (a 0), .int (nI i)] (tw g a aT aX tr n fed tx (nI N) ln fa T) (some (.int (b01 (bHex (look tx N) i)))) (tw g a aT aX tr n fed tx (nI N) ln fa T) 0 0 := by
  refine Ctr.start (cc := cX0_isHexNumber) (maxL := 2) (ret := (some .boolean)) (by decide) rfl (Nat.le_of_ble_eq_true rfl) (lv0 := [(0, .ref (a 0)), (1, .int (nI i))]) rfl ?_
  intro X C F
  have C : Ok g X cX0_isHexNumber RX0 wsX0_isHexNumber ({ frames := 2, cells := 0, slots := 0, locals := 40 }) (some .boolean) 2 := C
  have hin : ∀ w ∈ wsX00, w ∈ wsX0_isHexNumber := fun _ h => List.mem_cons_of_mem _ (List.mem_append_right _ h)
  refine g_aload_n C dX0_isHexNumber_0 0 rfl ?_
  refine g_iload_n C dX0_isHexNumber_1 1 rfl ?_
  refine g_callVi (n := 1) C (c_X0_byteAt g a aT aX tr n fed tx ln fa T N i hN (by omega)) gX0_isHexNumber_X0_byteAt rfl rfl rfl rfl (by decide) (by decide) rfl (Nat.le_of_ble_eq_true rfl) dX0_isHexNumber_2 ?_
  refine g_bipush C dX0_isHexNumber_5 (v := 48) (by decide) ?_
  refine g_icmp_ne C dX0_isHexNumber_7 (tgt := 39) (by decide) (fun c1 => ?_) (fun c1 => ?_)
  · refine g_iconst C dX0_isHexNumber_39 (v := 0) (by decide) ?_
    exact g_zret C F (by decide) ((b01_f (fun h => c1 h.1)).symm) (rfl) dX0_isHexNumber_40
  · refine g_aload_n C dX0_isHexNumber_10 0 rfl ?_
    refine g_iload_n C dX0_isHexNumber_11 1 rfl ?_
    refine g_iconst C dX0_isHexNumber_12 (v := 1) (by decide) ?_
    refine g_iadd C dX0_isHexNumber_13 ?_
    refine g_top (nI_add i 1) ?_
    refine g_callVi (n := 1) C (c_X0_byteAt g a aT aX tr n fed tx ln fa T N (i + 1) hN (by omega)) gX0_isHexNumber_X0_byteAt rfl rfl rfl rfl (by decide) (by decide) rfl (Nat.le_of_ble_eq_true rfl) dX0_isHexNumber_14 ?_
    refine g_bipush C dX0_isHexNumber_17 (v := 120) (by decide) ?_
    refine g_icmp_ne C dX0_isHexNumber_19 (tgt := 39) (by decide) (fun c2 => ?_) (fun c2 => ?_)
    · refine g_iconst C dX0_isHexNumber_39 (v := 0) (by decide) ?_
      exact g_zret C F (by decide) ((b01_f (fun h => c2 h.2.1)).symm) (rfl) dX0_isHexNumber_40
    · refine g_aload_n C dX0_isHexNumber_22 0 rfl ?_
      refine g_iload_n C dX0_isHexNumber_23 1 rfl ?_
      refine g_iconst C dX0_isHexNumber_24 (v := 2) (by decide) ?_
      refine g_iadd C dX0_isHexNumber_25 ?_
      refine g_top (nI_add i 2) ?_
      refine g_callVi (n := 1) C (c_X0_byteAt g a aT aX tr n fed tx ln fa T N (i + 2) hN (by omega)) gX0_isHexNumber_X0_byteAt rfl rfl rfl rfl (by decide) (by decide) rfl (Nat.le_of_ble_eq_true rfl) dX0_isHexNumber_26 ?_
      refine g_callSi (n := 1) C (c_X0_hexDigit g (look tx N (i + 2))) gX0_isHexNumber_X0_hexDigit rfl rfl (by decide) (by decide) rfl (Nat.le_of_ble_eq_true rfl) dX0_isHexNumber_29 ?_
      refine g_if_lt C dX0_isHexNumber_32 (tgt := 39) (by decide) (fun c3 => ?_) (fun c3 => ?_)
      · refine g_iconst C dX0_isHexNumber_39 (v := 0) (by decide) ?_
        exact g_zret C F (by decide) ((b01_f (fun h => by have := k_lt (b := 0) (by decide) c3; have := h.2.2; omega)).symm) (rfl) dX0_isHexNumber_40
      · refine g_iconst C dX0_isHexNumber_35 (v := 1) (by decide) ?_
        refine g_goto C dX0_isHexNumber_36 (tgt := 40) (by decide) ?_
        exact g_zret C F (by decide) ((b01_t ⟨c1, c2, k_nlt (b := 0) (by decide) c3⟩).symm) (rfl) dX0_isHexNumber_40
set_option maxHeartbeats 4000000 in
set_option maxRecDepth 100000 in
theorem c_X0_pastHexNumber (g : Gl) (a : Nat → Nat) (aT aX : Nat) (tr : Nat → Int32) (n fed : Int32) (tx : Nat → Int32) (ln fa : Int32) (T : TK) (N c i : Nat) (hN : N ≤ 16000) (hi : i < N) (hT : T.2.2.2.2.2 = nI c) (hc : c < 16000) (hi2 : i + 2 ≤ N) : Ctr g yX0_pastHexNumber wsX0_pastHexNumber ({ frames := 2, cells := 0, slots := 0, locals := 40 }) [.ref (a 0), .int (nI i)] (tw g a aT aX tr n fed tx (nI N) ln fa T) (some (.int (tkR (tokHex (look tx N) N i) i))) (tw g a aT aX tr n fed tx (nI N) ln (tkF (tokHex (look tx N) N i) fa i) (tkT (tokHex (look tx N) N i) T c i ln)) 0 0 := by
  refine Ctr.start (cc := cX0_pastHexNumber) (maxL := 4) (ret := (some .int)) (by decide) rfl (Nat.le_of_ble_eq_true rfl) (lv0 := [(0, .ref (a 0)), (1, .int (nI i))]) rfl ?_
  intro X C F
  have C : Ok g X cX0_pastHexNumber RX0 wsX0_pastHexNumber ({ frames := 2, cells := 0, slots := 0, locals := 40 }) (some .int) 4 := C
  have hin : ∀ w ∈ wsX00, w ∈ wsX0_pastHexNumber := fun _ h => List.mem_cons_of_mem _ (List.mem_append_right _ h)
  have lk39 : Cond.fieldLink RX0 39 "TokenRows" "textSize" "I" ∈ wsX0_pastHexNumber := by decide +kernel
  obtain ⟨e, he⟩ : ∃ e, e = scan (pHex (look tx N)) N (i + 2) := ⟨_, rfl⟩
  have he1 : i + 2 ≤ e := by rw [he]; exact scan_ge _ _ _
  have he2 : e ≤ N := by rw [he]; exact scan_le (by omega)
  have hs : tokHex (look tx N) N i = if 8 < e - i - 2 then none else some (2, hval (look tx N) (i + 2) (e - (i + 2)), e) := by rw [he]; rfl
  have ex : G g X (0, 0) (tw g a aT aX tr n fed tx (nI N) ln fa T) 44 [(3, .int (nI e)), (2, .int (hval (look tx N) (i + 2) (e - (i + 2)))), (0, .ref (a 0)), (1, .int (nI i))] [] := by
    refine g_iload_n C dX0_pastHexNumber_44 0 rfl ?_
    refine g_iload_n C dX0_pastHexNumber_45 3 rfl ?_
    refine g_isub C dX0_pastHexNumber_46 ?_
    refine g_top (y := nI (e - i)) (nI_subI (b := i) (by omega)) ?_
    refine g_iconst C dX0_pastHexNumber_47 (v := 2) (by decide) ?_
    refine g_isub C dX0_pastHexNumber_48 ?_
    refine g_top (y := nI (e - i - 2)) (nI_subI (b := 2) (by omega)) ?_
    refine g_bipush C dX0_pastHexNumber_49 (v := 8) (by decide) ?_
    refine g_icmp_le C dX0_pastHexNumber_51 (tgt := 62) (by decide) (fun c1 => ?_) (fun c1 => ?_)
    · have hz : e - i - 2 ≤ 8 := (nI_leI (b := 8) (by omega) (by omega)).mp c1
      refine g_aload_n C dX0_pastHexNumber_62 2 rfl ?_
      refine g_iconst C dX0_pastHexNumber_63 (v := 2) (by decide) ?_
      refine g_iload_n C dX0_pastHexNumber_64 1 rfl ?_
      refine g_iload_n C dX0_pastHexNumber_65 3 rfl ?_
      refine g_iload_n C dX0_pastHexNumber_66 0 rfl ?_
      refine g_callVi (n := 4) C (c_X0_keep g a aT aX tr n fed tx (nI N) ln fa T c hT hc 2 (hval (look tx N) (i + 2) (e - (i + 2))) (nI i) (nI e)) gX0_pastHexNumber_X0_keep rfl rfl rfl rfl (by decide) (by decide) rfl (Nat.le_of_ble_eq_true rfl) dX0_pastHexNumber_67 ?_
      exact g_iret C F (by rw [hs, if_neg (by omega)]; rfl) (by rw [hs, if_neg (by omega)]; rfl) dX0_pastHexNumber_70
    · have hz : 8 < e - i - 2 := Nat.not_le.mp (fun z => c1 (nI_le (b := 8) z (by omega)))
      refine g_aload_n C dX0_pastHexNumber_54 2 rfl ?_
      refine g_iload_n C dX0_pastHexNumber_55 3 rfl ?_
      refine g_callVi (n := 1) C (c_X0_fail g a aT aX tr n fed tx (nI N) ln fa T (nI i)) gX0_pastHexNumber_X0_fail rfl rfl rfl rfl (by decide) (by decide) rfl (Nat.le_of_ble_eq_true rfl) dX0_pastHexNumber_56 ?_
      refine g_goto C dX0_pastHexNumber_59 (tgt := 70) (by decide) ?_
      exact g_iret C F (by rw [hs, if_pos hz]; rfl) (by rw [hs, if_pos hz]; rfl) dX0_pastHexNumber_70
  have loop : ∀ (k j : Nat), i + 2 ≤ j → j ≤ N → N + 1 ≤ j + k → scan (pHex (look tx N)) N j = e → G g X (0, 0) (tw g a aT aX tr n fed tx (nI N) ln fa T) 6 [(3, .int (nI j)), (2, .int (hval (look tx N) (i + 2) (j - (i + 2)))), (0, .ref (a 0)), (1, .int (nI i))] [] := by
    intro k
    induction k with
    | zero => intro j h0 h1 h2 h3; omega
    | succ k ih =>
      intro j h0 h1 h2 h3
      refine g_iload_n C dX0_pastHexNumber_6 0 rfl ?_
      refine g_aload_n C dX0_pastHexNumber_7 2 rfl ?_
      refine g_get0 C hin 0 rfl 4 (by decide) lk39 rfl dX0_pastHexNumber_8 ?_
      refine g_icmp_ge C dX0_pastHexNumber_11 (tgt := 44) (by decide) (fun c2 => ?_) (fun c2 => ?_)
      · have hj := (nI_leI (by omega) (by omega)).mp c2
        rw [scan_end hj] at h3
        subst h3
        exact ex
      · have hj : j < N := Nat.not_le.mp (fun z => c2 (nI_le z (by omega)))
        refine g_aload_n C dX0_pastHexNumber_14 2 rfl ?_
        refine g_iload_n C dX0_pastHexNumber_15 0 rfl ?_
        refine g_callVi (n := 1) C (c_X0_byteAt g a aT aX tr n fed tx ln fa T N j hN (by omega)) gX0_pastHexNumber_X0_byteAt rfl rfl rfl rfl (by decide) (by decide) rfl (Nat.le_of_ble_eq_true rfl) dX0_pastHexNumber_16 ?_
        refine g_callSi (n := 1) C (c_X0_hexDigit g (look tx N j)) gX0_pastHexNumber_X0_hexDigit rfl rfl (by decide) (by decide) rfl (Nat.le_of_ble_eq_true rfl) dX0_pastHexNumber_19 ?_
        refine g_if_lt C dX0_pastHexNumber_22 (tgt := 44) (by decide) (fun c3 => ?_) (fun c3 => ?_)
        · have hq := k_lt (b := 0) (by decide) c3
          rw [scan_stop (show pHex (look tx N) j = false from decide_eq_false (by omega))] at h3
          subst h3
          exact ex
        · have hq := k_nlt (b := 0) (by decide) c3
          rw [scan_step hj (show pHex (look tx N) j = true from decide_eq_true hq)] at h3
          refine g_iload_n C dX0_pastHexNumber_25 1 rfl ?_
          refine g_iconst C dX0_pastHexNumber_26 (v := 4) (by decide) ?_
          refine g_ishl C dX0_pastHexNumber_27 ?_
          refine g_aload_n C dX0_pastHexNumber_28 2 rfl ?_
          refine g_iload_n C dX0_pastHexNumber_29 0 rfl ?_
          refine g_callVi (n := 1) C (c_X0_byteAt g a aT aX tr n fed tx ln fa T N j hN (by omega)) gX0_pastHexNumber_X0_byteAt rfl rfl rfl rfl (by decide) (by decide) rfl (Nat.le_of_ble_eq_true rfl) dX0_pastHexNumber_30 ?_
          refine g_callSi (n := 1) C (c_X0_hexDigit g (look tx N j)) gX0_pastHexNumber_X0_hexDigit rfl rfl (by decide) (by decide) rfl (Nat.le_of_ble_eq_true rfl) dX0_pastHexNumber_33 ?_
          refine g_ior C dX0_pastHexNumber_36 ?_
          refine g_top (y := hval (look tx N) (i + 2) (j + 1 - (i + 2))) (by rw [show j + 1 - (i + 2) = (j - (i + 2)) + 1 by omega, hval, show i + 2 + (j - (i + 2)) = j by omega]) ?_
          refine g_istore_n (lv' := [(2, .int (hval (look tx N) (i + 2) (j + 1 - (i + 2)))), (3, .int (nI j)), (0, .ref (a 0)), (1, .int (nI i))]) C dX0_pastHexNumber_37 (by decide) rfl ?_
          refine g_iinc (o := 1) (v := nI (j + 1)) (lv' := [(3, .int (nI (j + 1))), (2, .int (hval (look tx N) (i + 2) (j + 1 - (i + 2)))), (0, .ref (a 0)), (1, .int (nI i))]) C dX0_pastHexNumber_38 rfl (nI_add j 1) (by decide) rfl ?_
          refine g_goto C dX0_pastHexNumber_41 (tgt := 6) (by decide) ?_
          exact ih (j + 1) (by omega) (by omega) (by omega) h3
  refine g_iconst C dX0_pastHexNumber_0 (v := 0) (by decide) ?_
  refine g_istore_n (lv' := [(2, .int 0), (0, .ref (a 0)), (1, .int (nI i))]) C dX0_pastHexNumber_1 (by decide) rfl ?_
  refine g_iload_n C dX0_pastHexNumber_2 2 rfl ?_
  refine g_iconst C dX0_pastHexNumber_3 (v := 2) (by decide) ?_
  refine g_iadd C dX0_pastHexNumber_4 ?_
  refine g_top (nI_add i 2) ?_
  refine g_istore_n (lv' := [(3, .int (nI (i + 2))), (2, .int 0), (0, .ref (a 0)), (1, .int (nI i))]) C dX0_pastHexNumber_5 (by decide) rfl ?_
  refine g_lv (lv' := [(3, .int (nI (i + 2))), (2, .int (hval (look tx N) (i + 2) (i + 2 - (i + 2)))), (0, .ref (a 0)), (1, .int (nI i))]) (by rw [Nat.sub_self]; rfl) ?_
  exact loop (N + 1) (i + 2) (by omega) (by omega) (by omega) he.symm
set_option maxHeartbeats 4000000 in
set_option maxRecDepth 100000 in
theorem c_X0_pastQuotedCode (g : Gl) (a : Nat → Nat) (aT aX : Nat) (tr : Nat → Int32) (n fed : Int32) (tx : Nat → Int32) (ln fa : Int32) (T : TK) (N c i : Nat) (hN : N ≤ 16000) (hi : i < N) (hT : T.2.2.2.2.2 = nI c) (hc : c < 16000) : Ctr g yX0_pastQuotedCode wsX0_pastQuotedCode ({ frames := 2, cells := 0, slots := 0, locals := 44 }) [.ref (a 0), .int (nI i)] (tw g a aT aX tr n fed tx (nI N) ln fa T) (some (.int (tkR (tokQuo (look tx N) i) i))) (tw g a aT aX tr n fed tx (nI N) ln (tkF (tokQuo (look tx N) i) fa i) (tkT (tokQuo (look tx N) i) T c i ln)) 0 0 := by
  refine Ctr.start (cc := cX0_pastQuotedCode) (maxL := 4) (ret := (some .int)) (by decide) rfl (Nat.le_of_ble_eq_true rfl) (lv0 := [(0, .ref (a 0)), (1, .int (nI i))]) rfl ?_
  intro X C F
  have C : Ok g X cX0_pastQuotedCode RX0 wsX0_pastQuotedCode ({ frames := 2, cells := 0, slots := 0, locals := 44 }) (some .int) 4 := C
  have hin : ∀ w ∈ wsX00, w ∈ wsX0_pastQuotedCode := fun _ h => List.mem_cons_of_mem _ (List.mem_append_right _ h)
  obtain ⟨w, hw⟩ : ∃ w, w = cwd (look tx N) (i + 1) 39 := ⟨_, rfl⟩
  have hw2 : w ≤ 2 := by rw [hw]; exact cwd_le _ _ _
  have hs : tokQuo (look tx N) i = if w = 0 then none else if look tx N (i + 1 + w) = 39 then some (2, cat (look tx N) (i + 1), i + 1 + w + 1) else none := by rw [hw]; rfl
  refine g_aload_n C dX0_pastQuotedCode_0 0 rfl ?_
  refine g_iload_n C dX0_pastQuotedCode_1 1 rfl ?_
  refine g_iconst C dX0_pastQuotedCode_2 (v := 1) (by decide) ?_
  refine g_iadd C dX0_pastQuotedCode_3 ?_
  refine g_top (nI_add i 1) ?_
  refine g_bipush C dX0_pastQuotedCode_4 (v := 39) (by decide) ?_
  refine g_callVi (n := 2) C (c_X0_codeWidth g a aT aX tr n fed tx ln fa T N (i + 1) hN (by omega) 39) gX0_pastQuotedCode_X0_codeWidth rfl rfl rfl rfl (by decide) (by decide) rfl (Nat.le_of_ble_eq_true rfl) dX0_pastQuotedCode_6 ?_
  refine g_top (y := nI w) (by rw [hw]) ?_
  refine g_istore_n (lv' := [(2, .int (nI w)), (0, .ref (a 0)), (1, .int (nI i))]) C dX0_pastQuotedCode_9 (by decide) rfl ?_
  refine g_iload_n C dX0_pastQuotedCode_10 2 rfl ?_
  refine g_iconst C dX0_pastQuotedCode_11 (v := 1) (by decide) ?_
  refine g_iadd C dX0_pastQuotedCode_12 ?_
  refine g_top (nI_add i 1) ?_
  refine g_iload_n C dX0_pastQuotedCode_13 0 rfl ?_
  refine g_iadd C dX0_pastQuotedCode_14 ?_
  refine g_top (nI_add (i + 1) w) ?_
  refine g_istore_n (lv' := [(3, .int (nI (i + 1 + w))), (2, .int (nI w)), (0, .ref (a 0)), (1, .int (nI i))]) C dX0_pastQuotedCode_15 (by decide) rfl ?_
  refine g_iload_n C dX0_pastQuotedCode_16 1 rfl ?_
  refine g_if_eq C dX0_pastQuotedCode_17 (tgt := 30) (by decide) (fun c1 => ?_) (fun c1 => ?_)
  · have hz : w = 0 := (nI_eq (b := 0) (by omega) (by omega)).mp c1
    refine g_aload_n C dX0_pastQuotedCode_30 2 rfl ?_
    refine g_iload_n C dX0_pastQuotedCode_31 3 rfl ?_
    refine g_callVi (n := 1) C (c_X0_fail g a aT aX tr n fed tx (nI N) ln fa T (nI i)) gX0_pastQuotedCode_X0_fail rfl rfl rfl rfl (by decide) (by decide) rfl (Nat.le_of_ble_eq_true rfl) dX0_pastQuotedCode_32 ?_
    exact g_iret C F (by rw [hs, if_pos hz]; rfl) (by rw [hs, if_pos hz]; rfl) dX0_pastQuotedCode_35
  · have hz : ¬ w = 0 := fun z => c1 (by rw [z]; rfl)
    refine g_aload_n C dX0_pastQuotedCode_20 2 rfl ?_
    refine g_iload_n C dX0_pastQuotedCode_21 0 rfl ?_
    refine g_callVi (n := 1) C (c_X0_byteAt g a aT aX tr n fed tx ln fa T N (i + 1 + w) hN (by omega)) gX0_pastQuotedCode_X0_byteAt rfl rfl rfl rfl (by decide) (by decide) rfl (Nat.le_of_ble_eq_true rfl) dX0_pastQuotedCode_22 ?_
    refine g_bipush C dX0_pastQuotedCode_25 (v := 39) (by decide) ?_
    refine g_icmp_eq C dX0_pastQuotedCode_27 (tgt := 36) (by decide) (fun c2 => ?_) (fun c2 => ?_)
    · refine g_aload_n C dX0_pastQuotedCode_36 2 rfl ?_
      refine g_iconst C dX0_pastQuotedCode_37 (v := 2) (by decide) ?_
      refine g_aload_n C dX0_pastQuotedCode_38 2 rfl ?_
      refine g_iload_n C dX0_pastQuotedCode_39 3 rfl ?_
      refine g_iconst C dX0_pastQuotedCode_40 (v := 1) (by decide) ?_
      refine g_iadd C dX0_pastQuotedCode_41 ?_
      refine g_top (nI_add i 1) ?_
      refine g_callVi (n := 1) C (c_X0_codeAt g a aT aX tr n fed tx ln fa T N (i + 1) hN (by omega)) gX0_pastQuotedCode_X0_codeAt rfl rfl rfl rfl (by decide) (by decide) rfl (Nat.le_of_ble_eq_true rfl) dX0_pastQuotedCode_42 ?_
      refine g_iload_n C dX0_pastQuotedCode_45 3 rfl ?_
      refine g_iload_n C dX0_pastQuotedCode_46 0 rfl ?_
      refine g_iconst C dX0_pastQuotedCode_47 (v := 1) (by decide) ?_
      refine g_iadd C dX0_pastQuotedCode_48 ?_
      refine g_top (nI_add (i + 1 + w) 1) ?_
      refine g_callVi (n := 4) C (c_X0_keep g a aT aX tr n fed tx (nI N) ln fa T c hT hc 2 (cat (look tx N) (i + 1)) (nI i) (nI (i + 1 + w + 1))) gX0_pastQuotedCode_X0_keep rfl rfl rfl rfl (by decide) (by decide) rfl (Nat.le_of_ble_eq_true rfl) dX0_pastQuotedCode_49 ?_
      exact g_iret C F (by rw [hs, if_neg hz, if_pos c2]; rfl) (by rw [hs, if_neg hz, if_pos c2]; rfl) dX0_pastQuotedCode_52
    · refine g_aload_n C dX0_pastQuotedCode_30 2 rfl ?_
      refine g_iload_n C dX0_pastQuotedCode_31 3 rfl ?_
      refine g_callVi (n := 1) C (c_X0_fail g a aT aX tr n fed tx (nI N) ln fa T (nI i)) gX0_pastQuotedCode_X0_fail rfl rfl rfl rfl (by decide) (by decide) rfl (Nat.le_of_ble_eq_true rfl) dX0_pastQuotedCode_32 ?_
      exact g_iret C F (by rw [hs, if_neg hz, if_neg c2]; rfl) (by rw [hs, if_neg hz, if_neg c2]; rfl) dX0_pastQuotedCode_35
set_option maxHeartbeats 4000000 in
set_option maxRecDepth 100000 in
theorem c_X0_pastString (g : Gl) (a : Nat → Nat) (aT aX : Nat) (tr : Nat → Int32) (n fed : Int32) (tx : Nat → Int32) (ln fa : Int32) (T : TK) (N c i : Nat) (hN : N ≤ 16000) (hi : i < N) (hT : T.2.2.2.2.2 = nI c) (hc : c < 16000) : Ctr g yX0_pastString wsX0_pastString ({ frames := 2, cells := 0, slots := 0, locals := 44 }) [.ref (a 0), .int (nI i)] (tw g a aT aX tr n fed tx (nI N) ln fa T) (some (.int (tkR (tokStr (look tx N) i) i))) (tw g a aT aX tr n fed tx (nI N) ln (tkF (tokStr (look tx N) i) fa i) (tkT (tokStr (look tx N) i) T c i ln)) 0 0 := by
  refine Ctr.start (cc := cX0_pastString) (maxL := 5) (ret := (some .int)) (by decide) rfl (Nat.le_of_ble_eq_true rfl) (lv0 := [(0, .ref (a 0)), (1, .int (nI i))]) rfl ?_
  intro X C F
  have C : Ok g X cX0_pastString RX0 wsX0_pastString ({ frames := 2, cells := 0, slots := 0, locals := 44 }) (some .int) 5 := C
  have hin : ∀ w ∈ wsX00, w ∈ wsX0_pastString := fun _ h => List.mem_cons_of_mem _ (List.mem_append_right _ h)
  obtain ⟨o, ho⟩ : ∃ o, o = tokStr (look tx N) i := ⟨_, rfl⟩
  rw [← ho] at F
  have loop : ∀ (f k p : Nat), k + f = 201 → p ≤ i + 1 + 2 * k → sgo (look tx N) f k p = o → G g X (0, 0) (tw g a aT aX tr n fed tx (nI N) ln fa T) 6 [(3, .int (nI k)), (2, .int (nI p)), (0, .ref (a 0)), (1, .int (nI i))] [] := by
    intro f
    induction f with
    | zero =>
      intro k p h1 h2 h3
      have hk : k = 201 := by omega
      subst hk
      have h3 : none = o := h3
      refine g_iload_n C dX0_pastString_6 0 rfl ?_
      refine g_sipush C dX0_pastString_7 (v := 200) (by decide) ?_
      refine g_icmp_gt C dX0_pastString_10 (tgt := 65) (by decide) (fun c1 => ?_) (fun c1 => ?_)
      · refine g_aload_n C dX0_pastString_65 2 rfl ?_
        refine g_iload_n C dX0_pastString_66 3 rfl ?_
        refine g_callVi (n := 1) C (c_X0_fail g a aT aX tr n fed tx (nI N) ln fa T (nI i)) gX0_pastString_X0_fail rfl rfl rfl rfl (by decide) (by decide) rfl (Nat.le_of_ble_eq_true rfl) dX0_pastString_67 ?_
        exact g_iret C F (by rw [← h3]; rfl) (by rw [← h3]; rfl) dX0_pastString_70
      · exact absurd (show (200 : Int32) < nI 201 by decide) c1
    | succ f ih =>
      intro k p h1 h2 h3
      refine g_iload_n C dX0_pastString_6 0 rfl ?_
      refine g_sipush C dX0_pastString_7 (v := 200) (by decide) ?_
      refine g_icmp_gt C dX0_pastString_10 (tgt := 65) (by decide) (fun c2 => ?_) (fun c2 => ?_)
      · exact absurd c2 (nI_nlt (a := 200) (b := k) (by omega) (by omega))
      · refine g_aload_n C dX0_pastString_13 2 rfl ?_
        refine g_iload_n C dX0_pastString_14 1 rfl ?_
        refine g_callVi (n := 1) C (c_X0_byteAt g a aT aX tr n fed tx ln fa T N p hN (by omega)) gX0_pastString_X0_byteAt rfl rfl rfl rfl (by decide) (by decide) rfl (Nat.le_of_ble_eq_true rfl) dX0_pastString_15 ?_
        refine g_bipush C dX0_pastString_18 (v := 34) (by decide) ?_
        refine g_icmp_ne C dX0_pastString_20 (tgt := 34) (by decide) (fun c3 => ?_) (fun c3 => ?_)
        · obtain ⟨w, hw⟩ : ∃ w, w = cwd (look tx N) p 34 := ⟨_, rfl⟩
          have hw2 : w ≤ 2 := by rw [hw]; exact cwd_le _ _ _
          rw [sgo, if_neg c3, ← hw] at h3
          refine g_aload_n C dX0_pastString_34 2 rfl ?_
          refine g_iload_n C dX0_pastString_35 1 rfl ?_
          refine g_bipush C dX0_pastString_36 (v := 34) (by decide) ?_
          refine g_callVi (n := 2) C (c_X0_codeWidth g a aT aX tr n fed tx ln fa T N p hN (by omega) 34) gX0_pastString_X0_codeWidth rfl rfl rfl rfl (by decide) (by decide) rfl (Nat.le_of_ble_eq_true rfl) dX0_pastString_38 ?_
          refine g_top (y := nI w) (by rw [hw]) ?_
          refine g_istore (lv' := [(4, .int (nI w)), (3, .int (nI k)), (2, .int (nI p)), (0, .ref (a 0)), (1, .int (nI i))]) C dX0_pastString_41 (by decide) rfl ?_
          refine g_iload C dX0_pastString_43 0 rfl ?_
          refine g_if_ne C dX0_pastString_45 (tgt := 54) (by decide) (fun c4 => ?_) (fun c4 => ?_)
          · rw [if_neg (fun z => c4 (by rw [z]; rfl))] at h3
            refine g_iload_n C dX0_pastString_54 2 rfl ?_
            refine g_iload C dX0_pastString_55 0 rfl ?_
            refine g_iadd C dX0_pastString_57 ?_
            refine g_top (nI_add p w) ?_
            refine g_istore_n (lv' := [(2, .int (nI (p + w))), (4, .int (nI w)), (3, .int (nI k)), (0, .ref (a 0)), (1, .int (nI i))]) C dX0_pastString_58 (by decide) rfl ?_
            refine g_iinc (o := 2) (v := nI (k + 1)) (lv' := [(3, .int (nI (k + 1))), (2, .int (nI (p + w))), (4, .int (nI w)), (0, .ref (a 0)), (1, .int (nI i))]) C dX0_pastString_59 rfl (nI_add k 1) (by decide) rfl ?_
            refine g_goto C dX0_pastString_62 (tgt := 6) (by decide) ?_
            refine g_sub [0, 1, 3, 4] rfl ?_
            exact ih (k + 1) (p + w) (by omega) (by omega) h3
          · have hz : w = 0 := (nI_eq (b := 0) (by omega) (by omega)).mp c4
            rw [if_pos hz] at h3
            refine g_aload_n C dX0_pastString_48 3 rfl ?_
            refine g_iload_n C dX0_pastString_49 4 rfl ?_
            refine g_callVi (n := 1) C (c_X0_fail g a aT aX tr n fed tx (nI N) ln fa T (nI i)) gX0_pastString_X0_fail rfl rfl rfl rfl (by decide) (by decide) rfl (Nat.le_of_ble_eq_true rfl) dX0_pastString_50 ?_
            exact g_iret C F (by rw [← h3]; rfl) (by rw [← h3]; rfl) dX0_pastString_53
        · rw [sgo, if_pos c3] at h3
          refine g_aload_n C dX0_pastString_23 2 rfl ?_
          refine g_iconst C dX0_pastString_24 (v := 3) (by decide) ?_
          refine g_iload_n C dX0_pastString_25 0 rfl ?_
          refine g_iload_n C dX0_pastString_26 3 rfl ?_
          refine g_iload_n C dX0_pastString_27 1 rfl ?_
          refine g_iconst C dX0_pastString_28 (v := 1) (by decide) ?_
          refine g_iadd C dX0_pastString_29 ?_
          refine g_top (nI_add p 1) ?_
          refine g_callVi (n := 4) C (c_X0_keep g a aT aX tr n fed tx (nI N) ln fa T c hT hc 3 (nI k) (nI i) (nI (p + 1))) gX0_pastString_X0_keep rfl rfl rfl rfl (by decide) (by decide) rfl (Nat.le_of_ble_eq_true rfl) dX0_pastString_30 ?_
          exact g_iret C F (by rw [← h3]; rfl) (by rw [← h3]; rfl) dX0_pastString_33
  refine g_iload_n C dX0_pastString_0 1 rfl ?_
  refine g_iconst C dX0_pastString_1 (v := 1) (by decide) ?_
  refine g_iadd C dX0_pastString_2 ?_
  refine g_top (nI_add i 1) ?_
  refine g_istore_n (lv' := [(2, .int (nI (i + 1))), (0, .ref (a 0)), (1, .int (nI i))]) C dX0_pastString_3 (by decide) rfl ?_
  refine g_iconst C dX0_pastString_4 (v := 0) (by decide) ?_
  refine g_istore_n (lv' := [(3, .int 0), (2, .int (nI (i + 1))), (0, .ref (a 0)), (1, .int (nI i))]) C dX0_pastString_5 (by decide) rfl ?_
  exact loop 201 0 (i + 1) (by omega) (by omega) ho.symm
set_option maxHeartbeats 4000000 in
set_option maxRecDepth 100000 in
theorem c_X0_pastSign (g : Gl) (a : Nat → Nat) (aT aX : Nat) (tr : Nat → Int32) (n fed : Int32) (tx : Nat → Int32) (ln fa : Int32) (T : TK) (N c i : Nat) (hN : N ≤ 16000) (hi : i < N) (hT : T.2.2.2.2.2 = nI c) (hc : c < 16000) : Ctr g yX0_pastSign wsX0_pastSign ({ frames := 2, cells := 0, slots := 0, locals := 41 }) [.ref (a 0), .int (nI i)] (tw g a aT aX tr n fed tx (nI N) ln fa T) (some (.int (tkR (tokSgn (look tx N) i) i))) (tw g a aT aX tr n fed tx (nI N) ln (tkF (tokSgn (look tx N) i) fa i) (tkT (tokSgn (look tx N) i) T c i ln)) 0 0 := by
  refine Ctr.start (cc := cX0_pastSign) (maxL := 7) (ret := (some .int)) (by decide) rfl (Nat.le_of_ble_eq_true rfl) (lv0 := [(0, .ref (a 0)), (1, .int (nI i))]) rfl ?_
  intro X C F
  have C : Ok g X cX0_pastSign RX0 wsX0_pastSign ({ frames := 2, cells := 0, slots := 0, locals := 41 }) (some .int) 7 := C
  have hin : ∀ w ∈ wsX00, w ∈ wsX0_pastSign := fun _ h => List.mem_cons_of_mem _ (List.mem_append_right _ h)
  refine g_aload_n C dX0_pastSign_0 0 rfl ?_
  refine g_iload_n C dX0_pastSign_1 1 rfl ?_
  refine g_callVi (n := 1) C (c_X0_byteAt g a aT aX tr n fed tx ln fa T N i hN (by omega)) gX0_pastSign_X0_byteAt rfl rfl rfl rfl (by decide) (by decide) rfl (Nat.le_of_ble_eq_true rfl) dX0_pastSign_2 ?_
  refine g_istore_n (lv' := [(2, .int (look tx N i)), (0, .ref (a 0)), (1, .int (nI i))]) C dX0_pastSign_5 (by decide) rfl ?_
  refine g_aload_n C dX0_pastSign_6 1 rfl ?_
  refine g_iload_n C dX0_pastSign_7 2 rfl ?_
  refine g_iconst C dX0_pastSign_8 (v := 1) (by decide) ?_
  refine g_iadd C dX0_pastSign_9 ?_
  refine g_top (nI_add i 1) ?_
  refine g_callVi (n := 1) C (c_X0_byteAt g a aT aX tr n fed tx ln fa T N (i + 1) hN (by omega)) gX0_pastSign_X0_byteAt rfl rfl rfl rfl (by decide) (by decide) rfl (Nat.le_of_ble_eq_true rfl) dX0_pastSign_10 ?_
  refine g_istore_n (lv' := [(3, .int (look tx N (i + 1))), (2, .int (look tx N i)), (0, .ref (a 0)), (1, .int (nI i))]) C dX0_pastSign_13 (by decide) rfl ?_
  refine g_iload_n C dX0_pastSign_14 1 rfl ?_
  refine g_iload_n C dX0_pastSign_15 0 rfl ?_
  refine g_aload_n C dX0_pastSign_16 2 rfl ?_
  refine g_iload_n C dX0_pastSign_17 3 rfl ?_
  refine g_iconst C dX0_pastSign_18 (v := 2) (by decide) ?_
  refine g_iadd C dX0_pastSign_19 ?_
  refine g_top (nI_add i 2) ?_
  refine g_callVi (n := 1) C (c_X0_byteAt g a aT aX tr n fed tx ln fa T N (i + 2) hN (by omega)) gX0_pastSign_X0_byteAt rfl rfl rfl rfl (by decide) (by decide) rfl (Nat.le_of_ble_eq_true rfl) dX0_pastSign_20 ?_
  refine g_callSi (n := 3) C (c_X0_signOfThree g (look tx N i) (look tx N (i + 1)) (look tx N (i + 2))) gX0_pastSign_X0_signOfThree rfl rfl (by decide) (by decide) rfl (Nat.le_of_ble_eq_true rfl) dX0_pastSign_23 ?_
  refine g_istore (lv' := [(4, .int (sg3 (look tx N i) (look tx N (i + 1)) (look tx N (i + 2)))), (3, .int (look tx N (i + 1))), (2, .int (look tx N i)), (0, .ref (a 0)), (1, .int (nI i))]) C dX0_pastSign_26 (by decide) rfl ?_
  refine g_iload C dX0_pastSign_28 0 rfl ?_
  refine g_if_lt C dX0_pastSign_30 (tgt := 45) (by decide) (fun c1 => ?_) (fun c1 => ?_)
  · refine g_iload_n C dX0_pastSign_45 2 rfl ?_
    refine g_iload_n C dX0_pastSign_46 1 rfl ?_
    refine g_callSi (n := 2) C (c_X0_signOfTwo g (look tx N i) (look tx N (i + 1))) gX0_pastSign_X0_signOfTwo rfl rfl (by decide) (by decide) rfl (Nat.le_of_ble_eq_true rfl) dX0_pastSign_47 ?_
    refine g_istore (lv' := [(5, .int (sg2 (look tx N i) (look tx N (i + 1)))), (4, .int (sg3 (look tx N i) (look tx N (i + 1)) (look tx N (i + 2)))), (3, .int (look tx N (i + 1))), (2, .int (look tx N i)), (0, .ref (a 0)), (1, .int (nI i))]) C dX0_pastSign_50 (by decide) rfl ?_
    refine g_iload C dX0_pastSign_52 0 rfl ?_
    refine g_if_lt C dX0_pastSign_54 (tgt := 69) (by decide) (fun c2 => ?_) (fun c2 => ?_)
    · refine g_iload_n C dX0_pastSign_69 3 rfl ?_
      refine g_callSi (n := 1) C (c_X0_signOfOne g (look tx N i)) gX0_pastSign_X0_signOfOne rfl rfl (by decide) (by decide) rfl (Nat.le_of_ble_eq_true rfl) dX0_pastSign_70 ?_
      refine g_istore (lv' := [(6, .int (sg1 (look tx N i))), (5, .int (sg2 (look tx N i) (look tx N (i + 1)))), (4, .int (sg3 (look tx N i) (look tx N (i + 1)) (look tx N (i + 2)))), (3, .int (look tx N (i + 1))), (2, .int (look tx N i)), (0, .ref (a 0)), (1, .int (nI i))]) C dX0_pastSign_73 (by decide) rfl ?_
      refine g_iload C dX0_pastSign_75 0 rfl ?_
      refine g_if_lt C dX0_pastSign_77 (tgt := 94) (by decide) (fun c3 => ?_) (fun c3 => ?_)
      · refine g_aload_n C dX0_pastSign_94 5 rfl ?_
        refine g_iload_n C dX0_pastSign_95 6 rfl ?_
        refine g_callVi (n := 1) C (c_X0_fail g a aT aX tr n fed tx (nI N) ln fa T (nI i)) gX0_pastSign_X0_fail rfl rfl rfl rfl (by decide) (by decide) rfl (Nat.le_of_ble_eq_true rfl) dX0_pastSign_96 ?_
        have c1 := k_lt (b := 0) (by decide) c1
        have c2 := k_lt (b := 0) (by decide) c2
        have c3 := k_lt (b := 0) (by decide) c3
        exact g_iret C F (by unfold tokSgn; rw [if_neg (by omega), if_neg (by omega), if_neg (by omega)]; rfl) (by unfold tokSgn; rw [if_neg (by omega), if_neg (by omega), if_neg (by omega)]; rfl) dX0_pastSign_99
      · refine g_aload_n C dX0_pastSign_80 5 rfl ?_
        refine g_iconst C dX0_pastSign_81 (v := 5) (by decide) ?_
        refine g_iload C dX0_pastSign_82 0 rfl ?_
        refine g_iload_n C dX0_pastSign_84 6 rfl ?_
        refine g_iload_n C dX0_pastSign_85 6 rfl ?_
        refine g_iconst C dX0_pastSign_86 (v := 1) (by decide) ?_
        refine g_iadd C dX0_pastSign_87 ?_
        refine g_top (nI_add i 1) ?_
        refine g_callVi (n := 4) C (c_X0_keep g a aT aX tr n fed tx (nI N) ln fa T c hT hc 5 (sg1 (look tx N i)) (nI i) (nI (i + 1))) gX0_pastSign_X0_keep rfl rfl rfl rfl (by decide) (by decide) rfl (Nat.le_of_ble_eq_true rfl) dX0_pastSign_88 ?_
        refine g_goto C dX0_pastSign_91 (tgt := 99) (by decide) ?_
        have c1 := k_lt (b := 0) (by decide) c1
        have c2 := k_lt (b := 0) (by decide) c2
        have c3 := k_nlt (b := 0) (by decide) c3
        exact g_iret C F (by unfold tokSgn; rw [if_neg (by omega), if_neg (by omega), if_pos (by omega)]; rfl) (by unfold tokSgn; rw [if_neg (by omega), if_neg (by omega), if_pos (by omega)]; rfl) dX0_pastSign_99
    · refine g_aload_n C dX0_pastSign_57 4 rfl ?_
      refine g_iconst C dX0_pastSign_58 (v := 5) (by decide) ?_
      refine g_iload C dX0_pastSign_59 0 rfl ?_
      refine g_iload_n C dX0_pastSign_61 5 rfl ?_
      refine g_iload_n C dX0_pastSign_62 5 rfl ?_
      refine g_iconst C dX0_pastSign_63 (v := 2) (by decide) ?_
      refine g_iadd C dX0_pastSign_64 ?_
      refine g_top (nI_add i 2) ?_
      refine g_callVi (n := 4) C (c_X0_keep g a aT aX tr n fed tx (nI N) ln fa T c hT hc 5 (sg2 (look tx N i) (look tx N (i + 1))) (nI i) (nI (i + 2))) gX0_pastSign_X0_keep rfl rfl rfl rfl (by decide) (by decide) rfl (Nat.le_of_ble_eq_true rfl) dX0_pastSign_65 ?_
      have c1 := k_lt (b := 0) (by decide) c1
      have c2 := k_nlt (b := 0) (by decide) c2
      exact g_iret C F (by unfold tokSgn; rw [if_neg (by omega), if_pos (by omega)]; rfl) (by unfold tokSgn; rw [if_neg (by omega), if_pos (by omega)]; rfl) dX0_pastSign_68
  · refine g_aload_n C dX0_pastSign_33 3 rfl ?_
    refine g_iconst C dX0_pastSign_34 (v := 5) (by decide) ?_
    refine g_iload C dX0_pastSign_35 0 rfl ?_
    refine g_iload_n C dX0_pastSign_37 4 rfl ?_
    refine g_iload_n C dX0_pastSign_38 4 rfl ?_
    refine g_iconst C dX0_pastSign_39 (v := 3) (by decide) ?_
    refine g_iadd C dX0_pastSign_40 ?_
    refine g_top (nI_add i 3) ?_
    refine g_callVi (n := 4) C (c_X0_keep g a aT aX tr n fed tx (nI N) ln fa T c hT hc 5 (sg3 (look tx N i) (look tx N (i + 1)) (look tx N (i + 2))) (nI i) (nI (i + 3))) gX0_pastSign_X0_keep rfl rfl rfl rfl (by decide) (by decide) rfl (Nat.le_of_ble_eq_true rfl) dX0_pastSign_41 ?_
    have c1 := k_nlt (b := 0) (by decide) c1
    exact g_iret C F (by unfold tokSgn; rw [if_pos (by omega)]; rfl) (by unfold tokSgn; rw [if_pos (by omega)]; rfl) dX0_pastSign_44
set_option maxHeartbeats 4000000 in
set_option maxRecDepth 100000 in
theorem c_X0_pastLineComment (g : Gl) (a : Nat → Nat) (aT aX : Nat) (tr : Nat → Int32) (n fed : Int32) (tx : Nat → Int32) (ln fa : Int32) (T : TK) (N i : Nat) (hN : N ≤ 16000) (hi : i + 2 ≤ N) : Ctr g yX0_pastLineComment wsX0_pastLineComment ({ frames := 2, cells := 0, slots := 0, locals := 40 }) [.ref (a 0), .int (nI i)] (tw g a aT aX tr n fed tx (nI N) ln fa T) (some (.int (nI (scan (pLin (look tx N)) N (i + 2))))) (tw g a aT aX tr n fed tx (nI N) ln (if scan (pLin (look tx N)) N (i + 2) < N ∧ ¬ look tx N (scan (pLin (look tx N)) N (i + 2)) = 10 then nI (scan (pLin (look tx N)) N (i + 2)) else fa) T) 0 0 := by
  refine Ctr.start (cc := cX0_pastLineComment) (maxL := 4) (ret := (some .int)) (by decide) rfl (Nat.le_of_ble_eq_true rfl) (lv0 := [(0, .ref (a 0)), (1, .int (nI i))]) rfl ?_
  intro X C F
  have C : Ok g X cX0_pastLineComment RX0 wsX0_pastLineComment ({ frames := 2, cells := 0, slots := 0, locals := 40 }) (some .int) 4 := C
  have hin : ∀ w ∈ wsX00, w ∈ wsX0_pastLineComment := fun _ h => List.mem_cons_of_mem _ (List.mem_append_right _ h)
  have lk39 : Cond.fieldLink RX0 39 "TokenRows" "textSize" "I" ∈ wsX0_pastLineComment := by decide +kernel
  obtain ⟨e, he⟩ : ∃ e, e = scan (pLin (look tx N)) N (i + 2) := ⟨_, rfl⟩
  rw [← he] at F
  have loop : ∀ (k j : Nat), j ≤ N → N + 1 ≤ j + k → scan (pLin (look tx N)) N j = e → G g X (0, 0) (tw g a aT aX tr n fed tx (nI N) ln fa T) 4 [(2, .int (nI j)), (0, .ref (a 0)), (1, .int (nI i))] [] := by
    intro k
    induction k with
    | zero => intro j h1 h2 h3; omega
    | succ k ih =>
      intro j h1 h2 h3
      refine g_iload_n C dX0_pastLineComment_4 0 rfl ?_
      refine g_aload_n C dX0_pastLineComment_5 1 rfl ?_
      refine g_get0 C hin 0 rfl 4 (by decide) lk39 rfl dX0_pastLineComment_6 ?_
      refine g_icmp_ge C dX0_pastLineComment_9 (tgt := 45) (by decide) (fun c1 => ?_) (fun c1 => ?_)
      · have hj := (nI_leI (by omega) (by omega)).mp c1
        rw [scan_end hj] at h3
        subst h3
        have hj : j = N := by omega
        refine g_aload_n C dX0_pastLineComment_45 1 rfl ?_
        refine g_get0 C hin 0 rfl 4 (by decide) lk39 rfl dX0_pastLineComment_46 ?_
        exact g_iret C F (by rw [hj]) (by rw [if_neg (by omega)]) dX0_pastLineComment_49
      · have hj : j < N := Nat.not_le.mp (fun z => c1 (nI_le z (by omega)))
        refine g_aload_n C dX0_pastLineComment_12 1 rfl ?_
        refine g_iload_n C dX0_pastLineComment_13 0 rfl ?_
        refine g_callVi (n := 1) C (c_X0_byteAt g a aT aX tr n fed tx ln fa T N j hN (by omega)) gX0_pastLineComment_X0_byteAt rfl rfl rfl rfl (by decide) (by decide) rfl (Nat.le_of_ble_eq_true rfl) dX0_pastLineComment_14 ?_
        refine g_istore_n (lv' := [(3, .int (look tx N j)), (2, .int (nI j)), (0, .ref (a 0)), (1, .int (nI i))]) C dX0_pastLineComment_17 (by decide) rfl ?_
        refine g_iload_n C dX0_pastLineComment_18 0 rfl ?_
        refine g_bipush C dX0_pastLineComment_19 (v := 10) (by decide) ?_
        refine g_icmp_ne C dX0_pastLineComment_21 (tgt := 26) (by decide) (fun c2 => ?_) (fun c2 => ?_)
        · refine g_iload_n C dX0_pastLineComment_26 0 rfl ?_
          refine g_callSi (n := 1) C (c_X0_mayOccur g (look tx N j)) gX0_pastLineComment_X0_mayOccur rfl rfl (by decide) (by decide) rfl (Nat.le_of_ble_eq_true rfl) dX0_pastLineComment_27 ?_
          refine g_if_ne C dX0_pastLineComment_30 (tgt := 39) (by decide) (fun c3 => ?_) (fun c3 => ?_)
          · rw [scan_step hj (show pLin (look tx N) j = true by unfold pLin; rw [b01_1.mp c3, decide_eq_true c2]; rfl)] at h3
            refine g_iinc (o := 1) (v := nI (j + 1)) (lv' := [(2, .int (nI (j + 1))), (3, .int (look tx N j)), (0, .ref (a 0)), (1, .int (nI i))]) C dX0_pastLineComment_39 rfl (nI_add j 1) (by decide) rfl ?_
            refine g_goto C dX0_pastLineComment_42 (tgt := 4) (by decide) ?_
            refine g_sub [0, 2, 3] rfl ?_
            exact ih (j + 1) (by omega) (by omega) h3
          · rw [scan_stop (show pLin (look tx N) j = false by unfold pLin; rw [b01_0.mp c3, Bool.and_false])] at h3
            subst h3
            refine g_aload_n C dX0_pastLineComment_33 2 rfl ?_
            refine g_iload_n C dX0_pastLineComment_34 1 rfl ?_
            refine g_callVi (n := 1) C (c_X0_fail g a aT aX tr n fed tx (nI N) ln fa T (nI j)) gX0_pastLineComment_X0_fail rfl rfl rfl rfl (by decide) (by decide) rfl (Nat.le_of_ble_eq_true rfl) dX0_pastLineComment_35 ?_
            exact g_iret C F (rfl) (by rw [if_pos ⟨hj, c2⟩]) dX0_pastLineComment_38
        · rw [scan_stop (show pLin (look tx N) j = false by unfold pLin; rw [decide_eq_false (fun z => z c2)]; rfl)] at h3
          subst h3
          refine g_iload_n C dX0_pastLineComment_24 1 rfl ?_
          exact g_iret C F (rfl) (by rw [if_neg (fun z => z.2 c2)]) dX0_pastLineComment_25
  refine g_iload_n C dX0_pastLineComment_0 1 rfl ?_
  refine g_iconst C dX0_pastLineComment_1 (v := 2) (by decide) ?_
  refine g_iadd C dX0_pastLineComment_2 ?_
  refine g_top (nI_add i 2) ?_
  refine g_istore_n (lv' := [(2, .int (nI (i + 2))), (0, .ref (a 0)), (1, .int (nI i))]) C dX0_pastLineComment_3 (by decide) rfl ?_
  exact loop (N + 1) (i + 2) (by omega) (by omega) he.symm
set_option maxHeartbeats 4000000 in
set_option maxRecDepth 100000 in
theorem c_X0_pastStarComment (g : Gl) (a : Nat → Nat) (aT aX : Nat) (tr : Nat → Int32) (n fed : Int32) (tx : Nat → Int32) (ln fa : Int32) (T : TK) (N i : Nat) (hN : N ≤ 16000) (hi : i + 2 ≤ N) : Ctr g yX0_pastStarComment wsX0_pastStarComment ({ frames := 2, cells := 0, slots := 0, locals := 40 }) [.ref (a 0), .int (nI i)] (tw g a aT aX tr n fed tx (nI N) ln fa T) (some (.int (if (scan (pStar (look tx N)) N (i + 2)) < N then (if look tx N (scan (pStar (look tx N)) N (i + 2)) = 42 ∧ look tx N ((scan (pStar (look tx N)) N (i + 2)) + 1) = 47 then nI ((scan (pStar (look tx N)) N (i + 2)) + 2) else nI (scan (pStar (look tx N)) N (i + 2))) else nI i))) (tw g a aT aX tr n fed tx (nI N) (ln + nI (cnt (look tx N) (i + 2) ((scan (pStar (look tx N)) N (i + 2)) - (i + 2)))) (if (scan (pStar (look tx N)) N (i + 2)) < N then (if look tx N (scan (pStar (look tx N)) N (i + 2)) = 42 ∧ look tx N ((scan (pStar (look tx N)) N (i + 2)) + 1) = 47 then fa else nI (scan (pStar (look tx N)) N (i + 2))) else nI i) T) 0 0 := by
  refine Ctr.start (cc := cX0_pastStarComment) (maxL := 4) (ret := (some .int)) (by decide) rfl (Nat.le_of_ble_eq_true rfl) (lv0 := [(0, .ref (a 0)), (1, .int (nI i))]) rfl ?_
  intro X C F
  have C : Ok g X cX0_pastStarComment RX0 wsX0_pastStarComment ({ frames := 2, cells := 0, slots := 0, locals := 40 }) (some .int) 4 := C
  have hin : ∀ w ∈ wsX00, w ∈ wsX0_pastStarComment := fun _ h => List.mem_cons_of_mem _ (List.mem_append_right _ h)
  have lk39 : Cond.fieldLink RX0 39 "TokenRows" "textSize" "I" ∈ wsX0_pastStarComment := by decide +kernel
  obtain ⟨e, he⟩ : ∃ e, e = scan (pStar (look tx N)) N (i + 2) := ⟨_, rfl⟩
  rw [← he] at F
  have loop : ∀ (k j : Nat), i + 2 ≤ j → j ≤ N → N + 1 ≤ j + k → scan (pStar (look tx N)) N j = e → G g X (0, 0) (tw g a aT aX tr n fed tx (nI N) (ln + nI (cnt (look tx N) (i + 2) (j - (i + 2)))) fa T) 4 [(2, .int (nI j)), (0, .ref (a 0)), (1, .int (nI i))] [] := by
    intro k
    induction k with
    | zero => intro j h0 h1 h2 h3; omega
    | succ k ih =>
      intro j h0 h1 h2 h3
      refine g_iload_n C dX0_pastStarComment_4 0 rfl ?_
      refine g_aload_n C dX0_pastStarComment_5 1 rfl ?_
      refine g_get0 C hin 0 rfl 4 (by decide) lk39 rfl dX0_pastStarComment_6 ?_
      refine g_icmp_ge C dX0_pastStarComment_9 (tgt := 64) (by decide) (fun c1 => ?_) (fun c1 => ?_)
      · have hj := (nI_leI (by omega) (by omega)).mp c1
        rw [scan_end hj] at h3
        subst h3
        refine g_aload_n C dX0_pastStarComment_64 1 rfl ?_
        refine g_iload_n C dX0_pastStarComment_65 2 rfl ?_
        refine g_callVi (n := 1) C (c_X0_fail g a aT aX tr n fed tx (nI N) (ln + nI (cnt (look tx N) (i + 2) (j - (i + 2)))) fa T (nI i)) gX0_pastStarComment_X0_fail rfl rfl rfl rfl (by decide) (by decide) rfl (Nat.le_of_ble_eq_true rfl) dX0_pastStarComment_66 ?_
        exact g_iret C F (by rw [if_neg (by omega)]) (by rw [if_neg (by omega)]) dX0_pastStarComment_69
      · have hj : j < N := Nat.not_le.mp (fun z => c1 (nI_le z (by omega)))
        refine g_aload_n C dX0_pastStarComment_12 1 rfl ?_
        refine g_iload_n C dX0_pastStarComment_13 0 rfl ?_
        refine g_callVi (n := 1) C (c_X0_byteAt g a aT aX tr n fed tx (ln + nI (cnt (look tx N) (i + 2) (j - (i + 2)))) fa T N j hN (by omega)) gX0_pastStarComment_X0_byteAt rfl rfl rfl rfl (by decide) (by decide) rfl (Nat.le_of_ble_eq_true rfl) dX0_pastStarComment_14 ?_
        refine g_istore_n (lv' := [(3, .int (look tx N j)), (2, .int (nI j)), (0, .ref (a 0)), (1, .int (nI i))]) C dX0_pastStarComment_17 (by decide) rfl ?_
        refine g_iload_n C dX0_pastStarComment_18 0 rfl ?_
        refine g_bipush C dX0_pastStarComment_19 (v := 42) (by decide) ?_
        refine g_icmp_ne C dX0_pastStarComment_21 (tgt := 40) (by decide) (fun c2 => ?_) (fun c2 => ?_)
        · refine g_iload_n C dX0_pastStarComment_40 0 rfl ?_
          refine g_callSi (n := 1) C (c_X0_mayOccur g (look tx N j)) gX0_pastStarComment_X0_mayOccur rfl rfl (by decide) (by decide) rfl (Nat.le_of_ble_eq_true rfl) dX0_pastStarComment_41 ?_
          refine g_if_ne C dX0_pastStarComment_44 (tgt := 53) (by decide) (fun c3 => ?_) (fun c3 => ?_)
          · rw [scan_step hj (show pStar (look tx N) j = true by unfold pStar; rw [b01_1.mp c3, decide_eq_true (show ¬ (look tx N j = 42 ∧ look tx N (j + 1) = 47) from fun z => c2 z.1)]; rfl)] at h3
            refine g_aload_n C dX0_pastStarComment_53 2 rfl ?_
            refine g_iload_n C dX0_pastStarComment_54 0 rfl ?_
            refine g_callVv (n := 1) C (c_X0_countLine g a aT aX tr n fed tx (nI N) (ln + nI (cnt (look tx N) (i + 2) (j - (i + 2)))) fa T (look tx N j)) gX0_pastStarComment_X0_countLine rfl rfl rfl rfl (by decide) (by decide) rfl (Nat.le_of_ble_eq_true rfl) dX0_pastStarComment_55 ?_
            refine g_iinc (o := 1) (v := nI (j + 1)) (lv' := [(2, .int (nI (j + 1))), (3, .int (look tx N j)), (0, .ref (a 0)), (1, .int (nI i))]) C dX0_pastStarComment_58 rfl (nI_add j 1) (by decide) rfl ?_
            refine g_goto C dX0_pastStarComment_61 (tgt := 4) (by decide) ?_
            refine g_sub [0, 2, 3] rfl ?_
            refine g_ws (ws' := (tw g a aT aX tr n fed tx (nI N) (ln + nI (cnt (look tx N) (i + 2) (j + 1 - (i + 2)))) fa T)) (by rw [cnt_step h0]) ?_
            exact ih (j + 1) (by omega) (by omega) (by omega) h3
          · rw [scan_stop (show pStar (look tx N) j = false by unfold pStar; rw [b01_0.mp c3, Bool.and_false])] at h3
            subst h3
            refine g_aload_n C dX0_pastStarComment_47 2 rfl ?_
            refine g_iload_n C dX0_pastStarComment_48 1 rfl ?_
            refine g_callVi (n := 1) C (c_X0_fail g a aT aX tr n fed tx (nI N) (ln + nI (cnt (look tx N) (i + 2) (j - (i + 2)))) fa T (nI j)) gX0_pastStarComment_X0_fail rfl rfl rfl rfl (by decide) (by decide) rfl (Nat.le_of_ble_eq_true rfl) dX0_pastStarComment_49 ?_
            exact g_iret C F (by rw [if_pos hj, if_neg (fun z => c2 z.1)]) (by rw [if_pos hj, if_neg (fun z => c2 z.1)]) dX0_pastStarComment_52
        · refine g_aload_n C dX0_pastStarComment_24 2 rfl ?_
          refine g_iload_n C dX0_pastStarComment_25 1 rfl ?_
          refine g_iconst C dX0_pastStarComment_26 (v := 1) (by decide) ?_
          refine g_iadd C dX0_pastStarComment_27 ?_
          refine g_top (nI_add j 1) ?_
          refine g_callVi (n := 1) C (c_X0_byteAt g a aT aX tr n fed tx (ln + nI (cnt (look tx N) (i + 2) (j - (i + 2)))) fa T N (j + 1) hN (by omega)) gX0_pastStarComment_X0_byteAt rfl rfl rfl rfl (by decide) (by decide) rfl (Nat.le_of_ble_eq_true rfl) dX0_pastStarComment_28 ?_
          refine g_bipush C dX0_pastStarComment_31 (v := 47) (by decide) ?_
          refine g_icmp_ne C dX0_pastStarComment_33 (tgt := 40) (by decide) (fun c4 => ?_) (fun c4 => ?_)
          · refine g_iload_n C dX0_pastStarComment_40 0 rfl ?_
            refine g_callSi (n := 1) C (c_X0_mayOccur g (look tx N j)) gX0_pastStarComment_X0_mayOccur rfl rfl (by decide) (by decide) rfl (Nat.le_of_ble_eq_true rfl) dX0_pastStarComment_41 ?_
            refine g_if_ne C dX0_pastStarComment_44 (tgt := 53) (by decide) (fun c5 => ?_) (fun c5 => ?_)
            · rw [scan_step hj (show pStar (look tx N) j = true by unfold pStar; rw [b01_1.mp c5, decide_eq_true (show ¬ (look tx N j = 42 ∧ look tx N (j + 1) = 47) from fun z => c4 z.2)]; rfl)] at h3
              refine g_aload_n C dX0_pastStarComment_53 2 rfl ?_
              refine g_iload_n C dX0_pastStarComment_54 0 rfl ?_
              refine g_callVv (n := 1) C (c_X0_countLine g a aT aX tr n fed tx (nI N) (ln + nI (cnt (look tx N) (i + 2) (j - (i + 2)))) fa T (look tx N j)) gX0_pastStarComment_X0_countLine rfl rfl rfl rfl (by decide) (by decide) rfl (Nat.le_of_ble_eq_true rfl) dX0_pastStarComment_55 ?_
              refine g_iinc (o := 1) (v := nI (j + 1)) (lv' := [(2, .int (nI (j + 1))), (3, .int (look tx N j)), (0, .ref (a 0)), (1, .int (nI i))]) C dX0_pastStarComment_58 rfl (nI_add j 1) (by decide) rfl ?_
              refine g_goto C dX0_pastStarComment_61 (tgt := 4) (by decide) ?_
              refine g_sub [0, 2, 3] rfl ?_
              refine g_ws (ws' := (tw g a aT aX tr n fed tx (nI N) (ln + nI (cnt (look tx N) (i + 2) (j + 1 - (i + 2)))) fa T)) (by rw [cnt_step h0]) ?_
              exact ih (j + 1) (by omega) (by omega) (by omega) h3
            · rw [scan_stop (show pStar (look tx N) j = false by unfold pStar; rw [b01_0.mp c5, Bool.and_false])] at h3
              subst h3
              refine g_aload_n C dX0_pastStarComment_47 2 rfl ?_
              refine g_iload_n C dX0_pastStarComment_48 1 rfl ?_
              refine g_callVi (n := 1) C (c_X0_fail g a aT aX tr n fed tx (nI N) (ln + nI (cnt (look tx N) (i + 2) (j - (i + 2)))) fa T (nI j)) gX0_pastStarComment_X0_fail rfl rfl rfl rfl (by decide) (by decide) rfl (Nat.le_of_ble_eq_true rfl) dX0_pastStarComment_49 ?_
              exact g_iret C F (by rw [if_pos hj, if_neg (fun z => c4 z.2)]) (by rw [if_pos hj, if_neg (fun z => c4 z.2)]) dX0_pastStarComment_52
          · rw [scan_stop (show pStar (look tx N) j = false by unfold pStar; rw [decide_eq_false (fun z => z ⟨c2, c4⟩)]; rfl)] at h3
            subst h3
            refine g_iload_n C dX0_pastStarComment_36 1 rfl ?_
            refine g_iconst C dX0_pastStarComment_37 (v := 2) (by decide) ?_
            refine g_iadd C dX0_pastStarComment_38 ?_
            refine g_top (nI_add j 2) ?_
            exact g_iret C F (by rw [if_pos hj, if_pos ⟨c2, c4⟩]) (by rw [if_pos hj, if_pos ⟨c2, c4⟩]) dX0_pastStarComment_39
  refine g_iload_n C dX0_pastStarComment_0 1 rfl ?_
  refine g_iconst C dX0_pastStarComment_1 (v := 2) (by decide) ?_
  refine g_iadd C dX0_pastStarComment_2 ?_
  refine g_top (nI_add i 2) ?_
  refine g_istore_n (lv' := [(2, .int (nI (i + 2))), (0, .ref (a 0)), (1, .int (nI i))]) C dX0_pastStarComment_3 (by decide) rfl ?_
  refine g_ws (ws' := (tw g a aT aX tr n fed tx (nI N) (ln + nI (cnt (look tx N) (i + 2) (i + 2 - (i + 2)))) fa T)) (by rw [Nat.sub_self, cnt, nI_0, Int32.add_zero]) ?_
  exact loop (N + 1) (i + 2) (by omega) (by omega) (by omega) he.symm
