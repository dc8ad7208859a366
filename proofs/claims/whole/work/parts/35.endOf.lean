theorem hex_lt {tx : Nat → Int32} {N j : Nat} (h : 0 ≤ (hexv (look tx N j)).toInt) : j < N := by
  rcases Nat.lt_or_ge j N with q | q
  · exact q
  · rw [look_out q] at h; exact absurd h (by decide)
set_option maxHeartbeats 4000000 in
set_option maxRecDepth 100000 in
theorem c_X1_endOf5 (g : Gl) (b : Nat → Nat) (tr : Nat → Int32) (n fed : Int32) (tx : Nat → Int32) (ks fs ts : Nat → Int32) (ct pl : Int32) (N i : Nat) (hN : N ≤ 16000) (hi : i < N) : Ctr g yX1_endOf wsX1_endOf ({ frames := 6, cells := 0, slots := 0, locals := 134 }) [.ref (b 0), .int 5, .int (nI i)] (mw g b tr n fed tx (nI N) ks fs ts ct pl) (some (.int (sgnE (look tx N) i))) (mw g b tr n fed tx (nI N) ks fs ts ct pl) 0 0 := by
  refine Ctr.start (cc := cX1_endOf) (maxL := 5) (ret := (some .int)) (by decide) rfl (Nat.le_of_ble_eq_true rfl) (lv0 := [(0, .ref (b 0)), (1, .int 5), (2, .int (nI i))]) rfl ?_
  intro X C F
  have C : Ok g X cX1_endOf RX1 wsX1_endOf ({ frames := 6, cells := 0, slots := 0, locals := 134 }) (some .int) 5 := C
  have hin : ∀ w ∈ wsX10, w ∈ wsX1_endOf := fun _ h => List.mem_cons_of_mem _ (List.mem_append_right _ h)
  refine g_iload_n C dX1_endOf_0 2 rfl ?_
  refine g_istore_n (lv' := [(3, .int (nI i)), (0, .ref (b 0)), (1, .int 5), (2, .int (nI i))]) C dX1_endOf_1 (by decide) rfl ?_
  refine g_iload_n C dX1_endOf_2 2 rfl ?_
  refine g_iconst C dX1_endOf_3 (v := 5) (by decide) ?_
  refine g_icmp_ne C dX1_endOf_4 (tgt := 13) (by decide) (fun c1 => ?_) (fun c1 => ?_)
  · exact absurd c1 (by decide)
  · refine g_aload_n C dX1_endOf_7 1 rfl ?_
    refine g_iload_n C dX1_endOf_8 3 rfl ?_
    refine g_callVi (n := 1) C (c_X1_signEnd g b tr n fed tx ks fs ts ct pl N i hN (by omega)) gX1_endOf_X1_signEnd rfl rfl rfl rfl (by decide) (by decide) rfl (Nat.le_of_ble_eq_true rfl) dX1_endOf_9 ?_
    exact g_iret C F (rfl) (rfl) dX1_endOf_12
set_option maxHeartbeats 4000000 in
set_option maxRecDepth 100000 in
theorem c_X1_endOf3 (g : Gl) (b : Nat → Nat) (tr : Nat → Int32) (n fed : Int32) (tx : Nat → Int32) (ks fs ts : Nat → Int32) (ct pl : Int32) (N i : Nat) (hN : N ≤ 16000) (hi : i < N) : Ctr g yX1_endOf wsX1_endOf ({ frames := 6, cells := 0, slots := 0, locals := 134 }) [.ref (b 0), .int 3, .int (nI i)] (mw g b tr n fed tx (nI N) ks fs ts ct pl) (some (.int (tkE (tokStr (look tx N) i)))) (mw g b tr n fed tx (nI N) ks fs ts ct pl) 0 0 := by
  refine Ctr.start (cc := cX1_endOf) (maxL := 5) (ret := (some .int)) (by decide) rfl (Nat.le_of_ble_eq_true rfl) (lv0 := [(0, .ref (b 0)), (1, .int 3), (2, .int (nI i))]) rfl ?_
  intro X C F
  have C : Ok g X cX1_endOf RX1 wsX1_endOf ({ frames := 6, cells := 0, slots := 0, locals := 134 }) (some .int) 5 := C
  have hin : ∀ w ∈ wsX10, w ∈ wsX1_endOf := fun _ h => List.mem_cons_of_mem _ (List.mem_append_right _ h)
  refine g_iload_n C dX1_endOf_0 2 rfl ?_
  refine g_istore_n (lv' := [(3, .int (nI i)), (0, .ref (b 0)), (1, .int 3), (2, .int (nI i))]) C dX1_endOf_1 (by decide) rfl ?_
  refine g_iload_n C dX1_endOf_2 2 rfl ?_
  refine g_iconst C dX1_endOf_3 (v := 5) (by decide) ?_
  refine g_icmp_ne C dX1_endOf_4 (tgt := 13) (by decide) (fun c1 => ?_) (fun c1 => ?_)
  · refine g_iload_n C dX1_endOf_13 2 rfl ?_
    refine g_iconst C dX1_endOf_14 (v := 3) (by decide) ?_
    refine g_icmp_ne C dX1_endOf_15 (tgt := 24) (by decide) (fun c2 => ?_) (fun c2 => ?_)
    · exact absurd c2 (by decide)
    · refine g_aload_n C dX1_endOf_18 1 rfl ?_
      refine g_iload_n C dX1_endOf_19 3 rfl ?_
      refine g_callVi (n := 1) C (c_X1_stringEnd g b tr n fed tx ks fs ts ct pl N i hN hi) gX1_endOf_X1_stringEnd rfl rfl rfl rfl (by decide) (by decide) rfl (Nat.le_of_ble_eq_true rfl) dX1_endOf_20 ?_
      exact g_iret C F (rfl) (rfl) dX1_endOf_23
  · exact absurd c1 (by decide)
set_option maxHeartbeats 4000000 in
set_option maxRecDepth 100000 in
theorem c_X1_endOf1 (g : Gl) (b : Nat → Nat) (tr : Nat → Int32) (n fed : Int32) (tx : Nat → Int32) (ks fs ts : Nat → Int32) (ct pl : Int32) (N i : Nat) (hN : N ≤ 16000) (hi : i < N) : Ctr g yX1_endOf wsX1_endOf ({ frames := 6, cells := 0, slots := 0, locals := 134 }) [.ref (b 0), .int 1, .int (nI i)] (mw g b tr n fed tx (nI N) ks fs ts ct pl) (some (.int (if scan (pNam (look tx N)) N i - i ≤ 24 then nI (scan (pNam (look tx N)) N i) else -1))) (mw g b tr n fed tx (nI N) ks fs ts ct pl) 0 0 := by
  refine Ctr.start (cc := cX1_endOf) (maxL := 5) (ret := (some .int)) (by decide) rfl (Nat.le_of_ble_eq_true rfl) (lv0 := [(0, .ref (b 0)), (1, .int 1), (2, .int (nI i))]) rfl ?_
  intro X C F
  have C : Ok g X cX1_endOf RX1 wsX1_endOf ({ frames := 6, cells := 0, slots := 0, locals := 134 }) (some .int) 5 := C
  have hin : ∀ w ∈ wsX10, w ∈ wsX1_endOf := fun _ h => List.mem_cons_of_mem _ (List.mem_append_right _ h)
  obtain ⟨e, he⟩ : ∃ e, e = scan (pNam (look tx N)) N i := ⟨_, rfl⟩
  rw [← he] at F
  have he1 : i ≤ e := by rw [he]; exact scan_ge _ _ _
  have he2 : e ≤ N := by rw [he]; exact scan_le (by omega)
  have ex : G g X (0, 0) (mw g b tr n fed tx (nI N) ks fs ts ct pl) 46 [(3, .int (nI e)), (0, .ref (b 0)), (1, .int 1), (2, .int (nI i))] [] := by
    refine g_iload_n C dX1_endOf_46 0 rfl ?_
    refine g_iload_n C dX1_endOf_47 3 rfl ?_
    refine g_isub C dX1_endOf_48 ?_
    refine g_top (y := nI (e - i)) (nI_subI (b := i) (by omega)) ?_
    refine g_bipush C dX1_endOf_49 (v := 24) (by decide) ?_
    refine g_icmp_gt C dX1_endOf_51 (tgt := 58) (by decide) (fun c1 => ?_) (fun c1 => ?_)
    · have hz := (nI_ltI (a := 24) (by omega) (by omega)).mp c1
      refine g_iconst C dX1_endOf_58 (v := (-1)) (by decide) ?_
      exact g_iret C F (by rw [if_neg (by omega)]) (rfl) dX1_endOf_59
    · have hz : ¬ 24 < e - i := fun q => c1 (nI_lt (a := 24) q (by omega))
      refine g_iload_n C dX1_endOf_54 0 rfl ?_
      refine g_goto C dX1_endOf_55 (tgt := 59) (by decide) ?_
      exact g_iret C F (by rw [if_pos (by omega)]) (rfl) dX1_endOf_59
  have loop : ∀ (k j : Nat), j ≤ N → N + 1 ≤ j + k → scan (pNam (look tx N)) N j = e → G g X (0, 0) (mw g b tr n fed tx (nI N) ks fs ts ct pl) 29 [(3, .int (nI j)), (0, .ref (b 0)), (1, .int 1), (2, .int (nI i))] [] := by
    intro k
    induction k with
    | zero => intro j h1 h2 h3; omega
    | succ k ih =>
      intro j h1 h2 h3
      refine g_aload_n C dX1_endOf_29 1 rfl ?_
      refine g_iload_n C dX1_endOf_30 0 rfl ?_
      refine g_callVi (n := 1) C (c_X1_look g b tr n fed tx ks fs ts ct pl N j hN (by omega)) gX1_endOf_X1_look rfl rfl rfl rfl (by decide) (by decide) rfl (Nat.le_of_ble_eq_true rfl) dX1_endOf_31 ?_
      refine g_callSi (n := 1) C (c_X1_isInName g (look tx N j)) gX1_endOf_X1_isInName rfl rfl (by decide) (by decide) rfl (Nat.le_of_ble_eq_true rfl) dX1_endOf_34 ?_
      refine g_if_eq C dX1_endOf_37 (tgt := 46) (by decide) (fun c2 => ?_) (fun c2 => ?_)
      · rw [scan_stop (show pNam (look tx N) j = false from b01_0.mp c2)] at h3
        subst h3
        exact ex
      · have hj : j < N := look_pos (tx := tx) (by have := bNam_t (b01_1.mp c2); omega)
        rw [scan_step hj (show pNam (look tx N) j = true from b01_1.mp c2)] at h3
        refine g_iinc (o := 0) (v := nI (j + 1)) (lv' := [(3, .int (nI (j + 1))), (0, .ref (b 0)), (1, .int 1), (2, .int (nI i))]) C dX1_endOf_40 rfl (nI_add j 1) (by decide) rfl ?_
        refine g_goto C dX1_endOf_43 (tgt := 29) (by decide) ?_
        exact ih (j + 1) (by omega) (by omega) h3
  refine g_iload_n C dX1_endOf_0 2 rfl ?_
  refine g_istore_n (lv' := [(3, .int (nI i)), (0, .ref (b 0)), (1, .int 1), (2, .int (nI i))]) C dX1_endOf_1 (by decide) rfl ?_
  refine g_iload_n C dX1_endOf_2 2 rfl ?_
  refine g_iconst C dX1_endOf_3 (v := 5) (by decide) ?_
  refine g_icmp_ne C dX1_endOf_4 (tgt := 13) (by decide) (fun c3 => ?_) (fun c3 => ?_)
  · refine g_iload_n C dX1_endOf_13 2 rfl ?_
    refine g_iconst C dX1_endOf_14 (v := 3) (by decide) ?_
    refine g_icmp_ne C dX1_endOf_15 (tgt := 24) (by decide) (fun c4 => ?_) (fun c4 => ?_)
    · refine g_iload_n C dX1_endOf_24 2 rfl ?_
      refine g_iconst C dX1_endOf_25 (v := 1) (by decide) ?_
      refine g_icmp_ne C dX1_endOf_26 (tgt := 60) (by decide) (fun c5 => ?_) (fun c5 => ?_)
      · exact absurd c5 (by decide)
      · exact loop (N + 1) i (by omega) (by omega) he.symm
    · exact absurd c4 (by decide)
  · exact absurd c3 (by decide)
set_option maxHeartbeats 4000000 in
set_option maxRecDepth 100000 in
theorem c_X1_endOf2q (g : Gl) (b : Nat → Nat) (tr : Nat → Int32) (n fed : Int32) (tx : Nat → Int32) (ks fs ts : Nat → Int32) (ct pl : Int32) (N i : Nat) (hN : N ≤ 16000) (hi : i < N) (hq : look tx N i = 39) : Ctr g yX1_endOf wsX1_endOf ({ frames := 6, cells := 0, slots := 0, locals := 134 }) [.ref (b 0), .int 2, .int (nI i)] (mw g b tr n fed tx (nI N) ks fs ts ct pl) (some (.int (tkE (tokQuo (look tx N) i)))) (mw g b tr n fed tx (nI N) ks fs ts ct pl) 0 0 := by
  refine Ctr.start (cc := cX1_endOf) (maxL := 5) (ret := (some .int)) (by decide) rfl (Nat.le_of_ble_eq_true rfl) (lv0 := [(0, .ref (b 0)), (1, .int 2), (2, .int (nI i))]) rfl ?_
  intro X C F
  have C : Ok g X cX1_endOf RX1 wsX1_endOf ({ frames := 6, cells := 0, slots := 0, locals := 134 }) (some .int) 5 := C
  have hin : ∀ w ∈ wsX10, w ∈ wsX1_endOf := fun _ h => List.mem_cons_of_mem _ (List.mem_append_right _ h)
  obtain ⟨w, hw⟩ : ∃ w, w = cwd (look tx N) (i + 1) 39 := ⟨_, rfl⟩
  have hw2 : w ≤ 2 := by rw [hw]; exact cwd_le _ _ _
  have hs : tokQuo (look tx N) i = if w = 0 then none else if look tx N (i + 1 + w) = 39 then some (2, cat (look tx N) (i + 1), i + 1 + w + 1) else none := by rw [hw]; rfl
  refine g_iload_n C dX1_endOf_0 2 rfl ?_
  refine g_istore_n (lv' := [(3, .int (nI i)), (0, .ref (b 0)), (1, .int 2), (2, .int (nI i))]) C dX1_endOf_1 (by decide) rfl ?_
  refine g_iload_n C dX1_endOf_2 2 rfl ?_
  refine g_iconst C dX1_endOf_3 (v := 5) (by decide) ?_
  refine g_icmp_ne C dX1_endOf_4 (tgt := 13) (by decide) (fun c1 => ?_) (fun c1 => ?_)
  · refine g_iload_n C dX1_endOf_13 2 rfl ?_
    refine g_iconst C dX1_endOf_14 (v := 3) (by decide) ?_
    refine g_icmp_ne C dX1_endOf_15 (tgt := 24) (by decide) (fun c2 => ?_) (fun c2 => ?_)
    · refine g_iload_n C dX1_endOf_24 2 rfl ?_
      refine g_iconst C dX1_endOf_25 (v := 1) (by decide) ?_
      refine g_icmp_ne C dX1_endOf_26 (tgt := 60) (by decide) (fun c3 => ?_) (fun c3 => ?_)
      · refine g_aload_n C dX1_endOf_60 1 rfl ?_
        refine g_iload_n C dX1_endOf_61 3 rfl ?_
        refine g_callVi (n := 1) C (c_X1_look g b tr n fed tx ks fs ts ct pl N i hN (by omega)) gX1_endOf_X1_look rfl rfl rfl rfl (by decide) (by decide) rfl (Nat.le_of_ble_eq_true rfl) dX1_endOf_62 ?_
        refine g_bipush C dX1_endOf_65 (v := 39) (by decide) ?_
        refine g_icmp_ne C dX1_endOf_67 (tgt := 102) (by decide) (fun c4 => ?_) (fun c4 => ?_)
        · exact absurd hq c4
        · refine g_aload_n C dX1_endOf_70 1 rfl ?_
          refine g_iload_n C dX1_endOf_71 3 rfl ?_
          refine g_iconst C dX1_endOf_72 (v := 1) (by decide) ?_
          refine g_iadd C dX1_endOf_73 ?_
          refine g_top (nI_add i 1) ?_
          refine g_bipush C dX1_endOf_74 (v := 39) (by decide) ?_
          refine g_callVi (n := 2) C (c_X1_behind g b tr n fed tx ks fs ts ct pl N (i + 1) hN (by omega) 39) gX1_endOf_X1_behind rfl rfl rfl rfl (by decide) (by decide) rfl (Nat.le_of_ble_eq_true rfl) dX1_endOf_76 ?_
          by_cases hz : w = 0
          · refine g_top (y := -1) (bhd_no (by rw [← hw]; exact hz)) ?_
            refine g_istore_n (lv' := [(3, .int (-1)), (0, .ref (b 0)), (1, .int 2), (2, .int (nI i))]) C dX1_endOf_79 (by decide) rfl ?_
            refine g_iload_n C dX1_endOf_80 0 rfl ?_
            refine g_if_le C dX1_endOf_81 (tgt := 100) (by decide) (fun c5 => ?_) (fun c5 => ?_)
            · refine g_iconst C dX1_endOf_100 (v := (-1)) (by decide) ?_
              exact g_iret C F (by rw [hs, if_pos hz]; rfl) (rfl) dX1_endOf_101
            · exact absurd c5 (by decide)
          · refine g_top (y := nI (i + 1 + w)) (by rw [bhd_yes (by rw [← hw]; exact hz), ← hw]) ?_
            refine g_istore_n (lv' := [(3, .int (nI (i + 1 + w))), (0, .ref (b 0)), (1, .int 2), (2, .int (nI i))]) C dX1_endOf_79 (by decide) rfl ?_
            refine g_iload_n C dX1_endOf_80 0 rfl ?_
            refine g_if_le C dX1_endOf_81 (tgt := 100) (by decide) (fun c6 => ?_) (fun c6 => ?_)
            · exact absurd c6 (nI_nle (by omega) (by omega))
            · refine g_aload_n C dX1_endOf_84 1 rfl ?_
              refine g_iload_n C dX1_endOf_85 0 rfl ?_
              refine g_callVi (n := 1) C (c_X1_look g b tr n fed tx ks fs ts ct pl N (i + 1 + w) hN (by omega)) gX1_endOf_X1_look rfl rfl rfl rfl (by decide) (by decide) rfl (Nat.le_of_ble_eq_true rfl) dX1_endOf_86 ?_
              refine g_bipush C dX1_endOf_89 (v := 39) (by decide) ?_
              refine g_icmp_ne C dX1_endOf_91 (tgt := 100) (by decide) (fun c7 => ?_) (fun c7 => ?_)
              · refine g_iconst C dX1_endOf_100 (v := (-1)) (by decide) ?_
                exact g_iret C F (by rw [hs, if_neg hz, if_neg c7]; rfl) (rfl) dX1_endOf_101
              · refine g_iload_n C dX1_endOf_94 0 rfl ?_
                refine g_iconst C dX1_endOf_95 (v := 1) (by decide) ?_
                refine g_iadd C dX1_endOf_96 ?_
                refine g_top (nI_add (i + 1 + w) 1) ?_
                refine g_goto C dX1_endOf_97 (tgt := 101) (by decide) ?_
                exact g_iret C F (by rw [hs, if_neg hz, if_pos c7]; rfl) (rfl) dX1_endOf_101
      · exact absurd c3 (by decide)
    · exact absurd c2 (by decide)
  · exact absurd c1 (by decide)
set_option maxHeartbeats 4000000 in
set_option maxRecDepth 100000 in
theorem c_X1_endOf2h (g : Gl) (b : Nat → Nat) (tr : Nat → Int32) (n fed : Int32) (tx : Nat → Int32) (ks fs ts : Nat → Int32) (ct pl : Int32) (N i : Nat) (hN : N ≤ 16000) (hi : i < N) (hq : bHex (look tx N) i = true) : Ctr g yX1_endOf wsX1_endOf ({ frames := 6, cells := 0, slots := 0, locals := 134 }) [.ref (b 0), .int 2, .int (nI i)] (mw g b tr n fed tx (nI N) ks fs ts ct pl) (some (.int (tkE (tokHex (look tx N) N i)))) (mw g b tr n fed tx (nI N) ks fs ts ct pl) 0 0 := by
  refine Ctr.start (cc := cX1_endOf) (maxL := 5) (ret := (some .int)) (by decide) rfl (Nat.le_of_ble_eq_true rfl) (lv0 := [(0, .ref (b 0)), (1, .int 2), (2, .int (nI i))]) rfl ?_
  intro X C F
  have C : Ok g X cX1_endOf RX1 wsX1_endOf ({ frames := 6, cells := 0, slots := 0, locals := 134 }) (some .int) 5 := C
  have hin : ∀ w ∈ wsX10, w ∈ wsX1_endOf := fun _ h => List.mem_cons_of_mem _ (List.mem_append_right _ h)
  have hx := of_decide_eq_true hq
  have hl := look_ltN hx.2.1 (by decide)
  obtain ⟨e, he⟩ : ∃ e, e = scan (pHex (look tx N)) N (i + 2) := ⟨_, rfl⟩
  have he1 : i + 2 ≤ e := by rw [he]; exact scan_ge _ _ _
  have he2 : e ≤ N := by rw [he]; exact scan_le (by omega)
  have hs : tokHex (look tx N) N i = if 8 < e - i - 2 then none else some (2, hval (look tx N) (i + 2) (e - (i + 2)), e) := by rw [he]; rfl
  have ex : G g X (0, 0) (mw g b tr n fed tx (nI N) ks fs ts ct pl) 170 [(3, .int (nI e)), (4, .int 1), (0, .ref (b 0)), (1, .int 2), (2, .int (nI i))] [] := by
    refine g_iload_n C dX1_endOf_170 0 rfl ?_
    refine g_iload_n C dX1_endOf_171 4 rfl ?_
    refine g_isub C dX1_endOf_172 ?_
    refine g_top (y := nI (e - i)) (nI_subI (b := i) (by omega)) ?_
    refine g_bipush C dX1_endOf_173 (v := 10) (by decide) ?_
    refine g_icmp_gt C dX1_endOf_175 (tgt := 182) (by decide) (fun c1 => ?_) (fun c1 => ?_)
    · have hz := (nI_ltI (a := 10) (by omega) (by omega)).mp c1
      refine g_iconst C dX1_endOf_182 (v := (-1)) (by decide) ?_
      exact g_iret C F (by rw [hs, if_pos (by omega)]; rfl) (rfl) dX1_endOf_183
    · have hz : ¬ 10 < e - i := fun q => c1 (nI_lt (a := 10) q (by omega))
      refine g_iload_n C dX1_endOf_178 0 rfl ?_
      refine g_goto C dX1_endOf_179 (tgt := 183) (by decide) ?_
      exact g_iret C F (by rw [hs, if_neg (by omega)]; rfl) (rfl) dX1_endOf_183
  have loop : ∀ (k j : Nat), j ≤ N → N + 1 ≤ j + k → scan (pHex (look tx N)) N j = e → G g X (0, 0) (mw g b tr n fed tx (nI N) ks fs ts ct pl) 153 [(3, .int (nI j)), (4, .int 1), (0, .ref (b 0)), (1, .int 2), (2, .int (nI i))] [] := by
    intro k
    induction k with
    | zero => intro j h1 h2 h3; omega
    | succ k ih =>
      intro j h1 h2 h3
      refine g_aload_n C dX1_endOf_153 2 rfl ?_
      refine g_iload_n C dX1_endOf_154 0 rfl ?_
      refine g_callVi (n := 1) C (c_X1_look g b tr n fed tx ks fs ts ct pl N j hN (by omega)) gX1_endOf_X1_look rfl rfl rfl rfl (by decide) (by decide) rfl (Nat.le_of_ble_eq_true rfl) dX1_endOf_155 ?_
      refine g_callSi (n := 1) C (c_X1_sixteen g (look tx N j)) gX1_endOf_X1_sixteen rfl rfl (by decide) (by decide) rfl (Nat.le_of_ble_eq_true rfl) dX1_endOf_158 ?_
      refine g_if_lt C dX1_endOf_161 (tgt := 170) (by decide) (fun c2 => ?_) (fun c2 => ?_)
      · have hq2 := k_lt (b := 0) (by decide) c2
        rw [scan_stop (show pHex (look tx N) j = false from decide_eq_false (by omega))] at h3
        subst h3
        exact ex
      · have hq2 := k_nlt (b := 0) (by decide) c2
        have hj : j < N := hex_lt hq2
        rw [scan_step hj (show pHex (look tx N) j = true from decide_eq_true hq2)] at h3
        refine g_iinc (o := 0) (v := nI (j + 1)) (lv' := [(3, .int (nI (j + 1))), (4, .int 1), (0, .ref (b 0)), (1, .int 2), (2, .int (nI i))]) C dX1_endOf_164 rfl (nI_add j 1) (by decide) rfl ?_
        refine g_goto C dX1_endOf_167 (tgt := 153) (by decide) ?_
        exact ih (j + 1) (by omega) (by omega) h3
  refine g_iload_n C dX1_endOf_0 2 rfl ?_
  refine g_istore_n (lv' := [(3, .int (nI i)), (0, .ref (b 0)), (1, .int 2), (2, .int (nI i))]) C dX1_endOf_1 (by decide) rfl ?_
  refine g_iload_n C dX1_endOf_2 2 rfl ?_
  refine g_iconst C dX1_endOf_3 (v := 5) (by decide) ?_
  refine g_icmp_ne C dX1_endOf_4 (tgt := 13) (by decide) (fun c3 => ?_) (fun c3 => ?_)
  · refine g_iload_n C dX1_endOf_13 2 rfl ?_
    refine g_iconst C dX1_endOf_14 (v := 3) (by decide) ?_
    refine g_icmp_ne C dX1_endOf_15 (tgt := 24) (by decide) (fun c4 => ?_) (fun c4 => ?_)
    · refine g_iload_n C dX1_endOf_24 2 rfl ?_
      refine g_iconst C dX1_endOf_25 (v := 1) (by decide) ?_
      refine g_icmp_ne C dX1_endOf_26 (tgt := 60) (by decide) (fun c5 => ?_) (fun c5 => ?_)
      · refine g_aload_n C dX1_endOf_60 1 rfl ?_
        refine g_iload_n C dX1_endOf_61 3 rfl ?_
        refine g_callVi (n := 1) C (c_X1_look g b tr n fed tx ks fs ts ct pl N i hN (by omega)) gX1_endOf_X1_look rfl rfl rfl rfl (by decide) (by decide) rfl (Nat.le_of_ble_eq_true rfl) dX1_endOf_62 ?_
        refine g_bipush C dX1_endOf_65 (v := 39) (by decide) ?_
        refine g_icmp_ne C dX1_endOf_67 (tgt := 102) (by decide) (fun c6 => ?_) (fun c6 => ?_)
        · refine g_aload_n C dX1_endOf_102 1 rfl ?_
          refine g_iload_n C dX1_endOf_103 3 rfl ?_
          refine g_callVi (n := 1) C (c_X1_look g b tr n fed tx ks fs ts ct pl N i hN (by omega)) gX1_endOf_X1_look rfl rfl rfl rfl (by decide) (by decide) rfl (Nat.le_of_ble_eq_true rfl) dX1_endOf_104 ?_
          refine g_bipush C dX1_endOf_107 (v := 48) (by decide) ?_
          refine g_icmp_ne C dX1_endOf_109 (tgt := 141) (by decide) (fun c7 => ?_) (fun c7 => ?_)
          · exact absurd hx.1 c7
          · refine g_aload_n C dX1_endOf_112 1 rfl ?_
            refine g_iload_n C dX1_endOf_113 3 rfl ?_
            refine g_iconst C dX1_endOf_114 (v := 1) (by decide) ?_
            refine g_iadd C dX1_endOf_115 ?_
            refine g_top (nI_add i 1) ?_
            refine g_callVi (n := 1) C (c_X1_look g b tr n fed tx ks fs ts ct pl N (i + 1) hN (by omega)) gX1_endOf_X1_look rfl rfl rfl rfl (by decide) (by decide) rfl (Nat.le_of_ble_eq_true rfl) dX1_endOf_116 ?_
            refine g_bipush C dX1_endOf_119 (v := 120) (by decide) ?_
            refine g_icmp_ne C dX1_endOf_121 (tgt := 141) (by decide) (fun c8 => ?_) (fun c8 => ?_)
            · exact absurd hx.2.1 c8
            · refine g_aload_n C dX1_endOf_124 1 rfl ?_
              refine g_iload_n C dX1_endOf_125 3 rfl ?_
              refine g_iconst C dX1_endOf_126 (v := 2) (by decide) ?_
              refine g_iadd C dX1_endOf_127 ?_
              refine g_top (nI_add i 2) ?_
              refine g_callVi (n := 1) C (c_X1_look g b tr n fed tx ks fs ts ct pl N (i + 2) hN (by omega)) gX1_endOf_X1_look rfl rfl rfl rfl (by decide) (by decide) rfl (Nat.le_of_ble_eq_true rfl) dX1_endOf_128 ?_
              refine g_callSi (n := 1) C (c_X1_sixteen g (look tx N (i + 2))) gX1_endOf_X1_sixteen rfl rfl (by decide) (by decide) rfl (Nat.le_of_ble_eq_true rfl) dX1_endOf_131 ?_
              refine g_if_lt C dX1_endOf_134 (tgt := 141) (by decide) (fun c9 => ?_) (fun c9 => ?_)
              · exact absurd (k_lt (b := 0) (by decide) c9) (by have := hx.2.2; omega)
              · refine g_iconst C dX1_endOf_137 (v := 1) (by decide) ?_
                refine g_goto C dX1_endOf_138 (tgt := 142) (by decide) ?_
                refine g_istore (lv' := [(4, .int 1), (3, .int (nI i)), (0, .ref (b 0)), (1, .int 2), (2, .int (nI i))]) C dX1_endOf_142 (by decide) rfl ?_
                refine g_iload C dX1_endOf_144 0 rfl ?_
                refine g_if_eq C dX1_endOf_146 (tgt := 184) (by decide) (fun c10 => ?_) (fun c10 => ?_)
                · exact absurd c10 (by decide)
                · refine g_iload_n C dX1_endOf_149 4 rfl ?_
                  refine g_iconst C dX1_endOf_150 (v := 2) (by decide) ?_
                  refine g_iadd C dX1_endOf_151 ?_
                  refine g_top (nI_add i 2) ?_
                  refine g_istore_n (lv' := [(3, .int (nI (i + 2))), (4, .int 1), (0, .ref (b 0)), (1, .int 2), (2, .int (nI i))]) C dX1_endOf_152 (by decide) rfl ?_
                  exact loop (N + 1) (i + 2) (by omega) (by omega) he.symm
        · exact absurd (hx.1.symm.trans c6) (by decide)
      · exact absurd c5 (by decide)
    · exact absurd c4 (by decide)
  · exact absurd c3 (by decide)
set_option maxHeartbeats 4000000 in
set_option maxRecDepth 100000 in
theorem c_X1_endOf2d (g : Gl) (b : Nat → Nat) (tr : Nat → Int32) (n fed : Int32) (tx : Nat → Int32) (ks fs ts : Nat → Int32) (ct pl : Int32) (N i : Nat) (hN : N ≤ 16000) (hi : i < N) (hq : bHex (look tx N) i = false) (hn : ¬ look tx N i = 39) : Ctr g yX1_endOf wsX1_endOf ({ frames := 6, cells := 0, slots := 0, locals := 134 }) [.ref (b 0), .int 2, .int (nI i)] (mw g b tr n fed tx (nI N) ks fs ts ct pl) (some (.int (tkE (tokDig (look tx N) N i)))) (mw g b tr n fed tx (nI N) ks fs ts ct pl) 0 0 := by
  refine Ctr.start (cc := cX1_endOf) (maxL := 5) (ret := (some .int)) (by decide) rfl (Nat.le_of_ble_eq_true rfl) (lv0 := [(0, .ref (b 0)), (1, .int 2), (2, .int (nI i))]) rfl ?_
  intro X C F
  have C : Ok g X cX1_endOf RX1 wsX1_endOf ({ frames := 6, cells := 0, slots := 0, locals := 134 }) (some .int) 5 := C
  have hin : ∀ w ∈ wsX10, w ∈ wsX1_endOf := fun _ h => List.mem_cons_of_mem _ (List.mem_append_right _ h)
  have hx := of_decide_eq_false hq
  obtain ⟨e, he⟩ : ∃ e, e = scan (pDig (look tx N)) N i := ⟨_, rfl⟩
  have he1 : i ≤ e := by rw [he]; exact scan_ge _ _ _
  have he2 : e ≤ N := by rw [he]; exact scan_le (by omega)
  have hd : ∀ t, i ≤ t → t < e → bDig (look tx N t) = true := fun t a b => scan_all (p := pDig (look tx N)) (N := N) (i := i) a (by rw [← he]; exact b)
  have hs : tokDig (look tx N) N i = if 2147483647 < dval (look tx N) i (e - i) then none else some (2, nI (dval (look tx N) i (e - i)), e) := by rw [he]; rfl
  have hmi := mInt_dval he1 hd
  have ex : G g X (0, 0) (mw g b tr n fed tx (nI N) ks fs ts ct pl) 201 [(4, .int 0), (3, .int (nI e)), (0, .ref (b 0)), (1, .int 2), (2, .int (nI i))] [] := by
    refine g_aload_n C dX1_endOf_201 2 rfl ?_
    refine g_iload_n C dX1_endOf_202 4 rfl ?_
    refine g_iload_n C dX1_endOf_203 1 rfl ?_
    refine g_callVi (n := 2) C (c_X1_isInt g b tr n fed tx ks fs ts ct pl N i e hN he1 he2 hd) gX1_endOf_X1_isInt rfl rfl rfl rfl (by decide) (by decide) rfl (Nat.le_of_ble_eq_true rfl) dX1_endOf_204 ?_
    refine g_if_eq C dX1_endOf_207 (tgt := 214) (by decide) (fun c1 => ?_) (fun c1 => ?_)
    · have hz := of_decide_eq_false (hmi.symm.trans (b01_0.mp c1))
      refine g_iconst C dX1_endOf_214 (v := (-1)) (by decide) ?_
      exact g_iret C F (by rw [hs, if_pos (by omega)]; rfl) (rfl) dX1_endOf_215
    · have hz := of_decide_eq_true (hmi.symm.trans (b01_1.mp c1))
      refine g_iload_n C dX1_endOf_210 1 rfl ?_
      refine g_goto C dX1_endOf_211 (tgt := 215) (by decide) ?_
      exact g_iret C F (by rw [hs, if_neg (by omega)]; rfl) (rfl) dX1_endOf_215
  have loop : ∀ (k j : Nat), j ≤ N → N + 1 ≤ j + k → scan (pDig (look tx N)) N j = e → G g X (0, 0) (mw g b tr n fed tx (nI N) ks fs ts ct pl) 184 [(4, .int 0), (3, .int (nI j)), (0, .ref (b 0)), (1, .int 2), (2, .int (nI i))] [] := by
    intro k
    induction k with
    | zero => intro j h1 h2 h3; omega
    | succ k ih =>
      intro j h1 h2 h3
      refine g_aload_n C dX1_endOf_184 2 rfl ?_
      refine g_iload_n C dX1_endOf_185 1 rfl ?_
      refine g_callVi (n := 1) C (c_X1_look g b tr n fed tx ks fs ts ct pl N j hN (by omega)) gX1_endOf_X1_look rfl rfl rfl rfl (by decide) (by decide) rfl (Nat.le_of_ble_eq_true rfl) dX1_endOf_186 ?_
      refine g_callSi (n := 1) C (c_X1_isDigit g (look tx N j)) gX1_endOf_X1_isDigit rfl rfl (by decide) (by decide) rfl (Nat.le_of_ble_eq_true rfl) dX1_endOf_189 ?_
      refine g_if_eq C dX1_endOf_192 (tgt := 201) (by decide) (fun c2 => ?_) (fun c2 => ?_)
      · rw [scan_stop (show pDig (look tx N) j = false from b01_0.mp c2)] at h3
        subst h3
        exact ex
      · have hj : j < N := look_pos (tx := tx) (by have := bDig_t (b01_1.mp c2); omega)
        rw [scan_step hj (show pDig (look tx N) j = true from b01_1.mp c2)] at h3
        refine g_iinc (o := 1) (v := nI (j + 1)) (lv' := [(3, .int (nI (j + 1))), (4, .int 0), (0, .ref (b 0)), (1, .int 2), (2, .int (nI i))]) C dX1_endOf_195 rfl (nI_add j 1) (by decide) rfl ?_
        refine g_goto C dX1_endOf_198 (tgt := 184) (by decide) ?_
        refine g_sub [1, 0, 2, 3, 4] rfl ?_
        exact ih (j + 1) (by omega) (by omega) h3
  refine g_iload_n C dX1_endOf_0 2 rfl ?_
  refine g_istore_n (lv' := [(3, .int (nI i)), (0, .ref (b 0)), (1, .int 2), (2, .int (nI i))]) C dX1_endOf_1 (by decide) rfl ?_
  refine g_iload_n C dX1_endOf_2 2 rfl ?_
  refine g_iconst C dX1_endOf_3 (v := 5) (by decide) ?_
  refine g_icmp_ne C dX1_endOf_4 (tgt := 13) (by decide) (fun c3 => ?_) (fun c3 => ?_)
  · refine g_iload_n C dX1_endOf_13 2 rfl ?_
    refine g_iconst C dX1_endOf_14 (v := 3) (by decide) ?_
    refine g_icmp_ne C dX1_endOf_15 (tgt := 24) (by decide) (fun c4 => ?_) (fun c4 => ?_)
    · refine g_iload_n C dX1_endOf_24 2 rfl ?_
      refine g_iconst C dX1_endOf_25 (v := 1) (by decide) ?_
      refine g_icmp_ne C dX1_endOf_26 (tgt := 60) (by decide) (fun c5 => ?_) (fun c5 => ?_)
      · refine g_aload_n C dX1_endOf_60 1 rfl ?_
        refine g_iload_n C dX1_endOf_61 3 rfl ?_
        refine g_callVi (n := 1) C (c_X1_look g b tr n fed tx ks fs ts ct pl N i hN (by omega)) gX1_endOf_X1_look rfl rfl rfl rfl (by decide) (by decide) rfl (Nat.le_of_ble_eq_true rfl) dX1_endOf_62 ?_
        refine g_bipush C dX1_endOf_65 (v := 39) (by decide) ?_
        refine g_icmp_ne C dX1_endOf_67 (tgt := 102) (by decide) (fun c6 => ?_) (fun c6 => ?_)
        · refine g_aload_n C dX1_endOf_102 1 rfl ?_
          refine g_iload_n C dX1_endOf_103 3 rfl ?_
          refine g_callVi (n := 1) C (c_X1_look g b tr n fed tx ks fs ts ct pl N i hN (by omega)) gX1_endOf_X1_look rfl rfl rfl rfl (by decide) (by decide) rfl (Nat.le_of_ble_eq_true rfl) dX1_endOf_104 ?_
          refine g_bipush C dX1_endOf_107 (v := 48) (by decide) ?_
          refine g_icmp_ne C dX1_endOf_109 (tgt := 141) (by decide) (fun c7 => ?_) (fun c7 => ?_)
          · refine g_iconst C dX1_endOf_141 (v := 0) (by decide) ?_
            refine g_istore (lv' := [(4, .int 0), (3, .int (nI i)), (0, .ref (b 0)), (1, .int 2), (2, .int (nI i))]) C dX1_endOf_142 (by decide) rfl ?_
            refine g_iload C dX1_endOf_144 0 rfl ?_
            refine g_if_eq C dX1_endOf_146 (tgt := 184) (by decide) (fun c8 => ?_) (fun c8 => ?_)
            · exact loop (N + 1) i (by omega) (by omega) he.symm
            · exact absurd c8 (by decide)
          · refine g_aload_n C dX1_endOf_112 1 rfl ?_
            refine g_iload_n C dX1_endOf_113 3 rfl ?_
            refine g_iconst C dX1_endOf_114 (v := 1) (by decide) ?_
            refine g_iadd C dX1_endOf_115 ?_
            refine g_top (nI_add i 1) ?_
            refine g_callVi (n := 1) C (c_X1_look g b tr n fed tx ks fs ts ct pl N (i + 1) hN (by omega)) gX1_endOf_X1_look rfl rfl rfl rfl (by decide) (by decide) rfl (Nat.le_of_ble_eq_true rfl) dX1_endOf_116 ?_
            refine g_bipush C dX1_endOf_119 (v := 120) (by decide) ?_
            refine g_icmp_ne C dX1_endOf_121 (tgt := 141) (by decide) (fun c9 => ?_) (fun c9 => ?_)
            · refine g_iconst C dX1_endOf_141 (v := 0) (by decide) ?_
              refine g_istore (lv' := [(4, .int 0), (3, .int (nI i)), (0, .ref (b 0)), (1, .int 2), (2, .int (nI i))]) C dX1_endOf_142 (by decide) rfl ?_
              refine g_iload C dX1_endOf_144 0 rfl ?_
              refine g_if_eq C dX1_endOf_146 (tgt := 184) (by decide) (fun c10 => ?_) (fun c10 => ?_)
              · exact loop (N + 1) i (by omega) (by omega) he.symm
              · exact absurd c10 (by decide)
            · refine g_aload_n C dX1_endOf_124 1 rfl ?_
              refine g_iload_n C dX1_endOf_125 3 rfl ?_
              refine g_iconst C dX1_endOf_126 (v := 2) (by decide) ?_
              refine g_iadd C dX1_endOf_127 ?_
              refine g_top (nI_add i 2) ?_
              refine g_callVi (n := 1) C (c_X1_look g b tr n fed tx ks fs ts ct pl N (i + 2) hN (by omega)) gX1_endOf_X1_look rfl rfl rfl rfl (by decide) (by decide) rfl (Nat.le_of_ble_eq_true rfl) dX1_endOf_128 ?_
              refine g_callSi (n := 1) C (c_X1_sixteen g (look tx N (i + 2))) gX1_endOf_X1_sixteen rfl rfl (by decide) (by decide) rfl (Nat.le_of_ble_eq_true rfl) dX1_endOf_131 ?_
              refine g_if_lt C dX1_endOf_134 (tgt := 141) (by decide) (fun c11 => ?_) (fun c11 => ?_)
              · refine g_iconst C dX1_endOf_141 (v := 0) (by decide) ?_
                refine g_istore (lv' := [(4, .int 0), (3, .int (nI i)), (0, .ref (b 0)), (1, .int 2), (2, .int (nI i))]) C dX1_endOf_142 (by decide) rfl ?_
                refine g_iload C dX1_endOf_144 0 rfl ?_
                refine g_if_eq C dX1_endOf_146 (tgt := 184) (by decide) (fun c12 => ?_) (fun c12 => ?_)
                · exact loop (N + 1) i (by omega) (by omega) he.symm
                · exact absurd c12 (by decide)
              · exact absurd ⟨c7, c9, k_nlt (b := 0) (by decide) c11⟩ hx
        · exact absurd c6 hn
      · exact absurd c5 (by decide)
    · exact absurd c4 (by decide)
  · exact absurd c3 (by decide)
