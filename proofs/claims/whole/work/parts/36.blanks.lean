set_option maxHeartbeats 4000000 in
set_option maxRecDepth 100000 in
theorem c_X1_blanks (g : Gl) (b : Nat → Nat) (tr : Nat → Int32) (n fed : Int32) (tx : Nat → Int32) (ks fs ts : Nat → Int32) (ct : Int32) (N i : Nat) (hN : N ≤ 16000) (hi : i ≤ N) : Ctr g yX1_blanks wsX1_blanks ({ frames := 2, cells := 0, slots := 0, locals := 40 }) [.ref (b 0), .int (nI i)] (mw g b tr n fed tx (nI N) ks fs ts ct (-1)) (some (.int (nI (skp (look tx N) N (N + 1 - i) i).1))) (mw g b tr n fed tx (nI N) ks fs ts ct (stF (skp (look tx N) N (N + 1 - i) i).2 (-1))) 0 0 := by
  refine Ctr.start (cc := cX1_blanks) (maxL := 7) (ret := (some .int)) (by decide) rfl (Nat.le_of_ble_eq_true rfl) (lv0 := [(0, .ref (b 0)), (1, .int (nI i))]) rfl ?_
  intro X C F
  have C : Ok g X cX1_blanks RX1 wsX1_blanks ({ frames := 2, cells := 0, slots := 0, locals := 40 }) (some .int) 7 := C
  have hin : ∀ w ∈ wsX10, w ∈ wsX1_blanks := fun _ h => List.mem_cons_of_mem _ (List.mem_append_right _ h)
  have lk26 : Cond.fieldLink RX1 26 "TokenRowsModel" "place" "I" ∈ wsX1_blanks := by decide +kernel
  obtain ⟨R, hR⟩ : ∃ R, R = skp (look tx N) N (N + 1 - i) i := ⟨_, rfl⟩
  rw [← hR] at F
  have loop : ∀ (f k : Nat), k ≤ N → N + 1 ≤ k + f → skp (look tx N) N f k = R → G g X (0, 0) (mw g b tr n fed tx (nI N) ks fs ts ct (-1)) 8 [(2, .int (nI k)), (3, .int 1), (0, .ref (b 0)), (1, .int (nI i))] [] := by
    intro f
    induction f with
    | zero => intro k h1 h2 h3; omega
    | succ f ih =>
      intro k h1 h2 h3
      rw [skp] at h3
      have remLin : bBlk (look tx N k) = false → look tx N k = 47 ∧ look tx N (k + 1) = 47 → G g X (0, 0) (mw g b tr n fed tx (nI N) ks fs ts ct (-1)) 105 [(3, .int 1), (5, .int 0), (4, .int 1), (2, .int (nI k)), (0, .ref (b 0)), (1, .int (nI i))] [] := by
        intro hb hc
        have hl := look_ltN hc.2 (by decide)
        rw [if_neg (by rw [hb]; decide), if_pos hc] at h3
        obtain ⟨e, he⟩ : ∃ e, e = scan (pLin (look tx N)) N (k + 2) := ⟨_, rfl⟩
        have he1 : k + 2 ≤ e := by rw [he]; exact scan_ge _ _ _
        have he2 : e ≤ N := by rw [he]; exact scan_le (by omega)
        have hat : e < N → pLin (look tx N) e = false := fun q => by have := scan_at (p := pLin (look tx N)) (N := N) (i := k + 2) (by rw [← he]; exact q); rw [← he] at this; exact this
        have ex : G g X (0, 0) (mw g b tr n fed tx (nI N) ks fs ts ct (-1)) 180 [(6, .int (nI e)), (3, .int 1), (5, .int 0), (4, .int 1), (2, .int (nI k)), (0, .ref (b 0)), (1, .int (nI i))] [] := by
          refine g_aload_n C dX1_blanks_180 5 rfl ?_
          refine g_iload C dX1_blanks_181 0 rfl ?_
          refine g_callVi (n := 1) C (c_X1_look g b tr n fed tx ks fs ts ct (-1) N e hN (by omega)) gX1_blanks_X1_look rfl rfl rfl rfl (by decide) (by decide) rfl (Nat.le_of_ble_eq_true rfl) dX1_blanks_183 ?_
          refine g_if_lt C dX1_blanks_186 (tgt := 210) (by decide) (fun c1 => ?_) (fun c1 => ?_)
          · have hge := look_neg (k_lt (b := 0) (by decide) c1)
            have hno := lin_none (L := look tx N) (N := N) (i := k) (by rw [← he]; omega)
            rw [if_pos hno, show (stpLin (look tx N) N k).1 = e from he.symm] at h3
            refine g_iload C dX1_blanks_210 2 rfl ?_
            refine g_if_eq C dX1_blanks_212 (tgt := 229) (by decide) (fun c2 => ?_) (fun c2 => ?_)
            · refine g_aload_n C dX1_blanks_229 5 rfl ?_
              refine g_get1 C hin 0 rfl 9 (by decide) lk26 rfl dX1_blanks_230 ?_
              refine g_if_lt C dX1_blanks_233 (tgt := 238) (by decide) (fun c3 => ?_) (fun c3 => ?_)
              · refine g_iload C dX1_blanks_238 3 rfl ?_
                refine g_if_eq C dX1_blanks_240 (tgt := 248) (by decide) (fun c4 => ?_) (fun c4 => ?_)
                · exact absurd c4 (by decide)
                · refine g_iload C dX1_blanks_243 0 rfl ?_
                  refine g_goto C dX1_blanks_245 (tgt := 252) (by decide) ?_
                  refine g_istore_n (lv' := [(2, .int (nI e)), (6, .int (nI e)), (3, .int 1), (5, .int 0), (4, .int 1), (0, .ref (b 0)), (1, .int (nI i))]) C dX1_blanks_252 (by decide) rfl ?_
                  refine g_goto C dX1_blanks_253 (tgt := 4) (by decide) ?_
                  refine g_iload_n C dX1_blanks_4 2 rfl ?_
                  refine g_if_eq C dX1_blanks_5 (tgt := 256) (by decide) (fun c5 => ?_) (fun c5 => ?_)
                  · exact absurd c5 (by decide)
                  · refine g_sub [0, 2, 5, 6] rfl ?_
                    exact ih e (by omega) (by omega) h3
              · exact absurd c3 (by decide)
            · exact absurd c2 (by decide)
          · have hlt := look_pos (k_nlt (b := 0) (by decide) c1)
            refine g_aload_n C dX1_blanks_189 5 rfl ?_
            refine g_iload C dX1_blanks_190 0 rfl ?_
            refine g_callVi (n := 1) C (c_X1_look g b tr n fed tx ks fs ts ct (-1) N e hN (by omega)) gX1_blanks_X1_look rfl rfl rfl rfl (by decide) (by decide) rfl (Nat.le_of_ble_eq_true rfl) dX1_blanks_192 ?_
            refine g_callSi (n := 1) C (c_X1_isAllowed g (look tx N e)) gX1_blanks_X1_isAllowed rfl rfl (by decide) (by decide) rfl (Nat.le_of_ble_eq_true rfl) dX1_blanks_195 ?_
            refine g_if_ne C dX1_blanks_198 (tgt := 210) (by decide) (fun c6 => ?_) (fun c6 => ?_)
            · have hal := b01_1.mp c6
              have h10 : look tx N e = 10 := by
                have q := hat hlt
                unfold pLin at q
                rw [hal, Bool.and_true] at q
                exact Classical.byContradiction (fun z => absurd (decide_eq_true z) (by rw [q]; decide))
              have hno := lin_none (L := look tx N) (N := N) (i := k) (by rw [← he]; exact fun z => z.2 h10)
              rw [if_pos hno, show (stpLin (look tx N) N k).1 = e from he.symm] at h3
              refine g_iload C dX1_blanks_210 2 rfl ?_
              refine g_if_eq C dX1_blanks_212 (tgt := 229) (by decide) (fun c7 => ?_) (fun c7 => ?_)
              · refine g_aload_n C dX1_blanks_229 5 rfl ?_
                refine g_get1 C hin 0 rfl 9 (by decide) lk26 rfl dX1_blanks_230 ?_
                refine g_if_lt C dX1_blanks_233 (tgt := 238) (by decide) (fun c8 => ?_) (fun c8 => ?_)
                · refine g_iload C dX1_blanks_238 3 rfl ?_
                  refine g_if_eq C dX1_blanks_240 (tgt := 248) (by decide) (fun c9 => ?_) (fun c9 => ?_)
                  · exact absurd c9 (by decide)
                  · refine g_iload C dX1_blanks_243 0 rfl ?_
                    refine g_goto C dX1_blanks_245 (tgt := 252) (by decide) ?_
                    refine g_istore_n (lv' := [(2, .int (nI e)), (6, .int (nI e)), (3, .int 1), (5, .int 0), (4, .int 1), (0, .ref (b 0)), (1, .int (nI i))]) C dX1_blanks_252 (by decide) rfl ?_
                    refine g_goto C dX1_blanks_253 (tgt := 4) (by decide) ?_
                    refine g_iload_n C dX1_blanks_4 2 rfl ?_
                    refine g_if_eq C dX1_blanks_5 (tgt := 256) (by decide) (fun c10 => ?_) (fun c10 => ?_)
                    · exact absurd c10 (by decide)
                    · refine g_sub [0, 2, 5, 6] rfl ?_
                      exact ih e (by omega) (by omega) h3
                · exact absurd c8 (by decide)
              · exact absurd c7 (by decide)
            · have hal := bMay_f (b01_0.mp c6)
              have h10 : ¬ look tx N e = 10 := fun z => hal (by rw [z]; decide)
              have hso := lin_some (L := look tx N) (N := N) (i := k) (by rw [← he]; exact ⟨hlt, h10⟩)
              rw [if_neg (by rw [hso]; exact fun z => (by cases z)), hso, ← he] at h3
              refine g_aload_n C dX1_blanks_201 5 rfl ?_
              refine g_iload C dX1_blanks_202 0 rfl ?_
              refine g_put1 (ws' := (mw g b tr n fed tx (nI N) ks fs ts ct (nI e))) C hin 0 rfl 9 (by decide) lk26 rfl rfl rfl (Nat.le_of_ble_eq_true rfl) rfl dX1_blanks_204 ?_
              refine g_goto C dX1_blanks_207 (tgt := 229) (by decide) ?_
              refine g_aload_n C dX1_blanks_229 5 rfl ?_
              refine g_get1 C hin 0 rfl 9 (by decide) lk26 rfl dX1_blanks_230 ?_
              refine g_if_lt C dX1_blanks_233 (tgt := 238) (by decide) (fun c11 => ?_) (fun c11 => ?_)
              · exact absurd c11 (nI_pos (by omega))
              · refine g_iload_n C dX1_blanks_236 4 rfl ?_
                exact g_iret C F (by rw [← h3]) (by rw [← h3]; rfl) dX1_blanks_237
        have lp : ∀ (f2 j : Nat), j ≤ N → N + 1 ≤ j + f2 → scan (pLin (look tx N)) N j = e → G g X (0, 0) (mw g b tr n fed tx (nI N) ks fs ts ct (-1)) 110 [(6, .int (nI j)), (3, .int 1), (5, .int 0), (4, .int 1), (2, .int (nI k)), (0, .ref (b 0)), (1, .int (nI i))] [] := by
          intro f2
          induction f2 with
          | zero => intro j q1 q2 q3; omega
          | succ f2 ih2 =>
            intro j q1 q2 q3
            refine g_aload_n C dX1_blanks_110 5 rfl ?_
            refine g_iload C dX1_blanks_111 0 rfl ?_
            refine g_callVi (n := 1) C (c_X1_look g b tr n fed tx ks fs ts ct (-1) N j hN (by omega)) gX1_blanks_X1_look rfl rfl rfl rfl (by decide) (by decide) rfl (Nat.le_of_ble_eq_true rfl) dX1_blanks_113 ?_
            refine g_if_lt C dX1_blanks_116 (tgt := 180) (by decide) (fun c12 => ?_) (fun c12 => ?_)
            · have hge := look_neg (k_lt (b := 0) (by decide) c12)
              rw [scan_end hge] at q3
              subst q3
              exact ex
            · have hj := look_pos (k_nlt (b := 0) (by decide) c12)
              refine g_aload_n C dX1_blanks_119 5 rfl ?_
              refine g_iload C dX1_blanks_120 0 rfl ?_
              refine g_callVi (n := 1) C (c_X1_look g b tr n fed tx ks fs ts ct (-1) N j hN (by omega)) gX1_blanks_X1_look rfl rfl rfl rfl (by decide) (by decide) rfl (Nat.le_of_ble_eq_true rfl) dX1_blanks_122 ?_
              refine g_callSi (n := 1) C (c_X1_isAllowed g (look tx N j)) gX1_blanks_X1_isAllowed rfl rfl (by decide) (by decide) rfl (Nat.le_of_ble_eq_true rfl) dX1_blanks_125 ?_
              refine g_if_eq C dX1_blanks_128 (tgt := 180) (by decide) (fun c13 => ?_) (fun c13 => ?_)
              · rw [scan_stop (show pLin (look tx N) j = false by unfold pLin; rw [b01_0.mp c13, Bool.and_false])] at q3
                subst q3
                exact ex
              · have hal := b01_1.mp c13
                refine g_iload C dX1_blanks_131 3 rfl ?_
                refine g_if_eq C dX1_blanks_133 (tgt := 150) (by decide) (fun c14 => ?_) (fun c14 => ?_)
                · exact absurd c14 (by decide)
                · refine g_aload_n C dX1_blanks_136 5 rfl ?_
                  refine g_iload C dX1_blanks_137 0 rfl ?_
                  refine g_callVi (n := 1) C (c_X1_look g b tr n fed tx ks fs ts ct (-1) N j hN (by omega)) gX1_blanks_X1_look rfl rfl rfl rfl (by decide) (by decide) rfl (Nat.le_of_ble_eq_true rfl) dX1_blanks_139 ?_
                  refine g_bipush C dX1_blanks_142 (v := 10) (by decide) ?_
                  refine g_icmp_ne C dX1_blanks_144 (tgt := 174) (by decide) (fun c15 => ?_) (fun c15 => ?_)
                  · rw [scan_step hj (show pLin (look tx N) j = true by unfold pLin; rw [hal, decide_eq_true c15]; rfl)] at q3
                    refine g_iinc (o := 0) (v := nI (j + 1)) (lv' := [(6, .int (nI (j + 1))), (3, .int 1), (5, .int 0), (4, .int 1), (2, .int (nI k)), (0, .ref (b 0)), (1, .int (nI i))]) C dX1_blanks_174 rfl (nI_add j 1) (by decide) rfl ?_
                    refine g_goto C dX1_blanks_177 (tgt := 110) (by decide) ?_
                    exact ih2 (j + 1) (by omega) (by omega) q3
                  · refine g_goto C dX1_blanks_147 (tgt := 180) (by decide) ?_
                    rw [scan_stop (show pLin (look tx N) j = false by unfold pLin; rw [decide_eq_false (fun z => z c15)]; rfl)] at q3
                    subst q3
                    exact ex
        refine g_iload_n C dX1_blanks_105 3 rfl ?_
        refine g_iconst C dX1_blanks_106 (v := 2) (by decide) ?_
        refine g_iadd C dX1_blanks_107 ?_
        refine g_top (nI_add k 2) ?_
        refine g_istore (lv' := [(6, .int (nI (k + 2))), (3, .int 1), (5, .int 0), (4, .int 1), (2, .int (nI k)), (0, .ref (b 0)), (1, .int (nI i))]) C dX1_blanks_108 (by decide) rfl ?_
        exact lp (N + 1) (k + 2) (by omega) (by omega) he.symm
      have remStar : bBlk (look tx N k) = false → look tx N k = 47 ∧ look tx N (k + 1) = 42 → G g X (0, 0) (mw g b tr n fed tx (nI N) ks fs ts ct (-1)) 105 [(3, .int 1), (5, .int 1), (4, .int 0), (2, .int (nI k)), (0, .ref (b 0)), (1, .int (nI i))] [] := by
        intro hb hc
        have hl := look_ltN hc.2 (by decide)
        rw [if_neg (by rw [hb]; decide), if_neg (fun z => absurd (z.2.symm.trans hc.2) (by decide)), if_pos hc] at h3
        obtain ⟨e, he⟩ : ∃ e, e = scan (pStar (look tx N)) N (k + 2) := ⟨_, rfl⟩
        have he1 : k + 2 ≤ e := by rw [he]; exact scan_ge _ _ _
        have he2 : e ≤ N := by rw [he]; exact scan_le (by omega)
        have hat : e < N → pStar (look tx N) e = false := fun q => by have := scan_at (p := pStar (look tx N)) (N := N) (i := k + 2) (by rw [← he]; exact q); rw [← he] at this; exact this
        have ex : G g X (0, 0) (mw g b tr n fed tx (nI N) ks fs ts ct (-1)) 180 [(6, .int (nI e)), (3, .int 1), (5, .int 1), (4, .int 0), (2, .int (nI k)), (0, .ref (b 0)), (1, .int (nI i))] [] := by
          refine g_aload_n C dX1_blanks_180 5 rfl ?_
          refine g_iload C dX1_blanks_181 0 rfl ?_
          refine g_callVi (n := 1) C (c_X1_look g b tr n fed tx ks fs ts ct (-1) N e hN (by omega)) gX1_blanks_X1_look rfl rfl rfl rfl (by decide) (by decide) rfl (Nat.le_of_ble_eq_true rfl) dX1_blanks_183 ?_
          refine g_if_lt C dX1_blanks_186 (tgt := 210) (by decide) (fun c16 => ?_) (fun c16 => ?_)
          · have hge := look_neg (k_lt (b := 0) (by decide) c16)
            have hso := star_end (L := look tx N) (N := N) (i := k) (by rw [← he]; omega)
            rw [if_neg (by rw [hso]; exact fun z => (by cases z)), hso] at h3
            refine g_iload C dX1_blanks_210 2 rfl ?_
            refine g_if_eq C dX1_blanks_212 (tgt := 229) (by decide) (fun c17 => ?_) (fun c17 => ?_)
            · exact absurd c17 (by decide)
            · refine g_aload_n C dX1_blanks_215 5 rfl ?_
              refine g_iload C dX1_blanks_216 0 rfl ?_
              refine g_callVi (n := 1) C (c_X1_look g b tr n fed tx ks fs ts ct (-1) N e hN (by omega)) gX1_blanks_X1_look rfl rfl rfl rfl (by decide) (by decide) rfl (Nat.le_of_ble_eq_true rfl) dX1_blanks_218 ?_
              refine g_if_ge C dX1_blanks_221 (tgt := 229) (by decide) (fun c18 => ?_) (fun c18 => ?_)
              · exact absurd (k_ge (b := 0) (by decide) c18) (by have := look_rng tx N e; omega)
              · refine g_aload_n C dX1_blanks_224 5 rfl ?_
                refine g_iload_n C dX1_blanks_225 4 rfl ?_
                refine g_put1 (ws' := (mw g b tr n fed tx (nI N) ks fs ts ct (nI k))) C hin 0 rfl 9 (by decide) lk26 rfl rfl rfl (Nat.le_of_ble_eq_true rfl) rfl dX1_blanks_226 ?_
                refine g_aload_n C dX1_blanks_229 5 rfl ?_
                refine g_get1 C hin 0 rfl 9 (by decide) lk26 rfl dX1_blanks_230 ?_
                refine g_if_lt C dX1_blanks_233 (tgt := 238) (by decide) (fun c19 => ?_) (fun c19 => ?_)
                · exact absurd c19 (nI_pos (by omega))
                · refine g_iload_n C dX1_blanks_236 4 rfl ?_
                  exact g_iret C F (by rw [← h3]) (by rw [← h3]; rfl) dX1_blanks_237
          · have hlt := look_pos (k_nlt (b := 0) (by decide) c16)
            refine g_aload_n C dX1_blanks_189 5 rfl ?_
            refine g_iload C dX1_blanks_190 0 rfl ?_
            refine g_callVi (n := 1) C (c_X1_look g b tr n fed tx ks fs ts ct (-1) N e hN (by omega)) gX1_blanks_X1_look rfl rfl rfl rfl (by decide) (by decide) rfl (Nat.le_of_ble_eq_true rfl) dX1_blanks_192 ?_
            refine g_callSi (n := 1) C (c_X1_isAllowed g (look tx N e)) gX1_blanks_X1_isAllowed rfl rfl (by decide) (by decide) rfl (Nat.le_of_ble_eq_true rfl) dX1_blanks_195 ?_
            refine g_if_ne C dX1_blanks_198 (tgt := 210) (by decide) (fun c20 => ?_) (fun c20 => ?_)
            · have hal := b01_1.mp c20
              have h10 : look tx N e = 42 ∧ look tx N (e + 1) = 47 := by
                have q := hat hlt
                unfold pStar at q
                rw [hal, Bool.and_true] at q
                exact Classical.byContradiction (fun z => absurd (decide_eq_true z) (by rw [q]; decide))
              have hl2 := look_ltN h10.2 (by decide)
              have hno := star_none (L := look tx N) (N := N) (i := k) (by rw [← he]; exact hlt) (by rw [← he]; exact h10)
              rw [if_pos hno.1, hno.2, ← he] at h3
              refine g_iload C dX1_blanks_210 2 rfl ?_
              refine g_if_eq C dX1_blanks_212 (tgt := 229) (by decide) (fun c21 => ?_) (fun c21 => ?_)
              · exact absurd c21 (by decide)
              · refine g_aload_n C dX1_blanks_215 5 rfl ?_
                refine g_iload C dX1_blanks_216 0 rfl ?_
                refine g_callVi (n := 1) C (c_X1_look g b tr n fed tx ks fs ts ct (-1) N e hN (by omega)) gX1_blanks_X1_look rfl rfl rfl rfl (by decide) (by decide) rfl (Nat.le_of_ble_eq_true rfl) dX1_blanks_218 ?_
                refine g_if_ge C dX1_blanks_221 (tgt := 229) (by decide) (fun c22 => ?_) (fun c22 => ?_)
                · refine g_aload_n C dX1_blanks_229 5 rfl ?_
                  refine g_get1 C hin 0 rfl 9 (by decide) lk26 rfl dX1_blanks_230 ?_
                  refine g_if_lt C dX1_blanks_233 (tgt := 238) (by decide) (fun c23 => ?_) (fun c23 => ?_)
                  · refine g_iload C dX1_blanks_238 3 rfl ?_
                    refine g_if_eq C dX1_blanks_240 (tgt := 248) (by decide) (fun c24 => ?_) (fun c24 => ?_)
                    · refine g_iload C dX1_blanks_248 0 rfl ?_
                      refine g_iconst C dX1_blanks_250 (v := 2) (by decide) ?_
                      refine g_iadd C dX1_blanks_251 ?_
                      refine g_top (nI_add e 2) ?_
                      refine g_istore_n (lv' := [(2, .int (nI (e + 2))), (6, .int (nI e)), (3, .int 1), (5, .int 1), (4, .int 0), (0, .ref (b 0)), (1, .int (nI i))]) C dX1_blanks_252 (by decide) rfl ?_
                      refine g_goto C dX1_blanks_253 (tgt := 4) (by decide) ?_
                      refine g_iload_n C dX1_blanks_4 2 rfl ?_
                      refine g_if_eq C dX1_blanks_5 (tgt := 256) (by decide) (fun c25 => ?_) (fun c25 => ?_)
                      · exact absurd c25 (by decide)
                      · refine g_sub [0, 2, 5, 6] rfl ?_
                        exact ih (e + 2) (by omega) (by omega) h3
                    · exact absurd c24 (by decide)
                  · exact absurd c23 (by decide)
                · exact absurd (k_nge (b := 0) (by decide) c22) (by have := look_rng tx N e; omega)
            · have hal := bMay_f (b01_0.mp c20)
              have h10 : ¬ (look tx N e = 42 ∧ look tx N (e + 1) = 47) := fun z => hal (by rw [z.1]; decide)
              have hso := star_bad (L := look tx N) (N := N) (i := k) (by rw [← he]; exact hlt) (by rw [← he]; exact h10)
              rw [if_neg (by rw [hso]; exact fun z => (by cases z)), hso, ← he] at h3
              refine g_aload_n C dX1_blanks_201 5 rfl ?_
              refine g_iload C dX1_blanks_202 0 rfl ?_
              refine g_put1 (ws' := (mw g b tr n fed tx (nI N) ks fs ts ct (nI e))) C hin 0 rfl 9 (by decide) lk26 rfl rfl rfl (Nat.le_of_ble_eq_true rfl) rfl dX1_blanks_204 ?_
              refine g_goto C dX1_blanks_207 (tgt := 229) (by decide) ?_
              refine g_aload_n C dX1_blanks_229 5 rfl ?_
              refine g_get1 C hin 0 rfl 9 (by decide) lk26 rfl dX1_blanks_230 ?_
              refine g_if_lt C dX1_blanks_233 (tgt := 238) (by decide) (fun c26 => ?_) (fun c26 => ?_)
              · exact absurd c26 (nI_pos (by omega))
              · refine g_iload_n C dX1_blanks_236 4 rfl ?_
                exact g_iret C F (by rw [← h3]) (by rw [← h3]; rfl) dX1_blanks_237
        have lp : ∀ (f2 j : Nat), j ≤ N → N + 1 ≤ j + f2 → scan (pStar (look tx N)) N j = e → G g X (0, 0) (mw g b tr n fed tx (nI N) ks fs ts ct (-1)) 110 [(6, .int (nI j)), (3, .int 1), (5, .int 1), (4, .int 0), (2, .int (nI k)), (0, .ref (b 0)), (1, .int (nI i))] [] := by
          intro f2
          induction f2 with
          | zero => intro j q1 q2 q3; omega
          | succ f2 ih2 =>
            intro j q1 q2 q3
            refine g_aload_n C dX1_blanks_110 5 rfl ?_
            refine g_iload C dX1_blanks_111 0 rfl ?_
            refine g_callVi (n := 1) C (c_X1_look g b tr n fed tx ks fs ts ct (-1) N j hN (by omega)) gX1_blanks_X1_look rfl rfl rfl rfl (by decide) (by decide) rfl (Nat.le_of_ble_eq_true rfl) dX1_blanks_113 ?_
            refine g_if_lt C dX1_blanks_116 (tgt := 180) (by decide) (fun c27 => ?_) (fun c27 => ?_)
            · have hge := look_neg (k_lt (b := 0) (by decide) c27)
              rw [scan_end hge] at q3
              subst q3
              exact ex
            · have hj := look_pos (k_nlt (b := 0) (by decide) c27)
              refine g_aload_n C dX1_blanks_119 5 rfl ?_
              refine g_iload C dX1_blanks_120 0 rfl ?_
              refine g_callVi (n := 1) C (c_X1_look g b tr n fed tx ks fs ts ct (-1) N j hN (by omega)) gX1_blanks_X1_look rfl rfl rfl rfl (by decide) (by decide) rfl (Nat.le_of_ble_eq_true rfl) dX1_blanks_122 ?_
              refine g_callSi (n := 1) C (c_X1_isAllowed g (look tx N j)) gX1_blanks_X1_isAllowed rfl rfl (by decide) (by decide) rfl (Nat.le_of_ble_eq_true rfl) dX1_blanks_125 ?_
              refine g_if_eq C dX1_blanks_128 (tgt := 180) (by decide) (fun c28 => ?_) (fun c28 => ?_)
              · rw [scan_stop (show pStar (look tx N) j = false by unfold pStar; rw [b01_0.mp c28, Bool.and_false])] at q3
                subst q3
                exact ex
              · have hal := b01_1.mp c28
                refine g_iload C dX1_blanks_131 3 rfl ?_
                refine g_if_eq C dX1_blanks_133 (tgt := 150) (by decide) (fun c29 => ?_) (fun c29 => ?_)
                · refine g_aload_n C dX1_blanks_150 5 rfl ?_
                  refine g_iload C dX1_blanks_151 0 rfl ?_
                  refine g_callVi (n := 1) C (c_X1_look g b tr n fed tx ks fs ts ct (-1) N j hN (by omega)) gX1_blanks_X1_look rfl rfl rfl rfl (by decide) (by decide) rfl (Nat.le_of_ble_eq_true rfl) dX1_blanks_153 ?_
                  refine g_bipush C dX1_blanks_156 (v := 42) (by decide) ?_
                  refine g_icmp_ne C dX1_blanks_158 (tgt := 174) (by decide) (fun c30 => ?_) (fun c30 => ?_)
                  · rw [scan_step hj (show pStar (look tx N) j = true by unfold pStar; rw [hal, decide_eq_true (show ¬ (look tx N j = 42 ∧ look tx N (j + 1) = 47) from fun z => c30 z.1)]; rfl)] at q3
                    refine g_iinc (o := 0) (v := nI (j + 1)) (lv' := [(6, .int (nI (j + 1))), (3, .int 1), (5, .int 1), (4, .int 0), (2, .int (nI k)), (0, .ref (b 0)), (1, .int (nI i))]) C dX1_blanks_174 rfl (nI_add j 1) (by decide) rfl ?_
                    refine g_goto C dX1_blanks_177 (tgt := 110) (by decide) ?_
                    exact ih2 (j + 1) (by omega) (by omega) q3
                  · have h42 := c30
                    refine g_aload_n C dX1_blanks_161 5 rfl ?_
                    refine g_iload C dX1_blanks_162 0 rfl ?_
                    refine g_iconst C dX1_blanks_164 (v := 1) (by decide) ?_
                    refine g_iadd C dX1_blanks_165 ?_
                    refine g_top (nI_add j 1) ?_
                    refine g_callVi (n := 1) C (c_X1_look g b tr n fed tx ks fs ts ct (-1) N (j + 1) hN (by omega)) gX1_blanks_X1_look rfl rfl rfl rfl (by decide) (by decide) rfl (Nat.le_of_ble_eq_true rfl) dX1_blanks_166 ?_
                    refine g_bipush C dX1_blanks_169 (v := 47) (by decide) ?_
                    refine g_icmp_eq C dX1_blanks_171 (tgt := 180) (by decide) (fun c31 => ?_) (fun c31 => ?_)
                    · rw [scan_stop (show pStar (look tx N) j = false by unfold pStar; rw [decide_eq_false (fun z => z ⟨h42, c31⟩)]; rfl)] at q3
                      subst q3
                      exact ex
                    · rw [scan_step hj (show pStar (look tx N) j = true by unfold pStar; rw [hal, decide_eq_true (show ¬ (look tx N j = 42 ∧ look tx N (j + 1) = 47) from fun z => c31 z.2)]; rfl)] at q3
                      refine g_iinc (o := 0) (v := nI (j + 1)) (lv' := [(6, .int (nI (j + 1))), (3, .int 1), (5, .int 1), (4, .int 0), (2, .int (nI k)), (0, .ref (b 0)), (1, .int (nI i))]) C dX1_blanks_174 rfl (nI_add j 1) (by decide) rfl ?_
                      refine g_goto C dX1_blanks_177 (tgt := 110) (by decide) ?_
                      exact ih2 (j + 1) (by omega) (by omega) q3
                · exact absurd c29 (by decide)
        refine g_iload_n C dX1_blanks_105 3 rfl ?_
        refine g_iconst C dX1_blanks_106 (v := 2) (by decide) ?_
        refine g_iadd C dX1_blanks_107 ?_
        refine g_top (nI_add k 2) ?_
        refine g_istore (lv' := [(6, .int (nI (k + 2))), (3, .int 1), (5, .int 1), (4, .int 0), (2, .int (nI k)), (0, .ref (b 0)), (1, .int (nI i))]) C dX1_blanks_108 (by decide) rfl ?_
        exact lp (N + 1) (k + 2) (by omega) (by omega) he.symm
      refine g_aload_n C dX1_blanks_8 2 rfl ?_
      refine g_iload_n C dX1_blanks_9 0 rfl ?_
      refine g_callVi (n := 1) C (c_X1_look g b tr n fed tx ks fs ts ct (-1) N k hN (by omega)) gX1_blanks_X1_look rfl rfl rfl rfl (by decide) (by decide) rfl (Nat.le_of_ble_eq_true rfl) dX1_blanks_10 ?_
      refine g_callSi (n := 1) C (c_X1_isBlank g (look tx N k)) gX1_blanks_X1_isBlank rfl rfl (by decide) (by decide) rfl (Nat.le_of_ble_eq_true rfl) dX1_blanks_13 ?_
      refine g_if_eq C dX1_blanks_16 (tgt := 25) (by decide) (fun c32 => ?_) (fun c32 => ?_)
      · have hb := b01_0.mp c32
        refine g_aload_n C dX1_blanks_25 2 rfl ?_
        refine g_iload_n C dX1_blanks_26 0 rfl ?_
        refine g_callVi (n := 1) C (c_X1_look g b tr n fed tx ks fs ts ct (-1) N k hN (by omega)) gX1_blanks_X1_look rfl rfl rfl rfl (by decide) (by decide) rfl (Nat.le_of_ble_eq_true rfl) dX1_blanks_27 ?_
        refine g_bipush C dX1_blanks_30 (v := 47) (by decide) ?_
        refine g_icmp_ne C dX1_blanks_32 (tgt := 51) (by decide) (fun c33 => ?_) (fun c33 => ?_)
        · refine g_iconst C dX1_blanks_51 (v := 0) (by decide) ?_
          refine g_istore (lv' := [(4, .int 0), (2, .int (nI k)), (3, .int 1), (0, .ref (b 0)), (1, .int (nI i))]) C dX1_blanks_52 (by decide) rfl ?_
          refine g_aload_n C dX1_blanks_54 3 rfl ?_
          refine g_iload_n C dX1_blanks_55 1 rfl ?_
          refine g_callVi (n := 1) C (c_X1_look g b tr n fed tx ks fs ts ct (-1) N k hN (by omega)) gX1_blanks_X1_look rfl rfl rfl rfl (by decide) (by decide) rfl (Nat.le_of_ble_eq_true rfl) dX1_blanks_56 ?_
          refine g_bipush C dX1_blanks_59 (v := 47) (by decide) ?_
          refine g_icmp_ne C dX1_blanks_61 (tgt := 80) (by decide) (fun c34 => ?_) (fun c34 => ?_)
          · refine g_iconst C dX1_blanks_80 (v := 0) (by decide) ?_
            refine g_istore (lv' := [(5, .int 0), (4, .int 0), (2, .int (nI k)), (3, .int 1), (0, .ref (b 0)), (1, .int (nI i))]) C dX1_blanks_81 (by decide) rfl ?_
            refine g_iload C dX1_blanks_83 1 rfl ?_
            refine g_if_ne C dX1_blanks_85 (tgt := 93) (by decide) (fun c35 => ?_) (fun c35 => ?_)
            · exact absurd c35 (by decide)
            · refine g_iload C dX1_blanks_88 0 rfl ?_
              refine g_if_eq C dX1_blanks_90 (tgt := 97) (by decide) (fun c36 => ?_) (fun c36 => ?_)
              · refine g_iconst C dX1_blanks_97 (v := 0) (by decide) ?_
                refine g_istore_n (lv' := [(3, .int 0), (5, .int 0), (4, .int 0), (2, .int (nI k)), (0, .ref (b 0)), (1, .int (nI i))]) C dX1_blanks_98 (by decide) rfl ?_
                refine g_iload_n C dX1_blanks_99 0 rfl ?_
                refine g_if_ne C dX1_blanks_100 (tgt := 105) (by decide) (fun c37 => ?_) (fun c37 => ?_)
                · exact absurd c37 (by decide)
                · rw [if_neg (by rw [hb]; decide), if_neg (fun z => c33 z.1), if_neg (fun z => c33 z.1)] at h3
                  refine g_iload_n C dX1_blanks_103 3 rfl ?_
                  exact g_iret C F (by rw [← h3]) (by rw [← h3]; rfl) dX1_blanks_104
              · exact absurd c36 (by decide)
          · exact absurd c34 c33
        · refine g_aload_n C dX1_blanks_35 2 rfl ?_
          refine g_iload_n C dX1_blanks_36 0 rfl ?_
          refine g_iconst C dX1_blanks_37 (v := 1) (by decide) ?_
          refine g_iadd C dX1_blanks_38 ?_
          refine g_top (nI_add k 1) ?_
          refine g_callVi (n := 1) C (c_X1_look g b tr n fed tx ks fs ts ct (-1) N (k + 1) hN (by omega)) gX1_blanks_X1_look rfl rfl rfl rfl (by decide) (by decide) rfl (Nat.le_of_ble_eq_true rfl) dX1_blanks_39 ?_
          refine g_bipush C dX1_blanks_42 (v := 47) (by decide) ?_
          refine g_icmp_ne C dX1_blanks_44 (tgt := 51) (by decide) (fun c38 => ?_) (fun c38 => ?_)
          · refine g_iconst C dX1_blanks_51 (v := 0) (by decide) ?_
            refine g_istore (lv' := [(4, .int 0), (2, .int (nI k)), (3, .int 1), (0, .ref (b 0)), (1, .int (nI i))]) C dX1_blanks_52 (by decide) rfl ?_
            refine g_aload_n C dX1_blanks_54 3 rfl ?_
            refine g_iload_n C dX1_blanks_55 1 rfl ?_
            refine g_callVi (n := 1) C (c_X1_look g b tr n fed tx ks fs ts ct (-1) N k hN (by omega)) gX1_blanks_X1_look rfl rfl rfl rfl (by decide) (by decide) rfl (Nat.le_of_ble_eq_true rfl) dX1_blanks_56 ?_
            refine g_bipush C dX1_blanks_59 (v := 47) (by decide) ?_
            refine g_icmp_ne C dX1_blanks_61 (tgt := 80) (by decide) (fun c39 => ?_) (fun c39 => ?_)
            · exact absurd c33 c39
            · refine g_aload_n C dX1_blanks_64 3 rfl ?_
              refine g_iload_n C dX1_blanks_65 1 rfl ?_
              refine g_iconst C dX1_blanks_66 (v := 1) (by decide) ?_
              refine g_iadd C dX1_blanks_67 ?_
              refine g_top (nI_add k 1) ?_
              refine g_callVi (n := 1) C (c_X1_look g b tr n fed tx ks fs ts ct (-1) N (k + 1) hN (by omega)) gX1_blanks_X1_look rfl rfl rfl rfl (by decide) (by decide) rfl (Nat.le_of_ble_eq_true rfl) dX1_blanks_68 ?_
              refine g_bipush C dX1_blanks_71 (v := 42) (by decide) ?_
              refine g_icmp_ne C dX1_blanks_73 (tgt := 80) (by decide) (fun c40 => ?_) (fun c40 => ?_)
              · refine g_iconst C dX1_blanks_80 (v := 0) (by decide) ?_
                refine g_istore (lv' := [(5, .int 0), (4, .int 0), (2, .int (nI k)), (3, .int 1), (0, .ref (b 0)), (1, .int (nI i))]) C dX1_blanks_81 (by decide) rfl ?_
                refine g_iload C dX1_blanks_83 1 rfl ?_
                refine g_if_ne C dX1_blanks_85 (tgt := 93) (by decide) (fun c41 => ?_) (fun c41 => ?_)
                · exact absurd c41 (by decide)
                · refine g_iload C dX1_blanks_88 0 rfl ?_
                  refine g_if_eq C dX1_blanks_90 (tgt := 97) (by decide) (fun c42 => ?_) (fun c42 => ?_)
                  · refine g_iconst C dX1_blanks_97 (v := 0) (by decide) ?_
                    refine g_istore_n (lv' := [(3, .int 0), (5, .int 0), (4, .int 0), (2, .int (nI k)), (0, .ref (b 0)), (1, .int (nI i))]) C dX1_blanks_98 (by decide) rfl ?_
                    refine g_iload_n C dX1_blanks_99 0 rfl ?_
                    refine g_if_ne C dX1_blanks_100 (tgt := 105) (by decide) (fun c43 => ?_) (fun c43 => ?_)
                    · exact absurd c43 (by decide)
                    · rw [if_neg (by rw [hb]; decide), if_neg (fun z => c38 z.2), if_neg (fun z => c40 z.2)] at h3
                      refine g_iload_n C dX1_blanks_103 3 rfl ?_
                      exact g_iret C F (by rw [← h3]) (by rw [← h3]; rfl) dX1_blanks_104
                  · exact absurd c42 (by decide)
              · refine g_iconst C dX1_blanks_76 (v := 1) (by decide) ?_
                refine g_goto C dX1_blanks_77 (tgt := 81) (by decide) ?_
                refine g_istore (lv' := [(5, .int 1), (4, .int 0), (2, .int (nI k)), (3, .int 1), (0, .ref (b 0)), (1, .int (nI i))]) C dX1_blanks_81 (by decide) rfl ?_
                refine g_iload C dX1_blanks_83 1 rfl ?_
                refine g_if_ne C dX1_blanks_85 (tgt := 93) (by decide) (fun c44 => ?_) (fun c44 => ?_)
                · exact absurd c44 (by decide)
                · refine g_iload C dX1_blanks_88 0 rfl ?_
                  refine g_if_eq C dX1_blanks_90 (tgt := 97) (by decide) (fun c45 => ?_) (fun c45 => ?_)
                  · exact absurd c45 (by decide)
                  · refine g_iconst C dX1_blanks_93 (v := 1) (by decide) ?_
                    refine g_goto C dX1_blanks_94 (tgt := 98) (by decide) ?_
                    refine g_istore_n (lv' := [(3, .int 1), (5, .int 1), (4, .int 0), (2, .int (nI k)), (0, .ref (b 0)), (1, .int (nI i))]) C dX1_blanks_98 (by decide) rfl ?_
                    refine g_iload_n C dX1_blanks_99 0 rfl ?_
                    refine g_if_ne C dX1_blanks_100 (tgt := 105) (by decide) (fun c46 => ?_) (fun c46 => ?_)
                    · exact remStar hb ⟨c33, c40⟩
                    · exact absurd c46 (by decide)
          · refine g_iconst C dX1_blanks_47 (v := 1) (by decide) ?_
            refine g_goto C dX1_blanks_48 (tgt := 52) (by decide) ?_
            refine g_istore (lv' := [(4, .int 1), (2, .int (nI k)), (3, .int 1), (0, .ref (b 0)), (1, .int (nI i))]) C dX1_blanks_52 (by decide) rfl ?_
            refine g_aload_n C dX1_blanks_54 3 rfl ?_
            refine g_iload_n C dX1_blanks_55 1 rfl ?_
            refine g_callVi (n := 1) C (c_X1_look g b tr n fed tx ks fs ts ct (-1) N k hN (by omega)) gX1_blanks_X1_look rfl rfl rfl rfl (by decide) (by decide) rfl (Nat.le_of_ble_eq_true rfl) dX1_blanks_56 ?_
            refine g_bipush C dX1_blanks_59 (v := 47) (by decide) ?_
            refine g_icmp_ne C dX1_blanks_61 (tgt := 80) (by decide) (fun c47 => ?_) (fun c47 => ?_)
            · exact absurd c33 c47
            · refine g_aload_n C dX1_blanks_64 3 rfl ?_
              refine g_iload_n C dX1_blanks_65 1 rfl ?_
              refine g_iconst C dX1_blanks_66 (v := 1) (by decide) ?_
              refine g_iadd C dX1_blanks_67 ?_
              refine g_top (nI_add k 1) ?_
              refine g_callVi (n := 1) C (c_X1_look g b tr n fed tx ks fs ts ct (-1) N (k + 1) hN (by omega)) gX1_blanks_X1_look rfl rfl rfl rfl (by decide) (by decide) rfl (Nat.le_of_ble_eq_true rfl) dX1_blanks_68 ?_
              refine g_bipush C dX1_blanks_71 (v := 42) (by decide) ?_
              refine g_icmp_ne C dX1_blanks_73 (tgt := 80) (by decide) (fun c48 => ?_) (fun c48 => ?_)
              · refine g_iconst C dX1_blanks_80 (v := 0) (by decide) ?_
                refine g_istore (lv' := [(5, .int 0), (4, .int 1), (2, .int (nI k)), (3, .int 1), (0, .ref (b 0)), (1, .int (nI i))]) C dX1_blanks_81 (by decide) rfl ?_
                refine g_iload C dX1_blanks_83 1 rfl ?_
                refine g_if_ne C dX1_blanks_85 (tgt := 93) (by decide) (fun c49 => ?_) (fun c49 => ?_)
                · refine g_iconst C dX1_blanks_93 (v := 1) (by decide) ?_
                  refine g_goto C dX1_blanks_94 (tgt := 98) (by decide) ?_
                  refine g_istore_n (lv' := [(3, .int 1), (5, .int 0), (4, .int 1), (2, .int (nI k)), (0, .ref (b 0)), (1, .int (nI i))]) C dX1_blanks_98 (by decide) rfl ?_
                  refine g_iload_n C dX1_blanks_99 0 rfl ?_
                  refine g_if_ne C dX1_blanks_100 (tgt := 105) (by decide) (fun c50 => ?_) (fun c50 => ?_)
                  · exact remLin hb ⟨c33, c38⟩
                  · exact absurd c50 (by decide)
                · exact absurd c49 (by decide)
              · exact absurd (c38.symm.trans c48) (by decide)
      · have hb := b01_1.mp c32
        have hk : k < N := look_pos (tx := tx) (by have := bBlk_t hb; omega)
        rw [if_pos hb] at h3
        refine g_iinc (o := 0) (v := nI (k + 1)) (lv' := [(2, .int (nI (k + 1))), (3, .int 1), (0, .ref (b 0)), (1, .int (nI i))]) C dX1_blanks_19 rfl (nI_add k 1) (by decide) rfl ?_
        refine g_goto C dX1_blanks_22 (tgt := 8) (by decide) ?_
        exact ih (k + 1) (by omega) (by omega) h3
  refine g_iload_n C dX1_blanks_0 1 rfl ?_
  refine g_istore_n (lv' := [(2, .int (nI i)), (0, .ref (b 0)), (1, .int (nI i))]) C dX1_blanks_1 (by decide) rfl ?_
  refine g_iconst C dX1_blanks_2 (v := 1) (by decide) ?_
  refine g_istore_n (lv' := [(3, .int 1), (2, .int (nI i)), (0, .ref (b 0)), (1, .int (nI i))]) C dX1_blanks_3 (by decide) rfl ?_
  refine g_iload_n C dX1_blanks_4 0 rfl ?_
  refine g_if_eq C dX1_blanks_5 (tgt := 256) (by decide) (fun c51 => ?_) (fun c51 => ?_)
  · exact absurd c51 (by decide)
  · refine g_sub [1, 0, 2, 3] rfl ?_
    exact loop (N + 1 - i) i hi (by omega) hR.symm
