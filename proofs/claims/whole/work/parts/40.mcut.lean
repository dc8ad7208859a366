set_option maxHeartbeats 4000000 in
set_option maxRecDepth 100000 in
theorem c_X1_cut (g : Gl) (b : Nat → Nat) (tr : Nat → Int32) (fed : Int32) (tx : Nat → Int32) (m : Int32) (ks fs ts : Nat → Int32) (ct pl : Int32) (N : Nat) (hN : N ≤ 16000) (hB : ∀ k, vp_nar .byte (tr k) = tr k) : Ctr g yX1_cut wsX1_cut ({ frames := 7, cells := 0, slots := 0, locals := 158 }) [.ref (b 0)] (mw g b tr (nI N) fed tx m ks fs ts ct pl) (some (.int (if (mrun (look (cpy tr tx N) N) N N ((skp (look (cpy tr tx N) N) N (N + 1) 0).1, (skp (look (cpy tr tx N) N) N (N + 1) 0).2, ks, fs, ts, 0)).2.1 = none then nI (mrun (look (cpy tr tx N) N) N N ((skp (look (cpy tr tx N) N) N (N + 1) 0).1, (skp (look (cpy tr tx N) N) N (N + 1) 0).2, ks, fs, ts, 0)).2.2.2.2.2 else -1))) (mw g b tr 0 fed (cpy tr tx N) (nI N) ((mrun (look (cpy tr tx N) N) N N ((skp (look (cpy tr tx N) N) N (N + 1) 0).1, (skp (look (cpy tr tx N) N) N (N + 1) 0).2, ks, fs, ts, 0)).2.2.1) ((mrun (look (cpy tr tx N) N) N N ((skp (look (cpy tr tx N) N) N (N + 1) 0).1, (skp (look (cpy tr tx N) N) N (N + 1) 0).2, ks, fs, ts, 0)).2.2.2.1) ((mrun (look (cpy tr tx N) N) N N ((skp (look (cpy tr tx N) N) N (N + 1) 0).1, (skp (look (cpy tr tx N) N) N (N + 1) 0).2, ks, fs, ts, 0)).2.2.2.2.1) (nI (mrun (look (cpy tr tx N) N) N N ((skp (look (cpy tr tx N) N) N (N + 1) 0).1, (skp (look (cpy tr tx N) N) N (N + 1) 0).2, ks, fs, ts, 0)).2.2.2.2.2) (stF (mrun (look (cpy tr tx N) N) N N ((skp (look (cpy tr tx N) N) N (N + 1) 0).1, (skp (look (cpy tr tx N) N) N (N + 1) 0).2, ks, fs, ts, 0)).2.1 (-1))) 0 0 := by
  refine Ctr.start (cc := cX1_cut) (maxL := 4) (ret := (some .int)) (by decide) rfl (Nat.le_of_ble_eq_true rfl) (lv0 := [(0, .ref (b 0))]) rfl ?_
  intro X C F
  have C : Ok g X cX1_cut RX1 wsX1_cut ({ frames := 7, cells := 0, slots := 0, locals := 158 }) (some .int) 4 := C
  have hin : ∀ w ∈ wsX10, w ∈ wsX1_cut := fun _ h => List.mem_cons_of_mem _ (List.mem_append_right _ h)
  have lk13 : Cond.fieldLink RX1 13 "TokenRowsModel" "text" "[B" ∈ wsX1_cut := by decide +kernel
  have lk16 : Cond.fieldLink RX1 16 "TokenRowsModel" "kinds" "[I" ∈ wsX1_cut := by decide +kernel
  have lk20 : Cond.fieldLink RX1 20 "TokenRowsModel" "froms" "[I" ∈ wsX1_cut := by decide +kernel
  have lk23 : Cond.fieldLink RX1 23 "TokenRowsModel" "tos" "[I" ∈ wsX1_cut := by decide +kernel
  have lk26 : Cond.fieldLink RX1 26 "TokenRowsModel" "place" "I" ∈ wsX1_cut := by decide +kernel
  have lk30 : Cond.fieldLink RX1 30 "TokenRowsModel" "trayed" "I" ∈ wsX1_cut := by decide +kernel
  have lk41 : Cond.fieldLink RX1 41 "TokenRowsModel" "size" "I" ∈ wsX1_cut := by decide +kernel
  have lk58 : Cond.fieldLink RX1 58 "TokenRowsModel" "tokens" "I" ∈ wsX1_cut := by decide +kernel
  have lk9 : Cond.fieldLink RX1 9 "TokenRowsModel" "tray" "[B" ∈ wsX1_cut := by decide +kernel
  obtain ⟨R, hR⟩ : ∃ R, R = mrun (look (cpy tr tx N) N) N N ((skp (look (cpy tr tx N) N) N (N + 1) 0).1, (skp (look (cpy tr tx N) N) N (N + 1) 0).2, ks, fs, ts, 0) := ⟨_, rfl⟩
  rw [← hR] at F
  have ex : (∀ p, R.2.1 = some p → p < N) → ∀ x1 : Int32, G g X (0, 0) (mw g b tr 0 fed (cpy tr tx N) (nI N) R.2.2.1 R.2.2.2.1 R.2.2.2.2.1 (nI R.2.2.2.2.2) (stF R.2.1 (-1))) 154 [(1, .int x1), (0, .ref (b 0))] [] := by
    intro hb x1
    refine g_aload_n C dX1_cut_154 1 rfl ?_
    refine g_get1 C hin 0 rfl 9 (by decide) lk26 rfl dX1_cut_155 ?_
    refine g_if_ge C dX1_cut_158 (tgt := 168) (by decide) (fun c1 => ?_) (fun c1 => ?_)
    · have hf := stF_some c1
      refine g_iconst C dX1_cut_168 (v := (-1)) (by decide) ?_
      exact g_iret C F (by rw [if_neg hf]) (rfl) dX1_cut_169
    · have hf : R.2.1 = none := stF_none hN hb c1
      refine g_aload_n C dX1_cut_161 1 rfl ?_
      refine g_get1 C hin 0 rfl 8 (by decide) lk58 rfl dX1_cut_162 ?_
      refine g_goto C dX1_cut_165 (tgt := 169) (by decide) ?_
      exact g_iret C F (by rw [if_pos hf]) (rfl) dX1_cut_169
  have fin : ∀ (s : MR), s.2.1 ≠ none → (∀ p, s.2.1 = some p → p < N) → s = R → ∀ x1 : Int32, G g X (0, 0) (mw g b tr 0 fed (cpy tr tx N) (nI N) s.2.2.1 s.2.2.2.1 s.2.2.2.2.1 (nI s.2.2.2.2.2) (stF s.2.1 (-1))) 57 [(1, .int x1), (0, .ref (b 0))] [] := by
    intro s hnn hb hsR x1
    refine g_aload_n C dX1_cut_57 1 rfl ?_
    refine g_get1 C hin 0 rfl 9 (by decide) lk26 rfl dX1_cut_58 ?_
    refine g_if_ge C dX1_cut_61 (tgt := 154) (by decide) (fun c2 => ?_) (fun c2 => ?_)
    · subst hsR
      exact ex hb _
    · exact absurd (stF_none hN hb c2) hnn
  have loop : ∀ (k0 f : Nat) (s : MR), N + 1 ≤ s.1 + k0 → N ≤ s.1 + f → s.1 ≤ N → (s.2.1 = none → s.2.2.2.2.2 ≤ s.1) → (∀ p, s.2.1 = some p → p < N) → mrun (look (cpy tr tx N) N) N f s = R → G g X (0, 0) (mw g b tr 0 fed (cpy tr tx N) (nI N) s.2.2.1 s.2.2.2.1 s.2.2.2.2.1 (nI s.2.2.2.2.2) (stF s.2.1 (-1))) 57 [(1, .int (nI s.1)), (0, .ref (b 0))] [] := by
    intro k0
    induction k0 with
    | zero => intro f s h1 h2 h3 h4 hb h5; omega
    | succ k0 ih =>
      intro f s h1 h2 h3 h4 hb h5
      refine g_aload_n C dX1_cut_57 1 rfl ?_
      refine g_get1 C hin 0 rfl 9 (by decide) lk26 rfl dX1_cut_58 ?_
      refine g_if_ge C dX1_cut_61 (tgt := 154) (by decide) (fun c3 => ?_) (fun c3 => ?_)
      · rw [mrun_stop (fun z => stF_some c3 z.1)] at h5
        subst h5
        exact ex hb _
      · have hf : s.2.1 = none := stF_none hN hb c3
        refine g_iload_n C dX1_cut_64 0 rfl ?_
        refine g_aload_n C dX1_cut_65 1 rfl ?_
        refine g_get1 C hin 0 rfl 4 (by decide) lk41 rfl dX1_cut_66 ?_
        refine g_icmp_ge C dX1_cut_69 (tgt := 154) (by decide) (fun c4 => ?_) (fun c4 => ?_)
        · have hk2 := (nI_leI (by omega) (by omega)).mp c4
          rw [mrun_stop (fun z => by omega)] at h5
          subst h5
          exact ex hb _
        · have hs1 : s.1 < N := Nat.not_le.mp (fun z => c4 (nI_le z (by omega)))
          obtain ⟨f, rfl⟩ : ∃ f9, f = f9 + 1 := ⟨f - 1, by omega⟩
          rw [mrun, if_pos ⟨hf, hs1⟩] at h5
          have hcs : s.2.2.2.2.2 ≤ s.1 := h4 hf
          refine g_ws (ws' := (mw g b tr 0 fed (cpy tr tx N) (nI N) s.2.2.1 s.2.2.2.1 s.2.2.2.2.1 (nI s.2.2.2.2.2) (-1))) (by rw [hf]; rfl) ?_
          refine g_aload_n C dX1_cut_72 1 rfl ?_
          refine g_iload_n C dX1_cut_73 0 rfl ?_
          refine g_callVi (n := 1) C (c_X1_kindAt g b tr 0 fed (cpy tr tx N) s.2.2.1 s.2.2.2.1 s.2.2.2.2.1 (nI s.2.2.2.2.2) (-1) N s.1 hN (by omega)) gX1_cut_X1_kindAt rfl rfl rfl rfl (by decide) (by decide) rfl (Nat.le_of_ble_eq_true rfl) dX1_cut_74 ?_
          refine g_istore_n (lv' := [(2, .int (mkd (look (cpy tr tx N) N) s.1)), (1, .int (nI s.1)), (0, .ref (b 0))]) C dX1_cut_77 (by decide) rfl ?_
          refine g_iload_n C dX1_cut_78 0 rfl ?_
          refine g_if_ne C dX1_cut_79 (tgt := 86) (by decide) (fun c5 => ?_) (fun c5 => ?_)
          · have hk0 := c5
            refine g_aload_n C dX1_cut_86 2 rfl ?_
            refine g_iload_n C dX1_cut_87 0 rfl ?_
            refine g_iload_n C dX1_cut_88 1 rfl ?_
            refine g_callVi (n := 2) C (c_X1_endOf g b tr 0 fed (cpy tr tx N) s.2.2.1 s.2.2.2.1 s.2.2.2.2.1 (nI s.2.2.2.2.2) (-1) N s.1 hN hs1 hk0) gX1_cut_X1_endOf rfl rfl rfl rfl (by decide) (by decide) rfl (Nat.le_of_ble_eq_true rfl) dX1_cut_89 ?_
            refine g_istore_n (lv' := [(3, .int (tkE (tok (look (cpy tr tx N) N) N s.1))), (2, .int (mkd (look (cpy tr tx N) N) s.1)), (1, .int (nI s.1)), (0, .ref (b 0))]) C dX1_cut_92 (by decide) rfl ?_
            refine g_iload_n C dX1_cut_93 0 rfl ?_
            refine g_if_ge C dX1_cut_94 (tgt := 105) (by decide) (fun c6 => ?_) (fun c6 => ?_)
            · obtain ⟨q, hto⟩ := tkE_some c6
              have hte := tok_end hs1 (look_ne hs1) hto
              refine g_lv (lv' := [(3, .int (nI q.2.2)), (2, .int (mkd (look (cpy tr tx N) N) s.1)), (1, .int (nI s.1)), (0, .ref (b 0))]) (by rw [hto]; rfl) ?_
              refine g_aload_n C dX1_cut_105 3 rfl ?_
              refine g_get1 C hin 0 rfl 5 (by decide) lk16 rfl dX1_cut_106 ?_
              refine g_aload_n C dX1_cut_109 3 rfl ?_
              refine g_get1 C hin 0 rfl 8 (by decide) lk58 rfl dX1_cut_110 ?_
              refine g_iload_n C dX1_cut_113 1 rfl ?_
              refine g_iast (ws' := (mw g b tr 0 fed (cpy tr tx N) (nI N) (upd s.2.2.1 s.2.2.2.2.2 (mkd (look (cpy tr tx N) N) s.1)) s.2.2.2.1 s.2.2.2.2.1 (nI s.2.2.2.2.2) (-1))) C 3 rfl (vp_in_nI (by omega) (by omega)) (by rw [nI_clamp (by omega)]; rfl) dX1_cut_114 ?_
              refine g_aload_n C dX1_cut_115 3 rfl ?_
              refine g_get1 C hin 0 rfl 6 (by decide) lk20 rfl dX1_cut_116 ?_
              refine g_aload_n C dX1_cut_119 3 rfl ?_
              refine g_get1 C hin 0 rfl 8 (by decide) lk58 rfl dX1_cut_120 ?_
              refine g_iload_n C dX1_cut_123 2 rfl ?_
              refine g_iast (ws' := (mw g b tr 0 fed (cpy tr tx N) (nI N) (upd s.2.2.1 s.2.2.2.2.2 (mkd (look (cpy tr tx N) N) s.1)) (upd s.2.2.2.1 s.2.2.2.2.2 (nI s.1)) s.2.2.2.2.1 (nI s.2.2.2.2.2) (-1))) C 4 rfl (vp_in_nI (by omega) (by omega)) (by rw [nI_clamp (by omega)]; rfl) dX1_cut_124 ?_
              refine g_aload_n C dX1_cut_125 3 rfl ?_
              refine g_get1 C hin 0 rfl 7 (by decide) lk23 rfl dX1_cut_126 ?_
              refine g_aload_n C dX1_cut_129 3 rfl ?_
              refine g_get1 C hin 0 rfl 8 (by decide) lk58 rfl dX1_cut_130 ?_
              refine g_iload_n C dX1_cut_133 0 rfl ?_
              refine g_iast (ws' := (mw g b tr 0 fed (cpy tr tx N) (nI N) (upd s.2.2.1 s.2.2.2.2.2 (mkd (look (cpy tr tx N) N) s.1)) (upd s.2.2.2.1 s.2.2.2.2.2 (nI s.1)) (upd s.2.2.2.2.1 s.2.2.2.2.2 (nI q.2.2)) (nI s.2.2.2.2.2) (-1))) C 5 rfl (vp_in_nI (by omega) (by omega)) (by rw [nI_clamp (by omega)]; rfl) dX1_cut_134 ?_
              refine g_aload_n C dX1_cut_135 3 rfl ?_
              refine g_dup C dX1_cut_136 rfl ?_
              refine g_get1 C hin 0 rfl 8 (by decide) lk58 rfl dX1_cut_137 ?_
              refine g_iconst C dX1_cut_140 (v := 1) (by decide) ?_
              refine g_iadd C dX1_cut_141 ?_
              refine g_top (nI_add s.2.2.2.2.2 1) ?_
              refine g_put1 (ws' := (mw g b tr 0 fed (cpy tr tx N) (nI N) (upd s.2.2.1 s.2.2.2.2.2 (mkd (look (cpy tr tx N) N) s.1)) (upd s.2.2.2.1 s.2.2.2.2.2 (nI s.1)) (upd s.2.2.2.2.1 s.2.2.2.2.2 (nI q.2.2)) (nI (s.2.2.2.2.2 + 1)) (-1))) C hin 0 rfl 8 (by decide) lk58 rfl rfl rfl (Nat.le_of_ble_eq_true rfl) rfl dX1_cut_142 ?_
              refine g_aload_n C dX1_cut_145 3 rfl ?_
              refine g_iload_n C dX1_cut_146 0 rfl ?_
              refine g_callVi (n := 1) C (c_X1_blanks g b tr 0 fed (cpy tr tx N) (upd s.2.2.1 s.2.2.2.2.2 (mkd (look (cpy tr tx N) N) s.1)) (upd s.2.2.2.1 s.2.2.2.2.2 (nI s.1)) (upd s.2.2.2.2.1 s.2.2.2.2.2 (nI q.2.2)) (nI (s.2.2.2.2.2 + 1)) N q.2.2 hN (by omega)) gX1_cut_X1_blanks rfl rfl rfl rfl (by decide) (by decide) rfl (Nat.le_of_ble_eq_true rfl) dX1_cut_147 ?_
              refine g_istore_n (lv' := [(1, .int (nI (skp (look (cpy tr tx N) N) N (N + 1 - q.2.2) q.2.2).1)), (3, .int (nI q.2.2)), (2, .int (mkd (look (cpy tr tx N) N) s.1)), (0, .ref (b 0))]) C dX1_cut_150 (by decide) rfl ?_
              refine g_goto C dX1_cut_151 (tgt := 57) (by decide) ?_
              refine g_sub [0, 3] rfl ?_
              have hsk := skp_ok (tx := cpy tr tx N) (N := N) (N + 1 - q.2.2) q.2.2 (by omega) (by omega)
              refine g_lv (lv' := [(1, .int (nI (mstep (look (cpy tr tx N) N) N s).1)), (0, .ref (b 0))]) (by rw [mstep_some hto]; rfl) ?_
              refine g_ws (ws' := (mw g b tr 0 fed (cpy tr tx N) (nI N) ((mstep (look (cpy tr tx N) N) N s).2.2.1) ((mstep (look (cpy tr tx N) N) N s).2.2.2.1) ((mstep (look (cpy tr tx N) N) N s).2.2.2.2.1) (nI (mstep (look (cpy tr tx N) N) N s).2.2.2.2.2) (stF (mstep (look (cpy tr tx N) N) N s).2.1 (-1)))) (by rw [mstep_some hto]) ?_
              rw [mstep_some hto] at h5 ⊢
              exact ih f _ (by dsimp only; omega) (by dsimp only; omega) (by dsimp only; omega) (fun _ => by dsimp only; omega) (fun p hp => hsk.2.2.1 p hp) h5
            · have hto := tkE_none hN (fun q hq => (tok_end hs1 (look_ne hs1) hq).2) c6
              refine g_aload_n C dX1_cut_97 3 rfl ?_
              refine g_iload_n C dX1_cut_98 2 rfl ?_
              refine g_put1 (ws' := (mw g b tr 0 fed (cpy tr tx N) (nI N) s.2.2.1 s.2.2.2.1 s.2.2.2.2.1 (nI s.2.2.2.2.2) (nI s.1))) C hin 0 rfl 9 (by decide) lk26 rfl rfl rfl (Nat.le_of_ble_eq_true rfl) rfl dX1_cut_99 ?_
              refine g_goto C dX1_cut_102 (tgt := 151) (by decide) ?_
              refine g_goto C dX1_cut_151 (tgt := 57) (by decide) ?_
              refine g_sub [2, 3] rfl ?_
              refine g_ws (ws' := (mw g b tr 0 fed (cpy tr tx N) (nI N) ((mstep (look (cpy tr tx N) N) N s).2.2.1) ((mstep (look (cpy tr tx N) N) N s).2.2.2.1) ((mstep (look (cpy tr tx N) N) N s).2.2.2.2.1) (nI (mstep (look (cpy tr tx N) N) N s).2.2.2.2.2) (stF (mstep (look (cpy tr tx N) N) N s).2.1 (-1)))) (by rw [mstep_none hto]; rfl) ?_
              exact fin (mstep (look (cpy tr tx N) N) N s) (by rw [mstep_none hto]; exact fun z => (by cases z)) (fun p hp => by rw [mstep_none hto] at hp; cases hp; exact hs1) (by rw [mrun_stop (by rw [mstep_none hto]; exact fun z => (by cases z.1))] at h5; exact h5) _
          · have hto := mkd0 (tx := cpy tr tx N) hN hs1 c5
            refine g_iconst C dX1_cut_82 (v := (-1)) (by decide) ?_
            refine g_goto C dX1_cut_83 (tgt := 92) (by decide) ?_
            refine g_istore_n (lv' := [(3, .int (-1)), (2, .int (mkd (look (cpy tr tx N) N) s.1)), (1, .int (nI s.1)), (0, .ref (b 0))]) C dX1_cut_92 (by decide) rfl ?_
            refine g_iload_n C dX1_cut_93 0 rfl ?_
            refine g_if_ge C dX1_cut_94 (tgt := 105) (by decide) (fun c7 => ?_) (fun c7 => ?_)
            · exact absurd c7 (by decide)
            · refine g_aload_n C dX1_cut_97 3 rfl ?_
              refine g_iload_n C dX1_cut_98 2 rfl ?_
              refine g_put1 (ws' := (mw g b tr 0 fed (cpy tr tx N) (nI N) s.2.2.1 s.2.2.2.1 s.2.2.2.2.1 (nI s.2.2.2.2.2) (nI s.1))) C hin 0 rfl 9 (by decide) lk26 rfl rfl rfl (Nat.le_of_ble_eq_true rfl) rfl dX1_cut_99 ?_
              refine g_goto C dX1_cut_102 (tgt := 151) (by decide) ?_
              refine g_goto C dX1_cut_151 (tgt := 57) (by decide) ?_
              refine g_sub [2, 3] rfl ?_
              refine g_ws (ws' := (mw g b tr 0 fed (cpy tr tx N) (nI N) ((mstep (look (cpy tr tx N) N) N s).2.2.1) ((mstep (look (cpy tr tx N) N) N s).2.2.2.1) ((mstep (look (cpy tr tx N) N) N s).2.2.2.2.1) (nI (mstep (look (cpy tr tx N) N) N s).2.2.2.2.2) (stF (mstep (look (cpy tr tx N) N) N s).2.1 (-1)))) (by rw [mstep_none hto]; rfl) ?_
              exact fin (mstep (look (cpy tr tx N) N) N s) (by rw [mstep_none hto]; exact fun z => (by cases z)) (fun p hp => by rw [mstep_none hto] at hp; cases hp; exact hs1) (by rw [mrun_stop (by rw [mstep_none hto]; exact fun z => (by cases z.1))] at h5; exact h5) _
  have cut2 : ∀ x1 : Int32, G g X (0, 0) (mw g b tr 0 fed (cpy tr tx N) (nI N) ks fs ts ct pl) 41 [(1, .int x1), (0, .ref (b 0))] [] := by
    intro x1
    refine g_aload_n C dX1_cut_41 1 rfl ?_
    refine g_iconst C dX1_cut_42 (v := nI 0) (by decide) ?_
    refine g_put1 (ws' := (mw g b tr 0 fed (cpy tr tx N) (nI N) ks fs ts (nI 0) pl)) C hin 0 rfl 8 (by decide) lk58 rfl rfl rfl (Nat.le_of_ble_eq_true rfl) rfl dX1_cut_43 ?_
    refine g_aload_n C dX1_cut_46 1 rfl ?_
    refine g_iconst C dX1_cut_47 (v := (-1)) (by decide) ?_
    refine g_put1 (ws' := (mw g b tr 0 fed (cpy tr tx N) (nI N) ks fs ts (nI 0) (-1))) C hin 0 rfl 9 (by decide) lk26 rfl rfl rfl (Nat.le_of_ble_eq_true rfl) rfl dX1_cut_48 ?_
    refine g_aload_n C dX1_cut_51 1 rfl ?_
    refine g_iconst C dX1_cut_52 (v := nI 0) (by decide) ?_
    refine g_callVi (n := 1) C (c_X1_blanks g b tr 0 fed (cpy tr tx N) ks fs ts (nI 0) N 0 hN (by omega)) gX1_cut_X1_blanks rfl rfl rfl rfl (by decide) (by decide) rfl (Nat.le_of_ble_eq_true rfl) dX1_cut_53 ?_
    refine g_istore_n (lv' := [(1, .int (nI (skp (look (cpy tr tx N) N) N (N + 1 - 0) 0).1)), (0, .ref (b 0))]) C dX1_cut_56 (by decide) rfl ?_
    refine g_lv (lv' := [(1, .int (nI (((skp (look (cpy tr tx N) N) N (N + 1) 0).1, (skp (look (cpy tr tx N) N) N (N + 1) 0).2, ks, fs, ts, 0) : MR).1)), (0, .ref (b 0))]) rfl ?_
    refine g_ws (ws' := (mw g b tr 0 fed (cpy tr tx N) (nI N) ((((skp (look (cpy tr tx N) N) N (N + 1) 0).1, (skp (look (cpy tr tx N) N) N (N + 1) 0).2, ks, fs, ts, 0) : MR).2.2.1) ((((skp (look (cpy tr tx N) N) N (N + 1) 0).1, (skp (look (cpy tr tx N) N) N (N + 1) 0).2, ks, fs, ts, 0) : MR).2.2.2.1) ((((skp (look (cpy tr tx N) N) N (N + 1) 0).1, (skp (look (cpy tr tx N) N) N (N + 1) 0).2, ks, fs, ts, 0) : MR).2.2.2.2.1) (nI (((skp (look (cpy tr tx N) N) N (N + 1) 0).1, (skp (look (cpy tr tx N) N) N (N + 1) 0).2, ks, fs, ts, 0) : MR).2.2.2.2.2) (stF (((skp (look (cpy tr tx N) N) N (N + 1) 0).1, (skp (look (cpy tr tx N) N) N (N + 1) 0).2, ks, fs, ts, 0) : MR).2.1 (-1)))) rfl ?_
    have hsk := skp_ok (tx := cpy tr tx N) (N := N) (N + 1) 0 (by omega) (by omega)
    exact loop (N + 1) N ((skp (look (cpy tr tx N) N) N (N + 1) 0).1, (skp (look (cpy tr tx N) N) N (N + 1) 0).2, ks, fs, ts, 0) (by dsimp only; omega) (by dsimp only; omega) hsk.2.1 (fun _ => by dsimp only; omega) (fun p hp => hsk.2.2.1 p hp) hR.symm
  have cpl : ∀ (k0 j : Nat), j ≤ N → N + 1 ≤ j + k0 → G g X (0, 0) (mw g b tr 0 fed (cpy tr tx j) (nI N) ks fs ts ct pl) 15 [(1, .int (nI j)), (0, .ref (b 0))] [] := by
    intro k0
    induction k0 with
    | zero => intro j h1 h2; omega
    | succ k0 ih =>
      intro j h1 h2
      refine g_iload_n C dX1_cut_15 0 rfl ?_
      refine g_aload_n C dX1_cut_16 1 rfl ?_
      refine g_get1 C hin 0 rfl 4 (by decide) lk41 rfl dX1_cut_17 ?_
      refine g_icmp_ge C dX1_cut_20 (tgt := 41) (by decide) (fun c8 => ?_) (fun c8 => ?_)
      · have hj := (nI_leI (by omega) (by omega)).mp c8
        have hj : j = N := by omega
        subst hj
        exact cut2 _
      · have hj : j < N := Nat.not_le.mp (fun z => c8 (nI_le z (by omega)))
        refine g_aload_n C dX1_cut_23 1 rfl ?_
        refine g_get1 C hin 0 rfl 3 (by decide) lk13 rfl dX1_cut_24 ?_
        refine g_iload_n C dX1_cut_27 0 rfl ?_
        refine g_aload_n C dX1_cut_28 1 rfl ?_
        refine g_get1 C hin 0 rfl 0 (by decide) lk9 rfl dX1_cut_29 ?_
        refine g_iload_n C dX1_cut_32 0 rfl ?_
        refine g_bald C 1 rfl (vp_in_nI (by omega) (by omega)) dX1_cut_33 ?_
        refine g_top (y := tr j) (by rw [nI_clamp (by omega)]) ?_
        refine g_bast (v := tr j) (ws' := (mw g b tr 0 fed (cpy tr tx (j + 1)) (nI N) ks fs ts ct pl)) C 2 rfl (vp_in_nI (by omega) (by omega)) (hB j) (by rw [nI_clamp (by omega), cpy_step]; rfl) dX1_cut_34 ?_
        refine g_iinc (o := 0) (v := nI (j + 1)) (lv' := [(1, .int (nI (j + 1))), (0, .ref (b 0))]) C dX1_cut_35 rfl (nI_add j 1) (by decide) rfl ?_
        refine g_goto C dX1_cut_38 (tgt := 15) (by decide) ?_
        exact ih (j + 1) (by omega) (by omega)
  refine g_aload_n C dX1_cut_0 0 rfl ?_
  refine g_aload_n C dX1_cut_1 0 rfl ?_
  refine g_get1 C hin 0 rfl 1 (by decide) lk30 rfl dX1_cut_2 ?_
  refine g_put1 (ws' := (mw g b tr (nI N) fed tx (nI N) ks fs ts ct pl)) C hin 0 rfl 4 (by decide) lk41 rfl rfl rfl (Nat.le_of_ble_eq_true rfl) rfl dX1_cut_5 ?_
  refine g_aload_n C dX1_cut_8 0 rfl ?_
  refine g_iconst C dX1_cut_9 (v := 0) (by decide) ?_
  refine g_put1 (ws' := (mw g b tr 0 fed tx (nI N) ks fs ts ct pl)) C hin 0 rfl 1 (by decide) lk30 rfl rfl rfl (Nat.le_of_ble_eq_true rfl) rfl dX1_cut_10 ?_
  refine g_iconst C dX1_cut_13 (v := 0) (by decide) ?_
  refine g_istore_n (lv' := [(1, .int 0), (0, .ref (b 0))]) C dX1_cut_14 (by decide) rfl ?_
  refine g_ws (ws' := (mw g b tr 0 fed (cpy tr tx 0) (nI N) ks fs ts ct pl)) (by rw [cpy_0]) ?_
  exact cpl (N + 1) 0 (by omega) (by omega)
