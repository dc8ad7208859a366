/-- the class's cells while the two rows are exchanged: what the fields tray and text hold stands apart -/
def twq (g : Gl) (a : Nat → Nat) (f0 f3 aT aX : Nat) (tr : Nat → Int32) (n fed : Int32) (tx : Nat → Int32) (m ln fa : Int32) (T : TK) : va_W :=
  [(a 0, .inr (0, [.ref f0, .int n, .int fed, .ref f3, .int m, .int ln, .int fa, .ref (a 3), .ref (a 4), .ref (a 5), .ref (a 6), .ref (a 7), .int T.2.2.2.2.2])), (aT, .inl (gB g, 16000, .inl tr)), (aX, .inl (gB g, 16000, .inl tx)), (a 3, .inl (gI g, 16000, .inl T.1)), (a 4, .inl (gI g, 16000, .inl T.2.1)), (a 5, .inl (gI g, 16000, .inl T.2.2.1)), (a 6, .inl (gI g, 16000, .inl T.2.2.2.1)), (a 7, .inl (gI g, 16000, .inl T.2.2.2.2.1))]
set_option maxHeartbeats 4000000 in
set_option maxRecDepth 100000 in
theorem c_X0_takeTray (g : Gl) (a : Nat → Nat) (aT aX : Nat) (tr : Nat → Int32) (n fed : Int32) (tx : Nat → Int32) (m ln fa : Int32) (T : TK) : Ctr g yX0_takeTray wsX0_takeTray ({ frames := 0, cells := 0, slots := 0, locals := 0 }) [.ref (a 0)] (tw g a aT aX tr n fed tx m ln fa T) (none) (tw g a aX aT tx 0 fed tr n 1 (-1) (T.1, T.2.1, T.2.2.1, T.2.2.2.1, T.2.2.2.2.1, 0)) 0 0 := by
  refine Ctr.start (cc := cX0_takeTray) (maxL := 2) (ret := none) (by decide) rfl (Nat.le_of_ble_eq_true rfl) (lv0 := [(0, .ref (a 0))]) rfl ?_
  intro X C F
  have C : Ok g X cX0_takeTray RX0 wsX0_takeTray ({ frames := 0, cells := 0, slots := 0, locals := 0 }) none 2 := C
  have hin : ∀ w ∈ wsX00, w ∈ wsX0_takeTray := fun _ h => List.mem_cons_of_mem _ (List.mem_append_right _ h)
  have lk13 : Cond.fieldLink RX0 13 "TokenRows" "text" "[B" ∈ wsX0_takeTray := by decide +kernel
  have lk32 : Cond.fieldLink RX0 32 "TokenRows" "traySize" "I" ∈ wsX0_takeTray := by decide +kernel
  have lk39 : Cond.fieldLink RX0 39 "TokenRows" "textSize" "I" ∈ wsX0_takeTray := by decide +kernel
  have lk42 : Cond.fieldLink RX0 42 "TokenRows" "lineNow" "I" ∈ wsX0_takeTray := by decide +kernel
  have lk45 : Cond.fieldLink RX0 45 "TokenRows" "fault" "I" ∈ wsX0_takeTray := by decide +kernel
  have lk48 : Cond.fieldLink RX0 48 "TokenRows" "count" "I" ∈ wsX0_takeTray := by decide +kernel
  have lk9 : Cond.fieldLink RX0 9 "TokenRows" "tray" "[B" ∈ wsX0_takeTray := by decide +kernel
  refine g_ws (ws' := (twq g a aT aX aT aX tr n fed tx m ln fa T)) rfl ?_
  refine g_aload_n C dX0_takeTray_0 0 rfl ?_
  refine g_get0 C hin 0 rfl 3 (by decide) lk13 rfl dX0_takeTray_1 ?_
  refine g_astore_n (lv' := [(1, .ref aX), (0, .ref (a 0))]) C dX0_takeTray_4 (by decide) rfl ?_
  refine g_aload_n C dX0_takeTray_5 1 rfl ?_
  refine g_aload_n C dX0_takeTray_6 1 rfl ?_
  refine g_get0 C hin 0 rfl 0 (by decide) lk9 rfl dX0_takeTray_7 ?_
  refine g_put0 (ws' := (twq g a aT aT aT aX tr n fed tx m ln fa T)) C hin 0 rfl 3 (by decide) lk13 rfl rfl rfl (Nat.le_of_ble_eq_true rfl) rfl dX0_takeTray_10 ?_
  refine g_aload_n C dX0_takeTray_13 1 rfl ?_
  refine g_aload_n C dX0_takeTray_14 1 rfl ?_
  refine g_get0 C hin 0 rfl 1 (by decide) lk32 rfl dX0_takeTray_15 ?_
  refine g_put0 (ws' := (twq g a aT aT aT aX tr n fed tx n ln fa T)) C hin 0 rfl 4 (by decide) lk39 rfl rfl rfl (Nat.le_of_ble_eq_true rfl) rfl dX0_takeTray_18 ?_
  refine g_aload_n C dX0_takeTray_21 1 rfl ?_
  refine g_aload_n C dX0_takeTray_22 0 rfl ?_
  refine g_put0 (ws' := (twq g a aX aT aT aX tr n fed tx n ln fa T)) C hin 0 rfl 0 (by decide) lk9 rfl rfl rfl (Nat.le_of_ble_eq_true rfl) rfl dX0_takeTray_23 ?_
  refine g_aload_n C dX0_takeTray_26 1 rfl ?_
  refine g_iconst C dX0_takeTray_27 (v := 0) (by decide) ?_
  refine g_put0 (ws' := (twq g a aX aT aT aX tr 0 fed tx n ln fa T)) C hin 0 rfl 1 (by decide) lk32 rfl rfl rfl (Nat.le_of_ble_eq_true rfl) rfl dX0_takeTray_28 ?_
  refine g_aload_n C dX0_takeTray_31 1 rfl ?_
  refine g_iconst C dX0_takeTray_32 (v := 1) (by decide) ?_
  refine g_put0 (ws' := (twq g a aX aT aT aX tr 0 fed tx n 1 fa T)) C hin 0 rfl 5 (by decide) lk42 rfl rfl rfl (Nat.le_of_ble_eq_true rfl) rfl dX0_takeTray_33 ?_
  refine g_aload_n C dX0_takeTray_36 1 rfl ?_
  refine g_iconst C dX0_takeTray_37 (v := (-1)) (by decide) ?_
  refine g_put0 (ws' := (twq g a aX aT aT aX tr 0 fed tx n 1 (-1) T)) C hin 0 rfl 6 (by decide) lk45 rfl rfl rfl (Nat.le_of_ble_eq_true rfl) rfl dX0_takeTray_38 ?_
  refine g_aload_n C dX0_takeTray_41 1 rfl ?_
  refine g_iconst C dX0_takeTray_42 (v := 0) (by decide) ?_
  refine g_put0 (ws' := (twq g a aX aT aT aX tr 0 fed tx n 1 (-1) (T.1, T.2.1, T.2.2.1, T.2.2.2.1, T.2.2.2.2.1, 0))) C hin 0 rfl 12 (by decide) lk48 rfl rfl rfl (Nat.le_of_ble_eq_true rfl) rfl dX0_takeTray_43 ?_
  refine g_perm [0, 2, 1, 3, 4, 5, 6, 7] (by decide) rfl rfl ?_
  exact g_vret C F (rfl) dX0_takeTray_46
set_option maxHeartbeats 4000000 in
set_option maxRecDepth 100000 in
theorem c_X0_cut (g : Gl) (a : Nat → Nat) (aT aX : Nat) (tr : Nat → Int32) (fed : Int32) (tx : Nat → Int32) (m ln fa : Int32) (T : TK) (N : Nat) (hN : N ≤ 16000) : Ctr g yX0_cut wsX0_cut ({ frames := 4, cells := 0, slots := 0, locals := 91 }) [.ref (a 0)] (tw g a aT aX tr (nI N) fed tx m ln fa T) (some (.int (if (crun (look tr N) N N (0, none, 1, (T.1, T.2.1, T.2.2.1, T.2.2.2.1, T.2.2.2.2.1, 0), 0)).2.1 = none then (crun (look tr N) N N (0, none, 1, (T.1, T.2.1, T.2.2.1, T.2.2.2.1, T.2.2.2.2.1, 0), 0)).2.2.2.1.2.2.2.2.2 else -1))) (tw g a aX aT tx 0 fed tr (nI N) (nI (crun (look tr N) N N (0, none, 1, (T.1, T.2.1, T.2.2.1, T.2.2.2.1, T.2.2.2.2.1, 0), 0)).2.2.1) (stF (crun (look tr N) N N (0, none, 1, (T.1, T.2.1, T.2.2.1, T.2.2.2.1, T.2.2.2.2.1, 0), 0)).2.1 (-1)) (crun (look tr N) N N (0, none, 1, (T.1, T.2.1, T.2.2.1, T.2.2.2.1, T.2.2.2.2.1, 0), 0)).2.2.2.1) 0 0 := by
  refine Ctr.start (cc := cX0_cut) (maxL := 3) (ret := (some .int)) (by decide) rfl (Nat.le_of_ble_eq_true rfl) (lv0 := [(0, .ref (a 0))]) rfl ?_
  intro X C F
  have C : Ok g X cX0_cut RX0 wsX0_cut ({ frames := 4, cells := 0, slots := 0, locals := 91 }) (some .int) 3 := C
  have hin : ∀ w ∈ wsX00, w ∈ wsX0_cut := fun _ h => List.mem_cons_of_mem _ (List.mem_append_right _ h)
  have lk39 : Cond.fieldLink RX0 39 "TokenRows" "textSize" "I" ∈ wsX0_cut := by decide +kernel
  have lk45 : Cond.fieldLink RX0 45 "TokenRows" "fault" "I" ∈ wsX0_cut := by decide +kernel
  have lk48 : Cond.fieldLink RX0 48 "TokenRows" "count" "I" ∈ wsX0_cut := by decide +kernel
  obtain ⟨R, hR⟩ : ∃ R, R = crun (look tr N) N N (0, none, 1, (T.1, T.2.1, T.2.2.1, T.2.2.2.1, T.2.2.2.2.1, 0), 0) := ⟨_, rfl⟩
  rw [← hR] at F
  have ex : (∀ p, R.2.1 = some p → p < N) → ∀ x1 x2 : Int32, G g X (0, 0) (tw g a aX aT tx 0 fed tr (nI N) (nI R.2.2.1) (stF R.2.1 (-1)) R.2.2.2.1) 43 [(2, .int x2), (1, .int x1), (0, .ref (a 0))] [] := by
    intro hb x1 x2
    refine g_aload_n C dX0_cut_43 2 rfl ?_
    refine g_get0 C hin 0 rfl 6 (by decide) lk45 rfl dX0_cut_44 ?_
    refine g_if_ge C dX0_cut_47 (tgt := 57) (by decide) (fun c1 => ?_) (fun c1 => ?_)
    · have hf := stF_some c1
      refine g_iconst C dX0_cut_57 (v := (-1)) (by decide) ?_
      exact g_iret C F (by rw [if_neg hf]) (rfl) dX0_cut_58
    · have hf : R.2.1 = none := stF_none hN hb c1
      refine g_aload_n C dX0_cut_50 2 rfl ?_
      refine g_get0 C hin 0 rfl 12 (by decide) lk48 rfl dX0_cut_51 ?_
      refine g_goto C dX0_cut_54 (tgt := 58) (by decide) ?_
      exact g_iret C F (by rw [if_pos hf]) (rfl) dX0_cut_58
  have loop : ∀ (k0 k f : Nat) (s : Run), k + f = N → N + 1 ≤ k + k0 → s.1 ≤ N → s.2.2.2.1.2.2.2.2.2 = nI s.2.2.2.2 → (s.2.2.2.2 ≤ s.1 ∨ s.2.1 ≠ none ∧ s.2.2.2.2 ≤ N) → (∀ p, s.2.1 = some p → p < N) → crun (look tr N) N f s = R → G g X (0, 0) (tw g a aX aT tx 0 fed tr (nI N) (nI s.2.2.1) (stF s.2.1 (-1)) s.2.2.2.1) 8 [(2, .int (nI k)), (1, .int (nI s.1)), (0, .ref (a 0))] [] := by
    intro k0
    induction k0 with
    | zero => intro k f s h0 h1 h2 h3 h4 hb h5; omega
    | succ k0 ih =>
      intro k f s h0 h1 h2 h3 h4 hb h5
      refine g_iload_n C dX0_cut_8 0 rfl ?_
      refine g_aload_n C dX0_cut_9 2 rfl ?_
      refine g_get0 C hin 0 rfl 4 (by decide) lk39 rfl dX0_cut_10 ?_
      refine g_icmp_ge C dX0_cut_13 (tgt := 43) (by decide) (fun c2 => ?_) (fun c2 => ?_)
      · have hk := (nI_leI (by omega) (by omega)).mp c2
        have hf0 : f = 0 := by omega
        subst hf0
        rw [crun] at h5
        subst h5
        exact ex hb _ _
      · have hk : k < N := Nat.not_le.mp (fun z => c2 (nI_le z (by omega)))
        obtain ⟨f, rfl⟩ : ∃ f9, f = f9 + 1 := ⟨f - 1, by omega⟩
        refine g_iload_n C dX0_cut_16 1 rfl ?_
        refine g_aload_n C dX0_cut_17 2 rfl ?_
        refine g_get0 C hin 0 rfl 4 (by decide) lk39 rfl dX0_cut_18 ?_
        refine g_icmp_ge C dX0_cut_21 (tgt := 43) (by decide) (fun c3 => ?_) (fun c3 => ?_)
        · have hk2 := (nI_leI (by omega) (by omega)).mp c3
          rw [crun, if_neg (fun z => by omega)] at h5
          subst h5
          exact ex hb _ _
        · have hs1 : s.1 < N := Nat.not_le.mp (fun z => c3 (nI_le z (by omega)))
          refine g_aload_n C dX0_cut_24 2 rfl ?_
          refine g_get0 C hin 0 rfl 6 (by decide) lk45 rfl dX0_cut_25 ?_
          refine g_if_ge C dX0_cut_28 (tgt := 43) (by decide) (fun c4 => ?_) (fun c4 => ?_)
          · rw [crun, if_neg (fun z => stF_some c4 z.2)] at h5
            subst h5
            exact ex hb _ _
          · have hf : s.2.1 = none := stF_none hN hb c4
            rw [crun, if_pos ⟨hs1, hf⟩] at h5
            refine g_aload_n C dX0_cut_31 2 rfl ?_
            refine g_iload_n C dX0_cut_32 1 rfl ?_
            refine g_callVi (n := 1) C (c_X0_pastBlankOrToken g a aX aT tx 0 fed tr (nI s.2.2.1) (stF s.2.1 (-1)) s.2.2.2.1 N s.2.2.2.2 s.1 hN hs1 h3 (by have := run_lt h4 hf; omega)) gX0_cut_X0_pastBlankOrToken rfl rfl rfl rfl (by decide) (by decide) rfl (Nat.le_of_ble_eq_true rfl) dX0_cut_33 ?_
            refine g_istore_n (lv' := [(1, .int (nI (stp (look tr N) N s.1).1)), (2, .int (nI k)), (0, .ref (a 0))]) C dX0_cut_36 (by decide) rfl ?_
            refine g_iinc (o := 1) (v := nI (k + 1)) (lv' := [(2, .int (nI (k + 1))), (1, .int (nI (stp (look tr N) N s.1).1)), (0, .ref (a 0))]) C dX0_cut_37 rfl (nI_add k 1) (by decide) rfl ?_
            refine g_goto C dX0_cut_40 (tgt := 8) (by decide) ?_
            have hp := stp_prog (tx := tr) hs1
            refine g_ws (ws' := (tw g a aX aT tx 0 fed tr (nI N) (nI (rstep (look tr N) N s).2.2.1) (stF (rstep (look tr N) N s).2.1 (-1)) ((rstep (look tr N) N s).2.2.2.1))) (by rw [hf, nI_add]; rfl) ?_
            exact ih (k + 1) f (rstep (look tr N) N s) (by omega) (by omega) hp.2.1 (run_T h3) (run_c hs1 hf h4) (fun p hp => stp_fa hs1 hp) h5
  refine g_aload_n C dX0_cut_0 0 rfl ?_
  refine g_callVv (n := 0) C (c_X0_takeTray g a aT aX tr (nI N) fed tx m ln fa T) gX0_cut_X0_takeTray rfl rfl rfl rfl (by decide) (by decide) rfl (Nat.le_of_ble_eq_true rfl) dX0_cut_1 ?_
  refine g_iconst C dX0_cut_4 (v := 0) (by decide) ?_
  refine g_istore_n (lv' := [(1, .int 0), (0, .ref (a 0))]) C dX0_cut_5 (by decide) rfl ?_
  refine g_iconst C dX0_cut_6 (v := 0) (by decide) ?_
  refine g_istore_n (lv' := [(2, .int 0), (1, .int 0), (0, .ref (a 0))]) C dX0_cut_7 (by decide) rfl ?_
  refine g_ws (ws' := (tw g a aX aT tx 0 fed tr (nI N) (nI (((0, none, 1, (T.1, T.2.1, T.2.2.1, T.2.2.2.1, T.2.2.2.2.1, 0), 0) : Run)).2.2.1) (stF (((0, none, 1, (T.1, T.2.1, T.2.2.1, T.2.2.2.1, T.2.2.2.2.1, 0), 0) : Run)).2.1 (-1)) ((((0, none, 1, (T.1, T.2.1, T.2.2.1, T.2.2.2.1, T.2.2.2.2.1, 0), 0) : Run)).2.2.2.1))) rfl ?_
  exact loop (N + 1) 0 N (0, none, 1, (T.1, T.2.1, T.2.2.1, T.2.2.2.1, T.2.2.2.2.1, 0), 0) (by omega) (by omega) (Nat.zero_le N) rfl (Or.inl (Nat.le_refl 0)) (fun p hp => by cases hp) hR.symm
