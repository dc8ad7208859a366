set_option maxHeartbeats 4000000 in
set_option maxRecDepth 100000 in
theorem c_X1_isAt (g : Gl) (b : Nat → Nat) (tr : Nat → Int32) (n fed : Int32) (tx : Nat → Int32) (ks fs ts : Nat → Int32) (ct pl : Int32) (N k j a e : Nat) (hN : N ≤ 16000) (hk : k < 2 ^ 28) (hj : j < 2) (hae : a ≤ e) (he : e ≤ kLen.getD j 0) : Ctr g yX1_isAt wsX1_isAt ({ frames := 4, cells := 0, slots := 0, locals := 85 }) [.ref (b 0), .int (nI k), .ref (gK g j), .int (nI a), .int (nI e)] (mw g b tr n fed tx (nI N) ks fs ts ct pl) (some (.int (b01 (mAt (look tx N) k j a (e - a))))) (mw g b tr n fed tx (nI N) ks fs ts ct pl) 0 0 := by
  refine Ctr.start (cc := cX1_isAt) (maxL := 6) (ret := (some .boolean)) (by decide) rfl (Nat.le_of_ble_eq_true rfl) (lv0 := [(0, .ref (b 0)), (1, .int (nI k)), (2, .ref (gK g j)), (3, .int (nI a)), (4, .int (nI e))]) rfl ?_
  intro X C F
  have C : Ok g X cX1_isAt RX1 wsX1_isAt ({ frames := 4, cells := 0, slots := 0, locals := 85 }) (some .boolean) 6 := C
  have hin : ∀ w ∈ wsX10, w ∈ wsX1_isAt := fun _ h => List.mem_cons_of_mem _ (List.mem_append_right _ h)
  have hlen := kLen_lt j
  have loop : ∀ (f t : Nat), a ≤ t → t ≤ e → e + 1 ≤ t + f → mAt (look tx N) k j a (t - a) = true → G g X (0, 0) (mw g b tr n fed tx (nI N) ks fs ts ct pl) 3 [(5, .int (nI t)), (0, .ref (b 0)), (1, .int (nI k)), (2, .ref (gK g j)), (3, .int (nI a)), (4, .int (nI e))] [] := by
    intro f
    induction f with
    | zero => intro t h1 h2 h3 h4; omega
    | succ f ih =>
      intro t h1 h2 h3 h4
      refine g_iload C dX1_isAt_3 0 rfl ?_
      refine g_iload C dX1_isAt_5 5 rfl ?_
      refine g_icmp_ge C dX1_isAt_7 (tgt := 37) (by decide) (fun c1 => ?_) (fun c1 => ?_)
      · have ht := (nI_leI (by omega) (by omega)).mp c1
        have ht : t = e := by omega
        subst ht
        refine g_iconst C dX1_isAt_37 (v := 1) (by decide) ?_
        exact g_zret C F (by decide) (by rw [h4]; rfl) (rfl) dX1_isAt_38
      · have ht : t < e := Nat.not_le.mp (fun q => c1 (nI_le q (by omega)))
        refine g_aload_n C dX1_isAt_10 1 rfl ?_
        refine g_iload_n C dX1_isAt_11 2 rfl ?_
        refine g_iload C dX1_isAt_12 0 rfl ?_
        refine g_iadd C dX1_isAt_14 ?_
        refine g_top (nI_add k t) ?_
        refine g_iload_n C dX1_isAt_15 4 rfl ?_
        refine g_isub C dX1_isAt_16 ?_
        refine g_top (y := nI (k + t - a)) (nI_subI (b := a) (by omega)) ?_
        refine g_callVi (n := 1) C (c_X1_look g b tr n fed tx ks fs ts ct pl N (k + t - a) hN (by omega)) gX1_isAt_X1_look rfl rfl rfl rfl (by decide) (by decide) rfl (Nat.le_of_ble_eq_true rfl) dX1_isAt_17 ?_
        refine g_aload_n C dX1_isAt_20 3 rfl ?_
        refine g_iload C dX1_isAt_21 0 rfl ?_
        refine g_callK (n := 1) C hj (c_J0_charAt_5068e g j t hj (by omega)) gX1_isAt_J0_charAt_5068e rfl rfl (by decide) (by decide) rfl (Nat.le_of_ble_eq_true rfl) dX1_isAt_23 ?_
        refine g_icmp_eq C dX1_isAt_26 (tgt := 31) (by decide) (fun c2 => ?_) (fun c2 => ?_)
        · have ce := c2
          refine g_iinc (o := 0) (v := nI (t + 1)) (lv' := [(5, .int (nI (t + 1))), (0, .ref (b 0)), (1, .int (nI k)), (2, .ref (gK g j)), (3, .int (nI a)), (4, .int (nI e))]) C dX1_isAt_31 rfl (nI_add t 1) (by decide) rfl ?_
          refine g_goto C dX1_isAt_34 (tgt := 3) (by decide) ?_
          exact ih (t + 1) (by omega) (by omega) (by omega) (by rw [show t + 1 - a = (t - a) + 1 by omega, mAt, h4, show k + (t - a) = k + t - a by omega, show a + (t - a) = t by omega, decide_eq_true ce]; rfl)
        · have hno := mAt_no (L := look tx N) (k := k) (j := j) (a := a) (c := t - a) (by rw [show k + (t - a) = k + t - a by omega, show a + (t - a) = t by omega]; exact c2) (e - a) (by omega)
          refine g_iconst C dX1_isAt_29 (v := 0) (by decide) ?_
          exact g_zret C F (by decide) (by rw [hno]; rfl) (rfl) dX1_isAt_30
  refine g_iload_n C dX1_isAt_0 3 rfl ?_
  refine g_istore (lv' := [(5, .int (nI a)), (0, .ref (b 0)), (1, .int (nI k)), (2, .ref (gK g j)), (3, .int (nI a)), (4, .int (nI e))]) C dX1_isAt_1 (by decide) rfl ?_
  exact loop (e + 1) a (by omega) (by omega) (by omega) (by rw [Nat.sub_self]; rfl)
set_option maxHeartbeats 4000000 in
set_option maxRecDepth 100000 in
theorem c_X1_signEnd (g : Gl) (b : Nat → Nat) (tr : Nat → Int32) (n fed : Int32) (tx : Nat → Int32) (ks fs ts : Nat → Int32) (ct pl : Int32) (N k : Nat) (hN : N ≤ 16000) (hk : k < 2 ^ 28) : Ctr g yX1_signEnd wsX1_signEnd ({ frames := 5, cells := 0, slots := 0, locals := 110 }) [.ref (b 0), .int (nI k)] (mw g b tr n fed tx (nI N) ks fs ts ct pl) (some (.int (sgnE (look tx N) k))) (mw g b tr n fed tx (nI N) ks fs ts ct pl) 0 0 := by
  refine Ctr.start (cc := cX1_signEnd) (maxL := 5) (ret := (some .int)) (by decide) rfl (Nat.le_of_ble_eq_true rfl) (lv0 := [(0, .ref (b 0)), (1, .int (nI k))]) rfl ?_
  intro X C F
  have C : Ok g X cX1_signEnd RX1 wsX1_signEnd ({ frames := 5, cells := 0, slots := 0, locals := 110 }) (some .int) 5 := C
  have hin : ∀ w ∈ wsX10, w ∈ wsX1_signEnd := fun _ h => List.mem_cons_of_mem _ (List.mem_append_right _ h)
  obtain ⟨res, hres⟩ : ∃ r, r = sgnE (look tx N) k := ⟨_, rfl⟩
  rw [← hres] at F
  have hlen := kLen_lt 0
  have loop : ∀ (l : List (Nat × Nat)) (a : Nat) (best : Int32), a ≤ 110 → wfW 0 l a = true → foldS (look tx N) k l best = res → G g X (0, 0) (mw g b tr n fed tx (nI N) ks fs ts ct pl) 4 [(3, .int (nI a)), (2, .int best), (0, .ref (b 0)), (1, .int (nI k))] [] := by
    intro l
    induction l with
    | nil =>
      intro a best ha h1 h2
      have h1 := wfW_nil h1
      have h2 : best = res := h2
      refine g_iload_n C dX1_signEnd_4 0 rfl ?_
      refine g_ldcS0 C rfl dX1_signEnd_5 ?_
      refine g_callK (n := 0) C (by omega) (c_J0_length_8abf5 g 0 (by omega)) gX1_signEnd_J0_length_8abf5 rfl rfl (by decide) (by decide) rfl (Nat.le_of_ble_eq_true rfl) dX1_signEnd_7 ?_
      refine g_icmp_ge C dX1_signEnd_10 (tgt := 72) (by decide) (fun c1 => ?_) (fun c1 => ?_)
      · refine g_iload_n C dX1_signEnd_72 1 rfl ?_
        exact g_iret C F (h2) (rfl) dX1_signEnd_73
      · exact absurd (nI_le h1 (by omega)) c1
    | cons q r ih =>
      intro a best ha h1 h2
      obtain ⟨rfl, hs, hq, h1⟩ := wfW_cons h1
      rw [foldS] at h2
      have hge := scan_ge (pSp 0) (kLen.getD 0 0) q.1
      rw [hs] at hge
      have ex : G g X (0, 0) (mw g b tr n fed tx (nI N) ks fs ts ct pl) 34 [(4, .int (nI q.2)), (3, .int (nI q.1)), (2, .int best), (0, .ref (b 0)), (1, .int (nI k))] [] := by
        refine g_aload_n C dX1_signEnd_34 3 rfl ?_
        refine g_iload_n C dX1_signEnd_35 4 rfl ?_
        refine g_ldcS0 C rfl dX1_signEnd_36 ?_
        refine g_iload_n C dX1_signEnd_38 1 rfl ?_
        refine g_iload C dX1_signEnd_39 0 rfl ?_
        refine g_callVi (n := 4) C (c_X1_isAt g b tr n fed tx ks fs ts ct pl N k 0 q.1 q.2 hN hk (by omega) (by omega) (by omega)) gX1_signEnd_X1_isAt rfl rfl rfl rfl (by decide) (by decide) rfl (Nat.le_of_ble_eq_true rfl) dX1_signEnd_41 ?_
        refine g_if_eq C dX1_signEnd_44 (tgt := 64) (by decide) (fun c2 => ?_) (fun c2 => ?_)
        · rw [if_neg (fun z => by rw [b01_0.mp c2] at z; exact absurd z.1 (by decide))] at h2
          refine g_iload C dX1_signEnd_64 0 rfl ?_
          refine g_iconst C dX1_signEnd_66 (v := 1) (by decide) ?_
          refine g_iadd C dX1_signEnd_67 ?_
          refine g_top (nI_add q.2 1) ?_
          refine g_istore_n (lv' := [(3, .int (nI (q.2 + 1))), (4, .int (nI q.2)), (2, .int best), (0, .ref (b 0)), (1, .int (nI k))]) C dX1_signEnd_68 (by decide) rfl ?_
          refine g_goto C dX1_signEnd_69 (tgt := 4) (by decide) ?_
          refine g_sub [0, 2, 3, 4] rfl ?_
          exact ih (q.2 + 1) _ (by omega) h1 h2
        · have hm := b01_1.mp c2
          refine g_iload_n C dX1_signEnd_47 4 rfl ?_
          refine g_iload C dX1_signEnd_48 0 rfl ?_
          refine g_iadd C dX1_signEnd_50 ?_
          refine g_top (nI_add k q.2) ?_
          refine g_iload_n C dX1_signEnd_51 1 rfl ?_
          refine g_isub C dX1_signEnd_52 ?_
          refine g_top (y := nI (k + q.2 - q.1)) (nI_subI (b := q.1) (by omega)) ?_
          refine g_iload_n C dX1_signEnd_53 2 rfl ?_
          refine g_icmp_le C dX1_signEnd_54 (tgt := 64) (by decide) (fun c3 => ?_) (fun c3 => ?_)
          · rw [if_neg (fun z => z.2 c3)] at h2
            refine g_iload C dX1_signEnd_64 0 rfl ?_
            refine g_iconst C dX1_signEnd_66 (v := 1) (by decide) ?_
            refine g_iadd C dX1_signEnd_67 ?_
            refine g_top (nI_add q.2 1) ?_
            refine g_istore_n (lv' := [(3, .int (nI (q.2 + 1))), (4, .int (nI q.2)), (2, .int best), (0, .ref (b 0)), (1, .int (nI k))]) C dX1_signEnd_68 (by decide) rfl ?_
            refine g_goto C dX1_signEnd_69 (tgt := 4) (by decide) ?_
            refine g_sub [0, 2, 3, 4] rfl ?_
            exact ih (q.2 + 1) _ (by omega) h1 h2
          · rw [if_pos ⟨hm, c3⟩] at h2
            refine g_iload_n C dX1_signEnd_57 4 rfl ?_
            refine g_iload C dX1_signEnd_58 0 rfl ?_
            refine g_iadd C dX1_signEnd_60 ?_
            refine g_top (nI_add k q.2) ?_
            refine g_iload_n C dX1_signEnd_61 1 rfl ?_
            refine g_isub C dX1_signEnd_62 ?_
            refine g_top (y := nI (k + q.2 - q.1)) (nI_subI (b := q.1) (by omega)) ?_
            refine g_istore_n (lv' := [(2, .int (nI (k + q.2 - q.1))), (4, .int (nI q.2)), (3, .int (nI q.1)), (0, .ref (b 0)), (1, .int (nI k))]) C dX1_signEnd_63 (by decide) rfl ?_
            refine g_iload C dX1_signEnd_64 1 rfl ?_
            refine g_iconst C dX1_signEnd_66 (v := 1) (by decide) ?_
            refine g_iadd C dX1_signEnd_67 ?_
            refine g_top (nI_add q.2 1) ?_
            refine g_istore_n (lv' := [(3, .int (nI (q.2 + 1))), (2, .int (nI (k + q.2 - q.1))), (4, .int (nI q.2)), (0, .ref (b 0)), (1, .int (nI k))]) C dX1_signEnd_68 (by decide) rfl ?_
            refine g_goto C dX1_signEnd_69 (tgt := 4) (by decide) ?_
            refine g_sub [0, 1, 3, 4] rfl ?_
            exact ih (q.2 + 1) _ (by omega) h1 h2
      have inn : ∀ (f t : Nat), q.1 ≤ t → t ≤ q.2 → q.2 + 1 ≤ t + f → G g X (0, 0) (mw g b tr n fed tx (nI N) ks fs ts ct pl) 16 [(4, .int (nI t)), (3, .int (nI q.1)), (2, .int best), (0, .ref (b 0)), (1, .int (nI k))] [] := by
        intro f
        induction f with
        | zero => intro t h4 h5 h6; omega
        | succ f ih2 =>
          intro t h4 h5 h6
          refine g_ldcS0 C rfl dX1_signEnd_16 ?_
          refine g_iload C dX1_signEnd_18 0 rfl ?_
          refine g_callK (n := 1) C (by omega) (c_J0_charAt_5068e g 0 t (by omega) (by omega)) gX1_signEnd_J0_charAt_5068e rfl rfl (by decide) (by decide) rfl (Nat.le_of_ble_eq_true rfl) dX1_signEnd_20 ?_
          refine g_bipush C dX1_signEnd_23 (v := 32) (by decide) ?_
          refine g_icmp_eq C dX1_signEnd_25 (tgt := 34) (by decide) (fun c4 => ?_) (fun c4 => ?_)
          · have ht2 : t = q.2 := by
              rcases Nat.lt_or_ge t q.2 with z | z
              · have z2 := of_decide_eq_true (scan_all (p := pSp 0) (N := kLen.getD 0 0) (i := q.1) h4 (by rw [hs]; exact z)); exact absurd c4 z2
              · omega
            subst ht2
            exact ex
          · have ht2 : ¬ t = q.2 := by
              intro z
              have z2 := of_decide_eq_false (scan_at (p := pSp 0) (N := kLen.getD 0 0) (i := q.1) (by rw [hs]; exact hq))
              rw [hs, ← z] at z2
              exact z2 c4
            refine g_iinc (o := 0) (v := nI (t + 1)) (lv' := [(4, .int (nI (t + 1))), (3, .int (nI q.1)), (2, .int best), (0, .ref (b 0)), (1, .int (nI k))]) C dX1_signEnd_28 rfl (nI_add t 1) (by decide) rfl ?_
            refine g_goto C dX1_signEnd_31 (tgt := 16) (by decide) ?_
            exact ih2 (t + 1) (by omega) (by omega) (by omega)
      refine g_iload_n C dX1_signEnd_4 0 rfl ?_
      refine g_ldcS0 C rfl dX1_signEnd_5 ?_
      refine g_callK (n := 0) C (by omega) (c_J0_length_8abf5 g 0 (by omega)) gX1_signEnd_J0_length_8abf5 rfl rfl (by decide) (by decide) rfl (Nat.le_of_ble_eq_true rfl) dX1_signEnd_7 ?_
      refine g_icmp_ge C dX1_signEnd_10 (tgt := 72) (by decide) (fun c5 => ?_) (fun c5 => ?_)
      · exact absurd ((nI_leI (by omega) (by omega)).mp c5) (by omega)
      · refine g_iload_n C dX1_signEnd_13 0 rfl ?_
        refine g_istore (lv' := [(4, .int (nI q.1)), (3, .int (nI q.1)), (2, .int best), (0, .ref (b 0)), (1, .int (nI k))]) C dX1_signEnd_14 (by decide) rfl ?_
        exact inn (q.2 + 1) q.1 (by omega) (by omega) (by omega)
  refine g_iconst C dX1_signEnd_0 (v := (-1)) (by decide) ?_
  refine g_istore_n (lv' := [(2, .int (-1)), (0, .ref (b 0)), (1, .int (nI k))]) C dX1_signEnd_1 (by decide) rfl ?_
  refine g_iconst C dX1_signEnd_2 (v := 1) (by decide) ?_
  refine g_istore_n (lv' := [(3, .int 1), (2, .int (-1)), (0, .ref (b 0)), (1, .int (nI k))]) C dX1_signEnd_3 (by decide) rfl ?_
  exact loop kW0 1 (-1) (by omega) wf0 hres.symm
set_option maxHeartbeats 4000000 in
set_option maxRecDepth 100000 in
theorem c_X1_among (g : Gl) (b : Nat → Nat) (tr : Nat → Int32) (n fed : Int32) (tx : Nat → Int32) (ks fs ts : Nat → Int32) (ct pl : Int32) (N j s e : Nat) (l0 : List (Nat × Nat)) (x : Int32) (hN : N ≤ 16000) (hj : j < 2) (hl0 : wfW j l0 1 = true) (hx : vp_in x 16000) (hfs : fs x.toNatClampNeg = nI s) (hts : ts x.toNatClampNeg = nI e) (hse : s ≤ e) (he : e ≤ 16000) : Ctr g yX1_among wsX1_among ({ frames := 5, cells := 0, slots := 0, locals := 110 }) [.ref (b 0), .int x, .ref (gK g j)] (mw g b tr n fed tx (nI N) ks fs ts ct pl) (some (.int (amg (look tx N) s (e - s) j l0 0))) (mw g b tr n fed tx (nI N) ks fs ts ct pl) 0 0 := by
  refine Ctr.start (cc := cX1_among) (maxL := 6) (ret := (some .int)) (by decide) rfl (Nat.le_of_ble_eq_true rfl) (lv0 := [(0, .ref (b 0)), (1, .int x), (2, .ref (gK g j))]) rfl ?_
  intro X C F
  have C : Ok g X cX1_among RX1 wsX1_among ({ frames := 5, cells := 0, slots := 0, locals := 110 }) (some .int) 6 := C
  have hin : ∀ w ∈ wsX10, w ∈ wsX1_among := fun _ h => List.mem_cons_of_mem _ (List.mem_append_right _ h)
  have lk20 : Cond.fieldLink RX1 20 "TokenRowsModel" "froms" "[I" ∈ wsX1_among := by decide +kernel
  have lk23 : Cond.fieldLink RX1 23 "TokenRowsModel" "tos" "[I" ∈ wsX1_among := by decide +kernel
  obtain ⟨res, hres⟩ : ∃ r, r = amg (look tx N) s (e - s) j l0 0 := ⟨_, rfl⟩
  rw [← hres] at F
  have hlen := kLen_lt j
  have loop : ∀ (l : List (Nat × Nat)) (a w : Nat), a ≤ 110 → wfW j l a = true → amg (look tx N) s (e - s) j l w = res → G g X (0, 0) (mw g b tr n fed tx (nI N) ks fs ts ct pl) 5 [(4, .int (nI a)), (3, .int (nI w)), (0, .ref (b 0)), (1, .int x), (2, .ref (gK g j))] [] := by
    intro l
    induction l with
    | nil =>
      intro a w ha h1 h2
      have h1 := wfW_nil h1
      have h2 : -1 = res := h2
      refine g_iload C dX1_among_5 0 rfl ?_
      refine g_aload_n C dX1_among_7 4 rfl ?_
      refine g_callK (n := 0) C hj (c_J0_length_8abf5 g j hj) gX1_among_J0_length_8abf5 rfl rfl (by decide) (by decide) rfl (Nat.le_of_ble_eq_true rfl) dX1_among_8 ?_
      refine g_icmp_ge C dX1_among_11 (tgt := 88) (by decide) (fun c1 => ?_) (fun c1 => ?_)
      · refine g_iconst C dX1_among_88 (v := (-1)) (by decide) ?_
        exact g_iret C F (h2) (rfl) dX1_among_89
      · exact absurd (nI_le h1 (by omega)) c1
    | cons q r ih =>
      intro a w ha h1 h2
      obtain ⟨rfl, hs, hq, h1⟩ := wfW_cons h1
      rw [amg] at h2
      have hge := scan_ge (pSp j) (kLen.getD j 0) q.1
      rw [hs] at hge
      have ex : G g X (0, 0) (mw g b tr n fed tx (nI N) ks fs ts ct pl) 35 [(5, .int (nI q.2)), (4, .int (nI q.1)), (3, .int (nI w)), (0, .ref (b 0)), (1, .int x), (2, .ref (gK g j))] [] := by
        refine g_iload C dX1_among_35 0 rfl ?_
        refine g_iload C dX1_among_37 1 rfl ?_
        refine g_isub C dX1_among_39 ?_
        refine g_top (y := nI (q.2 - q.1)) (nI_subI (b := q.1) (by omega)) ?_
        refine g_aload_n C dX1_among_40 3 rfl ?_
        refine g_get1 C hin 0 rfl 7 (by decide) lk23 rfl dX1_among_41 ?_
        refine g_iload_n C dX1_among_44 4 rfl ?_
        refine g_iald C 5 rfl (hx) dX1_among_45 ?_
        refine g_top (y := nI e) (hts) ?_
        refine g_aload_n C dX1_among_46 3 rfl ?_
        refine g_get1 C hin 0 rfl 6 (by decide) lk20 rfl dX1_among_47 ?_
        refine g_iload_n C dX1_among_50 4 rfl ?_
        refine g_iald C 4 rfl (hx) dX1_among_51 ?_
        refine g_top (y := nI s) (hfs) ?_
        refine g_isub C dX1_among_52 ?_
        refine g_top (y := nI (e - s)) (nI_subI (b := s) (by omega)) ?_
        refine g_icmp_ne C dX1_among_53 (tgt := 76) (by decide) (fun c2 => ?_) (fun c2 => ?_)
        · rw [if_neg (fun z => c2 (by rw [z.1]))] at h2
          refine g_iinc (o := 2) (v := nI (w + 1)) (lv' := [(3, .int (nI (w + 1))), (5, .int (nI q.2)), (4, .int (nI q.1)), (0, .ref (b 0)), (1, .int x), (2, .ref (gK g j))]) C dX1_among_76 rfl (nI_add w 1) (by decide) rfl ?_
          refine g_iload C dX1_among_79 1 rfl ?_
          refine g_iconst C dX1_among_81 (v := 1) (by decide) ?_
          refine g_iadd C dX1_among_82 ?_
          refine g_top (nI_add q.2 1) ?_
          refine g_istore (lv' := [(4, .int (nI (q.2 + 1))), (3, .int (nI (w + 1))), (5, .int (nI q.2)), (0, .ref (b 0)), (1, .int x), (2, .ref (gK g j))]) C dX1_among_83 (by decide) rfl ?_
          refine g_goto C dX1_among_85 (tgt := 5) (by decide) ?_
          refine g_sub [0, 1, 3, 4, 5] rfl ?_
          exact ih (q.2 + 1) (w + 1) (by omega) h1 h2
        · have hz := (nI_eq (by omega) (by omega)).mp c2
          refine g_aload_n C dX1_among_56 3 rfl ?_
          refine g_aload_n C dX1_among_57 3 rfl ?_
          refine g_get1 C hin 0 rfl 6 (by decide) lk20 rfl dX1_among_58 ?_
          refine g_iload_n C dX1_among_61 4 rfl ?_
          refine g_iald C 4 rfl (hx) dX1_among_62 ?_
          refine g_top (y := nI s) (hfs) ?_
          refine g_aload_n C dX1_among_63 5 rfl ?_
          refine g_iload C dX1_among_64 1 rfl ?_
          refine g_iload C dX1_among_66 0 rfl ?_
          refine g_callVi (n := 4) C (c_X1_isAt g b tr n fed tx ks fs ts ct pl N s j q.1 q.2 hN (by omega) hj (by omega) (by omega)) gX1_among_X1_isAt rfl rfl rfl rfl (by decide) (by decide) rfl (Nat.le_of_ble_eq_true rfl) dX1_among_68 ?_
          refine g_if_eq C dX1_among_71 (tgt := 76) (by decide) (fun c3 => ?_) (fun c3 => ?_)
          · rw [if_neg (fun z => by rw [b01_0.mp c3] at z; exact absurd z.2 (by decide))] at h2
            refine g_iinc (o := 2) (v := nI (w + 1)) (lv' := [(3, .int (nI (w + 1))), (5, .int (nI q.2)), (4, .int (nI q.1)), (0, .ref (b 0)), (1, .int x), (2, .ref (gK g j))]) C dX1_among_76 rfl (nI_add w 1) (by decide) rfl ?_
            refine g_iload C dX1_among_79 1 rfl ?_
            refine g_iconst C dX1_among_81 (v := 1) (by decide) ?_
            refine g_iadd C dX1_among_82 ?_
            refine g_top (nI_add q.2 1) ?_
            refine g_istore (lv' := [(4, .int (nI (q.2 + 1))), (3, .int (nI (w + 1))), (5, .int (nI q.2)), (0, .ref (b 0)), (1, .int x), (2, .ref (gK g j))]) C dX1_among_83 (by decide) rfl ?_
            refine g_goto C dX1_among_85 (tgt := 5) (by decide) ?_
            refine g_sub [0, 1, 3, 4, 5] rfl ?_
            exact ih (q.2 + 1) (w + 1) (by omega) h1 h2
          · rw [if_pos ⟨hz, b01_1.mp c3⟩] at h2
            refine g_iload_n C dX1_among_74 2 rfl ?_
            exact g_iret C F (h2) (rfl) dX1_among_75
      have inn : ∀ (f t : Nat), q.1 ≤ t → t ≤ q.2 → q.2 + 1 ≤ t + f → G g X (0, 0) (mw g b tr n fed tx (nI N) ks fs ts ct pl) 18 [(5, .int (nI t)), (4, .int (nI q.1)), (3, .int (nI w)), (0, .ref (b 0)), (1, .int x), (2, .ref (gK g j))] [] := by
        intro f
        induction f with
        | zero => intro t h4 h5 h6; omega
        | succ f ih2 =>
          intro t h4 h5 h6
          refine g_aload_n C dX1_among_18 5 rfl ?_
          refine g_iload C dX1_among_19 0 rfl ?_
          refine g_callK (n := 1) C hj (c_J0_charAt_5068e g j t hj (by omega)) gX1_among_J0_charAt_5068e rfl rfl (by decide) (by decide) rfl (Nat.le_of_ble_eq_true rfl) dX1_among_21 ?_
          refine g_bipush C dX1_among_24 (v := 32) (by decide) ?_
          refine g_icmp_eq C dX1_among_26 (tgt := 35) (by decide) (fun c4 => ?_) (fun c4 => ?_)
          · have ht2 : t = q.2 := by
              rcases Nat.lt_or_ge t q.2 with z | z
              · have z2 := of_decide_eq_true (scan_all (p := pSp j) (N := kLen.getD j 0) (i := q.1) h4 (by rw [hs]; exact z)); exact absurd c4 z2
              · omega
            subst ht2
            exact ex
          · have ht2 : ¬ t = q.2 := by
              intro z
              have z2 := of_decide_eq_false (scan_at (p := pSp j) (N := kLen.getD j 0) (i := q.1) (by rw [hs]; exact hq))
              rw [hs, ← z] at z2
              exact z2 c4
            refine g_iinc (o := 0) (v := nI (t + 1)) (lv' := [(5, .int (nI (t + 1))), (4, .int (nI q.1)), (3, .int (nI w)), (0, .ref (b 0)), (1, .int x), (2, .ref (gK g j))]) C dX1_among_29 rfl (nI_add t 1) (by decide) rfl ?_
            refine g_goto C dX1_among_32 (tgt := 18) (by decide) ?_
            exact ih2 (t + 1) (by omega) (by omega) (by omega)
      refine g_iload C dX1_among_5 0 rfl ?_
      refine g_aload_n C dX1_among_7 4 rfl ?_
      refine g_callK (n := 0) C hj (c_J0_length_8abf5 g j hj) gX1_among_J0_length_8abf5 rfl rfl (by decide) (by decide) rfl (Nat.le_of_ble_eq_true rfl) dX1_among_8 ?_
      refine g_icmp_ge C dX1_among_11 (tgt := 88) (by decide) (fun c5 => ?_) (fun c5 => ?_)
      · exact absurd ((nI_leI (by omega) (by omega)).mp c5) (by omega)
      · refine g_iload C dX1_among_14 0 rfl ?_
        refine g_istore (lv' := [(5, .int (nI q.1)), (4, .int (nI q.1)), (3, .int (nI w)), (0, .ref (b 0)), (1, .int x), (2, .ref (gK g j))]) C dX1_among_16 (by decide) rfl ?_
        exact inn (q.2 + 1) q.1 (by omega) (by omega) (by omega)
  refine g_iconst C dX1_among_0 (v := nI 0) (by decide) ?_
  refine g_istore_n (lv' := [(3, .int (nI 0)), (0, .ref (b 0)), (1, .int x), (2, .ref (gK g j))]) C dX1_among_1 (by decide) rfl ?_
  refine g_iconst C dX1_among_2 (v := nI 1) (by decide) ?_
  refine g_istore (lv' := [(4, .int (nI 1)), (3, .int (nI 0)), (0, .ref (b 0)), (1, .int x), (2, .ref (gK g j))]) C dX1_among_3 (by decide) rfl ?_
  exact loop l0 1 0 (by omega) hl0 hres.symm
set_option maxHeartbeats 4000000 in
set_option maxRecDepth 100000 in
theorem c_X1_isInt (g : Gl) (b : Nat → Nat) (tr : Nat → Int32) (n fed : Int32) (tx : Nat → Int32) (ks fs ts : Nat → Int32) (ct pl : Int32) (N i e : Nat) (hN : N ≤ 16000) (hie : i ≤ e) (he : e ≤ N) (hd : ∀ t, i ≤ t → t < e → bDig (look tx N t) = true) : Ctr g yX1_isInt wsX1_isInt ({ frames := 1, cells := 0, slots := 0, locals := 21 }) [.ref (b 0), .int (nI i), .int (nI e)] (mw g b tr n fed tx (nI N) ks fs ts ct pl) (some (.int (b01 (mInt (look tx N) i e)))) (mw g b tr n fed tx (nI N) ks fs ts ct pl) 0 0 := by
  refine Ctr.start (cc := cX1_isInt) (maxL := 7) (ret := (some .boolean)) (by decide) rfl (Nat.le_of_ble_eq_true rfl) (lv0 := [(0, .ref (b 0)), (1, .int (nI i)), (2, .int (nI e))]) rfl ?_
  intro X C F
  have C : Ok g X cX1_isInt RX1 wsX1_isInt ({ frames := 1, cells := 0, slots := 0, locals := 21 }) (some .boolean) 7 := C
  have hin : ∀ w ∈ wsX10, w ∈ wsX1_isInt := fun _ h => List.mem_cons_of_mem _ (List.mem_append_right _ h)
  have lc90 : Cond.constantLong RX1 90 (10) ∈ wsX1_isInt := by decide +kernel
  have lc92 : Cond.constantLong RX1 92 (48) ∈ wsX1_isInt := by decide +kernel
  have lc94 : Cond.constantLong RX1 94 (2147483647) ∈ wsX1_isInt := by decide +kernel
  obtain ⟨J, hJ⟩ : ∃ J, J = scan (pZ (look tx N)) e i := ⟨_, rfl⟩
  have hJ1 : i ≤ J := by rw [hJ]; exact scan_ge _ _ _
  have hJ2 : J ≤ e := by rw [hJ]; exact scan_le hie
  have hs : mInt (look tx N) i e = if e - J = 10 then decide (dval (look tx N) J 10 ≤ 2147483647) else decide (e - J < 10) := by rw [hJ]; rfl
  have loop2 : e - J = 10 → ∀ (f t : Nat), J ≤ t → t ≤ e → e + 1 ≤ t + f → G g X (0, 0) (mw g b tr n fed tx (nI N) ks fs ts ct pl) 51 [(6, .int (nI t)), (4, .long (lN (dval (look tx N) J (t - J)))), (3, .int (nI J)), (0, .ref (b 0)), (1, .int (nI i)), (2, .int (nI e))] [] := by
    intro h10 f
    induction f with
    | zero => intro t h1 h2 h3; omega
    | succ f ih =>
      intro t h1 h2 h3
      refine g_iload C dX1_isInt_51 0 rfl ?_
      refine g_iload_n C dX1_isInt_53 5 rfl ?_
      refine g_icmp_ge C dX1_isInt_54 (tgt := 83) (by decide) (fun c1 => ?_) (fun c1 => ?_)
      · have ht := (nI_leI (by omega) (by omega)).mp c1
        have ht : t = e := by omega
        subst ht
        have hv := dval_lt (L := look tx N) (i := J) 10 (fun q hq => hd (J + q) (by omega) (by omega))
        refine g_lload C dX1_isInt_83 1 rfl ?_
        refine g_ldc2 C dX1_isInt_85 (v := 2147483647) lc94 ?_
        refine g_lcmp C dX1_isInt_88 ?_
        refine g_if_gt C dX1_isInt_89 (tgt := 96) (by decide) (fun c2 => ?_) (fun c2 => ?_)
        · have hle := (cmp_gt (by rw [h10]; omega)).mp c2
          refine g_iconst C dX1_isInt_96 (v := 0) (by decide) ?_
          exact g_zret C F (by decide) (by rw [hs, if_pos h10, ← h10]; exact (b01_f hle).symm) (rfl) dX1_isInt_97
        · have hle : dval (look tx N) J (t - J) ≤ 2147483647 := Classical.byContradiction (fun z => c2 ((cmp_gt (by rw [h10]; omega)).mpr z))
          refine g_iconst C dX1_isInt_92 (v := 1) (by decide) ?_
          refine g_goto C dX1_isInt_93 (tgt := 97) (by decide) ?_
          exact g_zret C F (by decide) (by rw [hs, if_pos h10, ← h10]; exact (b01_t hle).symm) (rfl) dX1_isInt_97
      · have ht : t < e := Nat.not_le.mp (fun q => c1 (nI_le q (by omega)))
        refine g_ldc2 C dX1_isInt_57 (v := 10) lc90 ?_
        refine g_lload C dX1_isInt_60 1 rfl ?_
        refine g_lmul C dX1_isInt_62 ?_
        refine g_aload_n C dX1_isInt_63 3 rfl ?_
        refine g_iload C dX1_isInt_64 0 rfl ?_
        refine g_callVi (n := 1) C (c_X1_look g b tr n fed tx ks fs ts ct pl N t hN (by omega)) gX1_isInt_X1_look rfl rfl rfl rfl (by decide) (by decide) rfl (Nat.le_of_ble_eq_true rfl) dX1_isInt_66 ?_
        refine g_i2l C dX1_isInt_69 (v := Int32.toInt64 (look tx N t)) rfl ?_
        refine g_ladd C dX1_isInt_70 ?_
        refine g_ldc2 C dX1_isInt_71 (v := 48) lc92 ?_
        refine g_lsub C dX1_isInt_74 ?_
        refine g_topl (y := lN (dval (look tx N) J (t + 1 - J))) (ms_step (hd t (by omega) ht) h1) ?_
        refine g_lstore (lv' := [(4, .long (lN (dval (look tx N) J (t + 1 - J)))), (6, .int (nI t)), (3, .int (nI J)), (0, .ref (b 0)), (1, .int (nI i)), (2, .int (nI e))]) C dX1_isInt_75 (by decide) rfl ?_
        refine g_iinc (o := 1) (v := nI (t + 1)) (lv' := [(6, .int (nI (t + 1))), (4, .long (lN (dval (look tx N) J (t + 1 - J)))), (3, .int (nI J)), (0, .ref (b 0)), (1, .int (nI i)), (2, .int (nI e))]) C dX1_isInt_77 rfl (nI_add t 1) (by decide) rfl ?_
        refine g_goto C dX1_isInt_80 (tgt := 51) (by decide) ?_
        exact ih (t + 1) (by omega) (by omega) (by omega)
  have ex : G g X (0, 0) (mw g b tr n fed tx (nI N) ks fs ts ct pl) 23 [(3, .int (nI J)), (0, .ref (b 0)), (1, .int (nI i)), (2, .int (nI e))] [] := by
    refine g_iload_n C dX1_isInt_23 3 rfl ?_
    refine g_iload_n C dX1_isInt_24 0 rfl ?_
    refine g_isub C dX1_isInt_25 ?_
    refine g_top (y := nI (e - J)) (nI_subI (b := J) (by omega)) ?_
    refine g_bipush C dX1_isInt_26 (v := 10) (by decide) ?_
    refine g_icmp_eq C dX1_isInt_28 (tgt := 45) (by decide) (fun c3 => ?_) (fun c3 => ?_)
    · have h10 : e - J = 10 := (nI_eq (b := 10) (by omega) (by omega)).mp c3
      refine g_lconst C dX1_isInt_45 (v := 0) (by decide) ?_
      refine g_lstore (lv' := [(4, .long 0), (3, .int (nI J)), (0, .ref (b 0)), (1, .int (nI i)), (2, .int (nI e))]) C dX1_isInt_46 (by decide) rfl ?_
      refine g_iload_n C dX1_isInt_48 1 rfl ?_
      refine g_istore (lv' := [(6, .int (nI J)), (4, .long 0), (3, .int (nI J)), (0, .ref (b 0)), (1, .int (nI i)), (2, .int (nI e))]) C dX1_isInt_49 (by decide) rfl ?_
      refine g_lv (lv' := [(6, .int (nI J)), (4, .long (lN (dval (look tx N) J (J - J)))), (3, .int (nI J)), (0, .ref (b 0)), (1, .int (nI i)), (2, .int (nI e))]) (by rw [Nat.sub_self]; rfl) ?_
      exact loop2 h10 (e + 1) J (by omega) (by omega) (by omega)
    · have h10 : ¬ e - J = 10 := fun z => c3 (by rw [z]; rfl)
      refine g_iload_n C dX1_isInt_31 3 rfl ?_
      refine g_iload_n C dX1_isInt_32 0 rfl ?_
      refine g_isub C dX1_isInt_33 ?_
      refine g_top (y := nI (e - J)) (nI_subI (b := J) (by omega)) ?_
      refine g_bipush C dX1_isInt_34 (v := 10) (by decide) ?_
      refine g_icmp_ge C dX1_isInt_36 (tgt := 43) (by decide) (fun c4 => ?_) (fun c4 => ?_)
      · have hz := (nI_leI (a := 10) (by omega) (by omega)).mp c4
        refine g_iconst C dX1_isInt_43 (v := 0) (by decide) ?_
        exact g_zret C F (by decide) (by rw [hs, if_neg h10]; exact (b01_f (by omega)).symm) (rfl) dX1_isInt_44
      · have hz : e - J < 10 := Nat.not_le.mp (fun q => c4 (nI_le (a := 10) q (by omega)))
        refine g_iconst C dX1_isInt_39 (v := 1) (by decide) ?_
        refine g_goto C dX1_isInt_40 (tgt := 44) (by decide) ?_
        exact g_zret C F (by decide) (by rw [hs, if_neg h10]; exact (b01_t hz).symm) (rfl) dX1_isInt_44
  have loop : ∀ (k j : Nat), j ≤ e → e + 1 ≤ j + k → scan (pZ (look tx N)) e j = J → G g X (0, 0) (mw g b tr n fed tx (nI N) ks fs ts ct pl) 2 [(3, .int (nI j)), (0, .ref (b 0)), (1, .int (nI i)), (2, .int (nI e))] [] := by
    intro k
    induction k with
    | zero => intro j h1 h2 h3; omega
    | succ k ih =>
      intro j h1 h2 h3
      refine g_iload_n C dX1_isInt_2 0 rfl ?_
      refine g_iload_n C dX1_isInt_3 3 rfl ?_
      refine g_icmp_ge C dX1_isInt_4 (tgt := 23) (by decide) (fun c5 => ?_) (fun c5 => ?_)
      · have hj := (nI_leI (by omega) (by omega)).mp c5
        rw [scan_end hj] at h3
        subst h3
        exact ex
      · have hj : j < e := Nat.not_le.mp (fun z => c5 (nI_le z (by omega)))
        refine g_aload_n C dX1_isInt_7 1 rfl ?_
        refine g_iload_n C dX1_isInt_8 0 rfl ?_
        refine g_callVi (n := 1) C (c_X1_look g b tr n fed tx ks fs ts ct pl N j hN (by omega)) gX1_isInt_X1_look rfl rfl rfl rfl (by decide) (by decide) rfl (Nat.le_of_ble_eq_true rfl) dX1_isInt_9 ?_
        refine g_bipush C dX1_isInt_12 (v := 48) (by decide) ?_
        refine g_icmp_ne C dX1_isInt_14 (tgt := 23) (by decide) (fun c6 => ?_) (fun c6 => ?_)
        · rw [scan_stop (show pZ (look tx N) j = false from decide_eq_false c6)] at h3
          subst h3
          exact ex
        · rw [scan_step hj (show pZ (look tx N) j = true from decide_eq_true c6)] at h3
          refine g_iinc (o := 0) (v := nI (j + 1)) (lv' := [(3, .int (nI (j + 1))), (0, .ref (b 0)), (1, .int (nI i)), (2, .int (nI e))]) C dX1_isInt_17 rfl (nI_add j 1) (by decide) rfl ?_
          refine g_goto C dX1_isInt_20 (tgt := 2) (by decide) ?_
          exact ih (j + 1) (by omega) (by omega) h3
  refine g_iload_n C dX1_isInt_0 1 rfl ?_
  refine g_istore_n (lv' := [(3, .int (nI i)), (0, .ref (b 0)), (1, .int (nI i)), (2, .int (nI e))]) C dX1_isInt_1 (by decide) rfl ?_
  exact loop (e + 1) i (by omega) (by omega) hJ.symm
set_option maxHeartbeats 4000000 in
set_option maxRecDepth 100000 in
theorem c_X1_kindAt (g : Gl) (b : Nat → Nat) (tr : Nat → Int32) (n fed : Int32) (tx : Nat → Int32) (ks fs ts : Nat → Int32) (ct pl : Int32) (N i : Nat) (hN : N ≤ 16000) (hi : i < 2 ^ 28) : Ctr g yX1_kindAt wsX1_kindAt ({ frames := 6, cells := 0, slots := 0, locals := 134 }) [.ref (b 0), .int (nI i)] (mw g b tr n fed tx (nI N) ks fs ts ct pl) (some (.int (mkd (look tx N) i))) (mw g b tr n fed tx (nI N) ks fs ts ct pl) 0 0 := by
  refine Ctr.start (cc := cX1_kindAt) (maxL := 3) (ret := (some .int)) (by decide) rfl (Nat.le_of_ble_eq_true rfl) (lv0 := [(0, .ref (b 0)), (1, .int (nI i))]) rfl ?_
  intro X C F
  have C : Ok g X cX1_kindAt RX1 wsX1_kindAt ({ frames := 6, cells := 0, slots := 0, locals := 134 }) (some .int) 3 := C
  have hin : ∀ w ∈ wsX10, w ∈ wsX1_kindAt := fun _ h => List.mem_cons_of_mem _ (List.mem_append_right _ h)
  refine g_aload_n C dX1_kindAt_0 0 rfl ?_
  refine g_iload_n C dX1_kindAt_1 1 rfl ?_
  refine g_callVi (n := 1) C (c_X1_look g b tr n fed tx ks fs ts ct pl N i hN (by omega)) gX1_kindAt_X1_look rfl rfl rfl rfl (by decide) (by decide) rfl (Nat.le_of_ble_eq_true rfl) dX1_kindAt_2 ?_
  refine g_istore_n (lv' := [(2, .int (look tx N i)), (0, .ref (b 0)), (1, .int (nI i))]) C dX1_kindAt_5 (by decide) rfl ?_
  refine g_iload_n C dX1_kindAt_6 0 rfl ?_
  refine g_callSi (n := 1) C (c_X1_isDigit g (look tx N i)) gX1_kindAt_X1_isDigit rfl rfl (by decide) (by decide) rfl (Nat.le_of_ble_eq_true rfl) dX1_kindAt_7 ?_
  refine g_if_ne C dX1_kindAt_10 (tgt := 19) (by decide) (fun c1 => ?_) (fun c1 => ?_)
  · refine g_iconst C dX1_kindAt_19 (v := 2) (by decide) ?_
    exact g_iret C F (by unfold mkd; rw [if_pos (Or.inl (b01_1.mp c1))]) (rfl) dX1_kindAt_20
  · refine g_iload_n C dX1_kindAt_13 0 rfl ?_
    refine g_bipush C dX1_kindAt_14 (v := 39) (by decide) ?_
    refine g_icmp_ne C dX1_kindAt_16 (tgt := 21) (by decide) (fun c2 => ?_) (fun c2 => ?_)
    · refine g_iload_n C dX1_kindAt_21 0 rfl ?_
      refine g_callSi (n := 1) C (c_X1_isInName g (look tx N i)) gX1_kindAt_X1_isInName rfl rfl (by decide) (by decide) rfl (Nat.le_of_ble_eq_true rfl) dX1_kindAt_22 ?_
      refine g_if_eq C dX1_kindAt_25 (tgt := 30) (by decide) (fun c3 => ?_) (fun c3 => ?_)
      · refine g_iload_n C dX1_kindAt_30 0 rfl ?_
        refine g_bipush C dX1_kindAt_31 (v := 34) (by decide) ?_
        refine g_icmp_ne C dX1_kindAt_33 (tgt := 38) (by decide) (fun c4 => ?_) (fun c4 => ?_)
        · refine g_aload_n C dX1_kindAt_38 1 rfl ?_
          refine g_iload_n C dX1_kindAt_39 2 rfl ?_
          refine g_callVi (n := 1) C (c_X1_signEnd g b tr n fed tx ks fs ts ct pl N i hN (by omega)) gX1_kindAt_X1_signEnd rfl rfl rfl rfl (by decide) (by decide) rfl (Nat.le_of_ble_eq_true rfl) dX1_kindAt_40 ?_
          refine g_if_le C dX1_kindAt_43 (tgt := 50) (by decide) (fun c5 => ?_) (fun c5 => ?_)
          · refine g_iconst C dX1_kindAt_50 (v := 0) (by decide) ?_
            exact g_iret C F (by unfold mkd; rw [if_neg (fun z => by rcases z with z | z; (rw [b01_0.mp c1] at z; exact absurd z (by decide)); (exact c2 z)), if_neg (by rw [b01_0.mp c3]; decide), if_neg c4, if_neg (Int32.not_lt.mpr c5)]) (rfl) dX1_kindAt_51
          · refine g_iconst C dX1_kindAt_46 (v := 5) (by decide) ?_
            refine g_goto C dX1_kindAt_47 (tgt := 51) (by decide) ?_
            exact g_iret C F (by unfold mkd; rw [if_neg (fun z => by rcases z with z | z; (rw [b01_0.mp c1] at z; exact absurd z (by decide)); (exact c2 z)), if_neg (by rw [b01_0.mp c3]; decide), if_neg c4, if_pos (Int32.not_le.mp c5)]) (rfl) dX1_kindAt_51
        · refine g_iconst C dX1_kindAt_36 (v := 3) (by decide) ?_
          exact g_iret C F (by unfold mkd; rw [if_neg (fun z => by rcases z with z | z; (rw [b01_0.mp c1] at z; exact absurd z (by decide)); (exact c2 z)), if_neg (by rw [b01_0.mp c3]; decide), if_pos c4]) (rfl) dX1_kindAt_37
      · refine g_iconst C dX1_kindAt_28 (v := 1) (by decide) ?_
        exact g_iret C F (by unfold mkd; rw [if_neg (fun z => by rcases z with z | z; (rw [b01_0.mp c1] at z; exact absurd z (by decide)); (exact c2 z)), if_pos (b01_1.mp c3)]) (rfl) dX1_kindAt_29
    · refine g_iconst C dX1_kindAt_19 (v := 2) (by decide) ?_
      exact g_iret C F (by unfold mkd; rw [if_pos (Or.inr c2)]) (rfl) dX1_kindAt_20
