/-! the class and the reference, call by call -/
def Byt (f : Nat → Int32) : Prop := ∀ k, vp_nar .byte (f k) = f k
def LInv (trC txC : Nat → Int32) (T : TK) (trM txM ks fs ts : Nat → Int32) (n fed N c : Nat) : Prop :=
  n ≤ 16000 ∧ fed ≤ 65536 ∧ N ≤ 16000 ∧ c ≤ N ∧ (∀ k, k < n → trC k = trM k) ∧ (∀ k, k < N → txC k = txM k) ∧ Byt trM ∧ Byt txM ∧ T.2.2.2.2.2 = nI c ∧ RelT (look txC N) N T ks fs ts c
theorem look_eq {f h : Nat → Int32} {N : Nat} (e : ∀ k, k < N → f k = h k) : look h N = look f N := by
  funext k
  unfold look
  by_cases hk : k < N
  · rw [if_pos hk, if_pos hk, e k hk]
  · rw [if_neg hk, if_neg hk]
theorem upd_ag {f h : Nat → Int32} {t : Nat} (e : ∀ k, k < t → f k = h k) (v : Int32) : ∀ k, k < t + 1 → upd f t v k = upd h t v k := by
  intro k hk
  unfold upd
  by_cases q : k = t
  · rw [if_pos q, if_pos q]
  · rw [if_neg q, if_neg q]; exact e k (by omega)
theorem put4_ag {f h : Nat → Int32} {t : Nat} (e : ∀ k, k < t → f k = h k) (x : Int32) : ∀ k, k < t + 4 → put4 f t x k = put4 h t x k := upd_ag (upd_ag (upd_ag (upd_ag e _) _) _) _
theorem put20_ag {f h : Nat → Int32} {t : Nat} (e : ∀ k, k < t → f k = h k) (x y z u v : Int32) : ∀ k, k < t + 20 → put20 f t x y z u v k = put20 h t x y z u v k := put4_ag (put4_ag (put4_ag (put4_ag (put4_ag e _) _) _) _) _
theorem byt_upd {f : Nat → Int32} (h : Byt f) {t : Nat} {v : Int32} (hv : vp_nar .byte v = v) : Byt (upd f t v) := by
  intro k
  by_cases q : k = t
  · rw [q, pk_us]; exact hv
  · rw [pk_un q]; exact h k
theorem byt_put4 {f : Nat → Int32} (h : Byt f) (t : Nat) (x : Int32) : Byt (put4 f t x) := byt_upd (byt_upd (byt_upd (byt_upd h (cb_nar x 0)) (cb_nar x 1)) (cb_nar x 2)) (cb_nar x 3)
theorem byt_put20 {f : Nat → Int32} (h : Byt f) (t : Nat) (x y z u v : Int32) : Byt (put20 f t x y z u v) := byt_put4 (byt_put4 (byt_put4 (byt_put4 (byt_put4 h _ _) _ _) _ _) _ _) _ _
theorem byt_cpy {f h : Nat → Int32} (hf : Byt f) (hh : Byt h) (N : Nat) : Byt (cpy f h N) := by
  intro k
  unfold cpy
  by_cases q : k < N
  · rw [if_pos q]; exact hf k
  · rw [if_neg q]; exact hh k
theorem bTok_k {c : Nat} {x : Int32} (h : bTok c x = true) : x.toNatClampNeg < c := by
  have h1 := bTok_t h
  show x.toInt.toNat < c
  omega
theorem and_i8 (x : Int32) : (x &&& 255).toInt8 = x.toInt8 := by
  apply Int8.toBitVec_inj.mp
  rw [Int32.toBitVec_toInt8, Int32.toBitVec_toInt8]
  apply BitVec.eq_of_getLsbD_eq
  intro i hi
  have hm : ∀ i, i < 8 → (255 : Int32).toBitVec.getLsbD i = true := by decide
  rw [BitVec.getLsbD_signExtend, BitVec.getLsbD_signExtend, if_pos (by omega), if_pos (by omega), Int32.toBitVec_and, BitVec.getLsbD_and, hm i hi, Bool.and_true]
theorem byt_8 {x : Int32} (h : vp_nar .byte x = x) : x.toInt8.toInt32 = x := by rw [← vp_nar_byte]; exact h
theorem byt_inj {x y : Int32} (hx : vp_nar .byte x = x) (hy : vp_nar .byte y = y) : x &&& 255 = y &&& 255 ↔ x = y := by
  constructor
  · intro h
    have h1 := and_i8 x
    rw [h, and_i8 y] at h1
    rw [← byt_8 hx, ← byt_8 hy, h1]
  · intro h; rw [h]
theorem cntR_cnt {tx : Nat → Int32} {N : Nat} (hB : Byt tx) : ∀ s, s ≤ N → cntR tx s = cnt (look tx N) 0 s
  | 0, _ => rfl
  | s + 1, h => by
    rw [cntR, cnt, cntR_cnt (N := N) hB s (by omega), show 0 + s = s by omega, look_in (by omega)]
    congr 1
    refine ite_e ?_
    have := byt_inj (hB s) (show vp_nar .byte (10 : Int32) = 10 by decide)
    exact this.symm.trans (by rw [show (10 : Int32) &&& 255 = 10 by decide])
theorem allR_allEq {tx : Nat → Int32} {N s t : Nat} (hB : Byt tx) : ∀ z, s + z ≤ N → t + z ≤ N → allR tx s t z = allEq (look tx N) s t z
  | 0, _, _ => rfl
  | z + 1, h1, h2 => by
    rw [allR, allEq, allR_allEq (N := N) hB z (by omega) (by omega), look_in (by omega), look_in (by omega)]
    congr 1
    exact decide_eq_decide.mpr (byt_inj (hB _) (hB _)).symm
set_option maxRecDepth 100000 in
theorem q_place (g : Gl) (a b : Nat → Nat) (aT aX : Nat) (trC txC : Nat → Int32) (ln fa : Int32) (T : TK) (trM txM ks fs ts : Nat → Int32) (n fed N c : Nat) (I : LInv trC txC T trM txM ks fs ts n fed N c) : ∃ v : Int32, Ctr g yX0_place wsX0_place ({ frames := 0, cells := 0, slots := 0, locals := 0 }) [.ref (a 0)] (tw g a aT aX trC (nI n) (nI fed) txC (nI N) ln fa T) (some (.int v)) (tw g a aT aX trC (nI n) (nI fed) txC (nI N) ln fa T) 0 0 ∧ Ctr g yX1_place wsX1_place ({ frames := 0, cells := 0, slots := 0, locals := 0 }) [.ref (b 0)] (mw g b trM (nI n) (nI fed) txM (nI N) ks fs ts (nI c) fa) (some (.int v)) (mw g b trM (nI n) (nI fed) txM (nI N) ks fs ts (nI c) fa) 0 0 := by
  obtain ⟨hn, hfd, hN, hcN, hag, hax, hBr, hBx, hT, hR⟩ := I
  have hL := look_eq hax
  exact ⟨fa, c_X0_place g a aT aX trC (nI n) (nI fed) txC (nI N) ln fa T, c_X1_place g b trM (nI n) (nI fed) txM (nI N) ks fs ts (nI c) fa⟩
set_option maxRecDepth 100000 in
theorem q_tokens (g : Gl) (a b : Nat → Nat) (aT aX : Nat) (trC txC : Nat → Int32) (ln fa : Int32) (T : TK) (trM txM ks fs ts : Nat → Int32) (n fed N c : Nat) (I : LInv trC txC T trM txM ks fs ts n fed N c) : ∃ v : Int32, Ctr g yX0_tokens wsX0_tokens ({ frames := 0, cells := 0, slots := 0, locals := 0 }) [.ref (a 0)] (tw g a aT aX trC (nI n) (nI fed) txC (nI N) ln fa T) (some (.int v)) (tw g a aT aX trC (nI n) (nI fed) txC (nI N) ln fa T) 0 0 ∧ Ctr g yX1_tokens wsX1_tokens ({ frames := 0, cells := 0, slots := 0, locals := 0 }) [.ref (b 0)] (mw g b trM (nI n) (nI fed) txM (nI N) ks fs ts (nI c) fa) (some (.int v)) (mw g b trM (nI n) (nI fed) txM (nI N) ks fs ts (nI c) fa) 0 0 := by
  obtain ⟨hn, hfd, hN, hcN, hag, hax, hBr, hBx, hT, hR⟩ := I
  have hL := look_eq hax
  refine ⟨nI c, ?_, c_X1_tokens g b trM (nI n) (nI fed) txM (nI N) ks fs ts (nI c) fa⟩
  have h := c_X0_tokens g a aT aX trC (nI n) (nI fed) txC (nI N) ln fa T
  rw [hT] at h
  exact h
theorem m_kind (g : Gl) (a b : Nat → Nat) (aT aX : Nat) (trC txC : Nat → Int32) (ln fa : Int32) (T : TK) (trM txM ks fs ts : Nat → Int32) (n fed N c : Nat) (I : LInv trC txC T trM txM ks fs ts n fed N c) (x : Int32) (hb : bTok c x = true) : ∃ (i : Nat) (q : Int32 × Int32 × Nat), i < N ∧ tok (look txC N) N i = some q ∧ T.1 x.toNatClampNeg = q.1 ∧ T.2.1 x.toNatClampNeg = nI i ∧ T.2.2.1 x.toNatClampNeg = nI (q.2.2 - i) ∧ T.2.2.2.1 x.toNatClampNeg = nI (1 + cnt (look txC N) 0 i) ∧ T.2.2.2.2.1 x.toNatClampNeg = q.2.1 ∧ fs x.toNatClampNeg = nI i ∧ ts x.toNatClampNeg = nI q.2.2 ∧ i < q.2.2 ∧ q.2.2 ≤ N ∧ Ctr g yX1_kind wsX1_kind ({ frames := 6, cells := 0, slots := 0, locals := 135 }) [.ref (b 0), .int x] (mw g b trM (nI n) (nI fed) txM (nI N) ks fs ts (nI c) fa) (some (.int q.1)) (mw g b trM (nI n) (nI fed) txM (nI N) ks fs ts (nI c) fa) 0 0 := by
  obtain ⟨hn, hfd, hN, hcN, hag, hax, hBr, hBx, hT, hR⟩ := I
  have hL := look_eq hax
  obtain ⟨i, q, hi, ho, t1, t2, t3, t4, t5, t6, t7, t8⟩ := hR _ (bTok_k hb)
  have he := tok_end hi (look_ne hi) ho
  refine ⟨i, q, hi, ho, t1, t2, t3, t4, t5, t7, t8, he.1, he.2, ?_⟩
  have h := c_X1_kind g b trM (nI n) (nI fed) txM ks fs ts fa c N hN (by omega) x i q.2.2 hb t7 t8 (by omega) (by omega)
  rw [hL, t6, ← tok_kind hN hi ho] at h
  exact h
theorem m_kindN (g : Gl) (a b : Nat → Nat) (aT aX : Nat) (trC txC : Nat → Int32) (ln fa : Int32) (T : TK) (trM txM ks fs ts : Nat → Int32) (n fed N c : Nat) (I : LInv trC txC T trM txM ks fs ts n fed N c) (x : Int32) (hb : bTok c x = false) : Ctr g yX1_kind wsX1_kind ({ frames := 6, cells := 0, slots := 0, locals := 135 }) [.ref (b 0), .int x] (mw g b trM (nI n) (nI fed) txM (nI N) ks fs ts (nI c) fa) (some (.int 0)) (mw g b trM (nI n) (nI fed) txM (nI N) ks fs ts (nI c) fa) 0 0 := by
  obtain ⟨hn, hfd, hN, hcN, hag, hax, hBr, hBx, hT, hR⟩ := I
  have hL := look_eq hax
  exact c_X1_kindN g b trM (nI n) (nI fed) txM ks fs ts fa c N hN (by omega) x hb
set_option maxRecDepth 100000 in
theorem q_kind (g : Gl) (a b : Nat → Nat) (aT aX : Nat) (trC txC : Nat → Int32) (ln fa : Int32) (T : TK) (trM txM ks fs ts : Nat → Int32) (n fed N c : Nat) (I : LInv trC txC T trM txM ks fs ts n fed N c) (x : Int32) : ∃ v : Int32, Ctr g yX0_kind wsX0_kind ({ frames := 1, cells := 0, slots := 0, locals := 21 }) [.ref (a 0), .int x] (tw g a aT aX trC (nI n) (nI fed) txC (nI N) ln fa T) (some (.int v)) (tw g a aT aX trC (nI n) (nI fed) txC (nI N) ln fa T) 0 0 ∧ Ctr g yX1_kind wsX1_kind ({ frames := 6, cells := 0, slots := 0, locals := 135 }) [.ref (b 0), .int x] (mw g b trM (nI n) (nI fed) txM (nI N) ks fs ts (nI c) fa) (some (.int v)) (mw g b trM (nI n) (nI fed) txM (nI N) ks fs ts (nI c) fa) 0 0 := by
  obtain ⟨hn, hfd, hN, hcN, hag, hax, hBr, hBx, hT, hR⟩ := I
  have hL := look_eq hax
  cases hb : bTok c x with
  | true =>
    obtain ⟨i, q, hi, ho, t1, t2, t3, t4, t5, t7, t8, he1, he2, hK⟩ := m_kind g a b aT aX trC txC ln fa T trM txM ks fs ts n fed N c ⟨hn, hfd, hN, hcN, hag, hax, hBr, hBx, hT, hR⟩ x hb
    have h := c_X0_kind g a aT aX trC (nI n) (nI fed) txC (nI N) ln fa T c hT (by omega) x
    rw [if_pos hb, t1] at h
    exact ⟨q.1, h, hK⟩
  | false =>
    have hK := m_kindN g a b aT aX trC txC ln fa T trM txM ks fs ts n fed N c ⟨hn, hfd, hN, hcN, hag, hax, hBr, hBx, hT, hR⟩ x hb
    have h := c_X0_kind g a aT aX trC (nI n) (nI fed) txC (nI N) ln fa T c hT (by omega) x
    rw [if_neg (by rw [hb]; decide)] at h
    exact ⟨0, h, hK⟩
set_option maxRecDepth 100000 in
theorem q_from (g : Gl) (a b : Nat → Nat) (aT aX : Nat) (trC txC : Nat → Int32) (ln fa : Int32) (T : TK) (trM txM ks fs ts : Nat → Int32) (n fed N c : Nat) (I : LInv trC txC T trM txM ks fs ts n fed N c) (x : Int32) : ∃ v : Int32, Ctr g yX0_from wsX0_from ({ frames := 1, cells := 0, slots := 0, locals := 21 }) [.ref (a 0), .int x] (tw g a aT aX trC (nI n) (nI fed) txC (nI N) ln fa T) (some (.int v)) (tw g a aT aX trC (nI n) (nI fed) txC (nI N) ln fa T) 0 0 ∧ Ctr g yX1_from wsX1_from ({ frames := 1, cells := 0, slots := 0, locals := 21 }) [.ref (b 0), .int x] (mw g b trM (nI n) (nI fed) txM (nI N) ks fs ts (nI c) fa) (some (.int v)) (mw g b trM (nI n) (nI fed) txM (nI N) ks fs ts (nI c) fa) 0 0 := by
  obtain ⟨hn, hfd, hN, hcN, hag, hax, hBr, hBx, hT, hR⟩ := I
  have hL := look_eq hax
  cases hb : bTok c x with
  | true =>
    obtain ⟨i, q, hi, ho, t1, t2, t3, t4, t5, t7, t8, he1, he2, hK⟩ := m_kind g a b aT aX trC txC ln fa T trM txM ks fs ts n fed N c ⟨hn, hfd, hN, hcN, hag, hax, hBr, hBx, hT, hR⟩ x hb
    have h := c_X0_from g a aT aX trC (nI n) (nI fed) txC (nI N) ln fa T c hT (by omega) x
    rw [if_pos hb, t2] at h
    have h2 := c_X1_from g b trM (nI n) (nI fed) txM (nI N) ks fs ts fa c (by omega) x
    rw [if_pos hb, t7] at h2
    exact ⟨nI i, h, h2⟩
  | false =>
    have h := c_X0_from g a aT aX trC (nI n) (nI fed) txC (nI N) ln fa T c hT (by omega) x
    rw [if_neg (by rw [hb]; decide)] at h
    have h2 := c_X1_from g b trM (nI n) (nI fed) txM (nI N) ks fs ts fa c (by omega) x
    rw [if_neg (by rw [hb]; decide)] at h2
    exact ⟨-1, h, h2⟩
set_option maxRecDepth 100000 in
theorem q_length (g : Gl) (a b : Nat → Nat) (aT aX : Nat) (trC txC : Nat → Int32) (ln fa : Int32) (T : TK) (trM txM ks fs ts : Nat → Int32) (n fed N c : Nat) (I : LInv trC txC T trM txM ks fs ts n fed N c) (x : Int32) : ∃ v : Int32, Ctr g yX0_length wsX0_length ({ frames := 1, cells := 0, slots := 0, locals := 21 }) [.ref (a 0), .int x] (tw g a aT aX trC (nI n) (nI fed) txC (nI N) ln fa T) (some (.int v)) (tw g a aT aX trC (nI n) (nI fed) txC (nI N) ln fa T) 0 0 ∧ Ctr g yX1_length wsX1_length ({ frames := 1, cells := 0, slots := 0, locals := 21 }) [.ref (b 0), .int x] (mw g b trM (nI n) (nI fed) txM (nI N) ks fs ts (nI c) fa) (some (.int v)) (mw g b trM (nI n) (nI fed) txM (nI N) ks fs ts (nI c) fa) 0 0 := by
  obtain ⟨hn, hfd, hN, hcN, hag, hax, hBr, hBx, hT, hR⟩ := I
  have hL := look_eq hax
  cases hb : bTok c x with
  | true =>
    obtain ⟨i, q, hi, ho, t1, t2, t3, t4, t5, t7, t8, he1, he2, hK⟩ := m_kind g a b aT aX trC txC ln fa T trM txM ks fs ts n fed N c ⟨hn, hfd, hN, hcN, hag, hax, hBr, hBx, hT, hR⟩ x hb
    have h := c_X0_length g a aT aX trC (nI n) (nI fed) txC (nI N) ln fa T c hT (by omega) x
    rw [if_pos hb, t3] at h
    have h2 := c_X1_length g b trM (nI n) (nI fed) txM (nI N) ks fs ts fa c (by omega) x
    rw [if_pos hb, t7, t8, nI_subI (by omega)] at h2
    exact ⟨nI (q.2.2 - i), h, h2⟩
  | false =>
    have h := c_X0_length g a aT aX trC (nI n) (nI fed) txC (nI N) ln fa T c hT (by omega) x
    rw [if_neg (by rw [hb]; decide)] at h
    have h2 := c_X1_length g b trM (nI n) (nI fed) txM (nI N) ks fs ts fa c (by omega) x
    rw [if_neg (by rw [hb]; decide)] at h2
    exact ⟨0, h, h2⟩
set_option maxRecDepth 100000 in
theorem q_line (g : Gl) (a b : Nat → Nat) (aT aX : Nat) (trC txC : Nat → Int32) (ln fa : Int32) (T : TK) (trM txM ks fs ts : Nat → Int32) (n fed N c : Nat) (I : LInv trC txC T trM txM ks fs ts n fed N c) (x : Int32) : ∃ v : Int32, Ctr g yX0_line wsX0_line ({ frames := 1, cells := 0, slots := 0, locals := 21 }) [.ref (a 0), .int x] (tw g a aT aX trC (nI n) (nI fed) txC (nI N) ln fa T) (some (.int v)) (tw g a aT aX trC (nI n) (nI fed) txC (nI N) ln fa T) 0 0 ∧ Ctr g yX1_line wsX1_line ({ frames := 1, cells := 0, slots := 0, locals := 21 }) [.ref (b 0), .int x] (mw g b trM (nI n) (nI fed) txM (nI N) ks fs ts (nI c) fa) (some (.int v)) (mw g b trM (nI n) (nI fed) txM (nI N) ks fs ts (nI c) fa) 0 0 := by
  obtain ⟨hn, hfd, hN, hcN, hag, hax, hBr, hBx, hT, hR⟩ := I
  have hL := look_eq hax
  cases hb : bTok c x with
  | true =>
    obtain ⟨i, q, hi, ho, t1, t2, t3, t4, t5, t7, t8, he1, he2, hK⟩ := m_kind g a b aT aX trC txC ln fa T trM txM ks fs ts n fed N c ⟨hn, hfd, hN, hcN, hag, hax, hBr, hBx, hT, hR⟩ x hb
    have h := c_X0_line g a aT aX trC (nI n) (nI fed) txC (nI N) ln fa T c hT (by omega) x
    rw [if_pos hb, t4] at h
    have h2 := c_X1_line g b trM (nI n) (nI fed) txM ks fs ts fa c N hN (by omega) x i q.2.2 hb t7 t8 (by omega) (by omega) (by omega)
    rw [cntR_cnt (N := N) hBx i (by omega), hL] at h2
    exact ⟨_, h, h2⟩
  | false =>
    have h := c_X0_line g a aT aX trC (nI n) (nI fed) txC (nI N) ln fa T c hT (by omega) x
    rw [if_neg (by rw [hb]; decide)] at h
    exact ⟨0, h, c_X1_lineN g b trM (nI n) (nI fed) txM ks fs ts fa c N hN (by omega) x hb⟩
set_option maxRecDepth 100000 in
theorem q_which (g : Gl) (a b : Nat → Nat) (aT aX : Nat) (trC txC : Nat → Int32) (ln fa : Int32) (T : TK) (trM txM ks fs ts : Nat → Int32) (n fed N c : Nat) (I : LInv trC txC T trM txM ks fs ts n fed N c) (x : Int32) : ∃ v : Int32, Ctr g yX0_which wsX0_which ({ frames := 2, cells := 0, slots := 0, locals := 43 }) [.ref (a 0), .int x] (tw g a aT aX trC (nI n) (nI fed) txC (nI N) ln fa T) (some (.int v)) (tw g a aT aX trC (nI n) (nI fed) txC (nI N) ln fa T) 0 0 ∧ Ctr g yX1_which wsX1_which ({ frames := 7, cells := 0, slots := 0, locals := 156 }) [.ref (b 0), .int x] (mw g b trM (nI n) (nI fed) txM (nI N) ks fs ts (nI c) fa) (some (.int v)) (mw g b trM (nI n) (nI fed) txM (nI N) ks fs ts (nI c) fa) 0 0 := by
  obtain ⟨hn, hfd, hN, hcN, hag, hax, hBr, hBx, hT, hR⟩ := I
  have hL := look_eq hax
  cases hb : bTok c x with
  | true =>
    obtain ⟨i, q, hi, ho, t1, t2, t3, t4, t5, t7, t8, he1, he2, hK⟩ := m_kind g a b aT aX trC txC ln fa T trM txM ks fs ts n fed N c ⟨hn, hfd, hN, hcN, hag, hax, hBr, hBx, hT, hR⟩ x hb
    have h := c_X0_which g a aT aX trC (nI n) (nI fed) txC (nI N) ln fa T c hT (by omega) x
    rw [hb, t1, t5, Bool.true_and, Bool.true_and, show (if decide (q.1 = 4) = true ∨ decide (q.1 = 5) = true then q.2.1 else (-1 : Int32)) = if q.1 = 4 ∨ q.1 = 5 then q.2.1 else -1 from ite_e (by rw [decide_eq_true_iff, decide_eq_true_iff]), tok_which hN hi ho] at h
    have h2 := c_X1_which g b trM (nI n) (nI fed) txM ks fs ts fa c N hN (by omega) x i q.2.2 hb t7 t8 (by omega) (by omega) q.1 hK
    rw [hL] at h2
    exact ⟨_, h, h2⟩
  | false =>
    have hK := m_kindN g a b aT aX trC txC ln fa T trM txM ks fs ts n fed N c ⟨hn, hfd, hN, hcN, hag, hax, hBr, hBx, hT, hR⟩ x hb
    have h := c_X0_which g a aT aX trC (nI n) (nI fed) txC (nI N) ln fa T c hT (by omega) x
    rw [hb, Bool.false_and, Bool.false_and, if_neg (by decide)] at h
    exact ⟨-1, h, c_X1_whichN g b trM (nI n) (nI fed) txM ks fs ts fa c N hN (by omega) x hK⟩
set_option maxRecDepth 100000 in
theorem q_worth (g : Gl) (a b : Nat → Nat) (aT aX : Nat) (trC txC : Nat → Int32) (ln fa : Int32) (T : TK) (trM txM ks fs ts : Nat → Int32) (n fed N c : Nat) (I : LInv trC txC T trM txM ks fs ts n fed N c) (x : Int32) : ∃ v : Int32, Ctr g yX0_worth wsX0_worth ({ frames := 2, cells := 0, slots := 0, locals := 43 }) [.ref (a 0), .int x] (tw g a aT aX trC (nI n) (nI fed) txC (nI N) ln fa T) (some (.int v)) (tw g a aT aX trC (nI n) (nI fed) txC (nI N) ln fa T) 0 0 ∧ Ctr g yX1_worth wsX1_worth ({ frames := 7, cells := 0, slots := 0, locals := 156 }) [.ref (b 0), .int x] (mw g b trM (nI n) (nI fed) txM (nI N) ks fs ts (nI c) fa) (some (.int v)) (mw g b trM (nI n) (nI fed) txM (nI N) ks fs ts (nI c) fa) 0 0 := by
  obtain ⟨hn, hfd, hN, hcN, hag, hax, hBr, hBx, hT, hR⟩ := I
  have hL := look_eq hax
  cases hb : bTok c x with
  | true =>
    obtain ⟨i, q, hi, ho, t1, t2, t3, t4, t5, t7, t8, he1, he2, hK⟩ := m_kind g a b aT aX trC txC ln fa T trM txM ks fs ts n fed N c ⟨hn, hfd, hN, hcN, hag, hax, hBr, hBx, hT, hR⟩ x hb
    have h := c_X0_worth g a aT aX trC (nI n) (nI fed) txC (nI N) ln fa T c hT (by omega) x
    rw [hb, t1, t5, Bool.true_and] at h
    by_cases h2 : q.1 = 2
    · rw [decide_eq_true h2, if_pos rfl, tok_worth hi ho h2] at h
      rw [h2] at hK
      have hm := c_X1_worth g b trM (nI n) (nI fed) txM ks fs ts fa c N hN (by omega) x hK i q.2.2 hb t7 t8 (by omega) (by omega)
      rw [hL] at hm
      exact ⟨_, h, hm⟩
    · rw [decide_eq_false h2, if_neg (by decide)] at h
      exact ⟨0, h, c_X1_worthN g b trM (nI n) (nI fed) txM ks fs ts fa c N hN (by omega) x q.1 hK h2⟩
  | false =>
    have hK := m_kindN g a b aT aX trC txC ln fa T trM txM ks fs ts n fed N c ⟨hn, hfd, hN, hcN, hag, hax, hBr, hBx, hT, hR⟩ x hb
    have h := c_X0_worth g a aT aX trC (nI n) (nI fed) txC (nI N) ln fa T c hT (by omega) x
    rw [hb, Bool.false_and, if_neg (by decide)] at h
    exact ⟨0, h, c_X1_worthN g b trM (nI n) (nI fed) txM ks fs ts fa c N hN (by omega) x 0 hK (by decide)⟩
set_option maxRecDepth 100000 in
theorem q_codes0 (g : Gl) (a b : Nat → Nat) (aT aX : Nat) (trC txC : Nat → Int32) (ln fa : Int32) (T : TK) (trM txM ks fs ts : Nat → Int32) (n fed N c : Nat) (I : LInv trC txC T trM txM ks fs ts n fed N c) (x : Int32) : (∃ (i t : Nat) (q : Int32 × Int32 × Nat), i < N ∧ bTok c x = true ∧ T.1 x.toNatClampNeg = 3 ∧ T.2.1 x.toNatClampNeg = nI i ∧ T.2.2.2.2.1 x.toNatClampNeg = nI t ∧ fs x.toNatClampNeg = nI i ∧ ts x.toNatClampNeg = nI q.2.2 ∧ i < q.2.2 ∧ q.2.2 ≤ N ∧ t ≤ 200 ∧ (∀ j, j < t → ¬ cwd (look txC N) (cpos (look txC N) (i + 1) j) 34 = 0) ∧ Ctr g yX1_codes wsX1_codes ({ frames := 7, cells := 0, slots := 0, locals := 156 }) [.ref (b 0), .int x] (mw g b trM (nI n) (nI fed) txM (nI N) ks fs ts (nI c) fa) (some (.int (nI t))) (mw g b trM (nI n) (nI fed) txM (nI N) ks fs ts (nI c) fa) 0 0) ∨ ((bTok c x && decide (T.1 x.toNatClampNeg = 3)) = false ∧ Ctr g yX1_codes wsX1_codes ({ frames := 7, cells := 0, slots := 0, locals := 156 }) [.ref (b 0), .int x] (mw g b trM (nI n) (nI fed) txM (nI N) ks fs ts (nI c) fa) (some (.int (-1))) (mw g b trM (nI n) (nI fed) txM (nI N) ks fs ts (nI c) fa) 0 0) := by
  obtain ⟨hn, hfd, hN, hcN, hag, hax, hBr, hBx, hT, hR⟩ := I
  have hL := look_eq hax
  cases hb : bTok c x with
  | true =>
    obtain ⟨i, q, hi, ho, t1, t2, t3, t4, t5, t7, t8, he1, he2, hK⟩ := m_kind g a b aT aX trC txC ln fa T trM txM ks fs ts n fed N c ⟨hn, hfd, hN, hcN, hag, hax, hBr, hBx, hT, hR⟩ x hb
    by_cases h3 : q.1 = 3
    · obtain ⟨t, s1, -, s3, s4, s5, -, s7⟩ := str_q (tok_str ho h3)
      rw [h3] at hK
      have hm := c_X1_codes g b trM (nI n) (nI fed) txM ks fs ts fa c N hN (by omega) x hK i q.2.2 hb t7 t8 (by omega) (by omega) t (by rw [hL]; exact s7) (by rw [hL]; exact s5) s4 s1
      exact Or.inl ⟨i, t, q, hi, rfl, t1.trans h3, t2, t5.trans s3, t7, t8, he1, he2, s1, fun j hj => (s7 j hj).1, hm⟩
    · refine Or.inr ⟨?_, c_X1_codesN g b trM (nI n) (nI fed) txM ks fs ts fa c N hN (by omega) x q.1 hK h3⟩
      rw [t1, decide_eq_false h3, Bool.and_false]
  | false =>
    have hK := m_kindN g a b aT aX trC txC ln fa T trM txM ks fs ts n fed N c ⟨hn, hfd, hN, hcN, hag, hax, hBr, hBx, hT, hR⟩ x hb
    exact Or.inr ⟨by rw [Bool.false_and], c_X1_codesN g b trM (nI n) (nI fed) txM ks fs ts fa c N hN (by omega) x 0 hK (by decide)⟩
set_option maxRecDepth 100000 in
theorem q_codes (g : Gl) (a b : Nat → Nat) (aT aX : Nat) (trC txC : Nat → Int32) (ln fa : Int32) (T : TK) (trM txM ks fs ts : Nat → Int32) (n fed N c : Nat) (I : LInv trC txC T trM txM ks fs ts n fed N c) (x : Int32) : ∃ v : Int32, Ctr g yX0_codes wsX0_codes ({ frames := 2, cells := 0, slots := 0, locals := 43 }) [.ref (a 0), .int x] (tw g a aT aX trC (nI n) (nI fed) txC (nI N) ln fa T) (some (.int v)) (tw g a aT aX trC (nI n) (nI fed) txC (nI N) ln fa T) 0 0 ∧ Ctr g yX1_codes wsX1_codes ({ frames := 7, cells := 0, slots := 0, locals := 156 }) [.ref (b 0), .int x] (mw g b trM (nI n) (nI fed) txM (nI N) ks fs ts (nI c) fa) (some (.int v)) (mw g b trM (nI n) (nI fed) txM (nI N) ks fs ts (nI c) fa) 0 0 := by
  obtain ⟨hn, hfd, hN, hcN, hag, hax, hBr, hBx, hT, hR⟩ := I
  have hL := look_eq hax
  have h := c_X0_codes g a aT aX trC (nI n) (nI fed) txC (nI N) ln fa T c hT (by omega) x
  rcases q_codes0 g a b aT aX trC txC ln fa T trM txM ks fs ts n fed N c ⟨hn, hfd, hN, hcN, hag, hax, hBr, hBx, hT, hR⟩ x with ⟨i, t, q, -, hb, k1, -, k3, -, -, -, -, -, -, hm⟩ | ⟨k, hm⟩
  · rw [hb, k1, decide_eq_true rfl, Bool.true_and, if_pos rfl, k3] at h
    exact ⟨_, h, hm⟩
  · rw [k, if_neg (by decide)] at h
    exact ⟨_, h, hm⟩
set_option maxRecDepth 100000 in
theorem q_code (g : Gl) (a b : Nat → Nat) (aT aX : Nat) (trC txC : Nat → Int32) (ln fa : Int32) (T : TK) (trM txM ks fs ts : Nat → Int32) (n fed N c : Nat) (I : LInv trC txC T trM txM ks fs ts n fed N c) (x y : Int32) : ∃ v : Int32, Ctr g yX0_code wsX0_code ({ frames := 2, cells := 0, slots := 0, locals := 44 }) [.ref (a 0), .int x, .int y] (tw g a aT aX trC (nI n) (nI fed) txC (nI N) ln fa T) (some (.int v)) (tw g a aT aX trC (nI n) (nI fed) txC (nI N) ln fa T) 0 0 ∧ Ctr g yX1_code wsX1_code ({ frames := 8, cells := 0, slots := 0, locals := 179 }) [.ref (b 0), .int x, .int y] (mw g b trM (nI n) (nI fed) txM (nI N) ks fs ts (nI c) fa) (some (.int v)) (mw g b trM (nI n) (nI fed) txM (nI N) ks fs ts (nI c) fa) 0 0 := by
  obtain ⟨hn, hfd, hN, hcN, hag, hax, hBr, hBx, hT, hR⟩ := I
  have hL := look_eq hax
  rcases q_codes0 g a b aT aX trC txC ln fa T trM txM ks fs ts n fed N c ⟨hn, hfd, hN, hcN, hag, hax, hBr, hBx, hT, hR⟩ x with ⟨i, t, q, hi, hb, k1, k2, k3, k4, k5, k6, k7, k8, k9, hm⟩ | ⟨k, hm⟩
  · by_cases hk : 0 ≤ y.toInt ∧ y.toInt < (t : Int)
    · obtain ⟨j, hj, rfl⟩ := nI_of (x := y) (fun z => by have := k_lt (b := 0) (by decide) z; omega)
      rw [nI_toInt hj] at hk
      have h := c_X0_code g a aT aX trC (nI n) (nI fed) txC ln fa T c hT (by omega) x j i t N hN (by rw [hb, k1]; rfl) k3 (by omega) k8 k2 (by omega)
      have h2 := c_X1_code g b trM (nI n) (nI fed) txM ks fs ts fa c N hN (by omega) x i q.2.2 hb k4 k5 (by omega) (by omega) t j hm (by rw [hL]; exact k9) (by omega) k8
      rw [hL, ← cat_mcat (k9 j (by omega))] at h2
      exact ⟨_, h, h2⟩
    · have ht : (nI t).toInt = (t : Int) := nI_toInt (by omega)
      exact ⟨-1, c_X0_codeN g a aT aX trC (nI n) (nI fed) txC (nI N) ln fa T c hT (by omega) x y (fun z => hk ⟨z.2.1, by have := z.2.2; rw [k3, ht] at this; exact this⟩), c_X1_codeN g b trM (nI n) (nI fed) txM ks fs ts fa c N hN (by omega) x y (nI t) hm (by rw [ht]; exact hk)⟩
  · have h1 : (-1 : Int32).toInt = -1 := by decide
    exact ⟨-1, c_X0_codeN g a aT aX trC (nI n) (nI fed) txC (nI N) ln fa T c hT (by omega) x y (fun z => by rw [k] at z; exact absurd z.1 (by decide)), c_X1_codeN g b trM (nI n) (nI fed) txM ks fs ts fa c N hN (by omega) x y (-1) hm (fun z => by omega)⟩
set_option maxRecDepth 100000 in
theorem q_same (g : Gl) (a b : Nat → Nat) (aT aX : Nat) (trC txC : Nat → Int32) (ln fa : Int32) (T : TK) (trM txM ks fs ts : Nat → Int32) (n fed N c : Nat) (I : LInv trC txC T trM txM ks fs ts n fed N c) (x y : Int32) : ∃ v : Int32, Ctr g yX0_same wsX0_same ({ frames := 1, cells := 0, slots := 0, locals := 21 }) [.ref (a 0), .int x, .int y] (tw g a aT aX trC (nI n) (nI fed) txC (nI N) ln fa T) (some (.int v)) (tw g a aT aX trC (nI n) (nI fed) txC (nI N) ln fa T) 0 0 ∧ Ctr g yX1_same wsX1_same ({ frames := 2, cells := 0, slots := 0, locals := 42 }) [.ref (b 0), .int x, .int y] (mw g b trM (nI n) (nI fed) txM (nI N) ks fs ts (nI c) fa) (some (.int v)) (mw g b trM (nI n) (nI fed) txM (nI N) ks fs ts (nI c) fa) 0 0 := by
  obtain ⟨hn, hfd, hN, hcN, hag, hax, hBr, hBx, hT, hR⟩ := I
  have hL := look_eq hax
  by_cases hb : bTok c x = true ∧ bTok c y = true
  · obtain ⟨i, q, hi, ho, t1, t2, t3, t4, t5, t7, t8, he1, he2, -⟩ := m_kind g a b aT aX trC txC ln fa T trM txM ks fs ts n fed N c ⟨hn, hfd, hN, hcN, hag, hax, hBr, hBx, hT, hR⟩ x hb.1
    obtain ⟨j, r, hj, ho2, u1, u2, u3, u4, u5, u7, u8, hf1, hf2, -⟩ := m_kind g a b aT aX trC txC ln fa T trM txM ks fs ts n fed N c ⟨hn, hfd, hN, hcN, hag, hax, hBr, hBx, hT, hR⟩ y hb.2
    by_cases hz : q.2.2 - i = r.2.2 - j
    · have h := c_X0_same g a aT aX trC (nI n) (nI fed) txC ln fa T c hT (by omega) x y i j (q.2.2 - i) N hN hb.1 hb.2 t3 (by rw [hz]; exact u3) t2 u2 ⟨by omega, by omega, by omega⟩
      have h2 := c_X1_same g b trM (nI n) (nI fed) txM ks fs ts fa c N hN (by omega) x y i j (q.2.2 - i) hb.1 hb.2 (by rw [t7, t8]; exact nI_subI (by omega)) (by rw [u7, u8, hz]; exact nI_subI (by omega)) t7 u7 ⟨by omega, by omega⟩
      rw [allR_allEq (N := N) hBx _ (by omega) (by omega), hL] at h2
      exact ⟨_, h, h2⟩
    · refine ⟨0, c_X0_sameN g a aT aX trC (nI n) (nI fed) txC (nI N) ln fa T c hT (by omega) x y (fun z => hz ?_), c_X1_sameN g b trM (nI n) (nI fed) txM ks fs ts fa c N hN (by omega) x y (fun z => hz ?_)⟩
      · have := z.2.2; rw [t3, u3] at this; exact (nI_eq (by omega) (by omega)).mp this
      · have := z.2.2; rw [t7, t8, u7, u8, nI_subI (by omega), nI_subI (by omega)] at this; exact (nI_eq (by omega) (by omega)).mp this
  · exact ⟨0, c_X0_sameN g a aT aX trC (nI n) (nI fed) txC (nI N) ln fa T c hT (by omega) x y (fun z => hb ⟨z.1, z.2.1⟩), c_X1_sameN g b trM (nI n) (nI fed) txM ks fs ts fa c N hN (by omega) x y (fun z => hb ⟨z.1, z.2.1⟩)⟩
set_option maxRecDepth 100000 in
theorem q_feed (g : Gl) (a b : Nat → Nat) (aT aX : Nat) (trC txC : Nat → Int32) (ln fa : Int32) (T : TK) (trM txM ks fs ts : Nat → Int32) (n fed N c : Nat) (I : LInv trC txC T trM txM ks fs ts n fed N c) (x y z u v : Int32) : ∃ (r : Int32) (trC' trM' : Nat → Int32) (n' fed' : Nat), LInv trC' txC T trM' txM ks fs ts n' fed' N c ∧ Ctr g yX0_feed wsX0_feed ({ frames := 2, cells := 0, slots := 0, locals := 42 }) [.ref (a 0), .int x, .int y, .int z, .int u, .int v] (tw g a aT aX trC (nI n) (nI fed) txC (nI N) ln fa T) (some (.int r)) (tw g a aT aX trC' (nI n') (nI fed') txC (nI N) ln fa T) 0 0 ∧ Ctr g yX1_feed wsX1_feed ({ frames := 1, cells := 0, slots := 0, locals := 22 }) [.ref (b 0), .int x, .int y, .int z, .int u, .int v] (mw g b trM (nI n) (nI fed) txM (nI N) ks fs ts (nI c) fa) (some (.int r)) (mw g b trM' (nI n') (nI fed') txM (nI N) ks fs ts (nI c) fa) 0 0 := by
  obtain ⟨hn, hfd, hN, hcN, hag, hax, hBr, hBx, hT, hR⟩ := I
  have hL := look_eq hax
  by_cases h : n + 20 ≤ 16000 ∧ fed + 20 ≤ 65536
  · exact ⟨_, _, _, _, _, ⟨h.1, h.2, hN, hcN, put20_ag hag x y z u v, hax, byt_put20 hBr _ _ _ _ _ _, hBx, hT, hR⟩, c_X0_feed g a aT aX trC txC (nI N) ln fa T n fed hn hfd x y z u v h, c_X1_feed g b trM txM (nI N) ks fs ts (nI c) fa n fed hn hfd x y z u v h⟩
  · exact ⟨_, _, _, _, _, ⟨hn, hfd, hN, hcN, hag, hax, hBr, hBx, hT, hR⟩, c_X0_feedN g a aT aX trC txC (nI N) ln fa T n fed hn hfd x y z u v h, c_X1_feedN g b trM txM (nI N) ks fs ts (nI c) fa n fed hn hfd x y z u v h⟩
set_option maxRecDepth 100000 in
theorem q_end (g : Gl) (a b : Nat → Nat) (aT aX : Nat) (trC txC : Nat → Int32) (ln fa : Int32) (T : TK) (trM txM ks fs ts : Nat → Int32) (n fed N c : Nat) (I : LInv trC txC T trM txM ks fs ts n fed N c) (x : Int32) : ∃ (r : Int32) (n' : Nat), LInv trC txC T trM txM ks fs ts n' fed N c ∧ Ctr g yX0_end wsX0_end ({ frames := 0, cells := 0, slots := 0, locals := 0 }) [.ref (a 0), .int x] (tw g a aT aX trC (nI n) (nI fed) txC (nI N) ln fa T) (some (.int r)) (tw g a aT aX trC (nI n') (nI fed) txC (nI N) ln fa T) 0 0 ∧ Ctr g yX1_end wsX1_end ({ frames := 0, cells := 0, slots := 0, locals := 0 }) [.ref (b 0), .int x] (mw g b trM (nI n) (nI fed) txM (nI N) ks fs ts (nI c) fa) (some (.int r)) (mw g b trM (nI n') (nI fed) txM (nI N) ks fs ts (nI c) fa) 0 0 := by
  obtain ⟨hn, hfd, hN, hcN, hag, hax, hBr, hBx, hT, hR⟩ := I
  have hL := look_eq hax
  by_cases h : 0 ≤ x.toInt ∧ x.toInt ≤ (n : Int)
  · obtain ⟨j, hj, rfl⟩ := nI_of (x := x) (fun z => by have := k_lt (b := 0) (by decide) z; omega)
    rw [nI_toInt hj] at h
    exact ⟨_, j, ⟨by omega, hfd, hN, hcN, fun k hk => hag k (by omega), hax, hBr, hBx, hT, hR⟩, c_X0_end g a aT aX trC (nI fed) txC (nI N) ln fa T n j hn (by omega), c_X1_end g b trM (nI fed) txM (nI N) ks fs ts (nI c) fa n j hn (by omega)⟩
  · exact ⟨_, n, ⟨hn, hfd, hN, hcN, hag, hax, hBr, hBx, hT, hR⟩, c_X0_endN g a aT aX trC (nI fed) txC (nI N) ln fa T n hn x h, c_X1_endN g b trM (nI fed) txM (nI N) ks fs ts (nI c) fa n hn x h⟩
set_option maxRecDepth 100000 in
theorem q_cut (g : Gl) (a b : Nat → Nat) (aT aX : Nat) (trC txC : Nat → Int32) (ln fa : Int32) (T : TK) (trM txM ks fs ts : Nat → Int32) (n fed N c : Nat) (I : LInv trC txC T trM txM ks fs ts n fed N c) : ∃ (r ln' fa' : Int32) (T' : TK) (txM' ks' fs' ts' : Nat → Int32) (c' : Nat), LInv txC trC T' trM txM' ks' fs' ts' 0 fed n c' ∧ Ctr g yX0_cut wsX0_cut ({ frames := 4, cells := 0, slots := 0, locals := 91 }) [.ref (a 0)] (tw g a aT aX trC (nI n) (nI fed) txC (nI N) ln fa T) (some (.int r)) (tw g a aX aT txC (nI 0) (nI fed) trC (nI n) ln' fa' T') 0 0 ∧ Ctr g yX1_cut wsX1_cut ({ frames := 7, cells := 0, slots := 0, locals := 158 }) [.ref (b 0)] (mw g b trM (nI n) (nI fed) txM (nI N) ks fs ts (nI c) fa) (some (.int r)) (mw g b trM (nI 0) (nI fed) txM' (nI n) ks' fs' ts' (nI c') fa') 0 0 := by
  obtain ⟨hn, hfd, hN, hcN, hag, hax, hBr, hBx, hT, hR⟩ := I
  have hL := look_eq hax
  have e0 : ∀ k, k < n → trC k = cpy trM txM n k := fun k hk => by unfold cpy; rw [if_pos hk]; exact hag k hk
  have hl2 := look_eq e0
  have h1 := c_X0_cut g a aT aX trC (nI fed) txC (nI N) ln fa T n hn
  have h2 := c_X1_cut g b trM (nI fed) txM (nI N) ks fs ts (nI c) fa n hn hBr
  rw [hl2] at h2
  have hsim := sim (tx := trC) (N := n) (n + 1) 0 (by omega) (Nat.zero_le n) 1 0 n n (T.1, T.2.1, T.2.2.1, T.2.2.2.1, T.2.2.2.2.1, 0) ks fs ts (Nat.le_refl 0) rfl (by omega) (by omega) rfl (fun k hk => by omega)
  rw [Nat.sub_zero] at hsim
  generalize crun (look trC n) n n (0, none, 1, (T.1, T.2.1, T.2.2.1, T.2.2.2.1, T.2.2.2.2.1, 0), 0) = Rc at h1 hsim
  generalize mrun (look trC n) n n ((skp (look trC n) n (n + 1) 0).1, (skp (look trC n) n (n + 1) 0).2, ks, fs, ts, 0) = Rm at h2 hsim
  obtain ⟨s1, s2, s3, s4, s5⟩ := hsim
  rw [← s1, ← s2] at h2
  rw [s3] at h1
  exact ⟨_, _, _, Rc.2.2.2.1, cpy trM txM n, Rm.2.2.1, Rm.2.2.2.1, Rm.2.2.2.2.1, Rc.2.2.2.2, ⟨Nat.zero_le _, hfd, hn, s4, fun k hk => by omega, e0, hBr, byt_cpy hBr hBx n, s3, s5⟩, h1, h2⟩
